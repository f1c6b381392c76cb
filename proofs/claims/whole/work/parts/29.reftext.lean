set_option maxRecDepth 20000 in
theorem c_Mod_fault {l : Launch} {G : jG} {B0 : Nat} {φ : jPhi} {x : Int} (hc : miOk φ) (hx : x = 0 ∨ x = 1) : jC l G B0 κF 113 yX8_fault cX8_fault 2 (some .int) 3 [rf B0 99, iv x] φ mkI (fun z φ' => (z, pubM φ') = spFault (pubM φ) x ∧ miOk φ' ∧ frC (fun a => 99 ≤ a) φ φ') := by
  refine jC_start RX8 [some (rf B0 99), some (iv x)] (by decide) rfl (Nat.le_of_ble_eq_true rfl) rfl (fun X Q F E => ?_)
  have hc0 := hc
  obtain ⟨c1, c2, c3, c5, c6⟩ := hc0
  refine j_iload_1 (n' := 1) F dX8_fault_0 rfl ?_
  refine j_if_ne (t := 9) (n' := 4) F (by omega) dX8_fault_1 (by decide) rfl (fun c1_0 => ?_) (fun c1_0 => ?_)
  · refine j_aload_0 (n' := 10) F dX8_fault_9 rfl ?_
    refine j_cV0v (n' := 13) F kl_X8_89 (c_Mod_readCode hc) kap_99 rfl (by decide) (Nat.le_of_ble_eq_true rfl) dX8_fault_10 rfl (fun z2 φ2 h2 => ?_)
    obtain ⟨r1, r2, r3, r4, r5, r6⟩ := h2
    refine j_aload_0 (n' := 14) F dX8_fault_13 rfl ?_
    refine j_getI (n' := 17) F 11 rfl fl_X8_67 kap_99 rfl dX8_fault_14 rfl ?_
    refine j_ireturn F E dX8_fault_17 ?_
    have hpub : pubM φ2 = pubM φ := pubM_fr (fun a ha b => r6 a b (by omega)) (fun b hb => r5 b (by omega) (by omega) (by omega) (by omega))
    have hmi : miOk φ2 := hc.fr (r5 0 (by omega) (by omega) (by omega) (by omega)) (r5 2 (by omega) (by omega) (by omega) (by omega)) (fun a ha b => r6 a b (by omega))
    refine ⟨?_, hmi, r6.wk (fun a h => by omega)⟩
    rw [hpub]
    unfold spFault pubM
    dsimp only
    rw [if_neg (by omega), r1]
  · refine j_aload_0 (n' := 5) F dX8_fault_4 rfl ?_
    refine j_cV0i (n' := 8) F kl_X8_85 (c_Mod_textFault hc) kap_99 rfl (by decide) (Nat.le_of_ble_eq_true rfl) dX8_fault_5 rfl (fun z3 φ3 h3 => ?_)
    obtain ⟨rfl, rfl⟩ := h3
    exact j_ireturn F E dX8_fault_8 (⟨by unfold spFault pubM; dsimp only; rw [if_pos (by omega)], hc, frC.rf⟩)
set_option maxRecDepth 20000 in
theorem c_Mod_priced {l : Launch} {G : jG} {B0 : Nat} {φ : jPhi}  (hc : miOk φ) : jC l G B0 κF 113 yX8_priced cX8_priced 1 (some .int) 3 [rf B0 99] φ mkI (fun z φ' => (z, pubM φ') = spPriced (pubM φ) ∧ miOk φ' ∧ frC (fun a => 99 ≤ a) φ φ') := by
  refine jC_start RX8 [some (rf B0 99)] (by decide) rfl (Nat.le_of_ble_eq_true rfl) rfl (fun X Q F E => ?_)
  have hc0 := hc
  obtain ⟨c1, c2, c3, c5, c6⟩ := hc0
  have rk := rdR_ok (φ 100) (φ 99 0)
  have rk4 := rk.2.2.2.2.1
  refine j_aload_0 (n' := 1) F dX8_priced_0 rfl ?_
  refine j_cV0v (n' := 4) F kl_X8_89 (c_Mod_readCode hc) kap_99 rfl (by decide) (Nat.le_of_ble_eq_true rfl) dX8_priced_1 rfl (fun z1 φ1 h1 => ?_)
  obtain ⟨r1, r2, r3, r4, r5, r6⟩ := h1
  refine j_aload_0 (n' := 5) F dX8_priced_4 rfl ?_
  refine j_getI (n' := 8) F 12 rfl fl_X8_70 kap_99 rfl dX8_priced_5 rfl ?_
  refine j_if_eq (t := 18) (n' := 11) F (by omega) dX8_priced_8 (by decide) rfl (fun c8_1 => ?_) (fun c8_1 => ?_)
  · refine j_sipush (n' := 21) F dX8_priced_18 (by decide) rfl ?_
    refine j_ireturn F E dX8_priced_21 ?_
    have hpub : pubM φ1 = pubM φ := pubM_fr (fun a ha b => r6 a b (by omega)) (fun b hb => r5 b (by omega) (by omega) (by omega) (by omega))
    have hmi : miOk φ1 := hc.fr (r5 0 (by omega) (by omega) (by omega) (by omega)) (r5 2 (by omega) (by omega) (by omega) (by omega)) (fun a ha b => r6 a b (by omega))
    refine ⟨?_, hmi, r6.wk (fun a h => by omega)⟩
    rw [hpub]
    unfold spPriced pubM
    dsimp only
    first | (rw [if_neg (by omega)]; done) | (rw [if_pos (by omega), r3]; done)
  · refine j_aload_0 (n' := 12) F dX8_priced_11 rfl ?_
    refine j_getI (n' := 15) F 10 rfl fl_X8_64 kap_99 rfl dX8_priced_12 rfl ?_
    refine j_goto (t := 21) F dX8_priced_15 (by decide) ?_
    refine j_ireturn F E dX8_priced_21 ?_
    have hpub : pubM φ1 = pubM φ := pubM_fr (fun a ha b => r6 a b (by omega)) (fun b hb => r5 b (by omega) (by omega) (by omega) (by omega))
    have hmi : miOk φ1 := hc.fr (r5 0 (by omega) (by omega) (by omega) (by omega)) (r5 2 (by omega) (by omega) (by omega) (by omega)) (fun a ha b => r6 a b (by omega))
    refine ⟨?_, hmi, r6.wk (fun a h => by omega)⟩
    rw [hpub]
    unfold spPriced pubM
    dsimp only
    first | (rw [if_neg (by omega)]; done) | (rw [if_pos (by omega), r3]; done)
set_option maxRecDepth 20000 in
theorem c_Mod_text {l : Launch} {G : jG} {B0 : Nat} {φ : jPhi}  (hc : miOk φ) : jC l G B0 κF 113 yX8_text cX8_text 2 (some .int) 2 [rf B0 99] φ mkI (fun z φ' => (z, pubM φ') = spText (pubM φ) ∧ miOk φ' ∧ frC (fun a => 99 ≤ a) φ φ') := by
  refine jC_start RX8 [some (rf B0 99), none] (by decide) rfl (Nat.le_of_ble_eq_true rfl) rfl (fun X Q F E => ?_)
  have hc0 := hc
  obtain ⟨c1, c2, c3, c5, c6⟩ := hc0
  have hfin : ∀ (ψ : jPhi), (0 < φ 99 0 ∧ tfl (φ 100) (φ 99 0) 25 0 = φ 99 0) → ψ 99 2 = φ 99 0 → ψ 101 = (fun k : Int => if 0 ≤ k ∧ k < φ 99 0 then φ 100 k - 97 else φ 101 k) → (∀ b, (b = 5 ∨ b = 6 ∨ b = 7) → ψ 99 b = φ 99 b) → frC (fun a => a = 99 ∨ a = 101) φ ψ → jJ X G B0 κF 113 0 0 Q 2 ψ 61 [some (rf B0 99), none] [] := by
    intro ψ h1 g2 g8 g9 gf
    have hall := tfl_all 25 0 (by omega) (by omega) h1.2 (by omega)
    have htx : txOk (fun k : Int => if 0 ≤ k ∧ k < φ 99 0 then φ 100 k - 97 else φ 101 k) (φ 99 0) := fun k k1 k2 => by
      have := hall.1 k k1 k2
      dsimp only
      rw [if_pos ⟨k1, k2⟩]
      omega
    refine j_aload_0 (n' := 62) F dX8_text_61 rfl ?_
    refine j_iconst (n' := 63) F dX8_text_62 rfl ?_
    refine j_putI (n' := 66) F 0 rfl fp_X8_53 kap_99 rfl rfl dX8_text_63 rfl (fun φ1 e1 => ?_)
    refine j_aload_0 (n' := 67) F dX8_text_66 rfl ?_
    refine j_dup (n' := 68) F rfl dX8_text_67 rfl ?_
    refine j_getI (n' := 71) F 6 rfl fl_X8_95 kap_99 rfl dX8_text_68 rfl ?_
    refine j_iconst (n' := 72) F dX8_text_71 rfl ?_
    refine j_iadd (n' := 73) F dX8_text_72 rfl ?_
    refine j_putI (n' := 76) F 6 rfl fp_X8_95 kap_99 rfl rfl dX8_text_73 rfl (fun φ2 e2 => ?_)
    refine j_aload_0 (n' := 77) F dX8_text_76 rfl ?_
    refine j_getI (n' := 80) F 2 rfl fl_X8_92 kap_99 rfl dX8_text_77 rfl ?_
    refine j_ireturn F E dX8_text_80 ?_
    have w0 : φ2 99 0 = 0 := by rw [e2, e1]; simp [zU]
    have w2 : φ2 99 2 = φ 99 0 := by rw [e2, e1]; simp [zU]; exact g2
    have wz : φ2 99 6 = φ 99 6 + 1 := by rw [e2, e1]; simp [zU]; exact g9 6 (by omega)
    have w9 : ∀ b, (b = 5 ∨ b = 6 ∨ b = 7) → b ≠ 6 → φ2 99 b = φ 99 b := fun b q1 q2 => by rw [e2, e1, zU_ne (by omega), zU_ne (by omega)]; exact g9 b (by omega)
    have wa : ∀ a, a ≠ 99 → φ2 a = ψ a := fun a q => by rw [e2, e1, zU_off q, zU_off q]
    have w101 : φ2 101 = (fun k : Int => if 0 ≤ k ∧ k < φ 99 0 then φ 100 k - 97 else φ 101 k) := by rw [wa 101 (by omega)]; exact g8
    have w100 : φ2 100 = φ 100 := by rw [wa 100 (by omega)]; exact funext fun b => gf 100 b (by omega)
    have w102 : φ2 102 = φ 102 := by rw [wa 102 (by omega)]; exact funext fun b => gf 102 b (by omega)
    refine ⟨?_, ⟨by omega, fun k q1 q2 => by omega, by rw [w2]; omega, by rw [w101, w2]; exact htx, by rw [w102]; exact c6⟩, ?_⟩
    · unfold spText pubM
      dsimp only
      rw [if_pos h1, w100, w0, w101, w2, w102, w9 5 (by omega) (by omega), wz, w9 7 (by omega) (by omega)]
    · rw [e2, e1]
      exact (((gf.wk (fun a h => by omega)).put (by omega)).put (by omega))
  have loop : ∀ (m : Nat) (i : Int) (ψ : jPhi), (0 < φ 99 0 ∧ tfl (φ 100) (φ 99 0) 25 0 = φ 99 0) → i + m = φ 99 0 → 0 ≤ i → ψ 99 2 = φ 99 0 → ψ 101 = (fun k : Int => if 0 ≤ k ∧ k < i then φ 100 k - 97 else φ 101 k) → (∀ b, (b = 5 ∨ b = 6 ∨ b = 7) → ψ 99 b = φ 99 b) → frC (fun a => a = 99 ∨ a = 101) φ ψ → jJ X G B0 κF 113 0 0 Q 2 ψ 32 [some (rf B0 99), some (iv i)] [] := by
    intro m
    induction m with
    | zero =>
      intro i ψ h1 k1 k2 g2 g8 g9 gf
      refine j_iload_1 (n' := 33) F dX8_text_32 rfl ?_
      refine j_aload_0 (n' := 34) F dX8_text_33 rfl ?_
      refine j_getI (n' := 37) F 2 rfl fl_X8_92 kap_99 rfl dX8_text_34 rfl ?_
      refine j_icmp_ge (t := 61) (n' := 40) F (by omega) (by omega) dX8_text_37 (by decide) rfl (fun c37_0 => ?_) (fun c37_0 => ?_)
      · exact j_weak (by exact ⟨rfl, trivial⟩) (hfin ψ h1 g2 (by rw [g8, show i = φ 99 0 by omega]) g9 gf)
      · omega
    | succ m ih =>
      intro i ψ h1 k1 k2 g2 g8 g9 gf
      have hall := tfl_all 25 0 (by omega) (by omega) h1.2 (by omega)
      have v100 : ψ 100 = φ 100 := funext fun b => gf 100 b (by omega)
      refine j_iload_1 (n' := 33) F dX8_text_32 rfl ?_
      refine j_aload_0 (n' := 34) F dX8_text_33 rfl ?_
      refine j_getI (n' := 37) F 2 rfl fl_X8_92 kap_99 rfl dX8_text_34 rfl ?_
      refine j_icmp_ge (t := 61) (n' := 40) F (by omega) (by omega) dX8_text_37 (by decide) rfl (fun c37_0 => ?_) (fun c37_0 => ?_)
      · omega
      · refine j_aload_0 (n' := 41) F dX8_text_40 rfl ?_
        refine j_getR (n' := 44) F fl_X8_13 kap_99 rfl dX8_text_41 rfl ?_
        refine j_iload_1 (n' := 45) F dX8_text_44 rfl ?_
        refine j_aload_0 (n' := 46) F dX8_text_45 rfl ?_
        refine j_getR (n' := 49) F fl_X8_7 kap_99 rfl dX8_text_46 rfl ?_
        refine j_iload_1 (n' := 50) F dX8_text_49 rfl ?_
        refine j_iald (n' := 51) F kap_100 (by decide) (by omega) dX8_text_50 rfl ?_
        refine j_bipush (n' := 53) F dX8_text_51 (by decide) rfl ?_
        refine j_isub (n' := 54) F dX8_text_53 rfl ?_
        refine j_iast (n' := 55) F kap_101 (by decide) (by omega) dX8_text_54 rfl (fun φ2 e2 => ?_)
        refine j_iinc_1 (n' := 58) F (by decide) jc_r dX8_text_55 rfl ?_
        refine j_goto (t := 32) F dX8_text_58 (by decide) ?_
        refine ih (i + 1) φ2 h1 (by omega) (by omega) (by rw [e2, zU_ne (by omega)]; exact g2) ?_ (fun b hb => by rw [e2, zU_ne (by omega)]; exact g9 b hb) (by rw [e2]; exact gf.put (by omega))
        rw [e2, zU_row, g8, v100]
        funext b
        by_cases q : b = i
        · subst q
          rw [if_pos rfl, if_pos (by omega)]
        · rw [if_neg q]
          dsimp only
          by_cases q2 : 0 ≤ b ∧ b < i
          · rw [if_pos q2, if_pos (by omega)]
          · rw [if_neg q2, if_neg (by omega)]
  refine j_aload_0 (n' := 1) F dX8_text_0 rfl ?_
  refine j_getI (n' := 4) F 0 rfl fl_X8_53 kap_99 rfl dX8_text_1 rfl ?_
  refine j_if_eq (t := 18) (n' := 7) F (by omega) dX8_text_4 (by decide) rfl (fun c4_0 => ?_) (fun c4_0 => ?_)
  · refine j_sipush (n' := 21) F dX8_text_18 (by decide) rfl ?_
    exact j_ireturn F E dX8_text_21 (⟨by unfold spText pubM; dsimp only; rw [if_neg (by omega)], hc, frC.rf⟩)
  · refine j_aload_0 (n' := 8) F dX8_text_7 rfl ?_
    refine j_cV0i (n' := 11) F kl_X8_85 (c_Mod_textFault hc) kap_99 rfl (by decide) (Nat.le_of_ble_eq_true rfl) dX8_text_8 rfl (fun z2 φ2 h2 => ?_)
    obtain ⟨rfl, rfl⟩ := h2
    have hb := tfl_bd (g := φ 100) (n := φ 99 0) 25 0 (by omega) (by omega)
    refine j_aload_0 (n' := 12) F dX8_text_11 rfl ?_
    refine j_getI (n' := 15) F 0 rfl fl_X8_53 kap_99 rfl dX8_text_12 rfl ?_
    refine j_icmp_ge (t := 22) (n' := 18) F (by omega) (by omega) dX8_text_15 (by decide) rfl (fun c15_2 => ?_) (fun c15_2 => ?_)
    · refine j_aload_0 (n' := 23) F dX8_text_22 rfl ?_
      refine j_aload_0 (n' := 24) F dX8_text_23 rfl ?_
      refine j_getI (n' := 27) F 0 rfl fl_X8_53 kap_99 rfl dX8_text_24 rfl ?_
      refine j_putI (n' := 30) F 2 rfl fp_X8_92 kap_99 rfl rfl dX8_text_27 rfl (fun φ4 e4 => ?_)
      refine j_iconst (n' := 31) F dX8_text_30 rfl ?_
      refine j_istore_1 (n' := 32) F (by decide) jc_r dX8_text_31 rfl ?_
      exact loop (φ 99 0).toNat 0 φ4 (by omega) (by omega) (by omega) (by rw [e4, zU_self]) (by rw [e4, zU_off (by omega)]; funext b; rw [if_neg (by omega)]) (fun b hb => by rw [e4, zU_ne (by omega)]) (by rw [e4]; exact frC.put frC.rf (by omega))
    · refine j_sipush (n' := 21) F dX8_text_18 (by decide) rfl ?_
      exact j_ireturn F E dX8_text_21 (⟨by unfold spText pubM; dsimp only; rw [if_neg (by omega)], hc, frC.rf⟩)
set_option maxRecDepth 20000 in
theorem c_Mod_decode {l : Launch} {G : jG} {B0 : Nat} {φ : jPhi}  (hc : miOk φ) : jC l G B0 κF 113 yX8_decode cX8_decode 2 (some .int) 3 [rf B0 99] φ mkI (fun z φ' => (z, pubM φ') = spDec (pubM φ) ∧ miOk φ' ∧ frC (fun a => 99 ≤ a) φ φ') := by
  refine jC_start RX8 [some (rf B0 99), none] (by decide) rfl (Nat.le_of_ble_eq_true rfl) rfl (fun X Q F E => ?_)
  have hc0 := hc
  obtain ⟨c1, c2, c3, c5, c6⟩ := hc0
  have rk := rdR_ok (φ 100) (φ 99 0)
  have rk1 := rk.2.1
  have rk2 := rk.2.2.1
  have rk3 := rk.2.2.2.1
  have rk4 := rk.2.2.2.2.1
  have htx : txOk (fun k : Int => if 0 ≤ k ∧ k < ((rdR (φ 100) (φ 99 0)).2.2.1.length : Int) then (rdR (φ 100) (φ 99 0)).2.2.1.getD k.toNat 0 else φ 101 k) ((rdR (φ 100) (φ 99 0)).2.2.1.length : Int) := fun k k1 k2 => by
    dsimp only
    rw [if_pos ⟨k1, k2⟩]
    exact rk1 _ (rw_mem (by omega))
  have hfin : ∀ (ψ : jPhi), (rdR (φ 100) (φ 99 0)).2.1 = 1 → ψ 99 2 = ((rdR (φ 100) (φ 99 0)).2.2.1.length : Int) → ψ 101 = (fun k : Int => if 0 ≤ k ∧ k < ((rdR (φ 100) (φ 99 0)).2.2.1.length : Int) then (rdR (φ 100) (φ 99 0)).2.2.1.getD k.toNat 0 else φ 101 k) → (∀ b, (b = 5 ∨ b = 6 ∨ b = 7) → ψ 99 b = φ 99 b) → frC (fun a => a = 99 ∨ a = 101 ∨ a = 103) φ ψ → jJ X G B0 κF 113 0 0 Q 2 ψ 51 [some (rf B0 99), none] [] := by
    intro ψ h1 g2 g8 g9 gf
    refine j_aload_0 (n' := 52) F dX8_decode_51 rfl ?_
    refine j_iconst (n' := 53) F dX8_decode_52 rfl ?_
    refine j_putI (n' := 56) F 0 rfl fp_X8_53 kap_99 rfl rfl dX8_decode_53 rfl (fun φ1 e1 => ?_)
    refine j_aload_0 (n' := 57) F dX8_decode_56 rfl ?_
    refine j_dup (n' := 58) F rfl dX8_decode_57 rfl ?_
    refine j_getI (n' := 61) F 7 rfl fl_X8_98 kap_99 rfl dX8_decode_58 rfl ?_
    refine j_iconst (n' := 62) F dX8_decode_61 rfl ?_
    refine j_iadd (n' := 63) F dX8_decode_62 rfl ?_
    refine j_putI (n' := 66) F 7 rfl fp_X8_98 kap_99 rfl rfl dX8_decode_63 rfl (fun φ2 e2 => ?_)
    refine j_aload_0 (n' := 67) F dX8_decode_66 rfl ?_
    refine j_getI (n' := 70) F 2 rfl fl_X8_92 kap_99 rfl dX8_decode_67 rfl ?_
    refine j_ireturn F E dX8_decode_70 ?_
    have w0 : φ2 99 0 = 0 := by rw [e2, e1]; simp [zU]
    have w2 : φ2 99 2 = ((rdR (φ 100) (φ 99 0)).2.2.1.length : Int) := by rw [e2, e1]; simp [zU]; exact g2
    have wz : φ2 99 7 = φ 99 7 + 1 := by rw [e2, e1]; simp [zU]; exact g9 7 (by omega)
    have w9 : ∀ b, (b = 5 ∨ b = 6 ∨ b = 7) → b ≠ 7 → φ2 99 b = φ 99 b := fun b q1 q2 => by rw [e2, e1, zU_ne (by omega), zU_ne (by omega)]; exact g9 b (by omega)
    have wa : ∀ a, a ≠ 99 → φ2 a = ψ a := fun a q => by rw [e2, e1, zU_off q, zU_off q]
    have w101 : φ2 101 = (fun k : Int => if 0 ≤ k ∧ k < ((rdR (φ 100) (φ 99 0)).2.2.1.length : Int) then (rdR (φ 100) (φ 99 0)).2.2.1.getD k.toNat 0 else φ 101 k) := by rw [wa 101 (by omega)]; exact g8
    have w100 : φ2 100 = φ 100 := by rw [wa 100 (by omega)]; exact funext fun b => gf 100 b (by omega)
    have w102 : φ2 102 = φ 102 := by rw [wa 102 (by omega)]; exact funext fun b => gf 102 b (by omega)
    refine ⟨?_, ⟨by omega, fun k q1 q2 => by omega, by rw [w2]; omega, by rw [w101, w2]; exact htx, by rw [w102]; exact c6⟩, ?_⟩
    · unfold spDec pubM
      dsimp only
      rw [if_pos h1, w100, w0, w101, w2, w102, w9 5 (by omega) (by omega), w9 6 (by omega) (by omega), wz]
    · rw [e2, e1]
      exact (((gf.wk (fun a h => by omega)).put (by omega)).put (by omega))
  have loop : ∀ (m : Nat) (i : Int) (ψ : jPhi), (rdR (φ 100) (φ 99 0)).2.1 = 1 → i + m = ((rdR (φ 100) (φ 99 0)).2.2.1.length : Int) → 0 ≤ i → ψ 99 2 = ((rdR (φ 100) (φ 99 0)).2.2.1.length : Int) → ψ 101 = (fun k : Int => if 0 ≤ k ∧ k < i then (rdR (φ 100) (φ 99 0)).2.2.1.getD k.toNat 0 else φ 101 k) → (∀ b, (b = 5 ∨ b = 6 ∨ b = 7) → ψ 99 b = φ 99 b) → mdIs ψ 99 103 9 (rdR (φ 100) (φ 99 0)).2.2.1 → frC (fun a => a = 99 ∨ a = 101 ∨ a = 103) φ ψ → jJ X G B0 κF 113 0 0 Q 2 ψ 25 [some (rf B0 99), some (iv i)] [] := by
    intro m
    induction m with
    | zero =>
      intro i ψ h1 k1 k2 g2 g8 g9 gm gf
      refine j_iload_1 (n' := 26) F dX8_decode_25 rfl ?_
      refine j_aload_0 (n' := 27) F dX8_decode_26 rfl ?_
      refine j_getI (n' := 30) F 2 rfl fl_X8_92 kap_99 rfl dX8_decode_27 rfl ?_
      refine j_icmp_ge (t := 51) (n' := 33) F (by omega) (by omega) dX8_decode_30 (by decide) rfl (fun c30_0 => ?_) (fun c30_0 => ?_)
      · exact j_weak (by exact ⟨rfl, trivial⟩) (hfin ψ h1 g2 (by rw [g8, show i = ((rdR (φ 100) (φ 99 0)).2.2.1.length : Int) by omega]) g9 gf)
      · omega
    | succ m ih =>
      intro i ψ h1 k1 k2 g2 g8 g9 gm gf
      have gat := gm.at (k := i) (by omega) (by omega)
      refine j_iload_1 (n' := 26) F dX8_decode_25 rfl ?_
      refine j_aload_0 (n' := 27) F dX8_decode_26 rfl ?_
      refine j_getI (n' := 30) F 2 rfl fl_X8_92 kap_99 rfl dX8_decode_27 rfl ?_
      refine j_icmp_ge (t := 51) (n' := 33) F (by omega) (by omega) dX8_decode_30 (by decide) rfl (fun c30_0 => ?_) (fun c30_0 => ?_)
      · omega
      · refine j_aload_0 (n' := 34) F dX8_decode_33 rfl ?_
        refine j_getR (n' := 37) F fl_X8_13 kap_99 rfl dX8_decode_34 rfl ?_
        refine j_iload_1 (n' := 38) F dX8_decode_37 rfl ?_
        refine j_aload_0 (n' := 39) F dX8_decode_38 rfl ?_
        refine j_getR (n' := 42) F fl_X8_19 kap_99 rfl dX8_decode_39 rfl ?_
        refine j_iload_1 (n' := 43) F dX8_decode_42 rfl ?_
        refine j_iald (n' := 44) F kap_103 (by decide) (by omega) dX8_decode_43 rfl ?_
        refine j_iast (n' := 45) F kap_101 (by decide) (by omega) dX8_decode_44 rfl (fun φ2 e2 => ?_)
        refine j_iinc_1 (n' := 48) F (by decide) jc_r dX8_decode_45 rfl ?_
        refine j_goto (t := 25) F dX8_decode_48 (by decide) ?_
        refine ih (i + 1) φ2 h1 (by omega) (by omega) (by rw [e2, zU_ne (by omega)]; exact g2) ?_ (fun b hb => by rw [e2, zU_ne (by omega)]; exact g9 b hb) (gm.fr (by rw [e2, zU_ne (by omega)]) (fun b => by rw [e2, zU_ne (by omega)])) (by rw [e2]; exact gf.put (by omega))
        rw [e2, zU_row, g8, gat]
        funext b
        by_cases q : b = i
        · subst q
          rw [if_pos rfl, if_pos (by omega)]
        · rw [if_neg q]
          dsimp only
          by_cases q2 : 0 ≤ b ∧ b < i
          · rw [if_pos q2, if_pos (by omega)]
          · rw [if_neg q2, if_neg (by omega)]
  refine j_aload_0 (n' := 1) F dX8_decode_0 rfl ?_
  refine j_cV0v (n' := 4) F kl_X8_89 (c_Mod_readCode hc) kap_99 rfl (by decide) (Nat.le_of_ble_eq_true rfl) dX8_decode_1 rfl (fun z1 φ1 h1 => ?_)
  obtain ⟨r1, r2, r3, r4, r5, r6⟩ := h1
  refine j_aload_0 (n' := 5) F dX8_decode_4 rfl ?_
  refine j_getI (n' := 8) F 12 rfl fl_X8_70 kap_99 rfl dX8_decode_5 rfl ?_
  refine j_if_ne (t := 15) (n' := 11) F (by omega) dX8_decode_8 (by decide) rfl (fun c8_1 => ?_) (fun c8_1 => ?_)
  · refine j_aload_0 (n' := 16) F dX8_decode_15 rfl ?_
    refine j_aload_0 (n' := 17) F dX8_decode_16 rfl ?_
    refine j_getI (n' := 20) F 9 rfl fl_X8_61 kap_99 rfl dX8_decode_17 rfl ?_
    refine j_putI (n' := 23) F 2 rfl fp_X8_92 kap_99 rfl rfl dX8_decode_20 rfl (fun φ3 e3 => ?_)
    refine j_iconst (n' := 24) F dX8_decode_23 rfl ?_
    refine j_istore_1 (n' := 25) F (by decide) jc_r dX8_decode_24 rfl ?_
    have e1 := r4.1
    exact loop (rdR (φ 100) (φ 99 0)).2.2.1.length 0 φ3 (by omega) (by omega) (by omega) (by rw [e3, zU_self]; exact e1) (by rw [e3, zU_off (by omega), funext fun b => r6 101 b (by omega)]; funext b; rw [if_neg (by omega)]) (fun b hb => by rw [e3, zU_ne (by omega)]; exact r5 b (by omega) (by omega) (by omega) (by omega)) (r4.fr (by rw [e3, zU_ne (by omega)]) (fun b => by rw [e3, zU_ne (by omega)])) (by rw [e3]; exact (r6.wk (fun a h => by omega)).put (by omega))
  · refine j_sipush (n' := 14) F dX8_decode_11 (by decide) rfl ?_
    refine j_ireturn F E dX8_decode_14 ?_
    have hpub : pubM φ1 = pubM φ := pubM_fr (fun a ha b => r6 a b (by omega)) (fun b hb => r5 b (by omega) (by omega) (by omega) (by omega))
    have hmi : miOk φ1 := hc.fr (r5 0 (by omega) (by omega) (by omega) (by omega)) (r5 2 (by omega) (by omega) (by omega) (by omega)) (fun a ha b => r6 a b (by omega))
    refine ⟨?_, hmi, r6.wk (fun a h => by omega)⟩
    rw [hpub]
    unfold spDec pubM
    dsimp only
    rw [if_neg (by omega)]
