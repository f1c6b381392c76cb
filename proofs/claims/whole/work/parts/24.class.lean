set_option maxRecDepth 20000 in
theorem c_Cla_text {l : Launch} {G : jG} {B0 : Nat} {φ : jPhi}  (hc : ciOk φ) : jC l G B0 κF 113 yX7_text cX7_text 2 (some .int) 3 [rf B0 0] φ mkI (fun z φ' => (z, pubC φ') = spText (pubC φ) ∧ ciOk φ' ∧ frC (fun a => a < 99) φ φ') := by
  refine jC_start RX7 [some (rf B0 0), none] (by decide) rfl (Nat.le_of_ble_eq_true rfl) rfl (fun X Q F E => ?_)
  have hc0 := hc
  obtain ⟨⟨c1, c2, c3, c4, c5, c6⟩, ch, rs⟩ := hc0
  have hfinT : ∀ (ψ : jPhi), 0 < φ 1 1 → tfl (φ 2) (φ 1 1) 25 0 = φ 1 1 → ψ 7 2 = φ 1 1 → ψ 8 = (fun k => if 0 ≤ k ∧ k < φ 1 1 then φ 2 k - 97 else φ 8 k) → frC (fun a => a = 7 ∨ a = 8) φ ψ → jJ X G B0 κF 113 0 0 Q 2 ψ 58 [some (rf B0 0), none] [] := by
    intro ψ h1 h2 g7 g8 gf
    have hall := tfl_all 25 0 (by omega) (by omega) h2 (by omega)
    have htx : txOk (fun k => if 0 ≤ k ∧ k < φ 1 1 then φ 2 k - 97 else φ 8 k) (φ 1 1) := fun k k1 k2 => by
      have := hall.1 k k1 k2
      dsimp only
      rw [if_pos ⟨k1, k2⟩]
      omega
    refine j_aload_0 (n' := 59) F dX7_text_58 rfl ?_
    refine j_cV0v (n' := 62) F kl_X7_120 (c_Cla_takeText (by omega) (by rw [g8, g7]; exact htx)) kap_0 rfl (by decide) (Nat.le_of_ble_eq_true rfl) dX7_text_59 rfl (fun z1 φ1 h1 => ?_)
    obtain ⟨t1, t2, t3, t4, t5, t6⟩ := h1
    have q8 : φ1 8 = (fun k => if 0 ≤ k ∧ k < φ 1 1 then φ 2 k - 97 else φ 8 k) := (funext fun b => t6 8 b (by omega)).trans g8
    have q7 : φ1 7 2 = φ 1 1 := (t6 7 2 (by omega)).trans g7
    refine j_aload_0 (n' := 63) F dX7_text_62 rfl ?_
    refine j_dup (n' := 64) F rfl dX7_text_63 rfl ?_
    refine j_getI (n' := 67) F 15 rfl fl_X7_80 kap_0 rfl dX7_text_64 rfl ?_
    refine j_iconst (n' := 68) F dX7_text_67 rfl ?_
    refine j_iadd (n' := 69) F dX7_text_68 rfl ?_
    refine j_putI (n' := 72) F 15 rfl fp_X7_80 kap_0 rfl rfl dX7_text_69 rfl (fun φ2 e2 => ?_)
    refine j_aload_0 (n' := 73) F dX7_text_72 rfl ?_
    refine j_getR (n' := 76) F fl_X7_26 kap_0 rfl dX7_text_73 rfl ?_
    refine j_cV0i (n' := 79) F kl_X7_123 (c_Txt_size) kap_7 rfl (by decide) (Nat.le_of_ble_eq_true rfl) dX7_text_76 rfl (fun z3 φ3 h3 => ?_)
    obtain ⟨rfl, rfl⟩ := h3
    refine j_ireturn F E dX7_text_79 ?_
    have r0 : ∀ b, b ≠ 15 → φ2 0 b = φ1 0 b := fun b q => by rw [e2, zU_ne (by omega)]
    have ra : ∀ a, a ≠ 0 → φ2 a = φ1 a := fun a q => by rw [e2, zU_off q]
    have r1 : φ2 0 15 = φ1 0 15 + 1 := by rw [e2, zU_self]
    have w2 : φ2 2 = φ 2 := by rw [ra 2 (by omega)]; exact funext fun b => (t6 2 b (by omega)).trans (gf 2 b (by omega))
    have w8 : φ2 8 = (fun k => if 0 ≤ k ∧ k < φ 1 1 then φ 2 k - 97 else φ 8 k) := by rw [ra 8 (by omega)]; exact q8
    have w7 : φ2 7 2 = φ 1 1 := by rw [ra 7 (by omega)]; exact q7
    have w1 : φ2 1 1 = 0 := by rw [ra 1 (by omega)]; exact t2
    have w35 : φ2 35 = φ 35 := by rw [ra 35 (by omega)]; exact funext fun b => (t6 35 b (by omega)).trans (gf 35 b (by omega))
    have w0 : ∀ b, b ≠ 9 → b ≠ 10 → b ≠ 15 → φ2 0 b = φ 0 b := fun b k1 k2 k3 => by rw [r0 b k3, t5 b k1 k2]; exact gf 0 b (by omega)
    have wz : φ2 0 15 = φ 0 15 + 1 := by rw [r1, t5 15 (by omega) (by omega)]; rw [gf 0 15 (by omega)]
    refine ⟨?_, ⟨⟨by omega, fun k k1 k2 => by omega, by omega, t1.fr (by omega) (fun a ha b => by rw [ra a (by omega)]), by rw [w8, w7]; exact htx, by rw [w35]; exact c6⟩, Or.inl (by rw [r0 9 (by omega)]; exact t3), Or.inl (by rw [r0 10 (by omega)]; exact t4)⟩, ?_⟩
    · unfold spText pubC
      dsimp only
      rw [if_pos ⟨h1, h2⟩,  w2, w1, w8, w7, w35, w0 14 (by omega) (by omega) (by omega), wz, w0 16 (by omega) (by omega) (by omega)]
    · rw [e2]
      exact ((gf.wk (fun a h => by omega)).tr (t6.wk (fun a h => by omega))).put (by omega)
  have loop : ∀ (m : Nat) (i : Int) (ψ : jPhi), i + m = φ 1 1 → 0 ≤ i → 0 < φ 1 1 → tfl (φ 2) (φ 1 1) 25 0 = φ 1 1 → ψ 7 2 = i → ψ 8 = (fun k => if 0 ≤ k ∧ k < i then φ 2 k - 97 else φ 8 k) → frC (fun a => a = 7 ∨ a = 8) φ ψ → jJ X G B0 κF 113 0 0 Q 2 ψ 23 [some (rf B0 0), some (iv i)] [] := by
    intro m
    induction m with
    | zero =>
      intro i ψ k1 k2 h1 h2 g7 g8 gf
      have v1 : ψ 1 1 = φ 1 1 := gf 1 1 (by omega)
      refine j_iload_1 (n' := 24) F dX7_text_23 rfl ?_
      refine j_aload_0 (n' := 25) F dX7_text_24 rfl ?_
      refine j_getR (n' := 28) F fl_X7_10 kap_0 rfl dX7_text_25 rfl ?_
      refine j_cV0i (n' := 31) F kl_X7_94 (c_Pag_size) kap_1 rfl (by decide) (Nat.le_of_ble_eq_true rfl) dX7_text_28 rfl (fun z1 φ1 h1 => ?_)
      obtain ⟨rfl, rfl⟩ := h1
      refine j_icmp_ge (t := 58) (n' := 34) F (by omega) (by omega) dX7_text_31 (by decide) rfl (fun c31_1 => ?_) (fun c31_1 => ?_)
      · exact j_weak (by exact ⟨rfl, trivial⟩) (hfinT ψ h1 h2 (by omega) (by rw [g8, show i = φ 1 1 by omega]) gf)
      · omega
    | succ m ih =>
      intro i ψ k1 k2 h1 h2 g7 g8 gf
      have v1 : ψ 1 1 = φ 1 1 := gf 1 1 (by omega)
      have v2 : ψ 2 = φ 2 := funext fun b => gf 2 b (by omega)
      have hall := tfl_all 25 0 (by omega) (by omega) h2 (by omega)
      refine j_iload_1 (n' := 24) F dX7_text_23 rfl ?_
      refine j_aload_0 (n' := 25) F dX7_text_24 rfl ?_
      refine j_getR (n' := 28) F fl_X7_10 kap_0 rfl dX7_text_25 rfl ?_
      refine j_cV0i (n' := 31) F kl_X7_94 (c_Pag_size) kap_1 rfl (by decide) (Nat.le_of_ble_eq_true rfl) dX7_text_28 rfl (fun z1 φ1 h1 => ?_)
      obtain ⟨rfl, rfl⟩ := h1
      refine j_icmp_ge (t := 58) (n' := 34) F (by omega) (by omega) dX7_text_31 (by decide) rfl (fun c31_1 => ?_) (fun c31_1 => ?_)
      · omega
      · refine j_aload_0 (n' := 35) F dX7_text_34 rfl ?_
        refine j_getR (n' := 38) F fl_X7_26 kap_0 rfl dX7_text_35 rfl ?_
        refine j_aload_0 (n' := 39) F dX7_text_38 rfl ?_
        refine j_getR (n' := 42) F fl_X7_10 kap_0 rfl dX7_text_39 rfl ?_
        refine j_iload_1 (n' := 43) F dX7_text_42 rfl ?_
        refine j_cV1i (n' := 46) F kl_X7_115 (c_Pag_signAt (by omega) (by omega)) kap_1 rfl (by decide) (Nat.le_of_ble_eq_true rfl) dX7_text_43 rfl (fun z3 φ3 h3 => ?_)
        obtain ⟨rfl, rfl⟩ := h3
        rw [if_pos (by omega), v2]
        refine j_bipush (n' := 48) F dX7_text_46 (by decide) rfl ?_
        refine j_isub (n' := 49) F dX7_text_48 rfl ?_
        refine j_cV1v (n' := 52) F kl_X7_119 (c_Txt_add (by omega) (by omega)) kap_7 rfl (by decide) (Nat.le_of_ble_eq_true rfl) dX7_text_49 rfl (fun z4 φ4 h4 => ?_)
        skip
        refine j_iinc_1 (n' := 55) F (by decide) jc_r dX7_text_52 rfl ?_
        refine j_goto (t := 23) F dX7_text_55 (by decide) ?_
        refine ih (i + 1) φ4 (by omega) (by omega) h1 h2 (by rw [h4, zU_self]; omega) ?_ ?_
        · rw [h4, zU_off (by omega), zU_row, g8, g7]
          funext b
          by_cases q : b = i
          · subst q
            rw [if_pos rfl, if_pos (by omega)]
          · rw [if_neg q]
            dsimp only
            by_cases q2 : 0 ≤ b ∧ b < i
            · rw [if_pos q2, if_pos (by omega)]
            · rw [if_neg q2, if_neg (by omega)]
        · rw [h4]
          exact (gf.put (by omega)).put (by omega)
  refine j_aload_0 (n' := 1) F dX7_text_0 rfl ?_
  refine j_getR (n' := 4) F fl_X7_10 kap_0 rfl dX7_text_1 rfl ?_
  refine j_cV0i (n' := 7) F kl_X7_111 (c_Pag_isText c1 c2) kap_1 rfl (by decide) (Nat.le_of_ble_eq_true rfl) dX7_text_4 rfl (fun z1 φ1 h1 => ?_)
  obtain ⟨rfl, rfl⟩ := h1
  refine j_if_ne (t := 14) (n' := 10) F (by first | omega | (split <;> omega)) dX7_text_7 (by decide) rfl (fun c7_1 => ?_) (fun c7_1 => ?_)
  · refine j_aload_0 (n' := 15) F dX7_text_14 rfl ?_
    refine j_getR (n' := 18) F fl_X7_26 kap_0 rfl dX7_text_15 rfl ?_
    refine j_cV0v (n' := 21) F kl_X7_114 (c_Txt_clear) kap_7 rfl (by decide) (Nat.le_of_ble_eq_true rfl) dX7_text_18 rfl (fun z3 φ3 h3 => ?_)
    have e3 := h3
    refine j_iconst (n' := 22) F dX7_text_21 rfl ?_
    refine j_istore_1 (n' := 23) F (by decide) jc_r dX7_text_22 rfl ?_
    have hok : 0 < φ 1 1 ∧ tfl (φ 2) (φ 1 1) 25 0 = φ 1 1 := by split at * <;> omega
    exact loop (φ 1 1).toNat 0 φ3 (by omega) (by omega) hok.1 hok.2 (by rw [e3, zU_self]) (by rw [e3, zU_off (by omega)]; funext b; rw [if_neg (by omega)]) (by rw [e3]; exact frC.put frC.rf (by omega))
  · refine j_sipush (n' := 13) F dX7_text_10 (by decide) rfl ?_
    exact j_ireturn F E dX7_text_13 (⟨by unfold spText pubC; dsimp only; rw [if_neg (by split at * <;> omega)], hc, frC.rf⟩)
set_option maxRecDepth 20000 in
theorem c_Cla_decode {l : Launch} {G : jG} {B0 : Nat} {φ : jPhi}  (hc : ciOk φ) : jC l G B0 κF 113 yX7_decode cX7_decode 2 (some .int) 5 [rf B0 0] φ mkI (fun z φ' => (z, pubC φ') = spDec (pubC φ) ∧ ciOk φ' ∧ frC (fun a => a < 99) φ φ') := by
  refine jC_start RX7 [some (rf B0 0), none] (by decide) rfl (Nat.le_of_ble_eq_true rfl) rfl (fun X Q F E => ?_)
  have hc0 := hc
  obtain ⟨⟨c1, c2, c3, c4, c5, c6⟩, ch, rs⟩ := hc0
  have rk := rdR_ok (φ 2) (φ 1 1)
  have rk1 := rk.2.1
  have rk2 := rk.2.2.1
  have rk3 := rk.2.2.2.1
  have rk4 := rk.2.2.2.2.1
  have htx : txOk (fun k : Int => if 0 ≤ k ∧ k < ((rdR (φ 2) (φ 1 1)).2.2.1.length : Int) then (rdR (φ 2) (φ 1 1)).2.2.1.getD k.toNat 0 else φ 8 k) ((rdR (φ 2) (φ 1 1)).2.2.1.length : Int) := fun k k1 k2 => by
    dsimp only
    rw [if_pos ⟨k1, k2⟩]
    exact rk1 _ (rw_mem (by omega))
  have hfinT : ∀ (ψ : jPhi), (rdR (φ 2) (φ 1 1)).2.1 = 1 → ψ 7 2 = ((rdR (φ 2) (φ 1 1)).2.2.1.length : Int) → ψ 8 = (fun k : Int => if 0 ≤ k ∧ k < ((rdR (φ 2) (φ 1 1)).2.2.1.length : Int) then (rdR (φ 2) (φ 1 1)).2.2.1.getD k.toNat 0 else φ 8 k) → frC (fun a => a = 3 ∨ a = 4 ∨ a = 5 ∨ a = 6 ∨ a = 7 ∨ a = 8) φ ψ → jJ X G B0 κF 113 0 0 Q 2 ψ 66 [some (rf B0 0), none] [] := by
    intro ψ h1 g7 g8 gf
    refine j_aload_0 (n' := 67) F dX7_decode_66 rfl ?_
    refine j_cV0v (n' := 70) F kl_X7_120 (c_Cla_takeText (by omega) (by rw [g8, g7]; exact htx)) kap_0 rfl (by decide) (Nat.le_of_ble_eq_true rfl) dX7_decode_67 rfl (fun z1 φ1 h1 => ?_)
    obtain ⟨t1, t2, t3, t4, t5, t6⟩ := h1
    have q8 : φ1 8 = (fun k : Int => if 0 ≤ k ∧ k < ((rdR (φ 2) (φ 1 1)).2.2.1.length : Int) then (rdR (φ 2) (φ 1 1)).2.2.1.getD k.toNat 0 else φ 8 k) := (funext fun b => t6 8 b (by omega)).trans g8
    have q7 : φ1 7 2 = ((rdR (φ 2) (φ 1 1)).2.2.1.length : Int) := (t6 7 2 (by omega)).trans g7
    refine j_aload_0 (n' := 71) F dX7_decode_70 rfl ?_
    refine j_dup (n' := 72) F rfl dX7_decode_71 rfl ?_
    refine j_getI (n' := 75) F 16 rfl fl_X7_83 kap_0 rfl dX7_decode_72 rfl ?_
    refine j_iconst (n' := 76) F dX7_decode_75 rfl ?_
    refine j_iadd (n' := 77) F dX7_decode_76 rfl ?_
    refine j_putI (n' := 80) F 16 rfl fp_X7_83 kap_0 rfl rfl dX7_decode_77 rfl (fun φ2 e2 => ?_)
    refine j_aload_0 (n' := 81) F dX7_decode_80 rfl ?_
    refine j_getR (n' := 84) F fl_X7_26 kap_0 rfl dX7_decode_81 rfl ?_
    refine j_cV0i (n' := 87) F kl_X7_123 (c_Txt_size) kap_7 rfl (by decide) (Nat.le_of_ble_eq_true rfl) dX7_decode_84 rfl (fun z3 φ3 h3 => ?_)
    obtain ⟨rfl, rfl⟩ := h3
    refine j_ireturn F E dX7_decode_87 ?_
    have r0 : ∀ b, b ≠ 16 → φ2 0 b = φ1 0 b := fun b q => by rw [e2, zU_ne (by omega)]
    have ra : ∀ a, a ≠ 0 → φ2 a = φ1 a := fun a q => by rw [e2, zU_off q]
    have r1 : φ2 0 16 = φ1 0 16 + 1 := by rw [e2, zU_self]
    have w2 : φ2 2 = φ 2 := by rw [ra 2 (by omega)]; exact funext fun b => (t6 2 b (by omega)).trans (gf 2 b (by omega))
    have w8 : φ2 8 = (fun k : Int => if 0 ≤ k ∧ k < ((rdR (φ 2) (φ 1 1)).2.2.1.length : Int) then (rdR (φ 2) (φ 1 1)).2.2.1.getD k.toNat 0 else φ 8 k) := by rw [ra 8 (by omega)]; exact q8
    have w7 : φ2 7 2 = ((rdR (φ 2) (φ 1 1)).2.2.1.length : Int) := by rw [ra 7 (by omega)]; exact q7
    have w1 : φ2 1 1 = 0 := by rw [ra 1 (by omega)]; exact t2
    have w35 : φ2 35 = φ 35 := by rw [ra 35 (by omega)]; exact funext fun b => (t6 35 b (by omega)).trans (gf 35 b (by omega))
    have w0 : ∀ b, b ≠ 9 → b ≠ 10 → b ≠ 16 → φ2 0 b = φ 0 b := fun b k1 k2 k3 => by rw [r0 b k3, t5 b k1 k2]; exact gf 0 b (by omega)
    have wz : φ2 0 16 = φ 0 16 + 1 := by rw [r1, t5 16 (by omega) (by omega)]; rw [gf 0 16 (by omega)]
    refine ⟨?_, ⟨⟨by omega, fun k k1 k2 => by omega, by omega, t1.fr (by omega) (fun a ha b => by rw [ra a (by omega)]), by rw [w8, w7]; exact htx, by rw [w35]; exact c6⟩, Or.inl (by rw [r0 9 (by omega)]; exact t3), Or.inl (by rw [r0 10 (by omega)]; exact t4)⟩, ?_⟩
    · unfold spDec pubC
      dsimp only
      rw [if_pos h1, w2, w1, w8, w7, w35, w0 14 (by omega) (by omega) (by omega), w0 15 (by omega) (by omega) (by omega), wz]
    · rw [e2]
      exact ((gf.wk (fun a h => by omega)).tr (t6.wk (fun a h => by omega))).put (by omega)
  have loop : ∀ (m : Nat) (i : Int) (ψ : jPhi), i + m = ((rdR (φ 2) (φ 1 1)).2.2.1.length : Int) → 0 ≤ i → (rdR (φ 2) (φ 1 1)).2.1 = 1 → mdIs ψ 3 4 2 (rdR (φ 2) (φ 1 1)).2.2.1 → ψ 7 2 = i → ψ 8 = (fun k => if 0 ≤ k ∧ k < i then (rdR (φ 2) (φ 1 1)).2.2.1.getD k.toNat 0 else φ 8 k) → frC (fun a => a = 3 ∨ a = 4 ∨ a = 5 ∨ a = 6 ∨ a = 7 ∨ a = 8) φ ψ → jJ X G B0 κF 113 0 0 Q 2 ψ 34 [some (rf B0 0), some (iv i)] [] := by
    intro m
    induction m with
    | zero =>
      intro i ψ k1 k2 h1 hm g7 g8 gf
      have v1 := hm.1
      refine j_iload_1 (n' := 35) F dX7_decode_34 rfl ?_
      refine j_aload_0 (n' := 36) F dX7_decode_35 rfl ?_
      refine j_getR (n' := 39) F fl_X7_19 kap_0 rfl dX7_decode_36 rfl ?_
      refine j_cV0i (n' := 42) F kl_X7_127 (c_Rea_madeSize) kap_3 rfl (by decide) (Nat.le_of_ble_eq_true rfl) dX7_decode_39 rfl (fun z1 φ1 h1 => ?_)
      obtain ⟨rfl, rfl⟩ := h1
      refine j_icmp_ge (t := 66) (n' := 45) F (by omega) (by omega) dX7_decode_42 (by decide) rfl (fun c42_1 => ?_) (fun c42_1 => ?_)
      · exact j_weak (by exact ⟨rfl, trivial⟩) (hfinT ψ h1 (by omega) (by rw [g8, show i = ((rdR (φ 2) (φ 1 1)).2.2.1.length : Int) by omega]) gf)
      · omega
    | succ m ih =>
      intro i ψ k1 k2 h1 hm g7 g8 gf
      have v1 := hm.1
      refine j_iload_1 (n' := 35) F dX7_decode_34 rfl ?_
      refine j_aload_0 (n' := 36) F dX7_decode_35 rfl ?_
      refine j_getR (n' := 39) F fl_X7_19 kap_0 rfl dX7_decode_36 rfl ?_
      refine j_cV0i (n' := 42) F kl_X7_127 (c_Rea_madeSize) kap_3 rfl (by decide) (Nat.le_of_ble_eq_true rfl) dX7_decode_39 rfl (fun z1 φ1 h1 => ?_)
      obtain ⟨rfl, rfl⟩ := h1
      refine j_icmp_ge (t := 66) (n' := 45) F (by omega) (by omega) dX7_decode_42 (by decide) rfl (fun c42_1 => ?_) (fun c42_1 => ?_)
      · omega
      · refine j_aload_0 (n' := 46) F dX7_decode_45 rfl ?_
        refine j_getR (n' := 49) F fl_X7_26 kap_0 rfl dX7_decode_46 rfl ?_
        refine j_aload_0 (n' := 50) F dX7_decode_49 rfl ?_
        refine j_getR (n' := 53) F fl_X7_19 kap_0 rfl dX7_decode_50 rfl ?_
        refine j_iload_1 (n' := 54) F dX7_decode_53 rfl ?_
        refine j_cV1i (n' := 57) F kl_X7_130 (c_Rea_madeAt (by omega) (by omega)) kap_3 rfl (by decide) (Nat.le_of_ble_eq_true rfl) dX7_decode_54 rfl (fun z3 φ3 h3 => ?_)
        obtain ⟨rfl, rfl⟩ := h3
        rw [if_pos (by omega), hm.at (by omega) (by omega)]
        refine j_cV1v (n' := 60) F kl_X7_119 (c_Txt_add (by omega) (by omega)) kap_7 rfl (by decide) (Nat.le_of_ble_eq_true rfl) dX7_decode_57 rfl (fun z4 φ4 h4 => ?_)
        skip
        refine j_iinc_1 (n' := 63) F (by decide) jc_r dX7_decode_60 rfl ?_
        refine j_goto (t := 34) F dX7_decode_63 (by decide) ?_
        refine ih (i + 1) φ4 (by omega) (by omega) h1 (hm.fr (by rw [h4, zU_ne (by omega), zU_ne (by omega)]) (fun b => by rw [h4, zU_ne (by omega), zU_ne (by omega)])) (by rw [h4, zU_self]; omega) ?_ ?_
        · rw [h4, zU_off (by omega), zU_row, g8, g7]
          funext b
          by_cases q : b = i
          · subst q
            rw [if_pos rfl, if_pos (by omega)]
          · rw [if_neg q]
            dsimp only
            by_cases q2 : 0 ≤ b ∧ b < i
            · rw [if_pos q2, if_pos (by omega)]
            · rw [if_neg q2, if_neg (by omega)]
        · rw [h4]
          exact (gf.put (by omega)).put (by omega)
  refine j_aload_0 (n' := 1) F dX7_decode_0 rfl ?_
  refine j_getR (n' := 4) F fl_X7_19 kap_0 rfl dX7_decode_1 rfl ?_
  refine j_aload_0 (n' := 5) F dX7_decode_4 rfl ?_
  refine j_getR (n' := 8) F fl_X7_10 kap_0 rfl dX7_decode_5 rfl ?_
  refine j_cV1v (n' := 11) F kl_X7_104 (c_Rea_read c1 c2) kap_3 rfl (by decide) (Nat.le_of_ble_eq_true rfl) dX7_decode_8 rfl (fun z1 φ1 h1 => ?_)
  obtain ⟨r1, r2, r3, r4, r5, r6, r7, r8⟩ := h1
  refine j_aload_0 (n' := 12) F dX7_decode_11 rfl ?_
  refine j_getR (n' := 15) F fl_X7_19 kap_0 rfl dX7_decode_12 rfl ?_
  refine j_cV0i (n' := 18) F kl_X7_124 (c_Rea_isCode r3 r4 r5) kap_3 rfl (by decide) (Nat.le_of_ble_eq_true rfl) dX7_decode_15 rfl (fun z2 φ2 h2 => ?_)
  obtain ⟨rfl, rfl⟩ := h2
  rw [r1]
  refine j_if_ne (t := 25) (n' := 21) F (by first | omega | (split <;> omega)) dX7_decode_18 (by decide) rfl (fun c18_2 => ?_) (fun c18_2 => ?_)
  · refine j_aload_0 (n' := 26) F dX7_decode_25 rfl ?_
    refine j_getR (n' := 29) F fl_X7_26 kap_0 rfl dX7_decode_26 rfl ?_
    refine j_cV0v (n' := 32) F kl_X7_114 (c_Txt_clear) kap_7 rfl (by decide) (Nat.le_of_ble_eq_true rfl) dX7_decode_29 rfl (fun z4 φ4 h4 => ?_)
    have e4 := h4
    refine j_iconst (n' := 33) F dX7_decode_32 rfl ?_
    refine j_istore_1 (n' := 34) F (by decide) jc_r dX7_decode_33 rfl ?_
    exact loop (rdR (φ 2) (φ 1 1)).2.2.1.length 0 φ4 (by omega) (by omega) (by omega) (r6.fr (by rw [e4, zU_ne (by omega)]) (fun b => by rw [e4, zU_ne (by omega)])) (by rw [e4, zU_self]) (by rw [e4, zU_off (by omega), funext fun b => r8 8 b (by omega)]; funext b; rw [if_neg (by omega)]) (by rw [e4]; exact (r8.wk (fun a h => by omega)).put (by omega))
  · refine j_sipush (n' := 24) F dX7_decode_21 (by decide) rfl ?_
    refine j_ireturn F E dX7_decode_24 ?_
    refine ⟨?_, hc.fr (fun a ha b => r8 a b (by omega)), r8.wk (fun a h => by omega)⟩
    rw [pubC_fr (φ := φ) (fun a ha b => r8 a b (by omega)) (fun b hb => r8 0 b (by omega))]
    unfold spDec pubC
    dsimp only
    rw [if_neg (by omega)]
set_option maxRecDepth 20000 in
theorem c_Cla_chooseCheapest {l : Launch} {G : jG} {B0 : Nat} {φ : jPhi}  (hc : ciOk φ) : jC l G B0 κF 113 yX7_chooseCheapest cX7_chooseCheapest 1 none 4 [rf B0 0] φ mkV (fun z φ' => rowIs φ' 90 91 (toks (φ 35) (φ 8) 0 (φ 7 2)) ∧ φ' 0 9 = 1 ∧ ciOk φ' ∧ (∀ b, b ≠ 9 → φ' 0 b = φ 0 b) ∧ frC (fun a => a = 0 ∨ a = 37 ∨ (39 ≤ a ∧ a < 64) ∨ (65 ≤ a ∧ a < 90) ∨ a = 90 ∨ a = 91) φ φ') := by
  refine jC_start RX7 [some (rf B0 0)] (by decide) rfl (Nat.le_of_ble_eq_true rfl) rfl (fun X Q F E => ?_)
  have hc0 := hc
  obtain ⟨⟨c1, c2, c3, c4, c5, c6⟩, ch, rs⟩ := hc0
  have ch9 : 0 ≤ φ 0 9 ∧ φ 0 9 ≤ 1 := by rcases ch with g | g <;> omega
  refine j_aload_0 (n' := 1) F dX7_chooseCheapest_0 rfl ?_
  refine j_getI (n' := 4) F 9 rfl fl_X7_60 kap_0 rfl dX7_chooseCheapest_1 rfl ?_
  refine j_if_eq (t := 8) (n' := 7) F (by omega) dX7_chooseCheapest_4 (by decide) rfl (fun c4_0 => ?_) (fun c4_0 => ?_)
  · refine j_aload_0 (n' := 9) F dX7_chooseCheapest_8 rfl ?_
    refine j_getR (n' := 12) F fl_X7_40 kap_0 rfl dX7_chooseCheapest_9 rfl ?_
    refine j_aload_0 (n' := 13) F dX7_chooseCheapest_12 rfl ?_
    refine j_getR (n' := 16) F fl_X7_26 kap_0 rfl dX7_chooseCheapest_13 rfl ?_
    refine j_aload_0 (n' := 17) F dX7_chooseCheapest_16 rfl ?_
    refine j_getR (n' := 20) F fl_X7_33 kap_0 rfl dX7_chooseCheapest_17 rfl ?_
    refine j_iconst (n' := 21) F dX7_chooseCheapest_20 rfl ?_
    refine j_aload_0 (n' := 22) F dX7_chooseCheapest_21 rfl ?_
    refine j_getR (n' := 25) F fl_X7_26 kap_0 rfl dX7_chooseCheapest_22 rfl ?_
    refine j_cV0i (n' := 28) F kl_X7_123 (c_Txt_size) kap_7 rfl (by decide) (Nat.le_of_ble_eq_true rfl) dX7_chooseCheapest_25 rfl (fun z2 φ2 h2 => ?_)
    obtain ⟨rfl, rfl⟩ := h2
    refine j_aload_0 (n' := 29) F dX7_chooseCheapest_28 rfl ?_
    refine j_getR (n' := 32) F fl_X7_47 kap_0 rfl dX7_chooseCheapest_29 rfl ?_
    refine j_cV5v (n' := 35) F kl_X7_237 (c_Cho_choose c3 c4 c5 kap_34 kap_35 (Or.inl rfl) c6 kap_90 kap_91 (Or.inl ⟨rfl, rfl⟩) (by omega)) kap_37 rfl (by decide) (Nat.le_of_ble_eq_true rfl) dX7_chooseCheapest_32 rfl (fun z3 φ3 h3 => ?_)
    obtain ⟨hr, hf⟩ := h3
    refine j_aload_0 (n' := 36) F dX7_chooseCheapest_35 rfl ?_
    refine j_iconst (n' := 37) F dX7_chooseCheapest_36 rfl ?_
    refine j_putB (n' := 40) F 9 rfl (by omega) fp_X7_60 kap_0 rfl rfl dX7_chooseCheapest_37 rfl (fun φ4 e4 => ?_)
    refine j_return F E dX7_chooseCheapest_40 ?_
    have r9 : φ4 0 9 = 1 := by rw [e4, zU_self]
    have ra : ∀ a, a ≠ 0 → φ4 a = φ3 a := fun a q => by rw [e4, zU_off q]
    have r0 : ∀ b, b ≠ 9 → φ4 0 b = φ 0 b := fun b q => by rw [e4, zU_ne (by omega)]; exact hf 0 b (by omega)
    have hrow : rowIs φ4 90 91 (toks (φ 35) (φ 8) 0 (φ 7 2)) := hr.fr (fun b => by rw [ra 90 (by omega)]) (fun b => by rw [ra 91 (by omega)])
    have q7 : φ4 7 2 = φ 7 2 := by rw [ra 7 (by omega)]; exact hf 7 2 (by omega)
    have q8 : φ4 8 = φ 8 := by rw [ra 8 (by omega)]; exact funext fun b => hf 8 b (by omega)
    have q35 : φ4 35 = φ 35 := by rw [ra 35 (by omega)]; exact funext fun b => hf 35 b (by omega)
    refine ⟨hrow, r9, ⟨(show cbOk φ from ⟨c1, c2, c3, c4, c5, c6⟩).fr (fun a ha b => by rw [ra a (by omega)]; exact hf a b (by omega)), Or.inr ⟨r9, by rw [q7, q8, q35]; exact hrow⟩, ?_⟩, r0, ?_⟩
    · unfold rsOk
      rw [q7, q8, q35, r0 10 (by omega), r0 11 (by omega), r0 12 (by omega), r0 13 (by omega)]
      exact rs
    · rw [e4]
      exact (hf.wk (fun a h => by omega)).put (by omega)
  · refine j_return F E dX7_chooseCheapest_7 ?_
    rcases ch with g | g
    · omega
    · exact ⟨g.2, g.1, hc, fun _ _ => rfl, frC.rf⟩
/-- behind chooseCheapest -/
theorem chC_pub {φ φ' : jPhi} (h0 : ∀ b, b ≠ 9 → φ' 0 b = φ 0 b) (hf : frC (fun a => a = 0 ∨ a = 37 ∨ (39 ≤ a ∧ a < 64) ∨ (65 ≤ a ∧ a < 90) ∨ a = 90 ∨ a = 91) φ φ') : pubC φ' = pubC φ := pubC_fr (fun a ha b => hf a b (by omega)) (fun b hb => h0 b (by omega))
set_option maxRecDepth 20000 in
theorem c_Cla_round {l : Launch} {G : jG} {B0 : Nat} {φ : jPhi}  (hc : ciOk φ) : jC l G B0 κF 113 yX7_round cX7_round 2 (some .int) 5 [rf B0 0] φ mkI (fun z φ' => (z, pubC φ') = spRound (pubC φ) ∧ ciOk φ' ∧ frC (fun a => a < 99) φ φ') := by
  refine jC_start RX7 [some (rf B0 0), none] (by decide) rfl (Nat.le_of_ble_eq_true rfl) rfl (fun X Q F E => ?_)
  have hc0 := hc
  obtain ⟨⟨c1, c2, c3, c4, c5, c6⟩, ch, rs⟩ := hc0
  have tkk := toks_ok (P := φ 35) (t := φ 8) (f := 0) (e := φ 7 2) (by omega) (by omega) c5
  refine j_aload_0 (n' := 1) F dX7_round_0 rfl ?_
  refine j_cV0i (n' := 4) F kl_X7_155 (c_Cla_hasText c3) kap_0 rfl (by decide) (Nat.le_of_ble_eq_true rfl) dX7_round_1 rfl (fun z1 φ1 h1 => ?_)
  obtain ⟨rfl, rfl⟩ := h1
  refine j_if_ne (t := 11) (n' := 7) F (by first | omega | (split <;> omega)) dX7_round_4 (by decide) rfl (fun c4_1 => ?_) (fun c4_1 => ?_)
  · refine j_aload_0 (n' := 12) F dX7_round_11 rfl ?_
    refine j_cV0v (n' := 15) F kl_X7_158 (c_Cla_chooseCheapest hc) kap_0 rfl (by decide) (Nat.le_of_ble_eq_true rfl) dX7_round_12 rfl (fun z3 φ3 h3 => ?_)
    obtain ⟨hrow, r9, hci, hz, hf⟩ := h3
    have q35 : φ3 35 = φ 35 := funext fun b => hf 35 b (by omega)
    refine j_aload_0 (n' := 16) F dX7_round_15 rfl ?_
    refine j_getR (n' := 19) F fl_X7_33 kap_0 rfl dX7_round_16 rfl ?_
    refine j_aload_0 (n' := 20) F dX7_round_19 rfl ?_
    refine j_getR (n' := 23) F fl_X7_47 kap_0 rfl dX7_round_20 rfl ?_
    refine j_cV1i (n' := 26) F kl_X7_161 (c_Pri_follow kap_34 kap_35 kap_36 (by decide) kap_90 kap_91 (by decide) (by decide) (by decide) (by decide) hrow tkk.2 tkk.1 (fun b q1 q2 => by rw [q35]; have := c6 b q1 q2; omega)) kap_34 rfl (by decide) (Nat.le_of_ble_eq_true rfl) dX7_round_23 rfl (fun z4 φ4 h4 => ?_)
    obtain ⟨fa, fb, rfl⟩ := h4
    refine j_istore_1 (n' := 27) F (by decide) jc_r dX7_round_26 rfl ?_
    refine j_aload_0 (n' := 28) F dX7_round_27 rfl ?_
    refine j_dup (n' := 29) F rfl dX7_round_28 rfl ?_
    refine j_getI (n' := 32) F 14 rfl fl_X7_77 kap_0 rfl dX7_round_29 rfl ?_
    refine j_iconst (n' := 33) F dX7_round_32 rfl ?_
    refine j_iadd (n' := 34) F dX7_round_33 rfl ?_
    refine j_putI (n' := 37) F 14 rfl fp_X7_77 kap_0 rfl rfl dX7_round_34 rfl (fun φ5 e5 => ?_)
    refine j_aload_0 (n' := 38) F dX7_round_37 rfl ?_
    refine j_cV0v (n' := 41) F kl_X7_152 (c_Cla_forget) kap_0 rfl (by decide) (Nat.le_of_ble_eq_true rfl) dX7_round_38 rfl (fun z6 φ6 h6 => ?_)
    have e6 := h6
    refine j_iload_1 (n' := 42) F dX7_round_41 rfl ?_
    refine j_ireturn F E dX7_round_42 ?_
    have hn : 0 < φ 7 2 := by split at * <;> omega
    rw [q35] at fa
    have ra : ∀ a, a ≠ 0 → φ6 a = φ4 a := fun a q => by rw [e6, zU_off q, zU_off q, e5, zU_off q]
    have r9 : φ6 0 9 = 0 := by rw [e6, zU_ne (by omega), zU_self]
    have r10 : φ6 0 10 = 0 := by rw [e6, zU_self]
    have rb : ∀ b, b ≠ 9 → b ≠ 10 → b ≠ 14 → φ6 0 b = φ 0 b := fun b k1 k2 k3 => by
      rw [e6, zU_ne (by omega), zU_ne (by omega), e5, zU_ne (by omega), fb 0 b (by omega)]
      exact hz b k1
    have r14 : φ6 0 14 = φ 0 14 + 1 := by
      rw [e6, zU_ne (by omega), zU_ne (by omega), e5, zU_self, fb 0 14 (by omega), hz 14 (by omega)]
    have w35 : φ6 35 = newP (toks (φ 35) (φ 8) 0 (φ 7 2)) (φ 35) := by rw [ra 35 (by omega)]; exact funext fa
    have rc : ∀ a, a ≠ 0 → a ≠ 35 → a ≠ 36 → a ≠ 37 → ¬ (39 ≤ a ∧ a < 92) → φ6 a = φ a := fun a k0 k1 k2 k3 k4 => by
      rw [ra a k0]
      funext b
      rw [fb a b (by omega)]
      exact hf a b (by omega)
    refine ⟨?_, ⟨⟨by rw [rc 1 (by omega) (by omega) (by omega) (by omega) (by omega)]; exact c1, by rw [rc 1 (by omega) (by omega) (by omega) (by omega) (by omega), rc 2 (by omega) (by omega) (by omega) (by omega) (by omega)]; exact c2, by rw [rc 7 (by omega) (by omega) (by omega) (by omega) (by omega)]; exact c3, c4.fr c3.2 (fun a ha b => by rw [rc a (by omega) (by omega) (by omega) (by omega) (by omega)]), by rw [rc 8 (by omega) (by omega) (by omega) (by omega) (by omega), rc 7 (by omega) (by omega) (by omega) (by omega) (by omega)]; exact c5, by rw [w35]; exact newP_ok⟩, Or.inl r9, Or.inl r10⟩, ?_⟩
    · unfold spRound pubC
      dsimp only
      rw [if_neg (by omega), w35, q35, rc 1 (by omega) (by omega) (by omega) (by omega) (by omega), rc 2 (by omega) (by omega) (by omega) (by omega) (by omega), rc 7 (by omega) (by omega) (by omega) (by omega) (by omega), rc 8 (by omega) (by omega) (by omega) (by omega) (by omega), r14, rb 15 (by omega) (by omega) (by omega), rb 16 (by omega) (by omega) (by omega)]
    · rw [e6, e5]
      exact (((((hf.wk (fun a h => by omega)).tr (fb.wk (fun a h => by omega))).put (by omega)).put (by omega)).put (by omega))
  · refine j_sipush (n' := 10) F dX7_round_7 (by decide) rfl ?_
    exact j_ireturn F E dX7_round_10 (⟨by unfold spRound pubC; dsimp only; rw [if_pos (by split at * <;> omega)], hc, frC.rf⟩)
set_option maxRecDepth 20000 in
theorem c_Cla_cheapest {l : Launch} {G : jG} {B0 : Nat} {φ : jPhi} {x : Int} (hc : ciOk φ) (hx : -2147483648 ≤ x ∧ x ≤ 2147483647) : jC l G B0 κF 113 yX7_cheapest cX7_cheapest 3 (some .int) 5 [rf B0 0, iv x] φ mkI (fun z φ' => (z, pubC φ') = spChe (pubC φ) x ∧ ciOk φ' ∧ frC (fun a => a < 99) φ φ' ∧ ((0 < φ 7 2 ∧ 0 ≤ x ∧ x ≤ 2) → φ' 0 9 = 1)) := by
  refine jC_start RX7 [some (rf B0 0), some (iv x), none] (by decide) rfl (Nat.le_of_ble_eq_true rfl) rfl (fun X Q F E => ?_)
  have hc0 := hc
  obtain ⟨⟨c1, c2, c3, c4, c5, c6⟩, ch, rs⟩ := hc0
  have tkk := toks_ok (P := φ 35) (t := φ 8) (f := 0) (e := φ 7 2) (by omega) (by omega) c5
  refine j_aload_0 (n' := 1) F dX7_cheapest_0 rfl ?_
  refine j_cV0i (n' := 4) F kl_X7_155 (c_Cla_hasText c3) kap_0 rfl (by decide) (Nat.le_of_ble_eq_true rfl) dX7_cheapest_1 rfl (fun z1 φ1 h1 => ?_)
  obtain ⟨rfl, rfl⟩ := h1
  refine j_if_ne (t := 11) (n' := 7) F (by first | omega | (split <;> omega)) dX7_cheapest_4 (by decide) rfl (fun c4_1 => ?_) (fun c4_1 => ?_)
  · refine j_iload_1 (n' := 12) F dX7_cheapest_11 rfl ?_
    refine j_bipush (n' := 14) F dX7_cheapest_12 (by decide) rfl ?_
    refine j_icmp_lt (t := 27) (n' := 17) F (by first | omega | (split <;> omega)) (by first | omega | (split <;> omega)) dX7_cheapest_14 (by decide) rfl (fun c14_2 => ?_) (fun c14_2 => ?_)
    · refine j_iconst (n' := 28) F dX7_cheapest_27 rfl ?_
      refine j_istore_2 (n' := 29) F (by decide) jc_i dX7_cheapest_28 rfl ?_
      refine j_iload_2 (n' := 30) F dX7_cheapest_29 rfl ?_
      refine j_if_ne (t := 46) (n' := 33) F (by first | omega | (split <;> omega)) dX7_cheapest_30 (by decide) rfl (fun c30_3 => ?_) (fun c30_3 => ?_)
      · refine j_aload_0 (n' := 47) F dX7_cheapest_46 rfl ?_
        refine j_cV0v (n' := 50) F kl_X7_158 (c_Cla_chooseCheapest hc) kap_0 rfl (by decide) (Nat.le_of_ble_eq_true rfl) dX7_cheapest_47 rfl (fun z5 φ5 h5 => ?_)
        obtain ⟨hrow, r9, hci, hz, hf⟩ := h5
        have q35 : φ5 35 = φ 35 := funext fun b => hf 35 b (by omega)
        have hs1 := hrow.1
        have hs2 := tkk.2
        refine j_iload_2 (n' := 51) F dX7_cheapest_50 rfl ?_
        refine j_if_eq (t := 66) (n' := 54) F (by first | omega | (split <;> omega)) dX7_cheapest_51 (by decide) rfl (fun c51_5 => ?_) (fun c51_5 => ?_)
        · refine j_iload_1 (n' := 67) F dX7_cheapest_66 rfl ?_
          refine j_if_ne (t := 82) (n' := 70) F (by first | omega | (split <;> omega)) dX7_cheapest_67 (by decide) rfl (fun c67_6 => ?_) (fun c67_6 => ?_)
          · refine j_iload_1 (n' := 83) F dX7_cheapest_82 rfl ?_
            refine j_iconst (n' := 84) F dX7_cheapest_83 rfl ?_
            refine j_icmp_ne (t := 97) (n' := 87) F (by first | omega | (split <;> omega)) (by first | omega | (split <;> omega)) dX7_cheapest_84 (by decide) rfl (fun c84_7 => ?_) (fun c84_7 => ?_)
            · refine j_aload_0 (n' := 98) F dX7_cheapest_97 rfl ?_
              refine j_getR (n' := 101) F fl_X7_47 kap_0 rfl dX7_cheapest_98 rfl ?_
              refine j_cV0i (n' := 104) F kl_X7_185 (c_Row_signs kap_90 kap_91 hrow tkk.2 tkk.1) kap_90 rfl (by decide) (Nat.le_of_ble_eq_true rfl) dX7_cheapest_101 rfl (fun z9 φ9 h9 => ?_)
              obtain ⟨rfl, rfl⟩ := h9
              refine j_ireturn F E dX7_cheapest_104 ?_
              have hn : 0 < φ 7 2 := by split at * <;> omega
              refine ⟨?_, hci, hf.wk (fun a h => by omega), fun _ => r9⟩
              rw [chC_pub hz hf]
              unfold spChe pubC
              dsimp only
              rw [if_neg (c := ¬ 0 < φ 7 2) (by omega), if_neg (c := ¬ ((0 ≤ x ∧ x ≤ 2) ∨ (10 ≤ x ∧ x ≤ 33))) (by omega), cheV]
              rw [if_neg (c := x = 0) (by omega), if_neg (c := x = 1) (by omega), if_pos (c := x = 2) (by omega)]
            · refine j_aload_0 (n' := 88) F dX7_cheapest_87 rfl ?_
              refine j_getR (n' := 91) F fl_X7_47 kap_0 rfl dX7_cheapest_88 rfl ?_
              refine j_cV0i (n' := 94) F kl_X7_184 (c_Row_size kap_90) kap_90 rfl (by decide) (Nat.le_of_ble_eq_true rfl) dX7_cheapest_91 rfl (fun z10 φ10 h10 => ?_)
              obtain ⟨rfl, rfl⟩ := h10
              refine j_goto (t := 104) F dX7_cheapest_94 (by decide) ?_
              refine j_ireturn F E dX7_cheapest_104 ?_
              have hn : 0 < φ 7 2 := by split at * <;> omega
              refine ⟨?_, hci, hf.wk (fun a h => by omega), fun _ => r9⟩
              rw [chC_pub hz hf]
              unfold spChe pubC
              dsimp only
              rw [if_neg (c := ¬ 0 < φ 7 2) (by omega), if_neg (c := ¬ ((0 ≤ x ∧ x ≤ 2) ∨ (10 ≤ x ∧ x ≤ 33))) (by omega), cheV]
              rw [if_neg (c := x = 0) (by omega), if_pos (c := x = 1) (by omega), hs1]
          · refine j_aload_0 (n' := 71) F dX7_cheapest_70 rfl ?_
            refine j_getR (n' := 74) F fl_X7_33 kap_0 rfl dX7_cheapest_71 rfl ?_
            refine j_aload_0 (n' := 75) F dX7_cheapest_74 rfl ?_
            refine j_getR (n' := 78) F fl_X7_47 kap_0 rfl dX7_cheapest_75 rfl ?_
            refine j_cV1i (n' := 81) F kl_X7_137 (c_Pri_ofRow kap_34 kap_35 (by rw [q35]; exact c6) kap_90 kap_91 hrow tkk.2 tkk.1) kap_34 rfl (by decide) (Nat.le_of_ble_eq_true rfl) dX7_cheapest_78 rfl (fun z11 φ11 h11 => ?_)
            obtain ⟨rfl, rfl⟩ := h11
            refine j_ireturn F E dX7_cheapest_81 ?_
            have hn : 0 < φ 7 2 := by split at * <;> omega
            refine ⟨?_, hci, hf.wk (fun a h => by omega), fun _ => r9⟩
            rw [chC_pub hz hf]
            unfold spChe pubC
            dsimp only
            rw [if_neg (c := ¬ 0 < φ 7 2) (by omega), if_neg (c := ¬ ((0 ≤ x ∧ x ≤ 2) ∨ (10 ≤ x ∧ x ≤ 33))) (by omega), cheV]
            rw [if_pos (c := x = 0) (by omega), q35]
        · refine j_aload_0 (n' := 55) F dX7_cheapest_54 rfl ?_
          refine j_getR (n' := 58) F fl_X7_47 kap_0 rfl dX7_cheapest_55 rfl ?_
          refine j_iload_1 (n' := 59) F dX7_cheapest_58 rfl ?_
          refine j_bipush (n' := 61) F dX7_cheapest_59 (by decide) rfl ?_
          refine j_isub (n' := 62) F dX7_cheapest_61 rfl ?_
          refine j_cV1i (n' := 65) F kl_X7_183 (c_Row_get kap_90 kap_91 (by omega) (by omega)) kap_90 rfl (by decide) (Nat.le_of_ble_eq_true rfl) dX7_cheapest_62 rfl (fun z12 φ12 h12 => ?_)
          obtain ⟨rfl, rfl⟩ := h12
          refine j_ireturn F E dX7_cheapest_65 ?_
          have hn : 0 < φ 7 2 := by split at * <;> omega
          refine ⟨?_, hci, hf.wk (fun a h => by omega), fun _ => r9⟩
          rw [chC_pub hz hf]
          unfold spChe pubC
          dsimp only
          rw [if_neg (c := ¬ 0 < φ 7 2) (by omega), if_neg (c := ¬ ((0 ≤ x ∧ x ≤ 2) ∨ (10 ≤ x ∧ x ≤ 33))) (by omega), cheV]
          rw [if_neg (c := x = 0) (by omega), if_neg (c := x = 1) (by omega), if_neg (c := x = 2) (by omega), hs1]
          by_cases hq : x - 10 < ((toks (φ 35) (φ 8) 0 (φ 7 2)).length : Int)
          · rw [if_pos (by omega), if_pos hq, hrow.at (by omega) hq]
          · rw [if_neg (by omega), if_neg hq]
      · refine j_iload_1 (n' := 34) F dX7_cheapest_33 rfl ?_
        refine j_if_lt (t := 42) (n' := 37) F (by first | omega | (split <;> omega)) dX7_cheapest_34 (by decide) rfl (fun c34_12 => ?_) (fun c34_12 => ?_)
        · refine j_sipush (n' := 45) F dX7_cheapest_42 (by decide) rfl ?_
          exact j_ireturn F E dX7_cheapest_45 (⟨by unfold spChe pubC; dsimp only; rw [if_neg (by split at * <;> omega), if_pos (by omega)], hc, frC.rf, fun q => by omega⟩)
        · refine j_iload_1 (n' := 38) F dX7_cheapest_37 rfl ?_
          refine j_iconst (n' := 39) F dX7_cheapest_38 rfl ?_
          refine j_icmp_le (t := 46) (n' := 42) F (by first | omega | (split <;> omega)) (by first | omega | (split <;> omega)) dX7_cheapest_39 (by decide) rfl (fun c39_13 => ?_) (fun c39_13 => ?_)
          · refine j_aload_0 (n' := 47) F dX7_cheapest_46 rfl ?_
            refine j_cV0v (n' := 50) F kl_X7_158 (c_Cla_chooseCheapest hc) kap_0 rfl (by decide) (Nat.le_of_ble_eq_true rfl) dX7_cheapest_47 rfl (fun z15 φ15 h15 => ?_)
            obtain ⟨hrow, r9, hci, hz, hf⟩ := h15
            have q35 : φ15 35 = φ 35 := funext fun b => hf 35 b (by omega)
            have hs1 := hrow.1
            have hs2 := tkk.2
            refine j_iload_2 (n' := 51) F dX7_cheapest_50 rfl ?_
            refine j_if_eq (t := 66) (n' := 54) F (by first | omega | (split <;> omega)) dX7_cheapest_51 (by decide) rfl (fun c51_15 => ?_) (fun c51_15 => ?_)
            · refine j_iload_1 (n' := 67) F dX7_cheapest_66 rfl ?_
              refine j_if_ne (t := 82) (n' := 70) F (by first | omega | (split <;> omega)) dX7_cheapest_67 (by decide) rfl (fun c67_16 => ?_) (fun c67_16 => ?_)
              · refine j_iload_1 (n' := 83) F dX7_cheapest_82 rfl ?_
                refine j_iconst (n' := 84) F dX7_cheapest_83 rfl ?_
                refine j_icmp_ne (t := 97) (n' := 87) F (by first | omega | (split <;> omega)) (by first | omega | (split <;> omega)) dX7_cheapest_84 (by decide) rfl (fun c84_17 => ?_) (fun c84_17 => ?_)
                · refine j_aload_0 (n' := 98) F dX7_cheapest_97 rfl ?_
                  refine j_getR (n' := 101) F fl_X7_47 kap_0 rfl dX7_cheapest_98 rfl ?_
                  refine j_cV0i (n' := 104) F kl_X7_185 (c_Row_signs kap_90 kap_91 hrow tkk.2 tkk.1) kap_90 rfl (by decide) (Nat.le_of_ble_eq_true rfl) dX7_cheapest_101 rfl (fun z19 φ19 h19 => ?_)
                  obtain ⟨rfl, rfl⟩ := h19
                  refine j_ireturn F E dX7_cheapest_104 ?_
                  have hn : 0 < φ 7 2 := by split at * <;> omega
                  refine ⟨?_, hci, hf.wk (fun a h => by omega), fun _ => r9⟩
                  rw [chC_pub hz hf]
                  unfold spChe pubC
                  dsimp only
                  rw [if_neg (c := ¬ 0 < φ 7 2) (by omega), if_neg (c := ¬ ((0 ≤ x ∧ x ≤ 2) ∨ (10 ≤ x ∧ x ≤ 33))) (by omega), cheV]
                  rw [if_neg (c := x = 0) (by omega), if_neg (c := x = 1) (by omega), if_pos (c := x = 2) (by omega)]
                · refine j_aload_0 (n' := 88) F dX7_cheapest_87 rfl ?_
                  refine j_getR (n' := 91) F fl_X7_47 kap_0 rfl dX7_cheapest_88 rfl ?_
                  refine j_cV0i (n' := 94) F kl_X7_184 (c_Row_size kap_90) kap_90 rfl (by decide) (Nat.le_of_ble_eq_true rfl) dX7_cheapest_91 rfl (fun z20 φ20 h20 => ?_)
                  obtain ⟨rfl, rfl⟩ := h20
                  refine j_goto (t := 104) F dX7_cheapest_94 (by decide) ?_
                  refine j_ireturn F E dX7_cheapest_104 ?_
                  have hn : 0 < φ 7 2 := by split at * <;> omega
                  refine ⟨?_, hci, hf.wk (fun a h => by omega), fun _ => r9⟩
                  rw [chC_pub hz hf]
                  unfold spChe pubC
                  dsimp only
                  rw [if_neg (c := ¬ 0 < φ 7 2) (by omega), if_neg (c := ¬ ((0 ≤ x ∧ x ≤ 2) ∨ (10 ≤ x ∧ x ≤ 33))) (by omega), cheV]
                  rw [if_neg (c := x = 0) (by omega), if_pos (c := x = 1) (by omega), hs1]
              · refine j_aload_0 (n' := 71) F dX7_cheapest_70 rfl ?_
                refine j_getR (n' := 74) F fl_X7_33 kap_0 rfl dX7_cheapest_71 rfl ?_
                refine j_aload_0 (n' := 75) F dX7_cheapest_74 rfl ?_
                refine j_getR (n' := 78) F fl_X7_47 kap_0 rfl dX7_cheapest_75 rfl ?_
                refine j_cV1i (n' := 81) F kl_X7_137 (c_Pri_ofRow kap_34 kap_35 (by rw [q35]; exact c6) kap_90 kap_91 hrow tkk.2 tkk.1) kap_34 rfl (by decide) (Nat.le_of_ble_eq_true rfl) dX7_cheapest_78 rfl (fun z21 φ21 h21 => ?_)
                obtain ⟨rfl, rfl⟩ := h21
                refine j_ireturn F E dX7_cheapest_81 ?_
                have hn : 0 < φ 7 2 := by split at * <;> omega
                refine ⟨?_, hci, hf.wk (fun a h => by omega), fun _ => r9⟩
                rw [chC_pub hz hf]
                unfold spChe pubC
                dsimp only
                rw [if_neg (c := ¬ 0 < φ 7 2) (by omega), if_neg (c := ¬ ((0 ≤ x ∧ x ≤ 2) ∨ (10 ≤ x ∧ x ≤ 33))) (by omega), cheV]
                rw [if_pos (c := x = 0) (by omega), q35]
            · refine j_aload_0 (n' := 55) F dX7_cheapest_54 rfl ?_
              refine j_getR (n' := 58) F fl_X7_47 kap_0 rfl dX7_cheapest_55 rfl ?_
              refine j_iload_1 (n' := 59) F dX7_cheapest_58 rfl ?_
              refine j_bipush (n' := 61) F dX7_cheapest_59 (by decide) rfl ?_
              refine j_isub (n' := 62) F dX7_cheapest_61 rfl ?_
              refine j_cV1i (n' := 65) F kl_X7_183 (c_Row_get kap_90 kap_91 (by omega) (by omega)) kap_90 rfl (by decide) (Nat.le_of_ble_eq_true rfl) dX7_cheapest_62 rfl (fun z22 φ22 h22 => ?_)
              obtain ⟨rfl, rfl⟩ := h22
              refine j_ireturn F E dX7_cheapest_65 ?_
              have hn : 0 < φ 7 2 := by split at * <;> omega
              refine ⟨?_, hci, hf.wk (fun a h => by omega), fun _ => r9⟩
              rw [chC_pub hz hf]
              unfold spChe pubC
              dsimp only
              rw [if_neg (c := ¬ 0 < φ 7 2) (by omega), if_neg (c := ¬ ((0 ≤ x ∧ x ≤ 2) ∨ (10 ≤ x ∧ x ≤ 33))) (by omega), cheV]
              rw [if_neg (c := x = 0) (by omega), if_neg (c := x = 1) (by omega), if_neg (c := x = 2) (by omega), hs1]
              by_cases hq : x - 10 < ((toks (φ 35) (φ 8) 0 (φ 7 2)).length : Int)
              · rw [if_pos (by omega), if_pos hq, hrow.at (by omega) hq]
              · rw [if_neg (by omega), if_neg hq]
          · refine j_sipush (n' := 45) F dX7_cheapest_42 (by decide) rfl ?_
            exact j_ireturn F E dX7_cheapest_45 (⟨by unfold spChe pubC; dsimp only; rw [if_neg (by split at * <;> omega), if_pos (by omega)], hc, frC.rf, fun q => by omega⟩)
    · refine j_iload_1 (n' := 18) F dX7_cheapest_17 rfl ?_
      refine j_bipush (n' := 20) F dX7_cheapest_18 (by decide) rfl ?_
      refine j_icmp_gt (t := 27) (n' := 23) F (by first | omega | (split <;> omega)) (by first | omega | (split <;> omega)) dX7_cheapest_20 (by decide) rfl (fun c20_22 => ?_) (fun c20_22 => ?_)
      · refine j_iconst (n' := 28) F dX7_cheapest_27 rfl ?_
        refine j_istore_2 (n' := 29) F (by decide) jc_i dX7_cheapest_28 rfl ?_
        refine j_iload_2 (n' := 30) F dX7_cheapest_29 rfl ?_
        refine j_if_ne (t := 46) (n' := 33) F (by first | omega | (split <;> omega)) dX7_cheapest_30 (by decide) rfl (fun c30_23 => ?_) (fun c30_23 => ?_)
        · refine j_aload_0 (n' := 47) F dX7_cheapest_46 rfl ?_
          refine j_cV0v (n' := 50) F kl_X7_158 (c_Cla_chooseCheapest hc) kap_0 rfl (by decide) (Nat.le_of_ble_eq_true rfl) dX7_cheapest_47 rfl (fun z25 φ25 h25 => ?_)
          obtain ⟨hrow, r9, hci, hz, hf⟩ := h25
          have q35 : φ25 35 = φ 35 := funext fun b => hf 35 b (by omega)
          have hs1 := hrow.1
          have hs2 := tkk.2
          refine j_iload_2 (n' := 51) F dX7_cheapest_50 rfl ?_
          refine j_if_eq (t := 66) (n' := 54) F (by first | omega | (split <;> omega)) dX7_cheapest_51 (by decide) rfl (fun c51_25 => ?_) (fun c51_25 => ?_)
          · refine j_iload_1 (n' := 67) F dX7_cheapest_66 rfl ?_
            refine j_if_ne (t := 82) (n' := 70) F (by first | omega | (split <;> omega)) dX7_cheapest_67 (by decide) rfl (fun c67_26 => ?_) (fun c67_26 => ?_)
            · refine j_iload_1 (n' := 83) F dX7_cheapest_82 rfl ?_
              refine j_iconst (n' := 84) F dX7_cheapest_83 rfl ?_
              refine j_icmp_ne (t := 97) (n' := 87) F (by first | omega | (split <;> omega)) (by first | omega | (split <;> omega)) dX7_cheapest_84 (by decide) rfl (fun c84_27 => ?_) (fun c84_27 => ?_)
              · refine j_aload_0 (n' := 98) F dX7_cheapest_97 rfl ?_
                refine j_getR (n' := 101) F fl_X7_47 kap_0 rfl dX7_cheapest_98 rfl ?_
                refine j_cV0i (n' := 104) F kl_X7_185 (c_Row_signs kap_90 kap_91 hrow tkk.2 tkk.1) kap_90 rfl (by decide) (Nat.le_of_ble_eq_true rfl) dX7_cheapest_101 rfl (fun z29 φ29 h29 => ?_)
                obtain ⟨rfl, rfl⟩ := h29
                refine j_ireturn F E dX7_cheapest_104 ?_
                have hn : 0 < φ 7 2 := by split at * <;> omega
                refine ⟨?_, hci, hf.wk (fun a h => by omega), fun _ => r9⟩
                rw [chC_pub hz hf]
                unfold spChe pubC
                dsimp only
                rw [if_neg (c := ¬ 0 < φ 7 2) (by omega), if_neg (c := ¬ ((0 ≤ x ∧ x ≤ 2) ∨ (10 ≤ x ∧ x ≤ 33))) (by omega), cheV]
                rw [if_neg (c := x = 0) (by omega), if_neg (c := x = 1) (by omega), if_pos (c := x = 2) (by omega)]
              · refine j_aload_0 (n' := 88) F dX7_cheapest_87 rfl ?_
                refine j_getR (n' := 91) F fl_X7_47 kap_0 rfl dX7_cheapest_88 rfl ?_
                refine j_cV0i (n' := 94) F kl_X7_184 (c_Row_size kap_90) kap_90 rfl (by decide) (Nat.le_of_ble_eq_true rfl) dX7_cheapest_91 rfl (fun z30 φ30 h30 => ?_)
                obtain ⟨rfl, rfl⟩ := h30
                refine j_goto (t := 104) F dX7_cheapest_94 (by decide) ?_
                refine j_ireturn F E dX7_cheapest_104 ?_
                have hn : 0 < φ 7 2 := by split at * <;> omega
                refine ⟨?_, hci, hf.wk (fun a h => by omega), fun _ => r9⟩
                rw [chC_pub hz hf]
                unfold spChe pubC
                dsimp only
                rw [if_neg (c := ¬ 0 < φ 7 2) (by omega), if_neg (c := ¬ ((0 ≤ x ∧ x ≤ 2) ∨ (10 ≤ x ∧ x ≤ 33))) (by omega), cheV]
                rw [if_neg (c := x = 0) (by omega), if_pos (c := x = 1) (by omega), hs1]
            · refine j_aload_0 (n' := 71) F dX7_cheapest_70 rfl ?_
              refine j_getR (n' := 74) F fl_X7_33 kap_0 rfl dX7_cheapest_71 rfl ?_
              refine j_aload_0 (n' := 75) F dX7_cheapest_74 rfl ?_
              refine j_getR (n' := 78) F fl_X7_47 kap_0 rfl dX7_cheapest_75 rfl ?_
              refine j_cV1i (n' := 81) F kl_X7_137 (c_Pri_ofRow kap_34 kap_35 (by rw [q35]; exact c6) kap_90 kap_91 hrow tkk.2 tkk.1) kap_34 rfl (by decide) (Nat.le_of_ble_eq_true rfl) dX7_cheapest_78 rfl (fun z31 φ31 h31 => ?_)
              obtain ⟨rfl, rfl⟩ := h31
              refine j_ireturn F E dX7_cheapest_81 ?_
              have hn : 0 < φ 7 2 := by split at * <;> omega
              refine ⟨?_, hci, hf.wk (fun a h => by omega), fun _ => r9⟩
              rw [chC_pub hz hf]
              unfold spChe pubC
              dsimp only
              rw [if_neg (c := ¬ 0 < φ 7 2) (by omega), if_neg (c := ¬ ((0 ≤ x ∧ x ≤ 2) ∨ (10 ≤ x ∧ x ≤ 33))) (by omega), cheV]
              rw [if_pos (c := x = 0) (by omega), q35]
          · refine j_aload_0 (n' := 55) F dX7_cheapest_54 rfl ?_
            refine j_getR (n' := 58) F fl_X7_47 kap_0 rfl dX7_cheapest_55 rfl ?_
            refine j_iload_1 (n' := 59) F dX7_cheapest_58 rfl ?_
            refine j_bipush (n' := 61) F dX7_cheapest_59 (by decide) rfl ?_
            refine j_isub (n' := 62) F dX7_cheapest_61 rfl ?_
            refine j_cV1i (n' := 65) F kl_X7_183 (c_Row_get kap_90 kap_91 (by omega) (by omega)) kap_90 rfl (by decide) (Nat.le_of_ble_eq_true rfl) dX7_cheapest_62 rfl (fun z32 φ32 h32 => ?_)
            obtain ⟨rfl, rfl⟩ := h32
            refine j_ireturn F E dX7_cheapest_65 ?_
            have hn : 0 < φ 7 2 := by split at * <;> omega
            refine ⟨?_, hci, hf.wk (fun a h => by omega), fun _ => r9⟩
            rw [chC_pub hz hf]
            unfold spChe pubC
            dsimp only
            rw [if_neg (c := ¬ 0 < φ 7 2) (by omega), if_neg (c := ¬ ((0 ≤ x ∧ x ≤ 2) ∨ (10 ≤ x ∧ x ≤ 33))) (by omega), cheV]
            rw [if_neg (c := x = 0) (by omega), if_neg (c := x = 1) (by omega), if_neg (c := x = 2) (by omega), hs1]
            by_cases hq : x - 10 < ((toks (φ 35) (φ 8) 0 (φ 7 2)).length : Int)
            · rw [if_pos (by omega), if_pos hq, hrow.at (by omega) hq]
            · rw [if_neg (by omega), if_neg hq]
        · refine j_iload_1 (n' := 34) F dX7_cheapest_33 rfl ?_
          refine j_if_lt (t := 42) (n' := 37) F (by first | omega | (split <;> omega)) dX7_cheapest_34 (by decide) rfl (fun c34_32 => ?_) (fun c34_32 => ?_)
          · refine j_sipush (n' := 45) F dX7_cheapest_42 (by decide) rfl ?_
            exact j_ireturn F E dX7_cheapest_45 (⟨by unfold spChe pubC; dsimp only; rw [if_neg (by split at * <;> omega), if_pos (by omega)], hc, frC.rf, fun q => by omega⟩)
          · refine j_iload_1 (n' := 38) F dX7_cheapest_37 rfl ?_
            refine j_iconst (n' := 39) F dX7_cheapest_38 rfl ?_
            refine j_icmp_le (t := 46) (n' := 42) F (by first | omega | (split <;> omega)) (by first | omega | (split <;> omega)) dX7_cheapest_39 (by decide) rfl (fun c39_33 => ?_) (fun c39_33 => ?_)
            · refine j_aload_0 (n' := 47) F dX7_cheapest_46 rfl ?_
              refine j_cV0v (n' := 50) F kl_X7_158 (c_Cla_chooseCheapest hc) kap_0 rfl (by decide) (Nat.le_of_ble_eq_true rfl) dX7_cheapest_47 rfl (fun z35 φ35 h35 => ?_)
              obtain ⟨hrow, r9, hci, hz, hf⟩ := h35
              have q35 : φ35 35 = φ 35 := funext fun b => hf 35 b (by omega)
              have hs1 := hrow.1
              have hs2 := tkk.2
              refine j_iload_2 (n' := 51) F dX7_cheapest_50 rfl ?_
              refine j_if_eq (t := 66) (n' := 54) F (by first | omega | (split <;> omega)) dX7_cheapest_51 (by decide) rfl (fun c51_35 => ?_) (fun c51_35 => ?_)
              · refine j_iload_1 (n' := 67) F dX7_cheapest_66 rfl ?_
                refine j_if_ne (t := 82) (n' := 70) F (by first | omega | (split <;> omega)) dX7_cheapest_67 (by decide) rfl (fun c67_36 => ?_) (fun c67_36 => ?_)
                · refine j_iload_1 (n' := 83) F dX7_cheapest_82 rfl ?_
                  refine j_iconst (n' := 84) F dX7_cheapest_83 rfl ?_
                  refine j_icmp_ne (t := 97) (n' := 87) F (by first | omega | (split <;> omega)) (by first | omega | (split <;> omega)) dX7_cheapest_84 (by decide) rfl (fun c84_37 => ?_) (fun c84_37 => ?_)
                  · refine j_aload_0 (n' := 98) F dX7_cheapest_97 rfl ?_
                    refine j_getR (n' := 101) F fl_X7_47 kap_0 rfl dX7_cheapest_98 rfl ?_
                    refine j_cV0i (n' := 104) F kl_X7_185 (c_Row_signs kap_90 kap_91 hrow tkk.2 tkk.1) kap_90 rfl (by decide) (Nat.le_of_ble_eq_true rfl) dX7_cheapest_101 rfl (fun z39 φ39 h39 => ?_)
                    obtain ⟨rfl, rfl⟩ := h39
                    refine j_ireturn F E dX7_cheapest_104 ?_
                    have hn : 0 < φ 7 2 := by split at * <;> omega
                    refine ⟨?_, hci, hf.wk (fun a h => by omega), fun _ => r9⟩
                    rw [chC_pub hz hf]
                    unfold spChe pubC
                    dsimp only
                    rw [if_neg (c := ¬ 0 < φ 7 2) (by omega), if_neg (c := ¬ ((0 ≤ x ∧ x ≤ 2) ∨ (10 ≤ x ∧ x ≤ 33))) (by omega), cheV]
                    rw [if_neg (c := x = 0) (by omega), if_neg (c := x = 1) (by omega), if_pos (c := x = 2) (by omega)]
                  · refine j_aload_0 (n' := 88) F dX7_cheapest_87 rfl ?_
                    refine j_getR (n' := 91) F fl_X7_47 kap_0 rfl dX7_cheapest_88 rfl ?_
                    refine j_cV0i (n' := 94) F kl_X7_184 (c_Row_size kap_90) kap_90 rfl (by decide) (Nat.le_of_ble_eq_true rfl) dX7_cheapest_91 rfl (fun z40 φ40 h40 => ?_)
                    obtain ⟨rfl, rfl⟩ := h40
                    refine j_goto (t := 104) F dX7_cheapest_94 (by decide) ?_
                    refine j_ireturn F E dX7_cheapest_104 ?_
                    have hn : 0 < φ 7 2 := by split at * <;> omega
                    refine ⟨?_, hci, hf.wk (fun a h => by omega), fun _ => r9⟩
                    rw [chC_pub hz hf]
                    unfold spChe pubC
                    dsimp only
                    rw [if_neg (c := ¬ 0 < φ 7 2) (by omega), if_neg (c := ¬ ((0 ≤ x ∧ x ≤ 2) ∨ (10 ≤ x ∧ x ≤ 33))) (by omega), cheV]
                    rw [if_neg (c := x = 0) (by omega), if_pos (c := x = 1) (by omega), hs1]
                · refine j_aload_0 (n' := 71) F dX7_cheapest_70 rfl ?_
                  refine j_getR (n' := 74) F fl_X7_33 kap_0 rfl dX7_cheapest_71 rfl ?_
                  refine j_aload_0 (n' := 75) F dX7_cheapest_74 rfl ?_
                  refine j_getR (n' := 78) F fl_X7_47 kap_0 rfl dX7_cheapest_75 rfl ?_
                  refine j_cV1i (n' := 81) F kl_X7_137 (c_Pri_ofRow kap_34 kap_35 (by rw [q35]; exact c6) kap_90 kap_91 hrow tkk.2 tkk.1) kap_34 rfl (by decide) (Nat.le_of_ble_eq_true rfl) dX7_cheapest_78 rfl (fun z41 φ41 h41 => ?_)
                  obtain ⟨rfl, rfl⟩ := h41
                  refine j_ireturn F E dX7_cheapest_81 ?_
                  have hn : 0 < φ 7 2 := by split at * <;> omega
                  refine ⟨?_, hci, hf.wk (fun a h => by omega), fun _ => r9⟩
                  rw [chC_pub hz hf]
                  unfold spChe pubC
                  dsimp only
                  rw [if_neg (c := ¬ 0 < φ 7 2) (by omega), if_neg (c := ¬ ((0 ≤ x ∧ x ≤ 2) ∨ (10 ≤ x ∧ x ≤ 33))) (by omega), cheV]
                  rw [if_pos (c := x = 0) (by omega), q35]
              · refine j_aload_0 (n' := 55) F dX7_cheapest_54 rfl ?_
                refine j_getR (n' := 58) F fl_X7_47 kap_0 rfl dX7_cheapest_55 rfl ?_
                refine j_iload_1 (n' := 59) F dX7_cheapest_58 rfl ?_
                refine j_bipush (n' := 61) F dX7_cheapest_59 (by decide) rfl ?_
                refine j_isub (n' := 62) F dX7_cheapest_61 rfl ?_
                refine j_cV1i (n' := 65) F kl_X7_183 (c_Row_get kap_90 kap_91 (by omega) (by omega)) kap_90 rfl (by decide) (Nat.le_of_ble_eq_true rfl) dX7_cheapest_62 rfl (fun z42 φ42 h42 => ?_)
                obtain ⟨rfl, rfl⟩ := h42
                refine j_ireturn F E dX7_cheapest_65 ?_
                have hn : 0 < φ 7 2 := by split at * <;> omega
                refine ⟨?_, hci, hf.wk (fun a h => by omega), fun _ => r9⟩
                rw [chC_pub hz hf]
                unfold spChe pubC
                dsimp only
                rw [if_neg (c := ¬ 0 < φ 7 2) (by omega), if_neg (c := ¬ ((0 ≤ x ∧ x ≤ 2) ∨ (10 ≤ x ∧ x ≤ 33))) (by omega), cheV]
                rw [if_neg (c := x = 0) (by omega), if_neg (c := x = 1) (by omega), if_neg (c := x = 2) (by omega), hs1]
                by_cases hq : x - 10 < ((toks (φ 35) (φ 8) 0 (φ 7 2)).length : Int)
                · rw [if_pos (by omega), if_pos hq, hrow.at (by omega) hq]
                · rw [if_neg (by omega), if_neg hq]
            · refine j_sipush (n' := 45) F dX7_cheapest_42 (by decide) rfl ?_
              exact j_ireturn F E dX7_cheapest_45 (⟨by unfold spChe pubC; dsimp only; rw [if_neg (by split at * <;> omega), if_pos (by omega)], hc, frC.rf, fun q => by omega⟩)
      · refine j_iconst (n' := 24) F dX7_cheapest_23 rfl ?_
        refine j_goto (t := 28) F dX7_cheapest_24 (by decide) ?_
        refine j_istore_2 (n' := 29) F (by decide) jc_i dX7_cheapest_28 rfl ?_
        refine j_iload_2 (n' := 30) F dX7_cheapest_29 rfl ?_
        refine j_if_ne (t := 46) (n' := 33) F (by first | omega | (split <;> omega)) dX7_cheapest_30 (by decide) rfl (fun c30_42 => ?_) (fun c30_42 => ?_)
        · refine j_aload_0 (n' := 47) F dX7_cheapest_46 rfl ?_
          refine j_cV0v (n' := 50) F kl_X7_158 (c_Cla_chooseCheapest hc) kap_0 rfl (by decide) (Nat.le_of_ble_eq_true rfl) dX7_cheapest_47 rfl (fun z44 φ44 h44 => ?_)
          obtain ⟨hrow, r9, hci, hz, hf⟩ := h44
          have q35 : φ44 35 = φ 35 := funext fun b => hf 35 b (by omega)
          have hs1 := hrow.1
          have hs2 := tkk.2
          refine j_iload_2 (n' := 51) F dX7_cheapest_50 rfl ?_
          refine j_if_eq (t := 66) (n' := 54) F (by first | omega | (split <;> omega)) dX7_cheapest_51 (by decide) rfl (fun c51_44 => ?_) (fun c51_44 => ?_)
          · refine j_iload_1 (n' := 67) F dX7_cheapest_66 rfl ?_
            refine j_if_ne (t := 82) (n' := 70) F (by first | omega | (split <;> omega)) dX7_cheapest_67 (by decide) rfl (fun c67_45 => ?_) (fun c67_45 => ?_)
            · refine j_iload_1 (n' := 83) F dX7_cheapest_82 rfl ?_
              refine j_iconst (n' := 84) F dX7_cheapest_83 rfl ?_
              refine j_icmp_ne (t := 97) (n' := 87) F (by first | omega | (split <;> omega)) (by first | omega | (split <;> omega)) dX7_cheapest_84 (by decide) rfl (fun c84_46 => ?_) (fun c84_46 => ?_)
              · refine j_aload_0 (n' := 98) F dX7_cheapest_97 rfl ?_
                refine j_getR (n' := 101) F fl_X7_47 kap_0 rfl dX7_cheapest_98 rfl ?_
                refine j_cV0i (n' := 104) F kl_X7_185 (c_Row_signs kap_90 kap_91 hrow tkk.2 tkk.1) kap_90 rfl (by decide) (Nat.le_of_ble_eq_true rfl) dX7_cheapest_101 rfl (fun z48 φ48 h48 => ?_)
                obtain ⟨rfl, rfl⟩ := h48
                refine j_ireturn F E dX7_cheapest_104 ?_
                have hn : 0 < φ 7 2 := by split at * <;> omega
                refine ⟨?_, hci, hf.wk (fun a h => by omega), fun _ => r9⟩
                rw [chC_pub hz hf]
                unfold spChe pubC
                dsimp only
                rw [if_neg (c := ¬ 0 < φ 7 2) (by omega), if_neg (c := ¬ ((0 ≤ x ∧ x ≤ 2) ∨ (10 ≤ x ∧ x ≤ 33))) (by omega), cheV]
                rw [if_neg (c := x = 0) (by omega), if_neg (c := x = 1) (by omega), if_pos (c := x = 2) (by omega)]
              · refine j_aload_0 (n' := 88) F dX7_cheapest_87 rfl ?_
                refine j_getR (n' := 91) F fl_X7_47 kap_0 rfl dX7_cheapest_88 rfl ?_
                refine j_cV0i (n' := 94) F kl_X7_184 (c_Row_size kap_90) kap_90 rfl (by decide) (Nat.le_of_ble_eq_true rfl) dX7_cheapest_91 rfl (fun z49 φ49 h49 => ?_)
                obtain ⟨rfl, rfl⟩ := h49
                refine j_goto (t := 104) F dX7_cheapest_94 (by decide) ?_
                refine j_ireturn F E dX7_cheapest_104 ?_
                have hn : 0 < φ 7 2 := by split at * <;> omega
                refine ⟨?_, hci, hf.wk (fun a h => by omega), fun _ => r9⟩
                rw [chC_pub hz hf]
                unfold spChe pubC
                dsimp only
                rw [if_neg (c := ¬ 0 < φ 7 2) (by omega), if_neg (c := ¬ ((0 ≤ x ∧ x ≤ 2) ∨ (10 ≤ x ∧ x ≤ 33))) (by omega), cheV]
                rw [if_neg (c := x = 0) (by omega), if_pos (c := x = 1) (by omega), hs1]
            · refine j_aload_0 (n' := 71) F dX7_cheapest_70 rfl ?_
              refine j_getR (n' := 74) F fl_X7_33 kap_0 rfl dX7_cheapest_71 rfl ?_
              refine j_aload_0 (n' := 75) F dX7_cheapest_74 rfl ?_
              refine j_getR (n' := 78) F fl_X7_47 kap_0 rfl dX7_cheapest_75 rfl ?_
              refine j_cV1i (n' := 81) F kl_X7_137 (c_Pri_ofRow kap_34 kap_35 (by rw [q35]; exact c6) kap_90 kap_91 hrow tkk.2 tkk.1) kap_34 rfl (by decide) (Nat.le_of_ble_eq_true rfl) dX7_cheapest_78 rfl (fun z50 φ50 h50 => ?_)
              obtain ⟨rfl, rfl⟩ := h50
              refine j_ireturn F E dX7_cheapest_81 ?_
              have hn : 0 < φ 7 2 := by split at * <;> omega
              refine ⟨?_, hci, hf.wk (fun a h => by omega), fun _ => r9⟩
              rw [chC_pub hz hf]
              unfold spChe pubC
              dsimp only
              rw [if_neg (c := ¬ 0 < φ 7 2) (by omega), if_neg (c := ¬ ((0 ≤ x ∧ x ≤ 2) ∨ (10 ≤ x ∧ x ≤ 33))) (by omega), cheV]
              rw [if_pos (c := x = 0) (by omega), q35]
          · refine j_aload_0 (n' := 55) F dX7_cheapest_54 rfl ?_
            refine j_getR (n' := 58) F fl_X7_47 kap_0 rfl dX7_cheapest_55 rfl ?_
            refine j_iload_1 (n' := 59) F dX7_cheapest_58 rfl ?_
            refine j_bipush (n' := 61) F dX7_cheapest_59 (by decide) rfl ?_
            refine j_isub (n' := 62) F dX7_cheapest_61 rfl ?_
            refine j_cV1i (n' := 65) F kl_X7_183 (c_Row_get kap_90 kap_91 (by omega) (by omega)) kap_90 rfl (by decide) (Nat.le_of_ble_eq_true rfl) dX7_cheapest_62 rfl (fun z51 φ51 h51 => ?_)
            obtain ⟨rfl, rfl⟩ := h51
            refine j_ireturn F E dX7_cheapest_65 ?_
            have hn : 0 < φ 7 2 := by split at * <;> omega
            refine ⟨?_, hci, hf.wk (fun a h => by omega), fun _ => r9⟩
            rw [chC_pub hz hf]
            unfold spChe pubC
            dsimp only
            rw [if_neg (c := ¬ 0 < φ 7 2) (by omega), if_neg (c := ¬ ((0 ≤ x ∧ x ≤ 2) ∨ (10 ≤ x ∧ x ≤ 33))) (by omega), cheV]
            rw [if_neg (c := x = 0) (by omega), if_neg (c := x = 1) (by omega), if_neg (c := x = 2) (by omega), hs1]
            by_cases hq : x - 10 < ((toks (φ 35) (φ 8) 0 (φ 7 2)).length : Int)
            · rw [if_pos (by omega), if_pos hq, hrow.at (by omega) hq]
            · rw [if_neg (by omega), if_neg hq]
        · refine j_iload_1 (n' := 34) F dX7_cheapest_33 rfl ?_
          refine j_if_lt (t := 42) (n' := 37) F (by first | omega | (split <;> omega)) dX7_cheapest_34 (by decide) rfl (fun c34_51 => ?_) (fun c34_51 => ?_)
          · refine j_sipush (n' := 45) F dX7_cheapest_42 (by decide) rfl ?_
            exact j_ireturn F E dX7_cheapest_45 (⟨by unfold spChe pubC; dsimp only; rw [if_neg (by split at * <;> omega), if_pos (by omega)], hc, frC.rf, fun q => by omega⟩)
          · refine j_iload_1 (n' := 38) F dX7_cheapest_37 rfl ?_
            refine j_iconst (n' := 39) F dX7_cheapest_38 rfl ?_
            refine j_icmp_le (t := 46) (n' := 42) F (by first | omega | (split <;> omega)) (by first | omega | (split <;> omega)) dX7_cheapest_39 (by decide) rfl (fun c39_52 => ?_) (fun c39_52 => ?_)
            · refine j_aload_0 (n' := 47) F dX7_cheapest_46 rfl ?_
              refine j_cV0v (n' := 50) F kl_X7_158 (c_Cla_chooseCheapest hc) kap_0 rfl (by decide) (Nat.le_of_ble_eq_true rfl) dX7_cheapest_47 rfl (fun z54 φ54 h54 => ?_)
              obtain ⟨hrow, r9, hci, hz, hf⟩ := h54
              have q35 : φ54 35 = φ 35 := funext fun b => hf 35 b (by omega)
              have hs1 := hrow.1
              have hs2 := tkk.2
              refine j_iload_2 (n' := 51) F dX7_cheapest_50 rfl ?_
              refine j_if_eq (t := 66) (n' := 54) F (by first | omega | (split <;> omega)) dX7_cheapest_51 (by decide) rfl (fun c51_54 => ?_) (fun c51_54 => ?_)
              · refine j_iload_1 (n' := 67) F dX7_cheapest_66 rfl ?_
                refine j_if_ne (t := 82) (n' := 70) F (by first | omega | (split <;> omega)) dX7_cheapest_67 (by decide) rfl (fun c67_55 => ?_) (fun c67_55 => ?_)
                · refine j_iload_1 (n' := 83) F dX7_cheapest_82 rfl ?_
                  refine j_iconst (n' := 84) F dX7_cheapest_83 rfl ?_
                  refine j_icmp_ne (t := 97) (n' := 87) F (by first | omega | (split <;> omega)) (by first | omega | (split <;> omega)) dX7_cheapest_84 (by decide) rfl (fun c84_56 => ?_) (fun c84_56 => ?_)
                  · refine j_aload_0 (n' := 98) F dX7_cheapest_97 rfl ?_
                    refine j_getR (n' := 101) F fl_X7_47 kap_0 rfl dX7_cheapest_98 rfl ?_
                    refine j_cV0i (n' := 104) F kl_X7_185 (c_Row_signs kap_90 kap_91 hrow tkk.2 tkk.1) kap_90 rfl (by decide) (Nat.le_of_ble_eq_true rfl) dX7_cheapest_101 rfl (fun z58 φ58 h58 => ?_)
                    obtain ⟨rfl, rfl⟩ := h58
                    refine j_ireturn F E dX7_cheapest_104 ?_
                    have hn : 0 < φ 7 2 := by split at * <;> omega
                    refine ⟨?_, hci, hf.wk (fun a h => by omega), fun _ => r9⟩
                    rw [chC_pub hz hf]
                    unfold spChe pubC
                    dsimp only
                    rw [if_neg (c := ¬ 0 < φ 7 2) (by omega), if_neg (c := ¬ ((0 ≤ x ∧ x ≤ 2) ∨ (10 ≤ x ∧ x ≤ 33))) (by omega), cheV]
                    rw [if_neg (c := x = 0) (by omega), if_neg (c := x = 1) (by omega), if_pos (c := x = 2) (by omega)]
                  · refine j_aload_0 (n' := 88) F dX7_cheapest_87 rfl ?_
                    refine j_getR (n' := 91) F fl_X7_47 kap_0 rfl dX7_cheapest_88 rfl ?_
                    refine j_cV0i (n' := 94) F kl_X7_184 (c_Row_size kap_90) kap_90 rfl (by decide) (Nat.le_of_ble_eq_true rfl) dX7_cheapest_91 rfl (fun z59 φ59 h59 => ?_)
                    obtain ⟨rfl, rfl⟩ := h59
                    refine j_goto (t := 104) F dX7_cheapest_94 (by decide) ?_
                    refine j_ireturn F E dX7_cheapest_104 ?_
                    have hn : 0 < φ 7 2 := by split at * <;> omega
                    refine ⟨?_, hci, hf.wk (fun a h => by omega), fun _ => r9⟩
                    rw [chC_pub hz hf]
                    unfold spChe pubC
                    dsimp only
                    rw [if_neg (c := ¬ 0 < φ 7 2) (by omega), if_neg (c := ¬ ((0 ≤ x ∧ x ≤ 2) ∨ (10 ≤ x ∧ x ≤ 33))) (by omega), cheV]
                    rw [if_neg (c := x = 0) (by omega), if_pos (c := x = 1) (by omega), hs1]
                · refine j_aload_0 (n' := 71) F dX7_cheapest_70 rfl ?_
                  refine j_getR (n' := 74) F fl_X7_33 kap_0 rfl dX7_cheapest_71 rfl ?_
                  refine j_aload_0 (n' := 75) F dX7_cheapest_74 rfl ?_
                  refine j_getR (n' := 78) F fl_X7_47 kap_0 rfl dX7_cheapest_75 rfl ?_
                  refine j_cV1i (n' := 81) F kl_X7_137 (c_Pri_ofRow kap_34 kap_35 (by rw [q35]; exact c6) kap_90 kap_91 hrow tkk.2 tkk.1) kap_34 rfl (by decide) (Nat.le_of_ble_eq_true rfl) dX7_cheapest_78 rfl (fun z60 φ60 h60 => ?_)
                  obtain ⟨rfl, rfl⟩ := h60
                  refine j_ireturn F E dX7_cheapest_81 ?_
                  have hn : 0 < φ 7 2 := by split at * <;> omega
                  refine ⟨?_, hci, hf.wk (fun a h => by omega), fun _ => r9⟩
                  rw [chC_pub hz hf]
                  unfold spChe pubC
                  dsimp only
                  rw [if_neg (c := ¬ 0 < φ 7 2) (by omega), if_neg (c := ¬ ((0 ≤ x ∧ x ≤ 2) ∨ (10 ≤ x ∧ x ≤ 33))) (by omega), cheV]
                  rw [if_pos (c := x = 0) (by omega), q35]
              · refine j_aload_0 (n' := 55) F dX7_cheapest_54 rfl ?_
                refine j_getR (n' := 58) F fl_X7_47 kap_0 rfl dX7_cheapest_55 rfl ?_
                refine j_iload_1 (n' := 59) F dX7_cheapest_58 rfl ?_
                refine j_bipush (n' := 61) F dX7_cheapest_59 (by decide) rfl ?_
                refine j_isub (n' := 62) F dX7_cheapest_61 rfl ?_
                refine j_cV1i (n' := 65) F kl_X7_183 (c_Row_get kap_90 kap_91 (by omega) (by omega)) kap_90 rfl (by decide) (Nat.le_of_ble_eq_true rfl) dX7_cheapest_62 rfl (fun z61 φ61 h61 => ?_)
                obtain ⟨rfl, rfl⟩ := h61
                refine j_ireturn F E dX7_cheapest_65 ?_
                have hn : 0 < φ 7 2 := by split at * <;> omega
                refine ⟨?_, hci, hf.wk (fun a h => by omega), fun _ => r9⟩
                rw [chC_pub hz hf]
                unfold spChe pubC
                dsimp only
                rw [if_neg (c := ¬ 0 < φ 7 2) (by omega), if_neg (c := ¬ ((0 ≤ x ∧ x ≤ 2) ∨ (10 ≤ x ∧ x ≤ 33))) (by omega), cheV]
                rw [if_neg (c := x = 0) (by omega), if_neg (c := x = 1) (by omega), if_neg (c := x = 2) (by omega), hs1]
                by_cases hq : x - 10 < ((toks (φ 35) (φ 8) 0 (φ 7 2)).length : Int)
                · rw [if_pos (by omega), if_pos hq, hrow.at (by omega) hq]
                · rw [if_neg (by omega), if_neg hq]
            · refine j_sipush (n' := 45) F dX7_cheapest_42 (by decide) rfl ?_
              exact j_ireturn F E dX7_cheapest_45 (⟨by unfold spChe pubC; dsimp only; rw [if_neg (by split at * <;> omega), if_pos (by omega)], hc, frC.rf, fun q => by omega⟩)
  · refine j_sipush (n' := 10) F dX7_cheapest_7 (by decide) rfl ?_
    exact j_ireturn F E dX7_cheapest_10 (⟨by unfold spChe pubC; dsimp only; rw [if_pos (by split at * <;> omega)], hc, frC.rf, fun q => by split at * <;> omega⟩)
set_option maxRecDepth 20000 in
theorem c_Cla_codeOf {l : Launch} {G : jG} {B0 : Nat} {φ : jPhi} {x : Int} (hc : ciOk φ) (hx : -2147483648 ≤ x ∧ x ≤ 2147483647) : jC l G B0 κF 113 yX7_codeOf cX7_codeOf 2 (some .int) 5 [rf B0 0, iv x] φ mkI (fun z φ' => (z, pubC φ') = spCod (pubC φ) x ∧ ciOk φ' ∧ frC (fun a => a < 99) φ φ') := by
  refine jC_start RX7 [some (rf B0 0), some (iv x)] (by decide) rfl (Nat.le_of_ble_eq_true rfl) rfl (fun X Q F E => ?_)
  have hc0 := hc
  obtain ⟨⟨c1, c2, c3, c4, c5, c6⟩, ch, rs⟩ := hc0
  have tkk := toks_ok (P := φ 35) (t := φ 8) (f := 0) (e := φ 7 2) (by omega) (by omega) c5
  refine j_aload_0 (n' := 1) F dX7_codeOf_0 rfl ?_
  refine j_cV0i (n' := 4) F kl_X7_155 (c_Cla_hasText c3) kap_0 rfl (by decide) (Nat.le_of_ble_eq_true rfl) dX7_codeOf_1 rfl (fun z1 φ1 h1 => ?_)
  obtain ⟨rfl, rfl⟩ := h1
  refine j_if_ne (t := 11) (n' := 7) F (by first | omega | (split <;> omega)) dX7_codeOf_4 (by decide) rfl (fun c4_1 => ?_) (fun c4_1 => ?_)
  · refine j_aload_0 (n' := 12) F dX7_codeOf_11 rfl ?_
    refine j_cV0v (n' := 15) F kl_X7_158 (c_Cla_chooseCheapest hc) kap_0 rfl (by decide) (Nat.le_of_ble_eq_true rfl) dX7_codeOf_12 rfl (fun z3 φ3 h3 => ?_)
    obtain ⟨hrow, r9, hci, hz, hf⟩ := h3
    refine j_aload_0 (n' := 16) F dX7_codeOf_15 rfl ?_
    refine j_getR (n' := 19) F fl_X7_47 kap_0 rfl dX7_codeOf_16 rfl ?_
    refine j_iload_1 (n' := 20) F dX7_codeOf_19 rfl ?_
    refine j_cV1i (n' := 23) F kl_X7_188 (c_Row_signAt kap_90 kap_91 hrow tkk.2 tkk.1 hx) kap_90 rfl (by decide) (Nat.le_of_ble_eq_true rfl) dX7_codeOf_20 rfl (fun z4 φ4 h4 => ?_)
    obtain ⟨rfl, rfl⟩ := h4
    refine j_ireturn F E dX7_codeOf_23 ?_
    have hn : 0 < φ 7 2 := by split at * <;> omega
    refine ⟨?_, hci, hf.wk (fun a h => by omega)⟩
    rw [chC_pub hz hf]
    unfold spCod pubC
    dsimp only
    rw [if_neg (c := ¬ 0 < φ 7 2) (by omega)]
  · refine j_sipush (n' := 10) F dX7_codeOf_7 (by decide) rfl ?_
    exact j_ireturn F E dX7_codeOf_10 (⟨by unfold spCod pubC; dsimp only; rw [if_pos (by split at * <;> omega)], hc, frC.rf⟩)
