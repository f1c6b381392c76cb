set_option maxRecDepth 20000 in
theorem c_Row_signs {l : Launch} {G : jG} {B0 : Nat} {φ : jPhi} {o r : Int} {ts : List Int} (hk : κF o = some (.inl (5, [.inl r, .inr 0, .inr 0, .inr 0]))) (hr : κF r = some (.inr (.inl 24))) (ht : rowIs φ o r ts) (hl : ts.length ≤ 24) (hok : rwOk ts) : jC l G B0 κF 113 yX6_signs cX6_signs 3 (some .int) 2 [rf B0 o] φ mkI (fun z φ' => φ = φ' ∧ z = rwSum tkSigns ts) := by
  refine jC_start RX6 [some (rf B0 o), none, none] (by decide) rfl (Nat.le_of_ble_eq_true rfl) rfl (fun X Q F E => ?_)
  have h1 := ht.1
  have loop : ∀ (m k : Nat) (a : Int), k + m = ts.length → 0 ≤ a → a ≤ 2 * k → a + rwSum tkSigns (ts.drop k) = rwSum tkSigns ts → jJ X G B0 κF 113 0 0 Q 3 φ 4 [some (rf B0 o), some (iv a), some (iv (k : Int))] [] := by
    intro m
    induction m with
    | zero =>
      intro k a h2 h3 h4 h5
      rw [List.drop_eq_nil_of_le (by omega)] at h5
      refine j_iload_2 (n' := 5) F dX6_signs_4 rfl ?_
      refine j_aload_0 (n' := 6) F dX6_signs_5 rfl ?_
      refine j_getI (n' := 9) F 1 rfl fl_X6_15 hk rfl dX6_signs_6 rfl ?_
      refine j_icmp_ge (t := 29) (n' := 12) F (by omega) (by omega) dX6_signs_9 (by decide) rfl (fun c9_0 => ?_) (fun c9_0 => ?_)
      · refine j_iload_1 (n' := 30) F dX6_signs_29 rfl ?_
        exact j_ireturn F E dX6_signs_30 (⟨rfl, by simpa [rwSum] using h5⟩)
      · omega
    | succ m ih =>
      intro k a h2 h3 h4 h5
      rw [rwSum_drop (by omega)] at h5
      have hb := tkSigns_bd (ts.getD k 0)
      have hx := hok _ (rw_mem (ts := ts) (k := k) (by omega))
      unfold tkOk at hx
      refine j_iload_2 (n' := 5) F dX6_signs_4 rfl ?_
      refine j_aload_0 (n' := 6) F dX6_signs_5 rfl ?_
      refine j_getI (n' := 9) F 1 rfl fl_X6_15 hk rfl dX6_signs_6 rfl ?_
      refine j_icmp_ge (t := 29) (n' := 12) F (by omega) (by omega) dX6_signs_9 (by decide) rfl (fun c9_0 => ?_) (fun c9_0 => ?_)
      · refine j_iload_1 (n' := 30) F dX6_signs_29 rfl ?_
        exact j_ireturn F E dX6_signs_30 (by omega)
      · refine j_iload_1 (n' := 13) F dX6_signs_12 rfl ?_
        refine j_aload_0 (n' := 14) F dX6_signs_13 rfl ?_
        refine j_iload_2 (n' := 15) F dX6_signs_14 rfl ?_
        refine j_cV1i (n' := 18) F kl_X6_34 (c_Row_get hk hr (by omega) (by omega)) hk rfl (by decide) (Nat.le_of_ble_eq_true rfl) dX6_signs_15 rfl (fun z2 φ2 h2 => ?_)
        obtain ⟨rfl, rfl⟩ := h2
        rw [if_pos (by omega), ht.2.2.2 k (by omega)]
        refine j_cS1i (n' := 21) F kl_X6_38 (c_Tok_signsOf (by omega)) (by decide) (Nat.le_of_ble_eq_true rfl) dX6_signs_18 rfl (fun z3 φ3 h3 => ?_)
        obtain ⟨rfl, rfl⟩ := h3
        refine j_iadd (n' := 22) F dX6_signs_21 rfl ?_
        refine j_istore_1 (n' := 23) F (by decide) jc_r dX6_signs_22 rfl ?_
        refine j_iinc_2 (n' := 26) F (by decide) jc_i dX6_signs_23 rfl ?_
        refine j_goto (t := 4) F dX6_signs_26 (by decide) ?_
        exact ih (k + 1) (a + tkSigns (ts.getD k 0)) (by omega) (by omega) (by omega) (by omega)
  refine j_iconst (n' := 1) F dX6_signs_0 rfl ?_
  refine j_istore_1 (n' := 2) F (by decide) jc_r dX6_signs_1 rfl ?_
  refine j_iconst (n' := 3) F dX6_signs_2 rfl ?_
  refine j_istore_2 (n' := 4) F (by decide) jc_i dX6_signs_3 rfl ?_
  exact loop ts.length 0 0 (by omega) (by omega) (by omega) (by simp)
set_option maxRecDepth 20000 in
theorem c_Row_signAt {l : Launch} {G : jG} {B0 : Nat} {φ : jPhi} {o r : Int} {x : Int} {ts : List Int} (hk : κF o = some (.inl (5, [.inl r, .inr 0, .inr 0, .inr 0]))) (hr : κF r = some (.inr (.inl 24))) (ht : rowIs φ o r ts) (hl : ts.length ≤ 24) (hok : rwOk ts) (hx : -2147483648 ≤ x ∧ x ≤ 2147483647) : jC l G B0 κF 113 yX6_signAt cX6_signAt 5 (some .int) 2 [rf B0 o, iv x] φ mkI (fun z φ' => φ = φ' ∧ z = (if x < 0 then -1 else sgnL ts x)) := by
  refine jC_start RX6 [some (rf B0 o), some (iv x), none, none, none] (by decide) rfl (Nat.le_of_ble_eq_true rfl) rfl (fun X Q F E => ?_)
  have h1 := ht.1
  have loop : ∀ (m k : Nat) (a : Int), 0 ≤ x → k + m = ts.length → 0 ≤ a → a ≤ 2 * k → a ≤ x → sgnL (ts.drop k) (x - a) = sgnL ts x → jJ X G B0 κF 113 0 0 Q 5 φ 10 [some (rf B0 o), some (iv x), some (iv a), some (iv (k : Int)), none] [] := by
    intro m
    induction m with
    | zero =>
      intro k a h0 h2 h3 h4 h6 h5
      rw [List.drop_eq_nil_of_le (by omega)] at h5
      refine j_iload_3 (n' := 11) F dX6_signAt_10 rfl ?_
      refine j_aload_0 (n' := 12) F dX6_signAt_11 rfl ?_
      refine j_getI (n' := 15) F 1 rfl fl_X6_15 hk rfl dX6_signAt_12 rfl ?_
      refine j_icmp_ge (t := 57) (n' := 18) F (by omega) (by omega) dX6_signAt_15 (by decide) rfl (fun c15_0 => ?_) (fun c15_0 => ?_)
      · refine j_iconst (n' := 58) F dX6_signAt_57 rfl ?_
        exact j_ireturn F E dX6_signAt_58 (⟨rfl, by rw [if_neg (by omega), ← h5]; rfl⟩)
      · omega
    | succ m ih =>
      intro k a h0 h2 h3 h4 h6 h5
      rw [sgnL_drop (by omega)] at h5
      have hb := tkSigns_bd (ts.getD k 0)
      have hx := hok _ (rw_mem (ts := ts) (k := k) (by omega))
      unfold tkOk at hx
      refine j_iload_3 (n' := 11) F dX6_signAt_10 rfl ?_
      refine j_aload_0 (n' := 12) F dX6_signAt_11 rfl ?_
      refine j_getI (n' := 15) F 1 rfl fl_X6_15 hk rfl dX6_signAt_12 rfl ?_
      refine j_icmp_ge (t := 57) (n' := 18) F (by omega) (by omega) dX6_signAt_15 (by decide) rfl (fun c15_0 => ?_) (fun c15_0 => ?_)
      · refine j_iconst (n' := 58) F dX6_signAt_57 rfl ?_
        exact j_ireturn F E dX6_signAt_58 (by omega)
      · refine j_iload_2 (n' := 19) F dX6_signAt_18 rfl ?_
        refine j_aload_0 (n' := 20) F dX6_signAt_19 rfl ?_
        refine j_iload_3 (n' := 21) F dX6_signAt_20 rfl ?_
        refine j_cV1i (n' := 24) F kl_X6_34 (c_Row_get hk hr (by omega) (by omega)) hk rfl (by decide) (Nat.le_of_ble_eq_true rfl) dX6_signAt_21 rfl (fun z2 φ2 h2 => ?_)
        obtain ⟨rfl, rfl⟩ := h2
        rw [if_pos (by omega), ht.2.2.2 k (by omega)]
        refine j_cS1i (n' := 27) F kl_X6_38 (c_Tok_signsOf (by omega)) (by decide) (Nat.le_of_ble_eq_true rfl) dX6_signAt_24 rfl (fun z3 φ3 h3 => ?_)
        obtain ⟨rfl, rfl⟩ := h3
        refine j_iadd (n' := 28) F dX6_signAt_27 rfl ?_
        refine j_istore_4 (n' := 30) F (by decide) jc_i dX6_signAt_28 rfl ?_
        refine j_iload_1 (n' := 31) F dX6_signAt_30 rfl ?_
        refine j_iload_4 (n' := 33) F dX6_signAt_31 rfl ?_
        refine j_icmp_ge (t := 48) (n' := 36) F (by omega) (by omega) dX6_signAt_33 (by decide) rfl (fun c33_3 => ?_) (fun c33_3 => ?_)
        · refine j_iload_4 (n' := 50) F dX6_signAt_48 rfl ?_
          refine j_istore_2 (n' := 51) F (by decide) jc_i dX6_signAt_50 rfl ?_
          refine j_iinc_3 (n' := 54) F (by decide) jc_i dX6_signAt_51 rfl ?_
          refine j_goto (t := 10) F dX6_signAt_54 (by decide) ?_
          exact j_weak (by exact ⟨rfl, rfl, rfl, rfl, trivial⟩) (ih (k + 1) (a + tkSigns (ts.getD k 0)) (by omega) (by omega) (by omega) (by omega) (by omega) (by rw [if_neg (by omega)] at h5; rw [← h5]; congr 1; omega))
        · refine j_aload_0 (n' := 37) F dX6_signAt_36 rfl ?_
          refine j_iload_3 (n' := 38) F dX6_signAt_37 rfl ?_
          refine j_cV1i (n' := 41) F kl_X6_34 (c_Row_get hk hr (by omega) (by omega)) hk rfl (by decide) (Nat.le_of_ble_eq_true rfl) dX6_signAt_38 rfl (fun z5 φ5 h5 => ?_)
          obtain ⟨rfl, rfl⟩ := h5
          rw [if_pos (by omega), ht.2.2.2 k (by omega)]
          refine j_iload_1 (n' := 42) F dX6_signAt_41 rfl ?_
          refine j_iload_2 (n' := 43) F dX6_signAt_42 rfl ?_
          refine j_isub (n' := 44) F dX6_signAt_43 rfl ?_
          refine j_cS2i (n' := 47) F kl_X6_41 (c_Tok_signOf (by omega) (by omega)) (by decide) (Nat.le_of_ble_eq_true rfl) dX6_signAt_44 rfl (fun z6 φ6 h6 => ?_)
          obtain ⟨rfl, rfl⟩ := h6
          exact j_ireturn F E dX6_signAt_47 (⟨rfl, by rw [if_neg (by omega), ← h5, if_pos (by omega)]⟩)
  refine j_iload_1 (n' := 1) F dX6_signAt_0 rfl ?_
  refine j_if_ge (t := 6) (n' := 4) F (by omega) dX6_signAt_1 (by decide) rfl (fun c1_0 => ?_) (fun c1_0 => ?_)
  · refine j_iconst (n' := 7) F dX6_signAt_6 rfl ?_
    refine j_istore_2 (n' := 8) F (by decide) jc_i dX6_signAt_7 rfl ?_
    refine j_iconst (n' := 9) F dX6_signAt_8 rfl ?_
    refine j_istore_3 (n' := 10) F (by decide) jc_i dX6_signAt_9 rfl ?_
    exact loop ts.length 0 0 (by omega) (by omega) (by omega) (by omega) (by omega) (by simp)
  · refine j_iconst (n' := 5) F dX6_signAt_4 rfl ?_
    exact j_ireturn F E dX6_signAt_5 (⟨rfl, by rw [if_pos (by omega)]⟩)
set_option maxRecDepth 20000 in
theorem c_Txt_compare {l : Launch} {G : jG} {B0 : Nat} {φ : jPhi}  (hs : 0 ≤ φ 7 2 ∧ φ 7 2 ≤ 24) (hle : ∀ k, 0 ≤ k → k < φ 7 2 → 0 ≤ φ 8 k ∧ φ 8 k ≤ 3) : jC l G B0 κF 113 yX4_compare cX4_compare 4 none 1 [rf B0 7] φ mkV (fun z φ' => alOk φ' ∧ frC (fun a => 10 ≤ a ∧ a < 34) φ φ') := by
  refine jC_start RX4 [some (rf B0 7), none, none, none] (by decide) rfl (Nat.le_of_ble_eq_true rfl) rfl (fun X Q F E => ?_)
  have outer : ∀ (m : Nat) (p : Int) (ψ : jPhi), p + 1 = m → p < φ 7 2 → (∀ q d, p < q → q < φ 7 2 → 1 ≤ d → d ≤ q → ψ (10 + q) d = lik (φ 8) (φ 7 2) 8 q d) → frC (fun a => 10 ≤ a ∧ a < 34) φ ψ → jJ X G B0 κF 113 0 0 Q 4 ψ 7 [some (rf B0 7), some (iv p), none, none] [] := by
    intro m
    induction m with
    | zero =>
      intro p ψ h1 h2 h3 h4
      have u7 : ψ 7 2 = φ 7 2 := h4 7 2 (by omega)
      have u8 : ψ 8 = φ 8 := funext fun b => h4 8 b (by omega)
      refine j_iload_1 (n' := 8) F dX4_compare_7 rfl ?_
      refine j_if_lt (t := 84) (n' := 11) F (by omega) dX4_compare_8 (by decide) rfl (fun c8_0 => ?_) (fun c8_0 => ?_)
      · exact j_return F E dX4_compare_84 (⟨fun q d g1 g2 g3 => by rw [u7, u8]; exact h3 q d (by omega) (by omega) g1 g2, h4⟩)
      · omega
    | succ m ih =>
      intro p ψ h1 h2 h3 h4
      have inner : ∀ (j : Nat) (d : Int) (χ : jPhi), d + j = p + 1 → 1 ≤ d → (∀ q d, p < q → q < φ 7 2 → 1 ≤ d → d ≤ q → χ (10 + q) d = lik (φ 8) (φ 7 2) 8 q d) → (∀ c, 1 ≤ c → c < d → χ (10 + p) c = lik (φ 8) (φ 7 2) 8 p c) → frC (fun a => 10 ≤ a ∧ a < 34) φ χ → jJ X G B0 κF 113 0 0 Q 4 χ 13 [some (rf B0 7), some (iv p), some (iv d), none] [] := by
        intro j
        induction j with
        | zero =>
          intro d χ g1 g2 g3 g4 g5
          refine j_iload_2 (n' := 14) F dX4_compare_13 rfl ?_
          refine j_iload_1 (n' := 15) F dX4_compare_14 rfl ?_
          refine j_icmp_gt (t := 78) (n' := 18) F (by omega) (by omega) dX4_compare_15 (by decide) rfl (fun c15_0 => ?_) (fun c15_0 => ?_)
          · refine j_iinc_1 (n' := 81) F (by decide) jc_r dX4_compare_78 rfl ?_
            refine j_goto (t := 7) F dX4_compare_81 (by decide) ?_
            refine j_weak (by exact ⟨rfl, rfl, trivial⟩) (ih (p + -1) χ (by omega) (by omega) (fun q c k1 k2 k3 k4 => ?_) g5)
            by_cases e : q = p
            · subst e
              exact g4 c k3 (by omega)
            · exact g3 q c (by omega) k2 k3 k4
          · omega
        | succ j ihj =>
          intro d χ g1 g2 g3 g4 g5
          have u7 : χ 7 2 = φ 7 2 := g5 7 2 (by omega)
          have u8 : χ 8 = φ 8 := funext fun b => g5 8 b (by omega)
          have b1 := hle p (by omega) (by omega)
          have b2 := hle (p - d) (by omega) (by omega)
          have hn := lik_next (t := φ 8) (e := φ 7 2) (p := p) (d := d) (by omega)
          have hb := lik_bd (φ 8) (φ 7 2) 8 (p + 1) d
          rw [← u8] at b1 b2
          rw [← u8, ← u7] at hn hb
          have hlk : (if p + 1 < χ 7 2 ∧ 1 ≤ d ∧ d ≤ p + 1 then χ (10 + (p + 1)) d else 0) = lik (χ 8) (χ 7 2) 8 (p + 1) d := by
            by_cases e : p + 1 < χ 7 2
            · rw [if_pos (by omega), u8, u7]
              exact g3 (p + 1) d (by omega) (by omega) (by omega) (by omega)
            · rw [if_neg (by omega), lik_end (by omega)]
          refine j_iload_2 (n' := 14) F dX4_compare_13 rfl ?_
          refine j_iload_1 (n' := 15) F dX4_compare_14 rfl ?_
          refine j_icmp_gt (t := 78) (n' := 18) F (by omega) (by omega) dX4_compare_15 (by decide) rfl (fun c15_0 => ?_) (fun c15_0 => ?_)
          · omega
          · refine j_aload_0 (n' := 19) F dX4_compare_18 rfl ?_
            refine j_getR (n' := 22) F fl_X4_9 kap_7 rfl dX4_compare_19 rfl ?_
            refine j_iload_1 (n' := 23) F dX4_compare_22 rfl ?_
            refine j_iald (n' := 24) F kap_8 (by decide) (by omega) dX4_compare_23 rfl ?_
            refine j_aload_0 (n' := 25) F dX4_compare_24 rfl ?_
            refine j_getR (n' := 28) F fl_X4_9 kap_7 rfl dX4_compare_25 rfl ?_
            refine j_iload_1 (n' := 29) F dX4_compare_28 rfl ?_
            refine j_iload_2 (n' := 30) F dX4_compare_29 rfl ?_
            refine j_isub (n' := 31) F dX4_compare_30 rfl ?_
            refine j_iald (n' := 32) F kap_8 (by decide) (by omega) dX4_compare_31 rfl ?_
            refine j_icmp_ne (t := 39) (n' := 35) F (by omega) (by omega) dX4_compare_32 (by decide) rfl (fun c32_1 => ?_) (fun c32_1 => ?_)
            · refine j_iconst (n' := 40) F dX4_compare_39 rfl ?_
              refine j_istore_3 (n' := 41) F (by decide) jc_i dX4_compare_40 rfl ?_
              refine j_aload_0 (n' := 42) F dX4_compare_41 rfl ?_
              refine j_getR (n' := 45) F fl_X4_17 kap_7 rfl dX4_compare_42 rfl ?_
              refine j_iload_1 (n' := 46) F dX4_compare_45 rfl ?_
              refine j_aald (n' := 47) F kap_9 (by decide) (by omega) dX4_compare_46 rfl ?_
              refine j_iload_2 (n' := 48) F dX4_compare_47 rfl ?_
              refine j_iload_3 (n' := 49) F dX4_compare_48 rfl ?_
              refine j_if_eq (t := 70) (n' := 52) F (by omega) dX4_compare_49 (by decide) rfl (fun c49_2 => ?_) (fun c49_2 => ?_)
              · refine j_iconst (n' := 71) F dX4_compare_70 rfl ?_
                refine j_iast (n' := 72) F (kap_al (by omega)) (by decide) (by omega) dX4_compare_71 rfl (fun φ4 e4 => ?_)
                refine j_iinc_2 (n' := 75) F (by decide) jc_i dX4_compare_72 rfl ?_
                refine j_goto (t := 13) F dX4_compare_75 (by decide) ?_
                refine j_weak (by exact ⟨rfl, rfl, rfl, trivial⟩) (ihj (d + 1) φ4 (by omega) (by omega) (fun q c k1 k2 k3 k4 => ?_) (fun c k1 k2 => ?_) ?_)
                · rw [e4, zU_ne (by omega)]
                  exact g3 q c k1 k2 k3 k4
                · by_cases e : c = d
                  · subst e
                    rw [e4, zU_self, ← u8, ← u7, hn]
                    first | (rw [if_pos (by omega)]; done) | (rw [if_neg (by omega)]; done)
                  · rw [e4, zU_ne (by omega)]
                    exact g4 c k1 (by omega)
                · rw [e4]
                  exact g5.put (by omega)
              · refine j_bipush (n' := 54) F dX4_compare_52 (by decide) rfl ?_
                refine j_iconst (n' := 55) F dX4_compare_54 rfl ?_
                refine j_aload_0 (n' := 56) F dX4_compare_55 rfl ?_
                refine j_iload_1 (n' := 57) F dX4_compare_56 rfl ?_
                refine j_iconst (n' := 58) F dX4_compare_57 rfl ?_
                refine j_iadd (n' := 59) F dX4_compare_58 rfl ?_
                refine j_iload_2 (n' := 60) F dX4_compare_59 rfl ?_
                refine j_cV2i (n' := 63) F kl_X4_28 (c_Txt_likeness (by omega) (by omega) (by omega)) kap_7 rfl (by decide) (Nat.le_of_ble_eq_true rfl) dX4_compare_60 rfl (fun z5 φ5 h5 => ?_)
                obtain ⟨rfl, rfl⟩ := h5
                rw [hlk]
                refine j_iadd (n' := 64) F dX4_compare_63 rfl ?_
                refine j_min (n' := 67) F q_318 (by decide) (Nat.le_of_ble_eq_true rfl) (by omega) (by omega) dX4_compare_64 rfl ?_
                refine j_goto (t := 71) F dX4_compare_67 (by decide) ?_
                refine j_iast (n' := 72) F (kap_al (by omega)) (by decide) (by omega) dX4_compare_71 rfl (fun φ6 e6 => ?_)
                refine j_iinc_2 (n' := 75) F (by decide) jc_i dX4_compare_72 rfl ?_
                refine j_goto (t := 13) F dX4_compare_75 (by decide) ?_
                refine j_weak (by exact ⟨rfl, rfl, rfl, trivial⟩) (ihj (d + 1) φ6 (by omega) (by omega) (fun q c k1 k2 k3 k4 => ?_) (fun c k1 k2 => ?_) ?_)
                · rw [e6, zU_ne (by omega)]
                  exact g3 q c k1 k2 k3 k4
                · by_cases e : c = d
                  · subst e
                    rw [e6, zU_self, ← u8, ← u7, hn]
                    first | (rw [if_pos (by omega)]; done) | (rw [if_neg (by omega)]; done)
                  · rw [e6, zU_ne (by omega)]
                    exact g4 c k1 (by omega)
                · rw [e6]
                  exact g5.put (by omega)
            · refine j_iconst (n' := 36) F dX4_compare_35 rfl ?_
              refine j_goto (t := 40) F dX4_compare_36 (by decide) ?_
              refine j_istore_3 (n' := 41) F (by decide) jc_i dX4_compare_40 rfl ?_
              refine j_aload_0 (n' := 42) F dX4_compare_41 rfl ?_
              refine j_getR (n' := 45) F fl_X4_17 kap_7 rfl dX4_compare_42 rfl ?_
              refine j_iload_1 (n' := 46) F dX4_compare_45 rfl ?_
              refine j_aald (n' := 47) F kap_9 (by decide) (by omega) dX4_compare_46 rfl ?_
              refine j_iload_2 (n' := 48) F dX4_compare_47 rfl ?_
              refine j_iload_3 (n' := 49) F dX4_compare_48 rfl ?_
              refine j_if_eq (t := 70) (n' := 52) F (by omega) dX4_compare_49 (by decide) rfl (fun c49_6 => ?_) (fun c49_6 => ?_)
              · refine j_iconst (n' := 71) F dX4_compare_70 rfl ?_
                refine j_iast (n' := 72) F (kap_al (by omega)) (by decide) (by omega) dX4_compare_71 rfl (fun φ8 e8 => ?_)
                refine j_iinc_2 (n' := 75) F (by decide) jc_i dX4_compare_72 rfl ?_
                refine j_goto (t := 13) F dX4_compare_75 (by decide) ?_
                refine j_weak (by exact ⟨rfl, rfl, rfl, trivial⟩) (ihj (d + 1) φ8 (by omega) (by omega) (fun q c k1 k2 k3 k4 => ?_) (fun c k1 k2 => ?_) ?_)
                · rw [e8, zU_ne (by omega)]
                  exact g3 q c k1 k2 k3 k4
                · by_cases e : c = d
                  · subst e
                    rw [e8, zU_self, ← u8, ← u7, hn]
                    first | (rw [if_pos (by omega)]; done) | (rw [if_neg (by omega)]; done)
                  · rw [e8, zU_ne (by omega)]
                    exact g4 c k1 (by omega)
                · rw [e8]
                  exact g5.put (by omega)
              · refine j_bipush (n' := 54) F dX4_compare_52 (by decide) rfl ?_
                refine j_iconst (n' := 55) F dX4_compare_54 rfl ?_
                refine j_aload_0 (n' := 56) F dX4_compare_55 rfl ?_
                refine j_iload_1 (n' := 57) F dX4_compare_56 rfl ?_
                refine j_iconst (n' := 58) F dX4_compare_57 rfl ?_
                refine j_iadd (n' := 59) F dX4_compare_58 rfl ?_
                refine j_iload_2 (n' := 60) F dX4_compare_59 rfl ?_
                refine j_cV2i (n' := 63) F kl_X4_28 (c_Txt_likeness (by omega) (by omega) (by omega)) kap_7 rfl (by decide) (Nat.le_of_ble_eq_true rfl) dX4_compare_60 rfl (fun z9 φ9 h9 => ?_)
                obtain ⟨rfl, rfl⟩ := h9
                rw [hlk]
                refine j_iadd (n' := 64) F dX4_compare_63 rfl ?_
                refine j_min (n' := 67) F q_318 (by decide) (Nat.le_of_ble_eq_true rfl) (by omega) (by omega) dX4_compare_64 rfl ?_
                refine j_goto (t := 71) F dX4_compare_67 (by decide) ?_
                refine j_iast (n' := 72) F (kap_al (by omega)) (by decide) (by omega) dX4_compare_71 rfl (fun φ10 e10 => ?_)
                refine j_iinc_2 (n' := 75) F (by decide) jc_i dX4_compare_72 rfl ?_
                refine j_goto (t := 13) F dX4_compare_75 (by decide) ?_
                refine j_weak (by exact ⟨rfl, rfl, rfl, trivial⟩) (ihj (d + 1) φ10 (by omega) (by omega) (fun q c k1 k2 k3 k4 => ?_) (fun c k1 k2 => ?_) ?_)
                · rw [e10, zU_ne (by omega)]
                  exact g3 q c k1 k2 k3 k4
                · by_cases e : c = d
                  · subst e
                    rw [e10, zU_self, ← u8, ← u7, hn]
                    first | (rw [if_pos (by omega)]; done) | (rw [if_neg (by omega)]; done)
                  · rw [e10, zU_ne (by omega)]
                    exact g4 c k1 (by omega)
                · rw [e10]
                  exact g5.put (by omega)
      refine j_iload_1 (n' := 8) F dX4_compare_7 rfl ?_
      refine j_if_lt (t := 84) (n' := 11) F (by omega) dX4_compare_8 (by decide) rfl (fun c8_0 => ?_) (fun c8_0 => ?_)
      · omega
      · refine j_iconst (n' := 12) F dX4_compare_11 rfl ?_
        refine j_istore_2 (n' := 13) F (by decide) jc_i dX4_compare_12 rfl ?_
        exact inner (p - 0).toNat 1 ψ (by omega) (by omega) h3 (fun c k1 k2 => by omega) h4
  refine j_aload_0 (n' := 1) F dX4_compare_0 rfl ?_
  refine j_getI (n' := 4) F 2 rfl fl_X4_20 kap_7 rfl dX4_compare_1 rfl ?_
  refine j_iconst (n' := 5) F dX4_compare_4 rfl ?_
  refine j_isub (n' := 6) F dX4_compare_5 rfl ?_
  refine j_istore_1 (n' := 7) F (by decide) jc_r dX4_compare_6 rfl ?_
  exact outer (φ 7 2).toNat (φ 7 2 - 1) φ (by omega) (by omega) (fun q d k1 k2 => by omega) frC.rf
set_option maxRecDepth 20000 in
theorem c_Txt_longestDistance {l : Launch} {G : jG} {B0 : Nat} {φ : jPhi} {x : Int} (hs : 0 ≤ φ 7 2 ∧ φ 7 2 ≤ 24) (hal : alOk φ) (hx : 0 ≤ x ∧ x < φ 7 2) : jC l G B0 κF 113 yX4_longestDistance cX4_longestDistance 6 (some .int) 1 [rf B0 7, iv x] φ mkI (fun z φ' => φ = φ' ∧ z = (farOf' (lik (φ 8) (φ 7 2) 8 x) x).1) := by
  refine jC_start RX4 [some (rf B0 7), some (iv x), none, none, none, none] (by decide) rfl (Nat.le_of_ble_eq_true rfl) rfl (fun X Q F E => ?_)
  have hlk : ∀ d, 1 ≤ d → d ≤ x → (if x < φ 7 2 ∧ 1 ≤ d ∧ d ≤ x then φ (10 + x) d else 0) = lik (φ 8) (φ 7 2) 8 x d := fun d h1 h2 => by
    rw [if_pos (by omega)]
    exact hal x d h1 h2 (by omega)
  have loop : ∀ (m : Nat) (d b n : Int), d + m = x + 1 → 1 ≤ d → 0 ≤ n → n ≤ 8 → (lpI (farS (lik (φ 8) (φ 7 2) 8 x)) d (x + 1) (b, n)).1 = (farOf' (lik (φ 8) (φ 7 2) 8 x) x).1 → jJ X G B0 κF 113 0 0 Q 6 φ 7 [some (rf B0 7), some (iv x), some (iv b), some (iv n), some (iv d), none] [] := by
    intro m
    induction m with
    | zero =>
      intro d b n h1 h2 h3 h4 h5
      rw [lpI_end (by omega)] at h5
      refine j_aload_0 (n' := 8) F dX4_longestDistance_7 rfl ?_
      refine j_iload_1 (n' := 9) F dX4_longestDistance_8 rfl ?_
      refine j_cV1i (n' := 12) F kl_X4_24 (c_Txt_has hs (by omega)) kap_7 rfl (by decide) (Nat.le_of_ble_eq_true rfl) dX4_longestDistance_9 rfl (fun z1 φ1 h1 => ?_)
      obtain ⟨rfl, rfl⟩ := h1
      refine j_if_eq (t := 48) (n' := 15) F (by first | omega | (split <;> omega)) dX4_longestDistance_12 (by decide) rfl (fun c12_1 => ?_) (fun c12_1 => ?_)
      · refine j_iload_2 (n' := 49) F dX4_longestDistance_48 rfl ?_
        exact j_ireturn F E dX4_longestDistance_49 (⟨rfl, h5⟩)
      · refine j_iload_4 (n' := 17) F dX4_longestDistance_15 rfl ?_
        refine j_iload_1 (n' := 18) F dX4_longestDistance_17 rfl ?_
        refine j_icmp_gt (t := 48) (n' := 21) F (by first | omega | (split <;> omega)) (by first | omega | (split <;> omega)) dX4_longestDistance_18 (by decide) rfl (fun c18_2 => ?_) (fun c18_2 => ?_)
        · refine j_iload_2 (n' := 49) F dX4_longestDistance_48 rfl ?_
          exact j_ireturn F E dX4_longestDistance_49 (⟨rfl, h5⟩)
        · omega
    | succ m ih =>
      intro d b n h1 h2 h3 h4 h5
      have hb := lik_bd (φ 8) (φ 7 2) 8 x d
      rw [lpI_step (by omega), farS] at h5
      refine j_aload_0 (n' := 8) F dX4_longestDistance_7 rfl ?_
      refine j_iload_1 (n' := 9) F dX4_longestDistance_8 rfl ?_
      refine j_cV1i (n' := 12) F kl_X4_24 (c_Txt_has hs (by omega)) kap_7 rfl (by decide) (Nat.le_of_ble_eq_true rfl) dX4_longestDistance_9 rfl (fun z1 φ1 h1 => ?_)
      obtain ⟨rfl, rfl⟩ := h1
      refine j_if_eq (t := 48) (n' := 15) F (by first | omega | (split <;> omega)) dX4_longestDistance_12 (by decide) rfl (fun c12_1 => ?_) (fun c12_1 => ?_)
      · first | omega | (rw [if_pos (by omega)] at *; omega)
      · refine j_iload_4 (n' := 17) F dX4_longestDistance_15 rfl ?_
        refine j_iload_1 (n' := 18) F dX4_longestDistance_17 rfl ?_
        refine j_icmp_gt (t := 48) (n' := 21) F (by first | omega | (split <;> omega)) (by first | omega | (split <;> omega)) dX4_longestDistance_18 (by decide) rfl (fun c18_2 => ?_) (fun c18_2 => ?_)
        · first | omega | (rw [if_pos (by omega)] at *; omega)
        · refine j_aload_0 (n' := 22) F dX4_longestDistance_21 rfl ?_
          refine j_iload_1 (n' := 23) F dX4_longestDistance_22 rfl ?_
          refine j_iload_4 (n' := 25) F dX4_longestDistance_23 rfl ?_
          refine j_cV2i (n' := 28) F kl_X4_28 (c_Txt_likeness hs (by omega) (by omega)) kap_7 rfl (by decide) (Nat.le_of_ble_eq_true rfl) dX4_longestDistance_25 rfl (fun z4 φ4 h4 => ?_)
          obtain ⟨rfl, rfl⟩ := h4
          rw [hlk d (by omega) (by omega)]
          refine j_istore_5 (n' := 30) F (by decide) jc_i dX4_longestDistance_28 rfl ?_
          refine j_iload_5 (n' := 32) F dX4_longestDistance_30 rfl ?_
          refine j_iload_3 (n' := 33) F dX4_longestDistance_32 rfl ?_
          refine j_icmp_le (t := 42) (n' := 36) F (by first | omega | (split <;> omega)) (by first | omega | (split <;> omega)) dX4_longestDistance_33 (by decide) rfl (fun c33_4 => ?_) (fun c33_4 => ?_)
          · refine j_iinc_4 (n' := 45) F (by decide) jc_i dX4_longestDistance_42 rfl ?_
            refine j_goto (t := 7) F dX4_longestDistance_45 (by decide) ?_
            first
              | exact j_weak (by exact ⟨rfl, rfl, rfl, rfl, rfl, trivial⟩) (ih (d + 1) d (lik (φ 8) (φ 7 2) 8 x d) (by omega) (by omega) (by omega) (by omega) (by rw [if_pos (by omega)] at h5; exact h5))
              | exact j_weak (by exact ⟨rfl, rfl, rfl, rfl, rfl, trivial⟩) (ih (d + 1) b n (by omega) (by omega) (by omega) (by omega) (by rw [if_neg (by omega)] at h5; exact h5))
          · refine j_iload_5 (n' := 38) F dX4_longestDistance_36 rfl ?_
            refine j_istore_3 (n' := 39) F (by decide) jc_i dX4_longestDistance_38 rfl ?_
            refine j_iload_4 (n' := 41) F dX4_longestDistance_39 rfl ?_
            refine j_istore_2 (n' := 42) F (by decide) jc_i dX4_longestDistance_41 rfl ?_
            refine j_iinc_4 (n' := 45) F (by decide) jc_i dX4_longestDistance_42 rfl ?_
            refine j_goto (t := 7) F dX4_longestDistance_45 (by decide) ?_
            first
              | exact j_weak (by exact ⟨rfl, rfl, rfl, rfl, rfl, trivial⟩) (ih (d + 1) d (lik (φ 8) (φ 7 2) 8 x d) (by omega) (by omega) (by omega) (by omega) (by rw [if_pos (by omega)] at h5; exact h5))
              | exact j_weak (by exact ⟨rfl, rfl, rfl, rfl, rfl, trivial⟩) (ih (d + 1) b n (by omega) (by omega) (by omega) (by omega) (by rw [if_neg (by omega)] at h5; exact h5))
  refine j_iconst (n' := 1) F dX4_longestDistance_0 rfl ?_
  refine j_istore_2 (n' := 2) F (by decide) jc_i dX4_longestDistance_1 rfl ?_
  refine j_iconst (n' := 3) F dX4_longestDistance_2 rfl ?_
  refine j_istore_3 (n' := 4) F (by decide) jc_i dX4_longestDistance_3 rfl ?_
  refine j_iconst (n' := 5) F dX4_longestDistance_4 rfl ?_
  refine j_istore_4 (n' := 7) F (by decide) jc_i dX4_longestDistance_5 rfl ?_
  exact loop x.toNat 1 0 1 (by omega) (by omega) (by omega) (by omega) rfl
set_option maxRecDepth 20000 in
theorem c_Txt_chainPlace {l : Launch} {G : jG} {B0 : Nat} {φ : jPhi} {x k : Int} (hs : 0 ≤ φ 7 2 ∧ φ 7 2 ≤ 24) (hal : alOk φ) (hx : 0 ≤ x ∧ x < φ 7 2) (hk : -2147483648 ≤ k ∧ k ≤ 2147483647) : jC l G B0 κF 113 yX4_chainPlace cX4_chainPlace 5 (some .int) 1 [rf B0 7, iv x, iv k] φ mkI (fun z φ' => φ = φ' ∧ z = chF (lik (φ 8) (φ 7 2) 8 x) x 25 1 k) := by
  refine jC_start RX4 [some (rf B0 7), some (iv x), some (iv k), none, none] (by decide) rfl (Nat.le_of_ble_eq_true rfl) rfl (fun X Q F E => ?_)
  have hlk : ∀ d, 1 ≤ d → d ≤ x → (if x < φ 7 2 ∧ 1 ≤ d ∧ d ≤ x then φ (10 + x) d else 0) = lik (φ 8) (φ 7 2) 8 x d := fun d h1 h2 => by
    rw [if_pos (by omega)]
    exact hal x d h1 h2 (by omega)
  have loop : ∀ (m : Nat) (d n : Int), d + m = 26 → 1 ≤ d → d ≤ x + 1 → 0 ≤ n → n < d → chF (lik (φ 8) (φ 7 2) 8 x) x m d (k - n) = chF (lik (φ 8) (φ 7 2) 8 x) x 25 1 k → jJ X G B0 κF 113 0 0 Q 5 φ 5 [some (rf B0 7), some (iv x), some (iv k), some (iv n), some (iv d)] [] := by
    intro m
    induction m with
    | zero =>
      intro d n h1 h2 h3 h4 h5
      omega
    | succ m ih =>
      intro d n h1 h2 h3 h4 h5 h6
      have hb := lik_bd (φ 8) (φ 7 2) 8 x d
      rw [chF] at h6
      refine j_aload_0 (n' := 6) F dX4_chainPlace_5 rfl ?_
      refine j_iload_1 (n' := 7) F dX4_chainPlace_6 rfl ?_
      refine j_cV1i (n' := 10) F kl_X4_24 (c_Txt_has hs (by omega)) kap_7 rfl (by decide) (Nat.le_of_ble_eq_true rfl) dX4_chainPlace_7 rfl (fun z1 φ1 h1 => ?_)
      obtain ⟨rfl, rfl⟩ := h1
      refine j_if_eq (t := 49) (n' := 13) F (by first | omega | (split <;> omega)) dX4_chainPlace_10 (by decide) rfl (fun c10_1 => ?_) (fun c10_1 => ?_)
      · refine j_iconst (n' := 50) F dX4_chainPlace_49 rfl ?_
        exact j_ireturn F E dX4_chainPlace_50 (⟨rfl, by first | (rw [if_neg (by omega)] at h6; exact h6) | (rw [if_pos (by omega)] at *; omega) | omega⟩)
      · refine j_iload_4 (n' := 15) F dX4_chainPlace_13 rfl ?_
        refine j_iload_1 (n' := 16) F dX4_chainPlace_15 rfl ?_
        refine j_icmp_gt (t := 49) (n' := 19) F (by first | omega | (split <;> omega)) (by first | omega | (split <;> omega)) dX4_chainPlace_16 (by decide) rfl (fun c16_2 => ?_) (fun c16_2 => ?_)
        · refine j_iconst (n' := 50) F dX4_chainPlace_49 rfl ?_
          exact j_ireturn F E dX4_chainPlace_50 (⟨rfl, by first | (rw [if_neg (by omega)] at h6; exact h6) | (rw [if_pos (by omega)] at *; omega) | omega⟩)
        · refine j_aload_0 (n' := 20) F dX4_chainPlace_19 rfl ?_
          refine j_iload_1 (n' := 21) F dX4_chainPlace_20 rfl ?_
          refine j_iload_4 (n' := 23) F dX4_chainPlace_21 rfl ?_
          refine j_cV2i (n' := 26) F kl_X4_28 (c_Txt_likeness hs (by omega) (by omega)) kap_7 rfl (by decide) (Nat.le_of_ble_eq_true rfl) dX4_chainPlace_23 rfl (fun z4 φ4 h4 => ?_)
          obtain ⟨rfl, rfl⟩ := h4
          rw [hlk d (by omega) (by omega)]
          refine j_iconst (n' := 27) F dX4_chainPlace_26 rfl ?_
          refine j_icmp_lt (t := 43) (n' := 30) F (by first | omega | (split <;> omega)) (by first | omega | (split <;> omega)) dX4_chainPlace_27 (by decide) rfl (fun c27_4 => ?_) (fun c27_4 => ?_)
          · refine j_iinc_4 (n' := 46) F (by decide) jc_i dX4_chainPlace_43 rfl ?_
            refine j_goto (t := 5) F dX4_chainPlace_46 (by decide) ?_
            first
              | exact ih (d + 1) (n + 1) (by omega) (by omega) (by omega) (by omega) (by omega) (by rw [if_pos (by omega), if_pos (by omega), if_neg (by omega)] at h6; rw [← h6]; congr 1; omega)
              | exact ih (d + 1) n (by omega) (by omega) (by omega) (by omega) (by omega) (by rw [if_pos (by omega), if_neg (by omega)] at h6; exact h6)
          · refine j_iload_3 (n' := 31) F dX4_chainPlace_30 rfl ?_
            refine j_iload_2 (n' := 32) F dX4_chainPlace_31 rfl ?_
            refine j_icmp_ne (t := 40) (n' := 35) F (by first | omega | (split <;> omega)) (by first | omega | (split <;> omega)) dX4_chainPlace_32 (by decide) rfl (fun c32_5 => ?_) (fun c32_5 => ?_)
            · refine j_iinc_3 (n' := 43) F (by decide) jc_i dX4_chainPlace_40 rfl ?_
              refine j_iinc_4 (n' := 46) F (by decide) jc_i dX4_chainPlace_43 rfl ?_
              refine j_goto (t := 5) F dX4_chainPlace_46 (by decide) ?_
              first
                | exact ih (d + 1) (n + 1) (by omega) (by omega) (by omega) (by omega) (by omega) (by rw [if_pos (by omega), if_pos (by omega), if_neg (by omega)] at h6; rw [← h6]; congr 1; omega)
                | exact ih (d + 1) n (by omega) (by omega) (by omega) (by omega) (by omega) (by rw [if_pos (by omega), if_neg (by omega)] at h6; exact h6)
            · refine j_iload_1 (n' := 36) F dX4_chainPlace_35 rfl ?_
              refine j_iload_4 (n' := 38) F dX4_chainPlace_36 rfl ?_
              refine j_isub (n' := 39) F dX4_chainPlace_38 rfl ?_
              exact j_ireturn F E dX4_chainPlace_39 (⟨rfl, by rw [if_pos (by omega), if_pos (by omega), if_pos (by omega)] at h6; exact h6⟩)
  refine j_iconst (n' := 1) F dX4_chainPlace_0 rfl ?_
  refine j_istore_3 (n' := 2) F (by decide) jc_i dX4_chainPlace_1 rfl ?_
  refine j_iconst (n' := 3) F dX4_chainPlace_2 rfl ?_
  refine j_istore_4 (n' := 5) F (by decide) jc_i dX4_chainPlace_3 rfl ?_
  exact loop 25 1 0 (by omega) (by omega) (by omega) (by omega) (by omega) (by rw [Int.sub_zero])
