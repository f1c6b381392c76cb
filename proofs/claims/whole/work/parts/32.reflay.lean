set_option maxRecDepth 20000 in
theorem c_Mod_layCheapest {l : Launch} {G : jG} {B0 : Nat} {φ : jPhi} {fr n : Int} (hc : miOk φ) (hp : 0 ≤ fr ∧ 1 ≤ n ∧ fr + n ≤ φ 99 2) : jC l G B0 κF 113 yX8_layCheapest cX8_layCheapest 5 (some .int) 3 [rf B0 99, iv fr, iv n] φ mkI (fun z φ' => z = rwSum (tkPrice (φ 102)) (toks (φ 102) (φ 101) fr (fr + n)) ∧ z = φ' 104 0 ∧ (∀ q d, fr ≤ q → q ≤ fr + n → (d = 0 ∨ (1 ≤ d ∧ d < q - fr)) → mtOk φ' (φ 102) (φ 101) fr (fr + n) q d) ∧ frC (fun a => a = 104 ∨ a = 105 ∨ a = 106 ∨ a = 107) φ φ') := by
  refine jC_start RX8 [some (rf B0 99), some (iv fr), some (iv n), none, none] (by decide) rfl (Nat.le_of_ble_eq_true rfl) rfl (fun X Q F E => ?_)
  have hc0 := hc
  obtain ⟨c1, c2, c3, c5, c6⟩ := hc0
  have hte : txOk (φ 101) (fr + n) := fun k q1 q2 => c5 k q1 (by omega)
  have fin : ∀ (p : Int) (ψ : jPhi), p = -1 → (∀ q d, fr + p < q → q ≤ fr + n → (d = 0 ∨ (1 ≤ d ∧ d < q - fr)) → mtOk ψ (φ 102) (φ 101) fr (fr + n) q d) → frC (fun a => a = 104 ∨ a = 105 ∨ a = 106 ∨ a = 107) φ ψ → jJ X G B0 κF 113 0 0 Q 5 ψ 106 [some (rf B0 99), some (iv fr), some (iv n), some (iv p), none] [] := by
    intro p ψ h1 h2 h3
    have hm := h2 fr 0 (by omega) (by omega) (Or.inl rfl)
    obtain ⟨m1, m2, m3, m4, m5⟩ := hm
    have hsum := Tw_sum (P := φ 102) hp.1 (by omega) hte 24 fr 0 (by omega) (by omega) (by omega)
    have hlen := toks_len (F := Tf (φ 102) (φ 101) fr (fr + n)) (e := fr + n) 24 fr 0
    rw [hsum, show 25 * (fr - fr) + 0 = (0 : Int) by omega] at m1
    rw [show 25 * (fr - fr) + 0 = (0 : Int) by omega] at m3 m4 m5
    refine j_iload_3 (n' := 107) F dX8_layCheapest_106 rfl ?_
    refine j_if_lt (t := 151) (n' := 110) F (by omega) dX8_layCheapest_107 (by decide) rfl (fun c107_0 => ?_) (fun c107_0 => ?_)
    · refine j_aload_0 (n' := 152) F dX8_layCheapest_151 rfl ?_
      refine j_getR (n' := 155) F fl_X8_22 kap_99 rfl dX8_layCheapest_152 rfl ?_
      refine j_iconst (n' := 156) F dX8_layCheapest_155 rfl ?_
      refine j_iald (n' := 157) F kap_104 (by decide) (by omega) dX8_layCheapest_156 rfl ?_
      exact j_ireturn F E dX8_layCheapest_157 (⟨by unfold toks; omega, rfl, fun q d q1 q2 q3 => h2 q d (by omega) q2 q3, h3⟩)
    · omega
  have main : ∀ (m : Nat) (p : Int) (ψ : jPhi), p + 1 = m → p < n → (∀ p d, 0 ≤ p → p < n → 1 ≤ d → d ≤ p → ψ 107 (25 * p + d) = lik (φ 101) (fr + n) 8 (fr + p) d) → (∀ q d, fr + p < q → q ≤ fr + n → (d = 0 ∨ (1 ≤ d ∧ d < q - fr)) → mtOk ψ (φ 102) (φ 101) fr (fr + n) q d) → frC (fun a => a = 104 ∨ a = 105 ∨ a = 106 ∨ a = 107) φ ψ → jJ X G B0 κF 113 0 0 Q 5 ψ 106 [some (rf B0 99), some (iv fr), some (iv n), some (iv p), none] [] := by
    intro m
    induction m with
    | zero =>
      intro p ψ h1 h2 h3 h4 h5
      exact fin p ψ (by omega) h4 h5
    | succ m ih =>
      intro p ψ0 h1 h2 h3 h4 h5
      have inner : ∀ (j : Nat) (la : Int) (ψ : jPhi), la + j = 25 → 0 ≤ la → (la ≤ 1 ∨ la ≤ p) → (∀ p d, 0 ≤ p → p < n → 1 ≤ d → d ≤ p → ψ 107 (25 * p + d) = lik (φ 101) (fr + n) 8 (fr + p) d) → (∀ q d, fr + p < q → q ≤ fr + n → (d = 0 ∨ (1 ≤ d ∧ d < q - fr)) → mtOk ψ (φ 102) (φ 101) fr (fr + n) q d) → (∀ d, d < la → (d = 0 ∨ (1 ≤ d ∧ d < p)) → mtOk ψ (φ 102) (φ 101) fr (fr + n) (fr + p) d) → frC (fun a => a = 104 ∨ a = 105 ∨ a = 106 ∨ a = 107) φ ψ → jJ X G B0 κF 113 0 0 Q 5 ψ 113 [some (rf B0 99), some (iv fr), some (iv n), some (iv p), some (iv la)] [] := by
        intro j
        induction j with
        | zero =>
          intro la ψ g1 g2 g3 g4 g5 g6 g7
          refine j_iload_4 (n' := 115) F dX8_layCheapest_113 rfl ?_
          refine j_bipush (n' := 117) F dX8_layCheapest_115 (by decide) rfl ?_
          refine j_icmp_ge (t := 145) (n' := 120) F (by omega) (by omega) dX8_layCheapest_117 (by decide) rfl (fun c117_0 => ?_) (fun c117_0 => ?_)
          · refine j_iinc_3 (n' := 148) F (by decide) jc_i dX8_layCheapest_145 rfl ?_
            refine j_goto (t := 106) F dX8_layCheapest_148 (by decide) ?_
            refine j_weak (by exact ⟨rfl, rfl, rfl, rfl, trivial⟩) (ih (p + -1) ψ (by omega) (by omega) g4 (fun q d q1 q2 q3 => ?_) g7)
            by_cases e : q = fr + p
            · rw [e]
              exact g6 d (by omega) (by omega)
            · exact g5 q d (by omega) q2 q3
          · omega
        | succ j ihj =>
          intro la ψ g1 g2 g3 g4 g5 g6 g7
          have v1 : ψ 101 = φ 101 := funext fun b => g7 101 b (by omega)
          have v2 : ψ 102 = φ 102 := funext fun b => g7 102 b (by omega)
          have v9 : ψ 99 = φ 99 := funext fun b => g7 99 b (by omega)
          have hmi : miOk ψ := hc.fr (g7 99 0 (by omega)) (g7 99 2 (by omega)) (fun a ha b => g7 a b (by omega))
          refine j_iload_4 (n' := 115) F dX8_layCheapest_113 rfl ?_
          refine j_bipush (n' := 117) F dX8_layCheapest_115 (by decide) rfl ?_
          refine j_icmp_ge (t := 145) (n' := 120) F (by omega) (by omega) dX8_layCheapest_117 (by decide) rfl (fun c117_0 => ?_) (fun c117_0 => ?_)
          · omega
          · refine j_iload_4 (n' := 122) F dX8_layCheapest_120 rfl ?_
            refine j_if_eq (t := 131) (n' := 125) F (by omega) dX8_layCheapest_122 (by decide) rfl (fun c122_1 => ?_) (fun c122_1 => ?_)
            · refine j_aload_0 (n' := 132) F dX8_layCheapest_131 rfl ?_
              refine j_iload_1 (n' := 133) F dX8_layCheapest_132 rfl ?_
              refine j_iload_3 (n' := 134) F dX8_layCheapest_133 rfl ?_
              refine j_iload_4 (n' := 136) F dX8_layCheapest_134 rfl ?_
              refine j_cV3v (n' := 139) F kl_X8_126 (c_Mod_layState (en := fr + n) hmi (by rw [v9]; omega) (by omega) (by rw [v1, v2]; exact g5) (fun d q1 q2 => by rw [v1]; exact g4 p d (by omega) (by omega) q1 q2)) kap_99 rfl (by decide) (Nat.le_of_ble_eq_true rfl) dX8_layCheapest_136 rfl (fun z3 φ3 h3 => ?_)
              obtain ⟨y1, y2, y3⟩ := h3
              rw [v1, v2] at y1
              refine j_iinc_4 (n' := 142) F (by decide) jc_i dX8_layCheapest_139 rfl ?_
              refine j_goto (t := 113) F dX8_layCheapest_142 (by decide) ?_
              refine ihj (la + 1) φ3 (by omega) (by omega) (by omega) (fun a b q1 q2 q3 q4 => ?_) (fun q d q1 q2 q3 => ?_) (fun d q1 q2 => ?_) (g7.tr (y3.wk (fun a h => by omega)))
              · rw [y3 107 _ (by omega)]
                exact g4 a b q1 q2 q3 q4
              · obtain ⟨a1, a2, a3⟩ := y2 (25 * (q - fr) + d) (by omega)
                exact (g5 q d q1 q2 q3).fr a1 a2 a3
              · by_cases e : d = la
                · subst e
                  exact y1
                · obtain ⟨a1, a2, a3⟩ := y2 (25 * (fr + p - fr) + d) (by omega)
                  exact (g6 d (by omega) q2).fr a1 a2 a3
            · refine j_iload_4 (n' := 127) F dX8_layCheapest_125 rfl ?_
              refine j_iload_3 (n' := 128) F dX8_layCheapest_127 rfl ?_
              refine j_icmp_ge (t := 145) (n' := 131) F (by omega) (by omega) dX8_layCheapest_128 (by decide) rfl (fun c128_3 => ?_) (fun c128_3 => ?_)
              · refine j_iinc_3 (n' := 148) F (by decide) jc_i dX8_layCheapest_145 rfl ?_
                refine j_goto (t := 106) F dX8_layCheapest_148 (by decide) ?_
                refine j_weak (by exact ⟨rfl, rfl, rfl, rfl, trivial⟩) (ih (p + -1) ψ (by omega) (by omega) g4 (fun q d q1 q2 q3 => ?_) g7)
                by_cases e : q = fr + p
                · rw [e]
                  exact g6 d (by omega) (by omega)
                · exact g5 q d (by omega) q2 q3
              · refine j_aload_0 (n' := 132) F dX8_layCheapest_131 rfl ?_
                refine j_iload_1 (n' := 133) F dX8_layCheapest_132 rfl ?_
                refine j_iload_3 (n' := 134) F dX8_layCheapest_133 rfl ?_
                refine j_iload_4 (n' := 136) F dX8_layCheapest_134 rfl ?_
                refine j_cV3v (n' := 139) F kl_X8_126 (c_Mod_layState (en := fr + n) hmi (by rw [v9]; omega) (by omega) (by rw [v1, v2]; exact g5) (fun d q1 q2 => by rw [v1]; exact g4 p d (by omega) (by omega) q1 q2)) kap_99 rfl (by decide) (Nat.le_of_ble_eq_true rfl) dX8_layCheapest_136 rfl (fun z5 φ5 h5 => ?_)
                obtain ⟨y1, y2, y3⟩ := h5
                rw [v1, v2] at y1
                refine j_iinc_4 (n' := 142) F (by decide) jc_i dX8_layCheapest_139 rfl ?_
                refine j_goto (t := 113) F dX8_layCheapest_142 (by decide) ?_
                refine ihj (la + 1) φ5 (by omega) (by omega) (by omega) (fun a b q1 q2 q3 q4 => ?_) (fun q d q1 q2 q3 => ?_) (fun d q1 q2 => ?_) (g7.tr (y3.wk (fun a h => by omega)))
                · rw [y3 107 _ (by omega)]
                  exact g4 a b q1 q2 q3 q4
                · obtain ⟨a1, a2, a3⟩ := y2 (25 * (q - fr) + d) (by omega)
                  exact (g5 q d q1 q2 q3).fr a1 a2 a3
                · by_cases e : d = la
                  · subst e
                    exact y1
                  · obtain ⟨a1, a2, a3⟩ := y2 (25 * (fr + p - fr) + d) (by omega)
                    exact (g6 d (by omega) q2).fr a1 a2 a3
      refine j_iload_3 (n' := 107) F dX8_layCheapest_106 rfl ?_
      refine j_if_lt (t := 151) (n' := 110) F (by omega) dX8_layCheapest_107 (by decide) rfl (fun c107_0 => ?_) (fun c107_0 => ?_)
      · omega
      · refine j_iconst (n' := 111) F dX8_layCheapest_110 rfl ?_
        refine j_istore_4 (n' := 113) F (by decide) jc_i dX8_layCheapest_111 rfl ?_
        exact inner 25 0 ψ0 (by omega) (by omega) (by omega) h3 h4 (fun d q1 q2 => by omega) h5
  have ends : ∀ (m : Nat) (d : Int) (ψ : jPhi), d + m = 25 → 0 ≤ d → (∀ p d, 0 ≤ p → p < n → 1 ≤ d → d ≤ p → ψ 107 (25 * p + d) = lik (φ 101) (fr + n) 8 (fr + p) d) → (∀ c, 0 ≤ c → c < d → ψ 104 (25 * n + c) = 0 ∧ ψ 105 (25 * n + c) = 0 ∧ ψ 106 (25 * n + c) = -1) → frC (fun a => a = 104 ∨ a = 105 ∨ a = 106 ∨ a = 107) φ ψ → jJ X G B0 κF 113 0 0 Q 5 ψ 54 [some (rf B0 99), some (iv fr), some (iv n), some (iv d), none] [] := by
    intro m
    induction m with
    | zero =>
      intro d ψ h1 h2 h3 h4 h5
      refine j_iload_3 (n' := 55) F dX8_layCheapest_54 rfl ?_
      refine j_bipush (n' := 57) F dX8_layCheapest_55 (by decide) rfl ?_
      refine j_icmp_ge (t := 102) (n' := 60) F (by omega) (by omega) dX8_layCheapest_57 (by decide) rfl (fun c57_0 => ?_) (fun c57_0 => ?_)
      · refine j_iload_2 (n' := 103) F dX8_layCheapest_102 rfl ?_
        refine j_iconst (n' := 104) F dX8_layCheapest_103 rfl ?_
        refine j_isub (n' := 105) F dX8_layCheapest_104 rfl ?_
        refine j_istore_3 (n' := 106) F (by decide) jc_i dX8_layCheapest_105 rfl ?_
        refine main n.toNat (n - 1) ψ (by omega) (by omega) h3 (fun q c q1 q2 q3 => ?_) h5
        have hq : q = fr + n := by omega
        subst hq
        obtain ⟨a1, a2, a3⟩ := h4 c (by omega) (by omega)
        unfold mtOk Tw Tf
        rw [show 25 * (fr + n - fr) + c = 25 * n + c by omega, a1, a2, a3, Tb_end]
        exact ⟨rfl, rfl, by omega, by omega, by omega⟩
      · omega
    | succ m ih =>
      intro d ψ h1 h2 h3 h4 h5
      refine j_iload_3 (n' := 55) F dX8_layCheapest_54 rfl ?_
      refine j_bipush (n' := 57) F dX8_layCheapest_55 (by decide) rfl ?_
      refine j_icmp_ge (t := 102) (n' := 60) F (by omega) (by omega) dX8_layCheapest_57 (by decide) rfl (fun c57_0 => ?_) (fun c57_0 => ?_)
      · omega
      · refine j_aload_0 (n' := 61) F dX8_layCheapest_60 rfl ?_
        refine j_getR (n' := 64) F fl_X8_22 kap_99 rfl dX8_layCheapest_61 rfl ?_
        refine j_bipush (n' := 66) F dX8_layCheapest_64 (by decide) rfl ?_
        refine j_iload_2 (n' := 67) F dX8_layCheapest_66 rfl ?_
        refine j_imul (n' := 68) F dX8_layCheapest_67 rfl ?_
        refine j_iload_3 (n' := 69) F dX8_layCheapest_68 rfl ?_
        refine j_iadd (n' := 70) F dX8_layCheapest_69 rfl ?_
        refine j_iconst (n' := 71) F dX8_layCheapest_70 rfl ?_
        refine j_iast (n' := 72) F kap_104 (by decide) (by omega) dX8_layCheapest_71 rfl (fun φ2 e2 => ?_)
        refine j_aload_0 (n' := 73) F dX8_layCheapest_72 rfl ?_
        refine j_getR (n' := 76) F fl_X8_25 kap_99 rfl dX8_layCheapest_73 rfl ?_
        refine j_bipush (n' := 78) F dX8_layCheapest_76 (by decide) rfl ?_
        refine j_iload_2 (n' := 79) F dX8_layCheapest_78 rfl ?_
        refine j_imul (n' := 80) F dX8_layCheapest_79 rfl ?_
        refine j_iload_3 (n' := 81) F dX8_layCheapest_80 rfl ?_
        refine j_iadd (n' := 82) F dX8_layCheapest_81 rfl ?_
        refine j_iconst (n' := 83) F dX8_layCheapest_82 rfl ?_
        refine j_iast (n' := 84) F kap_105 (by decide) (by omega) dX8_layCheapest_83 rfl (fun φ3 e3 => ?_)
        refine j_aload_0 (n' := 85) F dX8_layCheapest_84 rfl ?_
        refine j_getR (n' := 88) F fl_X8_28 kap_99 rfl dX8_layCheapest_85 rfl ?_
        refine j_bipush (n' := 90) F dX8_layCheapest_88 (by decide) rfl ?_
        refine j_iload_2 (n' := 91) F dX8_layCheapest_90 rfl ?_
        refine j_imul (n' := 92) F dX8_layCheapest_91 rfl ?_
        refine j_iload_3 (n' := 93) F dX8_layCheapest_92 rfl ?_
        refine j_iadd (n' := 94) F dX8_layCheapest_93 rfl ?_
        refine j_iconst (n' := 95) F dX8_layCheapest_94 rfl ?_
        refine j_iast (n' := 96) F kap_106 (by decide) (by omega) dX8_layCheapest_95 rfl (fun φ4 e4 => ?_)
        refine j_iinc_3 (n' := 99) F (by decide) jc_i dX8_layCheapest_96 rfl ?_
        refine j_goto (t := 54) F dX8_layCheapest_99 (by decide) ?_
        refine ih (d + 1) φ4 (by omega) (by omega) (fun a b q1 q2 q3 q4 => by rw [e4, e3, e2, zU_ne (by omega), zU_ne (by omega), zU_ne (by omega)]; exact h3 a b q1 q2 q3 q4) (fun c q1 q2 => ?_) (by rw [e4, e3, e2]; repeat (first | exact h5 | refine frC.put ?_ (by omega)))
        by_cases e : c = d
        · subst e
          rw [e4, e3, e2]
          simp [zU]
        · have hne2 : ¬ 25 * n + c = 25 * n + d := by omega
          rw [e4, e3, e2]
          simp only [zU, hne2]
          simp
          exact h4 c q1 (by omega)
  have likes : ∀ (m : Nat) (p : Int) (ψ : jPhi), p + m = n → 0 ≤ p → (∀ g d, 0 ≤ g → g < p → 1 ≤ d → d ≤ g → ψ 107 (25 * g + d) = lik (φ 101) (fr + n) 8 (fr + g) d) → frC (fun a => a = 104 ∨ a = 105 ∨ a = 106 ∨ a = 107) φ ψ → jJ X G B0 κF 113 0 0 Q 5 ψ 2 [some (rf B0 99), some (iv fr), some (iv n), some (iv p), none] [] := by
    intro m
    induction m with
    | zero =>
      intro p ψ h1 h2 h3 h4
      refine j_iload_3 (n' := 3) F dX8_layCheapest_2 rfl ?_
      refine j_iload_2 (n' := 4) F dX8_layCheapest_3 rfl ?_
      refine j_icmp_ge (t := 52) (n' := 7) F (by omega) (by omega) dX8_layCheapest_4 (by decide) rfl (fun c4_0 => ?_) (fun c4_0 => ?_)
      · refine j_iconst (n' := 53) F dX8_layCheapest_52 rfl ?_
        refine j_istore_3 (n' := 54) F (by decide) jc_i dX8_layCheapest_53 rfl ?_
        exact ends 25 0 ψ (by omega) (by omega) (fun a b q1 q2 q3 q4 => h3 a b q1 (by omega) q3 q4) (fun c q1 q2 => by omega) h4
      · omega
    | succ m ih =>
      intro p ψ0 h1 h2 h3 h4
      have inL : ∀ (j : Nat) (d : Int) (ψ : jPhi), d + j = p + 1 → 1 ≤ d → (∀ g d, 0 ≤ g → g < p → 1 ≤ d → d ≤ g → ψ 107 (25 * g + d) = lik (φ 101) (fr + n) 8 (fr + g) d) → (∀ c, 1 ≤ c → c < d → ψ 107 (25 * p + c) = lik (φ 101) (fr + n) 8 (fr + p) c) → frC (fun a => a = 104 ∨ a = 105 ∨ a = 106 ∨ a = 107) φ ψ → jJ X G B0 κF 113 0 0 Q 5 ψ 10 [some (rf B0 99), some (iv fr), some (iv n), some (iv p), some (iv d)] [] := by
        intro j
        induction j with
        | zero =>
          intro d ψ g1 g2 g3 g4 g5
          refine j_iload_4 (n' := 12) F dX8_layCheapest_10 rfl ?_
          refine j_iload_3 (n' := 13) F dX8_layCheapest_12 rfl ?_
          refine j_icmp_gt (t := 46) (n' := 16) F (by omega) (by omega) dX8_layCheapest_13 (by decide) rfl (fun c13_0 => ?_) (fun c13_0 => ?_)
          · refine j_iinc_3 (n' := 49) F (by decide) jc_i dX8_layCheapest_46 rfl ?_
            refine j_goto (t := 2) F dX8_layCheapest_49 (by decide) ?_
            refine j_weak (by exact ⟨rfl, rfl, rfl, rfl, trivial⟩) (ih (p + 1) ψ (by omega) (by omega) (fun g c q1 q2 q3 q4 => ?_) g5)
            by_cases e : g = p
            · subst e
              exact g4 c q3 (by omega)
            · exact g3 g c q1 (by omega) q3 q4
          · omega
        | succ j ihj =>
          intro d ψ g1 g2 g3 g4 g5
          have v1 : ψ 101 = φ 101 := funext fun b => g5 101 b (by omega)
          refine j_iload_4 (n' := 12) F dX8_layCheapest_10 rfl ?_
          refine j_iload_3 (n' := 13) F dX8_layCheapest_12 rfl ?_
          refine j_icmp_gt (t := 46) (n' := 16) F (by omega) (by omega) dX8_layCheapest_13 (by decide) rfl (fun c13_0 => ?_) (fun c13_0 => ?_)
          · omega
          · refine j_aload_0 (n' := 17) F dX8_layCheapest_16 rfl ?_
            refine j_getR (n' := 20) F fl_X8_31 kap_99 rfl dX8_layCheapest_17 rfl ?_
            refine j_bipush (n' := 22) F dX8_layCheapest_20 (by decide) rfl ?_
            refine j_iload_3 (n' := 23) F dX8_layCheapest_22 rfl ?_
            refine j_imul (n' := 24) F dX8_layCheapest_23 rfl ?_
            refine j_iload_4 (n' := 26) F dX8_layCheapest_24 rfl ?_
            refine j_iadd (n' := 27) F dX8_layCheapest_26 rfl ?_
            refine j_aload_0 (n' := 28) F dX8_layCheapest_27 rfl ?_
            refine j_iload_1 (n' := 29) F dX8_layCheapest_28 rfl ?_
            refine j_iload_3 (n' := 30) F dX8_layCheapest_29 rfl ?_
            refine j_iadd (n' := 31) F dX8_layCheapest_30 rfl ?_
            refine j_iload_4 (n' := 33) F dX8_layCheapest_31 rfl ?_
            refine j_iload_1 (n' := 34) F dX8_layCheapest_33 rfl ?_
            refine j_iload_2 (n' := 35) F dX8_layCheapest_34 rfl ?_
            refine j_iadd (n' := 36) F dX8_layCheapest_35 rfl ?_
            refine j_cV3i (n' := 39) F kl_X8_108 (c_Mod_likeness (by omega) (by omega) (by rw [v1]; exact hte)) kap_99 rfl (by decide) (Nat.le_of_ble_eq_true rfl) dX8_layCheapest_36 rfl (fun z2 φ2 h2 => ?_)
            obtain ⟨rfl, rfl⟩ := h2
            rw [v1]
            refine j_iast (n' := 40) F kap_107 (by decide) (by omega) dX8_layCheapest_39 rfl (fun φ3 e3 => ?_)
            refine j_iinc_4 (n' := 43) F (by decide) jc_i dX8_layCheapest_40 rfl ?_
            refine j_goto (t := 10) F dX8_layCheapest_43 (by decide) ?_
            refine ihj (d + 1) φ3 (by omega) (by omega) (fun g c q1 q2 q3 q4 => by rw [e3, zU_ne (by omega)]; exact g3 g c q1 q2 q3 q4) (fun c q1 q2 => ?_) (by rw [e3]; exact g5.put (by omega))
            by_cases e : c = d
            · rw [e3, e, zU_self]
            · rw [e3, zU_ne (by omega)]
              exact g4 c q1 (by omega)
      refine j_iload_3 (n' := 3) F dX8_layCheapest_2 rfl ?_
      refine j_iload_2 (n' := 4) F dX8_layCheapest_3 rfl ?_
      refine j_icmp_ge (t := 52) (n' := 7) F (by omega) (by omega) dX8_layCheapest_4 (by decide) rfl (fun c4_0 => ?_) (fun c4_0 => ?_)
      · omega
      · refine j_iconst (n' := 8) F dX8_layCheapest_7 rfl ?_
        refine j_istore_4 (n' := 10) F (by decide) jc_i dX8_layCheapest_8 rfl ?_
        exact inL p.toNat 1 ψ0 (by omega) (by omega) h3 (fun c q1 q2 => by omega) h4
  refine j_iconst (n' := 1) F dX8_layCheapest_0 rfl ?_
  refine j_istore_3 (n' := 2) F (by decide) jc_i dX8_layCheapest_1 rfl ?_
  exact likes n.toNat 0 φ (by omega) (by omega) (fun a b q1 q2 => by omega) frC.rf
set_option maxRecDepth 20000 in
theorem c_Mod_layTokens {l : Launch} {G : jG} {B0 : Nat} {φ : jPhi}  (hc : miOk φ) (hn : 0 < φ 99 2) : jC l G B0 κF 113 yX8_layTokens cX8_layTokens 4 none 4 [rf B0 99] φ mkV (fun z φ' => mdIs φ' 99 108 18 (toks (φ 102) (φ 101) 0 (φ 99 2)) ∧ φ' 104 0 = rwSum (tkPrice (φ 102)) (toks (φ 102) (φ 101) 0 (φ 99 2)) ∧ (∀ b, b ≠ 18 → φ' 99 b = φ 99 b) ∧ frC (fun a => a = 99 ∨ (104 ≤ a ∧ a ≤ 108)) φ φ') := by
  refine jC_start RX8 [some (rf B0 99), none, none, none] (by decide) rfl (Nat.le_of_ble_eq_true rfl) rfl (fun X Q F E => ?_)
  have hc0 := hc
  obtain ⟨c1, c2, c3, c5, c6⟩ := hc0
  have loop : ∀ (k : Nat) (p la : Int) (ac : List Int) (ψ : jPhi), φ 99 2 - p ≤ k → 0 ≤ p → p ≤ φ 99 2 → (la = 0 ∨ (1 ≤ la ∧ la < p)) → (ac.length : Int) ≤ p → mdIs ψ 99 108 18 ac → ac ++ wlk (Tf (φ 102) (φ 101) 0 (φ 99 2)) (φ 99 2) k p la = (toks (φ 102) (φ 101) 0 (φ 99 2)) → (∀ q d, 0 ≤ q → q ≤ φ 99 2 → (d = 0 ∨ (1 ≤ d ∧ d < q)) → ψ 106 (25 * q + d) = (Tf (φ 102) (φ 101) 0 (φ 99 2)) q d) → ψ 104 0 = rwSum (tkPrice (φ 102)) (toks (φ 102) (φ 101) 0 (φ 99 2)) → (∀ b, b ≠ 18 → ψ 99 b = φ 99 b) → frC (fun a => a = 99 ∨ (104 ≤ a ∧ a ≤ 108)) φ ψ → jJ X G B0 κF 113 0 0 Q 4 ψ 17 [some (rf B0 99), some (iv (25 * p + la)), none, none] [] := by
    intro k
    induction k with
    | zero =>
      intro p la ac ψ h1 h2 h3 h4 h5 h6 h7 h8 h9 k1 k2
      have v2 := k1 2 (by omega)
      have hdv : (25 * p + la) / 25 = p := by omega
      rw [wlk, List.append_nil] at h7
      refine j_iload_1 (n' := 18) F dX8_layTokens_17 rfl ?_
      refine j_bipush (n' := 20) F dX8_layTokens_18 (by decide) rfl ?_
      refine j_idiv (n' := 21) F (by omega) (by omega) dX8_layTokens_20 rfl ?_
      refine j_aload_0 (n' := 22) F dX8_layTokens_21 rfl ?_
      refine j_getI (n' := 25) F 2 rfl fl_X8_92 kap_99 rfl dX8_layTokens_22 rfl ?_
      refine j_icmp_ge (t := 96) (n' := 28) F (by omega) (by omega) dX8_layTokens_25 (by decide) rfl (fun c25_0 => ?_) (fun c25_0 => ?_)
      · exact j_return F E dX8_layTokens_96 (⟨h7 ▸ h6, h9, k1, k2⟩)
      · omega
    | succ k ih =>
      intro p la ac ψ h1 h2 h3 h4 h5 h6 h7 h8 h9 k1 k2
      have v2 := k1 2 (by omega)
      have hdv : (25 * p + la) / 25 = p := by omega
      have hrm : (25 * p + la) % 25 = la := by omega
      rw [wlk] at h7
      by_cases hpe : p < φ 99 2
      · rw [if_pos hpe] at h7
        have f1 := h8 p la h2 h3 h4
        have ok := Tb_ok (P := φ 102) (t := φ 101) (f := 0) (e := φ 99 2) (la := la) (by omega) (by omega) c5 h2 hpe
        have f2 : tkOk ((Tf (φ 102) (φ 101) 0 (φ 99 2)) p la) := ok.1
        have f3 : p + tkLen ((Tf (φ 102) (φ 101) 0 (φ 99 2)) p la) ≤ φ 99 2 := ok.2.1
        have f4 : 1000 ≤ (Tf (φ 102) (φ 101) 0 (φ 99 2)) p la → tkDist ((Tf (φ 102) (φ 101) 0 (φ 99 2)) p la) ≤ p := fun q => by have := ok.2.2.1 q; show (tkDist (Tb (φ 102) (φ 101) 0 (φ 99 2) p la).2) ≤ p; omega
        generalize (Tf (φ 102) (φ 101) 0 (φ 99 2)) p la = x at *
        have hlen : 1 ≤ tkLen x ∧ tkLen x ≤ 8 := by unfold tkOk at f2; unfold tkLen; split <;> omega
        have hdi : 0 ≤ tkDist x ∧ tkDist x ≤ 24 ∧ (1000 ≤ x → 1 ≤ tkDist x ∧ (x - 1000) / 10 = tkDist x) := by unfold tkOk at f2; unfold tkDist; split <;> omega
        have hxr : 0 ≤ x ∧ x ≤ 1248 := by unfold tkOk at f2; omega
        have hm1 := h6.1
        have hwl : (ac ++ [x]) ++ wlk (Tf (φ 102) (φ 101) 0 (φ 99 2)) (φ 99 2) k (p + tkLen x) (nxL la x) = (toks (φ 102) (φ 101) 0 (φ 99 2)) := by
          rw [← h7, List.append_assoc]
          rfl
        refine j_iload_1 (n' := 18) F dX8_layTokens_17 rfl ?_
        refine j_bipush (n' := 20) F dX8_layTokens_18 (by decide) rfl ?_
        refine j_idiv (n' := 21) F (by omega) (by omega) dX8_layTokens_20 rfl ?_
        refine j_aload_0 (n' := 22) F dX8_layTokens_21 rfl ?_
        refine j_getI (n' := 25) F 2 rfl fl_X8_92 kap_99 rfl dX8_layTokens_22 rfl ?_
        refine j_icmp_ge (t := 96) (n' := 28) F (by omega) (by omega) dX8_layTokens_25 (by decide) rfl (fun c25_0 => ?_) (fun c25_0 => ?_)
        · omega
        · refine j_aload_0 (n' := 29) F dX8_layTokens_28 rfl ?_
          refine j_getR (n' := 32) F fl_X8_28 kap_99 rfl dX8_layTokens_29 rfl ?_
          refine j_iload_1 (n' := 33) F dX8_layTokens_32 rfl ?_
          refine j_iald (n' := 34) F kap_106 (by decide) (by omega) dX8_layTokens_33 rfl ?_
          rw [f1]
          refine j_istore_2 (n' := 35) F (by decide) jc_i dX8_layTokens_34 rfl ?_
          refine j_iload_2 (n' := 36) F dX8_layTokens_35 rfl ?_
          refine j_sipush (n' := 39) F dX8_layTokens_36 (by decide) rfl ?_
          refine j_icmp_ge (t := 49) (n' := 42) F (by omega) (by omega) dX8_layTokens_39 (by decide) rfl (fun c39_1 => ?_) (fun c39_1 => ?_)
          · refine j_iload_2 (n' := 50) F dX8_layTokens_49 rfl ?_
            refine j_sipush (n' := 53) F dX8_layTokens_50 (by decide) rfl ?_
            refine j_isub (n' := 54) F dX8_layTokens_53 rfl ?_
            refine j_bipush (n' := 56) F dX8_layTokens_54 (by decide) rfl ?_
            refine j_idiv (n' := 57) F (by omega) (by omega) dX8_layTokens_56 rfl ?_
            refine j_top (w := iv (nxL la x)) (by unfold nxL; first | (rw [if_neg (by omega), hrm]; done) | (rw [if_pos (by omega), hdi.2.2 (by omega) |>.2]; done) | (rw [if_pos (by omega), (hdi.2.2 (by omega)).2]; done)) ?_
            refine j_istore_3 (n' := 58) F (by decide) jc_i dX8_layTokens_57 rfl ?_
            refine j_aload_0 (n' := 59) F dX8_layTokens_58 rfl ?_
            refine j_getR (n' := 62) F fl_X8_34 kap_99 rfl dX8_layTokens_59 rfl ?_
            refine j_aload_0 (n' := 63) F dX8_layTokens_62 rfl ?_
            refine j_getI (n' := 66) F 18 rfl fl_X8_133 kap_99 rfl dX8_layTokens_63 rfl ?_
            refine j_iload_2 (n' := 67) F dX8_layTokens_66 rfl ?_
            refine j_iast (n' := 68) F kap_108 (by decide) (by omega) dX8_layTokens_67 rfl (fun φ3 e3 => ?_)
            refine j_aload_0 (n' := 69) F dX8_layTokens_68 rfl ?_
            refine j_dup (n' := 70) F rfl dX8_layTokens_69 rfl ?_
            refine j_getI (n' := 73) F 18 rfl fl_X8_133 kap_99 rfl dX8_layTokens_70 rfl ?_
            refine j_iconst (n' := 74) F dX8_layTokens_73 rfl ?_
            refine j_iadd (n' := 75) F dX8_layTokens_74 rfl ?_
            refine j_putI (n' := 78) F 18 rfl fp_X8_133 kap_99 rfl rfl dX8_layTokens_75 rfl (fun φ4 e4 => ?_)
            refine j_bipush (n' := 80) F dX8_layTokens_78 (by decide) rfl ?_
            refine j_iload_1 (n' := 81) F dX8_layTokens_80 rfl ?_
            refine j_bipush (n' := 83) F dX8_layTokens_81 (by decide) rfl ?_
            refine j_idiv (n' := 84) F (by omega) (by omega) dX8_layTokens_83 rfl ?_
            refine j_iload_2 (n' := 85) F dX8_layTokens_84 rfl ?_
            refine j_cS1i (n' := 88) F kl_X8_136 (c_Mod_lengthOf (by omega)) (by decide) (Nat.le_of_ble_eq_true rfl) dX8_layTokens_85 rfl (fun z5 φ5 h5 => ?_)
            obtain ⟨rfl, rfl⟩ := h5
            rw [hdv]
            refine j_iadd (n' := 89) F dX8_layTokens_88 rfl ?_
            refine j_imul (n' := 90) F dX8_layTokens_89 rfl ?_
            refine j_iload_3 (n' := 91) F dX8_layTokens_90 rfl ?_
            refine j_iadd (n' := 92) F dX8_layTokens_91 rfl ?_
            refine j_istore_1 (n' := 93) F (by decide) jc_r dX8_layTokens_92 rfl ?_
            refine j_goto (t := 17) F dX8_layTokens_93 (by decide) ?_
            first
              | exact j_weak (by exact ⟨rfl, rfl, trivial⟩) (ih (p + tkLen x) (nxL la x) (ac ++ [x]) φ4 (by omega) (by omega) (by omega) (by unfold nxL; split <;> omega) (by simp <;> omega) (h6.push (by rw [e4, e3]; simp [zU]) (by rw [e4, e3]; simp [zU]) (fun b hb => by rw [e4, e3]; simp [zU, hb])) hwl (fun q d q1 q2 q3 => by rw [e4, e3, zU_ne (by omega), zU_ne (by omega)]; exact h8 q d q1 q2 q3) (by rw [e4, e3, zU_ne (by omega), zU_ne (by omega)]; exact h9) (fun b hb => by rw [e4, e3, zU_ne (by omega), zU_ne (by omega)]; exact k1 b hb) (by rw [e4, e3]; exact (k2.put (by omega)).put (by omega)))
          · refine j_iload_1 (n' := 43) F dX8_layTokens_42 rfl ?_
            refine j_bipush (n' := 45) F dX8_layTokens_43 (by decide) rfl ?_
            refine j_irem (n' := 46) F (by omega) (by omega) dX8_layTokens_45 rfl ?_
            refine j_goto (t := 57) F dX8_layTokens_46 (by decide) ?_
            refine j_top (w := iv (nxL la x)) (by unfold nxL; first | (rw [if_neg (by omega), hrm]; done) | (rw [if_pos (by omega), hdi.2.2 (by omega) |>.2]; done) | (rw [if_pos (by omega), (hdi.2.2 (by omega)).2]; done)) ?_
            refine j_istore_3 (n' := 58) F (by decide) jc_i dX8_layTokens_57 rfl ?_
            refine j_aload_0 (n' := 59) F dX8_layTokens_58 rfl ?_
            refine j_getR (n' := 62) F fl_X8_34 kap_99 rfl dX8_layTokens_59 rfl ?_
            refine j_aload_0 (n' := 63) F dX8_layTokens_62 rfl ?_
            refine j_getI (n' := 66) F 18 rfl fl_X8_133 kap_99 rfl dX8_layTokens_63 rfl ?_
            refine j_iload_2 (n' := 67) F dX8_layTokens_66 rfl ?_
            refine j_iast (n' := 68) F kap_108 (by decide) (by omega) dX8_layTokens_67 rfl (fun φ6 e6 => ?_)
            refine j_aload_0 (n' := 69) F dX8_layTokens_68 rfl ?_
            refine j_dup (n' := 70) F rfl dX8_layTokens_69 rfl ?_
            refine j_getI (n' := 73) F 18 rfl fl_X8_133 kap_99 rfl dX8_layTokens_70 rfl ?_
            refine j_iconst (n' := 74) F dX8_layTokens_73 rfl ?_
            refine j_iadd (n' := 75) F dX8_layTokens_74 rfl ?_
            refine j_putI (n' := 78) F 18 rfl fp_X8_133 kap_99 rfl rfl dX8_layTokens_75 rfl (fun φ7 e7 => ?_)
            refine j_bipush (n' := 80) F dX8_layTokens_78 (by decide) rfl ?_
            refine j_iload_1 (n' := 81) F dX8_layTokens_80 rfl ?_
            refine j_bipush (n' := 83) F dX8_layTokens_81 (by decide) rfl ?_
            refine j_idiv (n' := 84) F (by omega) (by omega) dX8_layTokens_83 rfl ?_
            refine j_iload_2 (n' := 85) F dX8_layTokens_84 rfl ?_
            refine j_cS1i (n' := 88) F kl_X8_136 (c_Mod_lengthOf (by omega)) (by decide) (Nat.le_of_ble_eq_true rfl) dX8_layTokens_85 rfl (fun z8 φ8 h8 => ?_)
            obtain ⟨rfl, rfl⟩ := h8
            rw [hdv]
            refine j_iadd (n' := 89) F dX8_layTokens_88 rfl ?_
            refine j_imul (n' := 90) F dX8_layTokens_89 rfl ?_
            refine j_iload_3 (n' := 91) F dX8_layTokens_90 rfl ?_
            refine j_iadd (n' := 92) F dX8_layTokens_91 rfl ?_
            refine j_istore_1 (n' := 93) F (by decide) jc_r dX8_layTokens_92 rfl ?_
            refine j_goto (t := 17) F dX8_layTokens_93 (by decide) ?_
            first
              | exact j_weak (by exact ⟨rfl, rfl, trivial⟩) (ih (p + tkLen x) (nxL la x) (ac ++ [x]) φ7 (by omega) (by omega) (by omega) (by unfold nxL; split <;> omega) (by simp <;> omega) (h6.push (by rw [e7, e6]; simp [zU]) (by rw [e7, e6]; simp [zU]) (fun b hb => by rw [e7, e6]; simp [zU, hb])) hwl (fun q d q1 q2 q3 => by rw [e7, e6, zU_ne (by omega), zU_ne (by omega)]; exact h8 q d q1 q2 q3) (by rw [e7, e6, zU_ne (by omega), zU_ne (by omega)]; exact h9) (fun b hb => by rw [e7, e6, zU_ne (by omega), zU_ne (by omega)]; exact k1 b hb) (by rw [e7, e6]; exact (k2.put (by omega)).put (by omega)))
      · rw [if_neg hpe, List.append_nil] at h7
        refine j_iload_1 (n' := 18) F dX8_layTokens_17 rfl ?_
        refine j_bipush (n' := 20) F dX8_layTokens_18 (by decide) rfl ?_
        refine j_idiv (n' := 21) F (by omega) (by omega) dX8_layTokens_20 rfl ?_
        refine j_aload_0 (n' := 22) F dX8_layTokens_21 rfl ?_
        refine j_getI (n' := 25) F 2 rfl fl_X8_92 kap_99 rfl dX8_layTokens_22 rfl ?_
        refine j_icmp_ge (t := 96) (n' := 28) F (by omega) (by omega) dX8_layTokens_25 (by decide) rfl (fun c25_0 => ?_) (fun c25_0 => ?_)
        · exact j_return F E dX8_layTokens_96 (⟨h7 ▸ h6, h9, k1, k2⟩)
        · omega
  refine j_aload_0 (n' := 1) F dX8_layTokens_0 rfl ?_
  refine j_iconst (n' := 2) F dX8_layTokens_1 rfl ?_
  refine j_aload_0 (n' := 3) F dX8_layTokens_2 rfl ?_
  refine j_getI (n' := 6) F 2 rfl fl_X8_92 kap_99 rfl dX8_layTokens_3 rfl ?_
  refine j_cV2i (n' := 9) F kl_X8_130 (c_Mod_layCheapest hc (by omega)) kap_99 rfl (by decide) (Nat.le_of_ble_eq_true rfl) dX8_layTokens_6 rfl (fun z1 φ1 h1 => ?_)
  obtain ⟨y1, y2, y3, y4⟩ := h1
  refine j_pop (n' := 10) F rfl dX8_layTokens_9 rfl ?_
  refine j_aload_0 (n' := 11) F dX8_layTokens_10 rfl ?_
  refine j_iconst (n' := 12) F dX8_layTokens_11 rfl ?_
  refine j_putI (n' := 15) F 18 rfl fp_X8_133 kap_99 rfl rfl dX8_layTokens_12 rfl (fun φ2 e2 => ?_)
  refine j_iconst (n' := 16) F dX8_layTokens_15 rfl ?_
  refine j_istore_1 (n' := 17) F (by decide) jc_r dX8_layTokens_16 rfl ?_
  refine j_weak (lv' := [some (rf B0 99), some (iv (25 * 0 + 0)), none, none]) (by exact ⟨rfl, rfl, trivial⟩) ?_
  rw [Int.zero_add] at y1 y3
  exact loop 24 0 0 [] φ2 (by omega) (by omega) (by omega) (Or.inl rfl) (by simp) ⟨by rw [e2]; simp [zU], fun k hk => by simp at hk⟩ rfl (fun q d q1 q2 q3 => by rw [e2, zU_ne (by omega)]; have := (y3 q d q1 q2 (by omega)).2.1; rw [show 25 * (q - 0) + d = 25 * q + d by omega] at this; exact this) (by rw [e2, zU_ne (by omega), ← y2]; exact y1) (fun b hb => by rw [e2, zU_ne (by omega)]; exact y4 99 b (by omega)) (by rw [e2]; exact (y4.wk (fun a h => by omega)).put (by omega))
