set_option maxRecDepth 20000 in
theorem c_Mod_readCode {l : Launch} {G : jG} {B0 : Nat} {φ : jPhi}  (hc : miOk φ) : jC l G B0 κF 113 yX8_readCode cX8_readCode 9 none 2 [rf B0 99] φ mkV (fun z φ' => φ' 99 11 = (rdR (φ 100) (φ 99 0)).1 ∧ φ' 99 12 = (rdR (φ 100) (φ 99 0)).2.1 ∧ φ' 99 10 = rwSum (tkPrice (φ 102)) (rdR (φ 100) (φ 99 0)).2.2.2 ∧ mdIs φ' 99 103 9 (rdR (φ 100) (φ 99 0)).2.2.1 ∧ (∀ b, b ≠ 9 → b ≠ 10 → b ≠ 11 → b ≠ 12 → φ' 99 b = φ 99 b) ∧ frC (fun a => a = 99 ∨ a = 103) φ φ') := by
  refine jC_start RX8 [some (rf B0 99), none, none, none, none, none, none, none, none] (by decide) rfl (Nat.le_of_ble_eq_true rfl) rfl (fun X Q F E => ?_)
  have hc0 := hc
  obtain ⟨c1, c2, c3, c5, c6⟩ := hc0
  have done : ∀ (la : Int) (ψ : jPhi), ψ 99 11 = (rdR (φ 100) (φ 99 0)).1 → ψ 99 12 = (rdR (φ 100) (φ 99 0)).2.1 → ψ 99 10 = rwSum (tkPrice (φ 102)) (rdR (φ 100) (φ 99 0)).2.2.2 → mdIs ψ 99 103 9 (rdR (φ 100) (φ 99 0)).2.2.1 → (∀ b, b ≠ 9 → b ≠ 10 → b ≠ 11 → b ≠ 12 → ψ 99 b = φ 99 b) → frC (fun a => a = 99 ∨ a = 103) φ ψ → jJ X G B0 κF 113 0 0 Q 9 ψ 35 [some (rf B0 99), some (iv la), some (iv 0), none, none, none, none, none, none] [] := by
    intro la ψ h1 h2 h3 h4 h5 h6
    refine j_iload_2 (n' := 36) F dX8_readCode_35 rfl ?_
    refine j_if_eq (t := 372) (n' := 39) F (by omega) dX8_readCode_36 (by decide) rfl (fun c36_0 => ?_) (fun c36_0 => ?_)
    · exact j_return F E dX8_readCode_372 (⟨h1, h2, h3, h4, h5, h6⟩)
    · omega
  have main : ∀ (k : Nat) (i : Int) (md ts : List Int) (la : Int) (ψ : jPhi), φ 99 0 - i < k → 0 ≤ i → i < φ 99 0 → ψ 99 11 = i → ψ 99 10 = rwSum (tkPrice (φ 102)) ts → mdIs ψ 99 103 9 md → ts.length ≤ md.length → md.length ≤ 24 → 0 ≤ la → la ≤ 24 → rdC (φ 100) (φ 99 0) k i md ts la = rdR (φ 100) (φ 99 0) → (∀ b, b ≠ 9 → b ≠ 10 → b ≠ 11 → b ≠ 12 → ψ 99 b = φ 99 b) → frC (fun a => a = 99 ∨ a = 103) φ ψ → jJ X G B0 κF 113 0 0 Q 9 ψ 35 [some (rf B0 99), some (iv la), some (iv 1), none, none, none, none, none, none] [] := by
    intro k
    induction k with
    | zero => intro i md ts la ψ h1 h2 h3; omega
    | succ k ih =>
      have tail0 : ∀ (la i : Int) (md ts : List Int) (ψ : jPhi), ψ 99 11 = i → ψ 99 10 = rwSum (tkPrice (φ 102)) ts → mdIs ψ 99 103 9 md → (i, (0 : Int), md, ts) = rdR (φ 100) (φ 99 0) → (∀ b, b ≠ 9 → b ≠ 10 → b ≠ 11 → b ≠ 12 → ψ 99 b = φ 99 b) → frC (fun a => a = 99 ∨ a = 103) φ ψ → jJ X G B0 κF 113 0 0 Q 9 ψ 341 [some (rf B0 99), some (iv la), some (iv 1), none, none, none, none, some (iv 0), none] [] := by
        intro la i md ts ψ h1 h2 h3 h4 h5 h6
        refine j_aload_0 (n' := 342) F dX8_readCode_341 rfl ?_
        refine j_iload_7 (n' := 344) F dX8_readCode_342 rfl ?_
        refine j_putB (n' := 347) F 12 rfl (by omega) fp_X8_70 kap_99 rfl rfl dX8_readCode_344 rfl (fun φ1 e1 => ?_)
        refine j_iload_7 (n' := 349) F dX8_readCode_347 rfl ?_
        refine j_if_eq (t := 367) (n' := 352) F (by omega) dX8_readCode_349 (by decide) rfl (fun c349_1 => ?_) (fun c349_1 => ?_)
        · refine j_iconst (n' := 368) F dX8_readCode_367 rfl ?_
          refine j_istore_2 (n' := 369) F (by decide) jc_i dX8_readCode_368 rfl ?_
          refine j_goto (t := 35) F dX8_readCode_369 (by decide) ?_
          exact j_weak (by exact ⟨rfl, rfl, rfl, trivial⟩) (done la φ1 (by rw [e1, zU_ne (by omega), h1, ← h4]) (by rw [e1, zU_self, ← h4]) (by rw [e1, zU_ne (by omega), h2, ← h4]) (by rw [← h4]; exact h3.fr (by rw [e1, zU_ne (by omega)]) (fun b => by rw [e1, zU_ne (by omega)])) (fun b k1 k2 k3 k4 => by rw [e1, zU_ne (by omega)]; exact h5 b k1 k2 k3 k4) (by rw [e1]; exact h6.put (by omega)))
        · omega
      have tail1 : ∀ (la i : Int) (md ts : List Int) (ψ : jPhi), φ 99 0 - i < k → 0 ≤ i → i ≤ φ 99 0 → ψ 99 11 = i → ψ 99 10 = rwSum (tkPrice (φ 102)) ts → mdIs ψ 99 103 9 md → ts.length ≤ md.length → md.length ≤ 24 → 1 ≤ ts.length → 0 ≤ la → la ≤ 24 → rdC (φ 100) (φ 99 0) k i md ts la = rdR (φ 100) (φ 99 0) → (∀ b, b ≠ 9 → b ≠ 10 → b ≠ 11 → b ≠ 12 → ψ 99 b = φ 99 b) → frC (fun a => a = 99 ∨ a = 103) φ ψ → jJ X G B0 κF 113 0 0 Q 9 ψ 341 [some (rf B0 99), some (iv la), some (iv 1), none, none, none, none, some (iv 1), none] [] := by
        intro la i md ts ψ h1 h2 h3 h4 h5 h6 h7 h8 h9 k1 k2 k3 k4 k5
        have u0 : ψ 99 0 = φ 99 0 := k4 0 (by omega) (by omega) (by omega) (by omega)
        refine j_aload_0 (n' := 342) F dX8_readCode_341 rfl ?_
        refine j_iload_7 (n' := 344) F dX8_readCode_342 rfl ?_
        refine j_putB (n' := 347) F 12 rfl (by omega) fp_X8_70 kap_99 rfl rfl dX8_readCode_344 rfl (fun φ1 e1 => ?_)
        have v11 : φ1 99 11 = i := by rw [e1, zU_ne (by omega)]; exact h4
        have v0 : φ1 99 0 = φ 99 0 := by rw [e1, zU_ne (by omega)]; exact u0
        have v12 : φ1 99 12 = 1 := by rw [e1, zU_self]
        have v10 : φ1 99 10 = rwSum (tkPrice (φ 102)) ts := by rw [e1, zU_ne (by omega)]; exact h5
        have vm : mdIs φ1 99 103 9 md := h6.fr (by rw [e1, zU_ne (by omega)]) (fun b => by rw [e1, zU_ne (by omega)])
        have vb : ∀ b, b ≠ 9 → b ≠ 10 → b ≠ 11 → b ≠ 12 → φ1 99 b = φ 99 b := fun b q1 q2 q3 q4 => by rw [e1, zU_ne (by omega)]; exact k4 b q1 q2 q3 q4
        have vf : frC (fun a => a = 99 ∨ a = 103) φ φ1 := by rw [e1]; exact k5.put (by omega)
        refine j_iload_7 (n' := 349) F dX8_readCode_347 rfl ?_
        refine j_if_eq (t := 367) (n' := 352) F (by omega) dX8_readCode_349 (by decide) rfl (fun c349_1 => ?_) (fun c349_1 => ?_)
        · omega
        · refine j_aload_0 (n' := 353) F dX8_readCode_352 rfl ?_
          refine j_getI (n' := 356) F 11 rfl fl_X8_67 kap_99 rfl dX8_readCode_353 rfl ?_
          refine j_aload_0 (n' := 357) F dX8_readCode_356 rfl ?_
          refine j_getI (n' := 360) F 0 rfl fl_X8_53 kap_99 rfl dX8_readCode_357 rfl ?_
          refine j_icmp_ge (t := 367) (n' := 363) F (by omega) (by omega) dX8_readCode_360 (by decide) rfl (fun c360_2 => ?_) (fun c360_2 => ?_)
          · refine j_iconst (n' := 368) F dX8_readCode_367 rfl ?_
            refine j_istore_2 (n' := 369) F (by decide) jc_i dX8_readCode_368 rfl ?_
            refine j_goto (t := 35) F dX8_readCode_369 (by decide) ?_
            first
              | exact j_weak (by exact ⟨rfl, rfl, rfl, trivial⟩) (ih i md ts la φ1 (by omega) h2 (by omega) v11 v10 vm h7 h8 k1 k2 k3 vb vf)
              | (have hk : (rdR (φ 100) (φ 99 0)) = (i, (1 : Int), md, ts) := by
                   rw [← k3]
                   obtain ⟨kk, hkk⟩ : ∃ kk, k = kk + 1 := ⟨k - 1, by omega⟩
                   rw [hkk, rdC, if_neg (by omega), if_neg (by omega)]
                 exact j_weak (by exact ⟨rfl, rfl, rfl, trivial⟩) (done la φ1 (by rw [hk]; exact v11) (by rw [hk]; exact v12) (by rw [hk]; exact v10) (by rw [hk]; exact vm) vb vf))
          · refine j_iconst (n' := 364) F dX8_readCode_363 rfl ?_
            refine j_goto (t := 368) F dX8_readCode_364 (by decide) ?_
            refine j_istore_2 (n' := 369) F (by decide) jc_i dX8_readCode_368 rfl ?_
            refine j_goto (t := 35) F dX8_readCode_369 (by decide) ?_
            first
              | exact j_weak (by exact ⟨rfl, rfl, rfl, trivial⟩) (ih i md ts la φ1 (by omega) h2 (by omega) v11 v10 vm h7 h8 k1 k2 k3 vb vf)
              | (have hk : (rdR (φ 100) (φ 99 0)) = (i, (1 : Int), md, ts) := by
                   rw [← k3]
                   obtain ⟨kk, hkk⟩ : ∃ kk, k = kk + 1 := ⟨k - 1, by omega⟩
                   rw [hkk, rdC, if_neg (by omega), if_neg (by omega)]
                 exact j_weak (by exact ⟨rfl, rfl, rfl, trivial⟩) (done la φ1 (by rw [hk]; exact v11) (by rw [hk]; exact v12) (by rw [hk]; exact v10) (by rw [hk]; exact vm) vb vf))
      intro i md ts la ψ h1 h2 h3 h4 h5 h6 h7 h8 h9 k1 k2 k3 k4
      have u0 : ψ 99 0 = φ 99 0 := k3 0 (by omega) (by omega) (by omega) (by omega)
      have u1 : ψ 100 = φ 100 := funext fun b => k4 100 b (by omega)
      have u2 : ψ 102 = φ 102 := funext fun b => k4 102 b (by omega)
      have um := h6.1
      have hg := c2 i h2 h3
      rw [rdC, if_pos h3] at k2
      by_cases hlt : 97 ≤ φ 100 i ∧ φ 100 i ≤ 100
      · rw [if_pos hlt] at k2
        by_cases hml : (md.length : Int) < 24
        · rw [if_pos hml] at k2
          refine j_iload_2 (n' := 36) F dX8_readCode_35 rfl ?_
          refine j_if_eq (t := 372) (n' := 39) F (by first | omega | (split <;> omega)) dX8_readCode_36 (by decide) rfl (fun c36_0 => ?_) (fun c36_0 => ?_)
          · omega
          · refine j_aload_0 (n' := 40) F dX8_readCode_39 rfl ?_
            refine j_getR (n' := 43) F fl_X8_7 kap_99 rfl dX8_readCode_40 rfl ?_
            refine j_aload_0 (n' := 44) F dX8_readCode_43 rfl ?_
            refine j_getI (n' := 47) F 11 rfl fl_X8_67 kap_99 rfl dX8_readCode_44 rfl ?_
            refine j_iald (n' := 48) F kap_100 (by decide) (by first | omega | (split <;> omega)) dX8_readCode_47 rfl ?_
            rw [h4, u1]
            refine j_istore_3 (n' := 49) F (by decide) jc_i dX8_readCode_48 rfl ?_
            refine j_iload_3 (n' := 50) F dX8_readCode_49 rfl ?_
            refine j_bipush (n' := 52) F dX8_readCode_50 (by decide) rfl ?_
            refine j_bipush (n' := 54) F dX8_readCode_52 (by decide) rfl ?_
            refine j_cS3i (n' := 57) F kl_X8_49 (c_Mod_within (by omega) (by omega) (by omega)) (by decide) (Nat.le_of_ble_eq_true rfl) dX8_readCode_54 rfl (fun z2 φ2 h2 => ?_)
            obtain ⟨rfl, rfl⟩ := h2
            refine j_istore_4 (n' := 59) F (by decide) jc_i dX8_readCode_57 rfl ?_
            refine j_iload_3 (n' := 60) F dX8_readCode_59 rfl ?_
            refine j_bipush (n' := 62) F dX8_readCode_60 (by decide) rfl ?_
            refine j_icmp_ne (t := 69) (n' := 65) F (by first | omega | (split <;> omega)) (by first | omega | (split <;> omega)) dX8_readCode_62 (by decide) rfl (fun c62_2 => ?_) (fun c62_2 => ?_)
            · refine j_iconst (n' := 70) F dX8_readCode_69 rfl ?_
              refine j_istore_5 (n' := 72) F (by decide) jc_i dX8_readCode_70 rfl ?_
              refine j_iload_5 (n' := 74) F dX8_readCode_72 rfl ?_
              refine j_if_eq (t := 81) (n' := 77) F (by first | omega | (split <;> omega)) dX8_readCode_74 (by decide) rfl (fun c74_3 => ?_) (fun c74_3 => ?_)
              · refine j_iload_3 (n' := 82) F dX8_readCode_81 rfl ?_
                refine j_bipush (n' := 84) F dX8_readCode_82 (by decide) rfl ?_
                refine j_bipush (n' := 86) F dX8_readCode_84 (by decide) rfl ?_
                refine j_cS3i (n' := 89) F kl_X8_49 (c_Mod_within (by omega) (by omega) (by omega)) (by decide) (Nat.le_of_ble_eq_true rfl) dX8_readCode_86 rfl (fun z5 φ5 h5 => ?_)
                obtain ⟨rfl, rfl⟩ := h5
                refine j_if_eq (t := 101) (n' := 92) F (by first | omega | (split <;> omega)) dX8_readCode_89 (by decide) rfl (fun c89_5 => ?_) (fun c89_5 => ?_)
                · refine j_iconst (n' := 102) F dX8_readCode_101 rfl ?_
                  refine j_istore_6 (n' := 104) F (by decide) jc_i dX8_readCode_102 rfl ?_
                  refine j_iload_4 (n' := 106) F dX8_readCode_104 rfl ?_
                  refine j_if_eq (t := 126) (n' := 109) F (by first | omega | (split <;> omega)) dX8_readCode_106 (by decide) rfl (fun c106_6 => ?_) (fun c106_6 => ?_)
                  · omega
                  · refine j_aload_0 (n' := 110) F dX8_readCode_109 rfl ?_
                    refine j_getI (n' := 113) F 9 rfl fl_X8_61 kap_99 rfl dX8_readCode_110 rfl ?_
                    refine j_bipush (n' := 115) F dX8_readCode_113 (by decide) rfl ?_
                    refine j_icmp_ge (t := 122) (n' := 118) F (by first | omega | (split <;> omega)) (by first | omega | (split <;> omega)) dX8_readCode_115 (by decide) rfl (fun c115_7 => ?_) (fun c115_7 => ?_)
                    · omega
                    · refine j_iconst (n' := 119) F dX8_readCode_118 rfl ?_
                      refine j_goto (t := 145) F dX8_readCode_119 (by decide) ?_
                      refine j_istore_7 (n' := 147) F (by decide) jc_i dX8_readCode_145 rfl ?_
                      refine j_aload_0 (n' := 148) F dX8_readCode_147 rfl ?_
                      refine j_dup (n' := 149) F rfl dX8_readCode_148 rfl ?_
                      refine j_getI (n' := 152) F 11 rfl fl_X8_67 kap_99 rfl dX8_readCode_149 rfl ?_
                      refine j_iload_7 (n' := 154) F dX8_readCode_152 rfl ?_
                      refine j_if_eq (t := 161) (n' := 157) F (by first | omega | (split <;> omega)) dX8_readCode_154 (by decide) rfl (fun c154_8 => ?_) (fun c154_8 => ?_)
                      · omega
                      · refine j_iconst (n' := 158) F dX8_readCode_157 rfl ?_
                        refine j_goto (t := 162) F dX8_readCode_158 (by decide) ?_
                        refine j_iadd (n' := 163) F dX8_readCode_162 rfl ?_
                        refine j_putI (n' := 166) F 11 rfl fp_X8_67 kap_99 rfl rfl dX8_readCode_163 rfl (fun φ10 e10 => ?_)
                        have w11 : φ10 99 11 = i + 1 := by rw [e10, zU_self]; omega
                        have w9 : φ10 99 9 = md.length := by rw [e10, zU_ne (by omega)]; exact um
                        have w0 : φ10 99 0 = φ 99 0 := by rw [e10, zU_ne (by omega)]; exact u0
                        have w100 : φ10 100 = φ 100 := by rw [e10, zU_off (by omega)]; exact u1
                        have w102 : φ10 102 = φ 102 := by rw [e10, zU_off (by omega)]; exact u2
                        have w10 : φ10 99 10 = rwSum (tkPrice (φ 102)) ts := by rw [e10, zU_ne (by omega)]; exact h5
                        have wm : mdIs φ10 99 103 9 md := h6.fr (by rw [e10, zU_ne (by omega)]) (fun b => by rw [e10, zU_ne (by omega)])
                        have wb : ∀ b, b ≠ 9 → b ≠ 10 → b ≠ 11 → b ≠ 12 → φ10 99 b = φ 99 b := fun b q1 q2 q3 q4 => by rw [e10, zU_ne (by omega)]; exact k3 b q1 q2 q3 q4
                        have wf : frC (fun a => a = 99 ∨ a = 103) φ φ10 := by rw [e10]; exact k4.put (by omega)
                        have hg2 : i + 1 < φ 99 0 → 32 ≤ φ 100 (i + 1) ∧ φ 100 (i + 1) ≤ 126 := fun q => c2 (i + 1) (by omega) q
                        refine j_iload_7 (n' := 168) F dX8_readCode_166 rfl ?_
                        refine j_if_eq (t := 220) (n' := 171) F (by first | omega | (split <;> omega)) dX8_readCode_168 (by decide) rfl (fun c168_10 => ?_) (fun c168_10 => ?_)
                        · omega
                        · refine j_iload_4 (n' := 173) F dX8_readCode_171 rfl ?_
                          refine j_if_eq (t := 220) (n' := 176) F (by first | omega | (split <;> omega)) dX8_readCode_173 (by decide) rfl (fun c173_11 => ?_) (fun c173_11 => ?_)
                          · omega
                          · refine j_aload_0 (n' := 177) F dX8_readCode_176 rfl ?_
                            refine j_getR (n' := 180) F fl_X8_19 kap_99 rfl dX8_readCode_177 rfl ?_
                            refine j_aload_0 (n' := 181) F dX8_readCode_180 rfl ?_
                            refine j_getI (n' := 184) F 9 rfl fl_X8_61 kap_99 rfl dX8_readCode_181 rfl ?_
                            refine j_iload_3 (n' := 185) F dX8_readCode_184 rfl ?_
                            refine j_bipush (n' := 187) F dX8_readCode_185 (by decide) rfl ?_
                            refine j_isub (n' := 188) F dX8_readCode_187 rfl ?_
                            refine j_iast (n' := 189) F kap_103 (by decide) (by first | omega | (split <;> omega)) dX8_readCode_188 rfl (fun φ13 e13 => ?_)
                            refine j_aload_0 (n' := 190) F dX8_readCode_189 rfl ?_
                            refine j_dup (n' := 191) F rfl dX8_readCode_190 rfl ?_
                            refine j_getI (n' := 194) F 9 rfl fl_X8_61 kap_99 rfl dX8_readCode_191 rfl ?_
                            refine j_iconst (n' := 195) F dX8_readCode_194 rfl ?_
                            refine j_iadd (n' := 196) F dX8_readCode_195 rfl ?_
                            refine j_putI (n' := 199) F 9 rfl fp_X8_61 kap_99 rfl rfl dX8_readCode_196 rfl (fun φ14 e14 => ?_)
                            refine j_aload_0 (n' := 200) F dX8_readCode_199 rfl ?_
                            refine j_dup (n' := 201) F rfl dX8_readCode_200 rfl ?_
                            refine j_getI (n' := 204) F 10 rfl fl_X8_64 kap_99 rfl dX8_readCode_201 rfl ?_
                            refine j_aload_0 (n' := 205) F dX8_readCode_204 rfl ?_
                            refine j_getR (n' := 208) F fl_X8_16 kap_99 rfl dX8_readCode_205 rfl ?_
                            refine j_iload_3 (n' := 209) F dX8_readCode_208 rfl ?_
                            refine j_bipush (n' := 211) F dX8_readCode_209 (by decide) rfl ?_
                            refine j_isub (n' := 212) F dX8_readCode_211 rfl ?_
                            refine j_iald (n' := 213) F kap_102 (by decide) (by omega) dX8_readCode_212 rfl ?_
                            refine j_iadd (n' := 214) F dX8_readCode_213 rfl ?_
                            refine j_putI (n' := 217) F 10 rfl fp_X8_64 kap_99 rfl rfl dX8_readCode_214 rfl (fun φ15 e15 => ?_)
                            refine j_goto (t := 341) F dX8_readCode_217 (by decide) ?_
                            exact j_weak (by exact ⟨rfl, rfl, rfl, rfl, trivial⟩) (tail1 la (i + 1) _ _ φ15 (by omega) (by omega) (by omega) (by rw [e15, e14, e13, e10]; simp [zU] <;> omega) (by rw [e15, e14, e13, e10, rwSum_app, rwSum_cons, tkPrice_plain (by omega)]; simp [zU, rwSum]; rw [u2, h5]; rfl) (h6.push (by rw [e15, e14, e13, e10]; simp [zU]) (by rw [e15, e14, e13, e10]; simp [zU]) (fun b hb => by rw [e15, e14, e13, e10]; simp [zU, hb])) (by simp <;> omega) (by simp <;> omega) (by simp) h9 k1 k2 (fun b q1 q2 q3 q4 => by rw [e15, e14, e13, e10]; simp [zU, q1, q2, q3]; exact k3 b q1 q2 q3 q4) (by rw [e15, e14, e13, e10]; repeat (first | exact k4 | refine frC.put ?_ (by omega))))
                · omega
              · omega
            · omega
        · rw [if_neg hml] at k2
          refine j_iload_2 (n' := 36) F dX8_readCode_35 rfl ?_
          refine j_if_eq (t := 372) (n' := 39) F (by first | omega | (split <;> omega)) dX8_readCode_36 (by decide) rfl (fun c36_0 => ?_) (fun c36_0 => ?_)
          · omega
          · refine j_aload_0 (n' := 40) F dX8_readCode_39 rfl ?_
            refine j_getR (n' := 43) F fl_X8_7 kap_99 rfl dX8_readCode_40 rfl ?_
            refine j_aload_0 (n' := 44) F dX8_readCode_43 rfl ?_
            refine j_getI (n' := 47) F 11 rfl fl_X8_67 kap_99 rfl dX8_readCode_44 rfl ?_
            refine j_iald (n' := 48) F kap_100 (by decide) (by first | omega | (split <;> omega)) dX8_readCode_47 rfl ?_
            rw [h4, u1]
            refine j_istore_3 (n' := 49) F (by decide) jc_i dX8_readCode_48 rfl ?_
            refine j_iload_3 (n' := 50) F dX8_readCode_49 rfl ?_
            refine j_bipush (n' := 52) F dX8_readCode_50 (by decide) rfl ?_
            refine j_bipush (n' := 54) F dX8_readCode_52 (by decide) rfl ?_
            refine j_cS3i (n' := 57) F kl_X8_49 (c_Mod_within (by omega) (by omega) (by omega)) (by decide) (Nat.le_of_ble_eq_true rfl) dX8_readCode_54 rfl (fun z2 φ2 h2 => ?_)
            obtain ⟨rfl, rfl⟩ := h2
            refine j_istore_4 (n' := 59) F (by decide) jc_i dX8_readCode_57 rfl ?_
            refine j_iload_3 (n' := 60) F dX8_readCode_59 rfl ?_
            refine j_bipush (n' := 62) F dX8_readCode_60 (by decide) rfl ?_
            refine j_icmp_ne (t := 69) (n' := 65) F (by first | omega | (split <;> omega)) (by first | omega | (split <;> omega)) dX8_readCode_62 (by decide) rfl (fun c62_2 => ?_) (fun c62_2 => ?_)
            · refine j_iconst (n' := 70) F dX8_readCode_69 rfl ?_
              refine j_istore_5 (n' := 72) F (by decide) jc_i dX8_readCode_70 rfl ?_
              refine j_iload_5 (n' := 74) F dX8_readCode_72 rfl ?_
              refine j_if_eq (t := 81) (n' := 77) F (by first | omega | (split <;> omega)) dX8_readCode_74 (by decide) rfl (fun c74_3 => ?_) (fun c74_3 => ?_)
              · refine j_iload_3 (n' := 82) F dX8_readCode_81 rfl ?_
                refine j_bipush (n' := 84) F dX8_readCode_82 (by decide) rfl ?_
                refine j_bipush (n' := 86) F dX8_readCode_84 (by decide) rfl ?_
                refine j_cS3i (n' := 89) F kl_X8_49 (c_Mod_within (by omega) (by omega) (by omega)) (by decide) (Nat.le_of_ble_eq_true rfl) dX8_readCode_86 rfl (fun z5 φ5 h5 => ?_)
                obtain ⟨rfl, rfl⟩ := h5
                refine j_if_eq (t := 101) (n' := 92) F (by first | omega | (split <;> omega)) dX8_readCode_89 (by decide) rfl (fun c89_5 => ?_) (fun c89_5 => ?_)
                · refine j_iconst (n' := 102) F dX8_readCode_101 rfl ?_
                  refine j_istore_6 (n' := 104) F (by decide) jc_i dX8_readCode_102 rfl ?_
                  refine j_iload_4 (n' := 106) F dX8_readCode_104 rfl ?_
                  refine j_if_eq (t := 126) (n' := 109) F (by first | omega | (split <;> omega)) dX8_readCode_106 (by decide) rfl (fun c106_6 => ?_) (fun c106_6 => ?_)
                  · omega
                  · refine j_aload_0 (n' := 110) F dX8_readCode_109 rfl ?_
                    refine j_getI (n' := 113) F 9 rfl fl_X8_61 kap_99 rfl dX8_readCode_110 rfl ?_
                    refine j_bipush (n' := 115) F dX8_readCode_113 (by decide) rfl ?_
                    refine j_icmp_ge (t := 122) (n' := 118) F (by first | omega | (split <;> omega)) (by first | omega | (split <;> omega)) dX8_readCode_115 (by decide) rfl (fun c115_7 => ?_) (fun c115_7 => ?_)
                    · refine j_iconst (n' := 123) F dX8_readCode_122 rfl ?_
                      refine j_goto (t := 145) F dX8_readCode_123 (by decide) ?_
                      refine j_istore_7 (n' := 147) F (by decide) jc_i dX8_readCode_145 rfl ?_
                      refine j_aload_0 (n' := 148) F dX8_readCode_147 rfl ?_
                      refine j_dup (n' := 149) F rfl dX8_readCode_148 rfl ?_
                      refine j_getI (n' := 152) F 11 rfl fl_X8_67 kap_99 rfl dX8_readCode_149 rfl ?_
                      refine j_iload_7 (n' := 154) F dX8_readCode_152 rfl ?_
                      refine j_if_eq (t := 161) (n' := 157) F (by first | omega | (split <;> omega)) dX8_readCode_154 (by decide) rfl (fun c154_8 => ?_) (fun c154_8 => ?_)
                      · refine j_iconst (n' := 162) F dX8_readCode_161 rfl ?_
                        refine j_iadd (n' := 163) F dX8_readCode_162 rfl ?_
                        refine j_putI (n' := 166) F 11 rfl fp_X8_67 kap_99 rfl rfl dX8_readCode_163 rfl (fun φ10 e10 => ?_)
                        refine j_iload_7 (n' := 168) F dX8_readCode_166 rfl ?_
                        refine j_if_eq (t := 220) (n' := 171) F (by first | omega | (split <;> omega)) dX8_readCode_168 (by decide) rfl (fun c168_10 => ?_) (fun c168_10 => ?_)
                        · refine j_iload_7 (n' := 222) F dX8_readCode_220 rfl ?_
                          refine j_if_eq (t := 341) (n' := 225) F (by first | omega | (split <;> omega)) dX8_readCode_222 (by decide) rfl (fun c222_11 => ?_) (fun c222_11 => ?_)
                          · exact j_weak (by exact ⟨rfl, rfl, rfl, rfl, trivial⟩) (tail0 la i md ts φ10 (by rw [e10]; simp [zU] <;> omega) (by rw [e10]; simp [zU]; exact h5) (h6.fr (by rw [e10]; simp [zU]) (fun b => by rw [e10]; simp [zU])) k2 (fun b q1 q2 q3 q4 => by rw [e10]; simp [zU, q3]; exact k3 b q1 q2 q3 q4) (by rw [e10]; exact k4.put (by omega)))
                          · omega
                        · omega
                      · omega
                    · omega
                · omega
              · omega
            · omega
      · rw [if_neg hlt] at k2
        generalize hdd : (if φ 100 i = 61 then la else φ 100 i - 64) = d at k2
        generalize haa : (if φ 100 i = 61 then (1 : Int) else 0) = a at k2
        by_cases hop : 1 ≤ d ∧ d ≤ md.length
        · rw [if_pos hop] at k2
          by_cases h61 : φ 100 i = 61
          · rw [if_pos h61] at hdd
            subst hdd
            refine j_iload_2 (n' := 36) F dX8_readCode_35 rfl ?_
            refine j_if_eq (t := 372) (n' := 39) F (by first | omega | (split <;> omega)) dX8_readCode_36 (by decide) rfl (fun c36_0 => ?_) (fun c36_0 => ?_)
            · omega
            · refine j_aload_0 (n' := 40) F dX8_readCode_39 rfl ?_
              refine j_getR (n' := 43) F fl_X8_7 kap_99 rfl dX8_readCode_40 rfl ?_
              refine j_aload_0 (n' := 44) F dX8_readCode_43 rfl ?_
              refine j_getI (n' := 47) F 11 rfl fl_X8_67 kap_99 rfl dX8_readCode_44 rfl ?_
              refine j_iald (n' := 48) F kap_100 (by decide) (by first | omega | (split <;> omega)) dX8_readCode_47 rfl ?_
              rw [h4, u1]
              refine j_istore_3 (n' := 49) F (by decide) jc_i dX8_readCode_48 rfl ?_
              refine j_iload_3 (n' := 50) F dX8_readCode_49 rfl ?_
              refine j_bipush (n' := 52) F dX8_readCode_50 (by decide) rfl ?_
              refine j_bipush (n' := 54) F dX8_readCode_52 (by decide) rfl ?_
              refine j_cS3i (n' := 57) F kl_X8_49 (c_Mod_within (by omega) (by omega) (by omega)) (by decide) (Nat.le_of_ble_eq_true rfl) dX8_readCode_54 rfl (fun z2 φ2 h2 => ?_)
              obtain ⟨rfl, rfl⟩ := h2
              refine j_istore_4 (n' := 59) F (by decide) jc_i dX8_readCode_57 rfl ?_
              refine j_iload_3 (n' := 60) F dX8_readCode_59 rfl ?_
              refine j_bipush (n' := 62) F dX8_readCode_60 (by decide) rfl ?_
              refine j_icmp_ne (t := 69) (n' := 65) F (by first | omega | (split <;> omega)) (by first | omega | (split <;> omega)) dX8_readCode_62 (by decide) rfl (fun c62_2 => ?_) (fun c62_2 => ?_)
              · omega
              · refine j_iconst (n' := 66) F dX8_readCode_65 rfl ?_
                refine j_goto (t := 70) F dX8_readCode_66 (by decide) ?_
                refine j_istore_5 (n' := 72) F (by decide) jc_i dX8_readCode_70 rfl ?_
                refine j_iload_5 (n' := 74) F dX8_readCode_72 rfl ?_
                refine j_if_eq (t := 81) (n' := 77) F (by first | omega | (split <;> omega)) dX8_readCode_74 (by decide) rfl (fun c74_3 => ?_) (fun c74_3 => ?_)
                · omega
                · refine j_iload_1 (n' := 78) F dX8_readCode_77 rfl ?_
                  refine j_goto (t := 102) F dX8_readCode_78 (by decide) ?_
                  refine j_istore_6 (n' := 104) F (by decide) jc_i dX8_readCode_102 rfl ?_
                  refine j_iload_4 (n' := 106) F dX8_readCode_104 rfl ?_
                  refine j_if_eq (t := 126) (n' := 109) F (by first | omega | (split <;> omega)) dX8_readCode_106 (by decide) rfl (fun c106_4 => ?_) (fun c106_4 => ?_)
                  · refine j_iload_6 (n' := 128) F dX8_readCode_126 rfl ?_
                    refine j_if_le (t := 144) (n' := 131) F (by first | omega | (split <;> omega)) dX8_readCode_128 (by decide) rfl (fun c128_5 => ?_) (fun c128_5 => ?_)
                    · omega
                    · refine j_iload_6 (n' := 133) F dX8_readCode_131 rfl ?_
                      refine j_aload_0 (n' := 134) F dX8_readCode_133 rfl ?_
                      refine j_getI (n' := 137) F 9 rfl fl_X8_61 kap_99 rfl dX8_readCode_134 rfl ?_
                      refine j_icmp_gt (t := 144) (n' := 140) F (by first | omega | (split <;> omega)) (by first | omega | (split <;> omega)) dX8_readCode_137 (by decide) rfl (fun c137_6 => ?_) (fun c137_6 => ?_)
                      · omega
                      · refine j_iconst (n' := 141) F dX8_readCode_140 rfl ?_
                        refine j_goto (t := 145) F dX8_readCode_141 (by decide) ?_
                        refine j_istore_7 (n' := 147) F (by decide) jc_i dX8_readCode_145 rfl ?_
                        refine j_aload_0 (n' := 148) F dX8_readCode_147 rfl ?_
                        refine j_dup (n' := 149) F rfl dX8_readCode_148 rfl ?_
                        refine j_getI (n' := 152) F 11 rfl fl_X8_67 kap_99 rfl dX8_readCode_149 rfl ?_
                        refine j_iload_7 (n' := 154) F dX8_readCode_152 rfl ?_
                        refine j_if_eq (t := 161) (n' := 157) F (by first | omega | (split <;> omega)) dX8_readCode_154 (by decide) rfl (fun c154_7 => ?_) (fun c154_7 => ?_)
                        · omega
                        · refine j_iconst (n' := 158) F dX8_readCode_157 rfl ?_
                          refine j_goto (t := 162) F dX8_readCode_158 (by decide) ?_
                          refine j_iadd (n' := 163) F dX8_readCode_162 rfl ?_
                          refine j_putI (n' := 166) F 11 rfl fp_X8_67 kap_99 rfl rfl dX8_readCode_163 rfl (fun φ9 e9 => ?_)
                          have w11 : φ9 99 11 = i + 1 := by rw [e9, zU_self]; omega
                          have w9 : φ9 99 9 = md.length := by rw [e9, zU_ne (by omega)]; exact um
                          have w0 : φ9 99 0 = φ 99 0 := by rw [e9, zU_ne (by omega)]; exact u0
                          have w100 : φ9 100 = φ 100 := by rw [e9, zU_off (by omega)]; exact u1
                          have w102 : φ9 102 = φ 102 := by rw [e9, zU_off (by omega)]; exact u2
                          have w10 : φ9 99 10 = rwSum (tkPrice (φ 102)) ts := by rw [e9, zU_ne (by omega)]; exact h5
                          have wm : mdIs φ9 99 103 9 md := h6.fr (by rw [e9, zU_ne (by omega)]) (fun b => by rw [e9, zU_ne (by omega)])
                          have wb : ∀ b, b ≠ 9 → b ≠ 10 → b ≠ 11 → b ≠ 12 → φ9 99 b = φ 99 b := fun b q1 q2 q3 q4 => by rw [e9, zU_ne (by omega)]; exact k3 b q1 q2 q3 q4
                          have wf : frC (fun a => a = 99 ∨ a = 103) φ φ9 := by rw [e9]; exact k4.put (by omega)
                          have hg2 : i + 1 < φ 99 0 → 32 ≤ φ 100 (i + 1) ∧ φ 100 (i + 1) ≤ 126 := fun q => c2 (i + 1) (by omega) q
                          refine j_iload_7 (n' := 168) F dX8_readCode_166 rfl ?_
                          refine j_if_eq (t := 220) (n' := 171) F (by first | omega | (split <;> omega)) dX8_readCode_168 (by decide) rfl (fun c168_9 => ?_) (fun c168_9 => ?_)
                          · omega
                          · refine j_iload_4 (n' := 173) F dX8_readCode_171 rfl ?_
                            refine j_if_eq (t := 220) (n' := 176) F (by first | omega | (split <;> omega)) dX8_readCode_173 (by decide) rfl (fun c173_10 => ?_) (fun c173_10 => ?_)
                            · refine j_iload_7 (n' := 222) F dX8_readCode_220 rfl ?_
                              refine j_if_eq (t := 341) (n' := 225) F (by first | omega | (split <;> omega)) dX8_readCode_222 (by decide) rfl (fun c222_11 => ?_) (fun c222_11 => ?_)
                              · omega
                              · refine j_aload_0 (n' := 226) F dX8_readCode_225 rfl ?_
                                refine j_getI (n' := 229) F 11 rfl fl_X8_67 kap_99 rfl dX8_readCode_226 rfl ?_
                                refine j_aload_0 (n' := 230) F dX8_readCode_229 rfl ?_
                                refine j_getI (n' := 233) F 0 rfl fl_X8_53 kap_99 rfl dX8_readCode_230 rfl ?_
                                refine j_icmp_ge (t := 251) (n' := 236) F (by first | omega | (split <;> omega)) (by first | omega | (split <;> omega)) dX8_readCode_233 (by decide) rfl (fun c233_12 => ?_) (fun c233_12 => ?_)
                                · refine j_iconst (n' := 252) F dX8_readCode_251 rfl ?_
                                  refine j_istore_8 (n' := 254) F (by decide) jc_i dX8_readCode_252 rfl ?_
                                  refine j_iload_8 (n' := 256) F dX8_readCode_254 rfl ?_
                                  refine j_iconst (n' := 257) F dX8_readCode_256 rfl ?_
                                  refine j_bipush (n' := 259) F dX8_readCode_257 (by decide) rfl ?_
                                  refine j_cS3i (n' := 262) F kl_X8_49 (c_Mod_within (by omega) (by omega) (by omega)) (by decide) (Nat.le_of_ble_eq_true rfl) dX8_readCode_259 rfl (fun z14 φ14 h14 => ?_)
                                  obtain ⟨rfl, rfl⟩ := h14
                                  refine j_if_eq (t := 281) (n' := 265) F (by first | omega | (split <;> omega)) dX8_readCode_262 (by decide) rfl (fun c262_14 => ?_) (fun c262_14 => ?_)
                                  · refine j_iconst (n' := 282) F dX8_readCode_281 rfl ?_
                                    refine j_istore_7 (n' := 284) F (by decide) jc_i dX8_readCode_282 rfl ?_
                                    refine j_iload_7 (n' := 286) F dX8_readCode_284 rfl ?_
                                    refine j_if_eq (t := 341) (n' := 289) F (by first | omega | (split <;> omega)) dX8_readCode_286 (by decide) rfl (fun c286_15 => ?_) (fun c286_15 => ?_)
                                    · exact j_weak (by exact ⟨rfl, rfl, rfl, rfl, trivial⟩) (tail0 la (i + 1) md ts φ9 (by rw [e9]; simp [zU] <;> omega) (by rw [e9]; simp [zU]; exact h5) (h6.fr (by rw [e9]; simp [zU]) (fun b => by rw [e9]; simp [zU])) (by rw [← k2, figF, if_neg (by omega)]) (fun b q1 q2 q3 q4 => by rw [e9]; simp [zU, q3]; exact k3 b q1 q2 q3 q4) (by rw [e9]; exact k4.put (by omega)))
                                    · omega
                                  · omega
                                · refine j_aload_0 (n' := 237) F dX8_readCode_236 rfl ?_
                                  refine j_getR (n' := 240) F fl_X8_7 kap_99 rfl dX8_readCode_237 rfl ?_
                                  refine j_aload_0 (n' := 241) F dX8_readCode_240 rfl ?_
                                  refine j_getI (n' := 244) F 11 rfl fl_X8_67 kap_99 rfl dX8_readCode_241 rfl ?_
                                  refine j_iald (n' := 245) F kap_100 (by decide) (by first | omega | (split <;> omega)) dX8_readCode_244 rfl ?_
                                  refine j_bipush (n' := 247) F dX8_readCode_245 (by decide) rfl ?_
                                  refine j_isub (n' := 248) F dX8_readCode_247 rfl ?_
                                  rw [w11, w100]
                                  refine j_goto (t := 252) F dX8_readCode_248 (by decide) ?_
                                  refine j_istore_8 (n' := 254) F (by decide) jc_i dX8_readCode_252 rfl ?_
                                  refine j_iload_8 (n' := 256) F dX8_readCode_254 rfl ?_
                                  refine j_iconst (n' := 257) F dX8_readCode_256 rfl ?_
                                  refine j_bipush (n' := 259) F dX8_readCode_257 (by decide) rfl ?_
                                  refine j_cS3i (n' := 262) F kl_X8_49 (c_Mod_within (by omega) (by omega) (by omega)) (by decide) (Nat.le_of_ble_eq_true rfl) dX8_readCode_259 rfl (fun z17 φ17 h17 => ?_)
                                  obtain ⟨rfl, rfl⟩ := h17
                                  refine j_if_eq (t := 281) (n' := 265) F (by first | omega | (split <;> omega)) dX8_readCode_262 (by decide) rfl (fun c262_17 => ?_) (fun c262_17 => ?_)
                                  · refine j_iconst (n' := 282) F dX8_readCode_281 rfl ?_
                                    refine j_istore_7 (n' := 284) F (by decide) jc_i dX8_readCode_282 rfl ?_
                                    refine j_iload_7 (n' := 286) F dX8_readCode_284 rfl ?_
                                    refine j_if_eq (t := 341) (n' := 289) F (by first | omega | (split <;> omega)) dX8_readCode_286 (by decide) rfl (fun c286_18 => ?_) (fun c286_18 => ?_)
                                    · exact j_weak (by exact ⟨rfl, rfl, rfl, rfl, trivial⟩) (tail0 la (i + 1) md ts φ9 (by rw [e9]; simp [zU] <;> omega) (by rw [e9]; simp [zU]; exact h5) (h6.fr (by rw [e9]; simp [zU]) (fun b => by rw [e9]; simp [zU])) (by rw [← k2, figF, if_neg (by omega)]) (fun b q1 q2 q3 q4 => by rw [e9]; simp [zU, q3]; exact k3 b q1 q2 q3 q4) (by rw [e9]; exact k4.put (by omega)))
                                    · omega
                                  · refine j_aload_0 (n' := 266) F dX8_readCode_265 rfl ?_
                                    refine j_getI (n' := 269) F 9 rfl fl_X8_61 kap_99 rfl dX8_readCode_266 rfl ?_
                                    refine j_iload_8 (n' := 271) F dX8_readCode_269 rfl ?_
                                    refine j_iadd (n' := 272) F dX8_readCode_271 rfl ?_
                                    refine j_bipush (n' := 274) F dX8_readCode_272 (by decide) rfl ?_
                                    refine j_icmp_gt (t := 281) (n' := 277) F (by first | omega | (split <;> omega)) (by first | omega | (split <;> omega)) dX8_readCode_274 (by decide) rfl (fun c274_19 => ?_) (fun c274_19 => ?_)
                                    · refine j_iconst (n' := 282) F dX8_readCode_281 rfl ?_
                                      refine j_istore_7 (n' := 284) F (by decide) jc_i dX8_readCode_282 rfl ?_
                                      refine j_iload_7 (n' := 286) F dX8_readCode_284 rfl ?_
                                      refine j_if_eq (t := 341) (n' := 289) F (by first | omega | (split <;> omega)) dX8_readCode_286 (by decide) rfl (fun c286_20 => ?_) (fun c286_20 => ?_)
                                      · exact j_weak (by exact ⟨rfl, rfl, rfl, rfl, trivial⟩) (tail0 la (i + 1) md ts φ9 (by rw [e9]; simp [zU] <;> omega) (by rw [e9]; simp [zU]; exact h5) (h6.fr (by rw [e9]; simp [zU]) (fun b => by rw [e9]; simp [zU])) (by rw [← k2, figF, if_neg (by omega)]) (fun b q1 q2 q3 q4 => by rw [e9]; simp [zU, q3]; exact k3 b q1 q2 q3 q4) (by rw [e9]; exact k4.put (by omega)))
                                      · omega
                                    · refine j_iconst (n' := 278) F dX8_readCode_277 rfl ?_
                                      refine j_goto (t := 282) F dX8_readCode_278 (by decide) ?_
                                      refine j_istore_7 (n' := 284) F (by decide) jc_i dX8_readCode_282 rfl ?_
                                      refine j_iload_7 (n' := 286) F dX8_readCode_284 rfl ?_
                                      refine j_if_eq (t := 341) (n' := 289) F (by first | omega | (split <;> omega)) dX8_readCode_286 (by decide) rfl (fun c286_21 => ?_) (fun c286_21 => ?_)
                                      · omega
                                      · refine j_aload_0 (n' := 290) F dX8_readCode_289 rfl ?_
                                        refine j_iload_6 (n' := 292) F dX8_readCode_290 rfl ?_
                                        refine j_iload_8 (n' := 294) F dX8_readCode_292 rfl ?_
                                        refine j_cV2v (n' := 297) F kl_X8_74 (c_Mod_copy wm (by omega) (by omega)) kap_99 rfl (by decide) (Nat.le_of_ble_eq_true rfl) dX8_readCode_294 rfl (fun z23 φ23 h23 => ?_)
                                        obtain ⟨hm23, hq23, hf23⟩ := h23
                                        have z102 : φ23 102 = φ 102 := (funext fun b => hf23 102 b (by omega)).trans w102
                                        refine j_aload_0 (n' := 298) F dX8_readCode_297 rfl ?_
                                        refine j_dup (n' := 299) F rfl dX8_readCode_298 rfl ?_
                                        refine j_getI (n' := 302) F 10 rfl fl_X8_64 kap_99 rfl dX8_readCode_299 rfl ?_
                                        refine j_iload_5 (n' := 304) F dX8_readCode_302 rfl ?_
                                        refine j_if_eq (t := 316) (n' := 307) F (by first | omega | (split <;> omega)) dX8_readCode_304 (by decide) rfl (fun c304_23 => ?_) (fun c304_23 => ?_)
                                        · omega
                                        · refine j_aload_0 (n' := 308) F dX8_readCode_307 rfl ?_
                                          refine j_iload_8 (n' := 310) F dX8_readCode_308 rfl ?_
                                          refine j_cV1i (n' := 313) F kl_X8_78 (c_Mod_againPrice (by omega)) kap_99 rfl (by decide) (Nat.le_of_ble_eq_true rfl) dX8_readCode_310 rfl (fun z25 φ25 h25 => ?_)
                                          obtain ⟨rfl, rfl⟩ := h25
                                          refine j_goto (t := 324) F dX8_readCode_313 (by decide) ?_
                                          refine j_iadd (n' := 325) F dX8_readCode_324 rfl ?_
                                          refine j_putI (n' := 328) F 10 rfl fp_X8_64 kap_99 rfl rfl dX8_readCode_325 rfl (fun φ26 e26 => ?_)
                                          refine j_iload_6 (n' := 330) F dX8_readCode_328 rfl ?_
                                          refine j_istore_1 (n' := 331) F (by decide) jc_r dX8_readCode_330 rfl ?_
                                          refine j_aload_0 (n' := 332) F dX8_readCode_331 rfl ?_
                                          refine j_dup (n' := 333) F rfl dX8_readCode_332 rfl ?_
                                          refine j_getI (n' := 336) F 11 rfl fl_X8_67 kap_99 rfl dX8_readCode_333 rfl ?_
                                          refine j_iconst (n' := 337) F dX8_readCode_336 rfl ?_
                                          refine j_iadd (n' := 338) F dX8_readCode_337 rfl ?_
                                          refine j_putI (n' := 341) F 11 rfl fp_X8_67 kap_99 rfl rfl dX8_readCode_338 rfl (fun φ27 e27 => ?_)
                                          rw [figF, if_pos (by omega)] at k2
                                          rw [show a = 1 by rw [← haa]; first | rw [if_pos (by omega)] | rw [if_neg (by omega)]] at k2
                                          refine j_weak (by exact ⟨rfl, rfl, rfl, rfl, trivial⟩) (tail1 la (i + 1 + 1) _ _ φ27 (by omega) (by omega) (by omega) (by rw [e27, e26]; simp [zU]; rw [hq23 11 (by omega), w11]) ?_ (hm23.fr (by rw [e27, e26]; simp [zU]) (fun b => by rw [e27, e26]; simp [zU])) (by rw [cpN_len]; simp <;> omega) (by rw [cpN_len]; omega) (by simp) (by omega) (by omega) k2 (fun b q1 q2 q3 q4 => by rw [e27, e26]; simp [zU, q2, q3]; rw [hq23 b q1]; exact wb b q1 q2 q3 q4) (by rw [e27, e26]; exact (((wf.tr hf23).put (by omega)).put (by omega))))
                                          rw [e27, e26, rwSum_app, rwSum_cons, if_neg (by omega)]
                                          simp [zU, rwSum]
                                          rw [hq23 10 (by omega), w10, z102]
                                          rfl
                            · omega
                  · omega
          · rw [if_neg h61] at hdd
            have hc65 : 65 ≤ φ 100 i ∧ φ 100 i ≤ 88 := by omega
            have hde : φ 100 i - 65 + 1 = d := by omega
            refine j_iload_2 (n' := 36) F dX8_readCode_35 rfl ?_
            refine j_if_eq (t := 372) (n' := 39) F (by first | omega | (split <;> omega)) dX8_readCode_36 (by decide) rfl (fun c36_0 => ?_) (fun c36_0 => ?_)
            · omega
            · refine j_aload_0 (n' := 40) F dX8_readCode_39 rfl ?_
              refine j_getR (n' := 43) F fl_X8_7 kap_99 rfl dX8_readCode_40 rfl ?_
              refine j_aload_0 (n' := 44) F dX8_readCode_43 rfl ?_
              refine j_getI (n' := 47) F 11 rfl fl_X8_67 kap_99 rfl dX8_readCode_44 rfl ?_
              refine j_iald (n' := 48) F kap_100 (by decide) (by first | omega | (split <;> omega)) dX8_readCode_47 rfl ?_
              rw [h4, u1]
              refine j_istore_3 (n' := 49) F (by decide) jc_i dX8_readCode_48 rfl ?_
              refine j_iload_3 (n' := 50) F dX8_readCode_49 rfl ?_
              refine j_bipush (n' := 52) F dX8_readCode_50 (by decide) rfl ?_
              refine j_bipush (n' := 54) F dX8_readCode_52 (by decide) rfl ?_
              refine j_cS3i (n' := 57) F kl_X8_49 (c_Mod_within (by omega) (by omega) (by omega)) (by decide) (Nat.le_of_ble_eq_true rfl) dX8_readCode_54 rfl (fun z2 φ2 h2 => ?_)
              obtain ⟨rfl, rfl⟩ := h2
              refine j_istore_4 (n' := 59) F (by decide) jc_i dX8_readCode_57 rfl ?_
              refine j_iload_3 (n' := 60) F dX8_readCode_59 rfl ?_
              refine j_bipush (n' := 62) F dX8_readCode_60 (by decide) rfl ?_
              refine j_icmp_ne (t := 69) (n' := 65) F (by first | omega | (split <;> omega)) (by first | omega | (split <;> omega)) dX8_readCode_62 (by decide) rfl (fun c62_2 => ?_) (fun c62_2 => ?_)
              · refine j_iconst (n' := 70) F dX8_readCode_69 rfl ?_
                refine j_istore_5 (n' := 72) F (by decide) jc_i dX8_readCode_70 rfl ?_
                refine j_iload_5 (n' := 74) F dX8_readCode_72 rfl ?_
                refine j_if_eq (t := 81) (n' := 77) F (by first | omega | (split <;> omega)) dX8_readCode_74 (by decide) rfl (fun c74_3 => ?_) (fun c74_3 => ?_)
                · refine j_iload_3 (n' := 82) F dX8_readCode_81 rfl ?_
                  refine j_bipush (n' := 84) F dX8_readCode_82 (by decide) rfl ?_
                  refine j_bipush (n' := 86) F dX8_readCode_84 (by decide) rfl ?_
                  refine j_cS3i (n' := 89) F kl_X8_49 (c_Mod_within (by omega) (by omega) (by omega)) (by decide) (Nat.le_of_ble_eq_true rfl) dX8_readCode_86 rfl (fun z5 φ5 h5 => ?_)
                  obtain ⟨rfl, rfl⟩ := h5
                  refine j_if_eq (t := 101) (n' := 92) F (by first | omega | (split <;> omega)) dX8_readCode_89 (by decide) rfl (fun c89_5 => ?_) (fun c89_5 => ?_)
                  · omega
                  · refine j_iload_3 (n' := 93) F dX8_readCode_92 rfl ?_
                    refine j_bipush (n' := 95) F dX8_readCode_93 (by decide) rfl ?_
                    refine j_isub (n' := 96) F dX8_readCode_95 rfl ?_
                    refine j_iconst (n' := 97) F dX8_readCode_96 rfl ?_
                    refine j_iadd (n' := 98) F dX8_readCode_97 rfl ?_
                    refine j_goto (t := 102) F dX8_readCode_98 (by decide) ?_
                    rw [hde]
                    refine j_istore_6 (n' := 104) F (by decide) jc_i dX8_readCode_102 rfl ?_
                    refine j_iload_4 (n' := 106) F dX8_readCode_104 rfl ?_
                    refine j_if_eq (t := 126) (n' := 109) F (by first | omega | (split <;> omega)) dX8_readCode_106 (by decide) rfl (fun c106_6 => ?_) (fun c106_6 => ?_)
                    · refine j_iload_6 (n' := 128) F dX8_readCode_126 rfl ?_
                      refine j_if_le (t := 144) (n' := 131) F (by first | omega | (split <;> omega)) dX8_readCode_128 (by decide) rfl (fun c128_7 => ?_) (fun c128_7 => ?_)
                      · omega
                      · refine j_iload_6 (n' := 133) F dX8_readCode_131 rfl ?_
                        refine j_aload_0 (n' := 134) F dX8_readCode_133 rfl ?_
                        refine j_getI (n' := 137) F 9 rfl fl_X8_61 kap_99 rfl dX8_readCode_134 rfl ?_
                        refine j_icmp_gt (t := 144) (n' := 140) F (by first | omega | (split <;> omega)) (by first | omega | (split <;> omega)) dX8_readCode_137 (by decide) rfl (fun c137_8 => ?_) (fun c137_8 => ?_)
                        · omega
                        · refine j_iconst (n' := 141) F dX8_readCode_140 rfl ?_
                          refine j_goto (t := 145) F dX8_readCode_141 (by decide) ?_
                          refine j_istore_7 (n' := 147) F (by decide) jc_i dX8_readCode_145 rfl ?_
                          refine j_aload_0 (n' := 148) F dX8_readCode_147 rfl ?_
                          refine j_dup (n' := 149) F rfl dX8_readCode_148 rfl ?_
                          refine j_getI (n' := 152) F 11 rfl fl_X8_67 kap_99 rfl dX8_readCode_149 rfl ?_
                          refine j_iload_7 (n' := 154) F dX8_readCode_152 rfl ?_
                          refine j_if_eq (t := 161) (n' := 157) F (by first | omega | (split <;> omega)) dX8_readCode_154 (by decide) rfl (fun c154_9 => ?_) (fun c154_9 => ?_)
                          · omega
                          · refine j_iconst (n' := 158) F dX8_readCode_157 rfl ?_
                            refine j_goto (t := 162) F dX8_readCode_158 (by decide) ?_
                            refine j_iadd (n' := 163) F dX8_readCode_162 rfl ?_
                            refine j_putI (n' := 166) F 11 rfl fp_X8_67 kap_99 rfl rfl dX8_readCode_163 rfl (fun φ11 e11 => ?_)
                            have w11 : φ11 99 11 = i + 1 := by rw [e11, zU_self]; omega
                            have w9 : φ11 99 9 = md.length := by rw [e11, zU_ne (by omega)]; exact um
                            have w0 : φ11 99 0 = φ 99 0 := by rw [e11, zU_ne (by omega)]; exact u0
                            have w100 : φ11 100 = φ 100 := by rw [e11, zU_off (by omega)]; exact u1
                            have w102 : φ11 102 = φ 102 := by rw [e11, zU_off (by omega)]; exact u2
                            have w10 : φ11 99 10 = rwSum (tkPrice (φ 102)) ts := by rw [e11, zU_ne (by omega)]; exact h5
                            have wm : mdIs φ11 99 103 9 md := h6.fr (by rw [e11, zU_ne (by omega)]) (fun b => by rw [e11, zU_ne (by omega)])
                            have wb : ∀ b, b ≠ 9 → b ≠ 10 → b ≠ 11 → b ≠ 12 → φ11 99 b = φ 99 b := fun b q1 q2 q3 q4 => by rw [e11, zU_ne (by omega)]; exact k3 b q1 q2 q3 q4
                            have wf : frC (fun a => a = 99 ∨ a = 103) φ φ11 := by rw [e11]; exact k4.put (by omega)
                            have hg2 : i + 1 < φ 99 0 → 32 ≤ φ 100 (i + 1) ∧ φ 100 (i + 1) ≤ 126 := fun q => c2 (i + 1) (by omega) q
                            refine j_iload_7 (n' := 168) F dX8_readCode_166 rfl ?_
                            refine j_if_eq (t := 220) (n' := 171) F (by first | omega | (split <;> omega)) dX8_readCode_168 (by decide) rfl (fun c168_11 => ?_) (fun c168_11 => ?_)
                            · omega
                            · refine j_iload_4 (n' := 173) F dX8_readCode_171 rfl ?_
                              refine j_if_eq (t := 220) (n' := 176) F (by first | omega | (split <;> omega)) dX8_readCode_173 (by decide) rfl (fun c173_12 => ?_) (fun c173_12 => ?_)
                              · refine j_iload_7 (n' := 222) F dX8_readCode_220 rfl ?_
                                refine j_if_eq (t := 341) (n' := 225) F (by first | omega | (split <;> omega)) dX8_readCode_222 (by decide) rfl (fun c222_13 => ?_) (fun c222_13 => ?_)
                                · omega
                                · refine j_aload_0 (n' := 226) F dX8_readCode_225 rfl ?_
                                  refine j_getI (n' := 229) F 11 rfl fl_X8_67 kap_99 rfl dX8_readCode_226 rfl ?_
                                  refine j_aload_0 (n' := 230) F dX8_readCode_229 rfl ?_
                                  refine j_getI (n' := 233) F 0 rfl fl_X8_53 kap_99 rfl dX8_readCode_230 rfl ?_
                                  refine j_icmp_ge (t := 251) (n' := 236) F (by first | omega | (split <;> omega)) (by first | omega | (split <;> omega)) dX8_readCode_233 (by decide) rfl (fun c233_14 => ?_) (fun c233_14 => ?_)
                                  · refine j_iconst (n' := 252) F dX8_readCode_251 rfl ?_
                                    refine j_istore_8 (n' := 254) F (by decide) jc_i dX8_readCode_252 rfl ?_
                                    refine j_iload_8 (n' := 256) F dX8_readCode_254 rfl ?_
                                    refine j_iconst (n' := 257) F dX8_readCode_256 rfl ?_
                                    refine j_bipush (n' := 259) F dX8_readCode_257 (by decide) rfl ?_
                                    refine j_cS3i (n' := 262) F kl_X8_49 (c_Mod_within (by omega) (by omega) (by omega)) (by decide) (Nat.le_of_ble_eq_true rfl) dX8_readCode_259 rfl (fun z16 φ16 h16 => ?_)
                                    obtain ⟨rfl, rfl⟩ := h16
                                    refine j_if_eq (t := 281) (n' := 265) F (by first | omega | (split <;> omega)) dX8_readCode_262 (by decide) rfl (fun c262_16 => ?_) (fun c262_16 => ?_)
                                    · refine j_iconst (n' := 282) F dX8_readCode_281 rfl ?_
                                      refine j_istore_7 (n' := 284) F (by decide) jc_i dX8_readCode_282 rfl ?_
                                      refine j_iload_7 (n' := 286) F dX8_readCode_284 rfl ?_
                                      refine j_if_eq (t := 341) (n' := 289) F (by first | omega | (split <;> omega)) dX8_readCode_286 (by decide) rfl (fun c286_17 => ?_) (fun c286_17 => ?_)
                                      · exact j_weak (by exact ⟨rfl, rfl, rfl, rfl, trivial⟩) (tail0 la (i + 1) md ts φ11 (by rw [e11]; simp [zU] <;> omega) (by rw [e11]; simp [zU]; exact h5) (h6.fr (by rw [e11]; simp [zU]) (fun b => by rw [e11]; simp [zU])) (by rw [← k2, figF, if_neg (by omega)]) (fun b q1 q2 q3 q4 => by rw [e11]; simp [zU, q3]; exact k3 b q1 q2 q3 q4) (by rw [e11]; exact k4.put (by omega)))
                                      · omega
                                    · omega
                                  · refine j_aload_0 (n' := 237) F dX8_readCode_236 rfl ?_
                                    refine j_getR (n' := 240) F fl_X8_7 kap_99 rfl dX8_readCode_237 rfl ?_
                                    refine j_aload_0 (n' := 241) F dX8_readCode_240 rfl ?_
                                    refine j_getI (n' := 244) F 11 rfl fl_X8_67 kap_99 rfl dX8_readCode_241 rfl ?_
                                    refine j_iald (n' := 245) F kap_100 (by decide) (by first | omega | (split <;> omega)) dX8_readCode_244 rfl ?_
                                    refine j_bipush (n' := 247) F dX8_readCode_245 (by decide) rfl ?_
                                    refine j_isub (n' := 248) F dX8_readCode_247 rfl ?_
                                    rw [w11, w100]
                                    refine j_goto (t := 252) F dX8_readCode_248 (by decide) ?_
                                    refine j_istore_8 (n' := 254) F (by decide) jc_i dX8_readCode_252 rfl ?_
                                    refine j_iload_8 (n' := 256) F dX8_readCode_254 rfl ?_
                                    refine j_iconst (n' := 257) F dX8_readCode_256 rfl ?_
                                    refine j_bipush (n' := 259) F dX8_readCode_257 (by decide) rfl ?_
                                    refine j_cS3i (n' := 262) F kl_X8_49 (c_Mod_within (by omega) (by omega) (by omega)) (by decide) (Nat.le_of_ble_eq_true rfl) dX8_readCode_259 rfl (fun z19 φ19 h19 => ?_)
                                    obtain ⟨rfl, rfl⟩ := h19
                                    refine j_if_eq (t := 281) (n' := 265) F (by first | omega | (split <;> omega)) dX8_readCode_262 (by decide) rfl (fun c262_19 => ?_) (fun c262_19 => ?_)
                                    · refine j_iconst (n' := 282) F dX8_readCode_281 rfl ?_
                                      refine j_istore_7 (n' := 284) F (by decide) jc_i dX8_readCode_282 rfl ?_
                                      refine j_iload_7 (n' := 286) F dX8_readCode_284 rfl ?_
                                      refine j_if_eq (t := 341) (n' := 289) F (by first | omega | (split <;> omega)) dX8_readCode_286 (by decide) rfl (fun c286_20 => ?_) (fun c286_20 => ?_)
                                      · exact j_weak (by exact ⟨rfl, rfl, rfl, rfl, trivial⟩) (tail0 la (i + 1) md ts φ11 (by rw [e11]; simp [zU] <;> omega) (by rw [e11]; simp [zU]; exact h5) (h6.fr (by rw [e11]; simp [zU]) (fun b => by rw [e11]; simp [zU])) (by rw [← k2, figF, if_neg (by omega)]) (fun b q1 q2 q3 q4 => by rw [e11]; simp [zU, q3]; exact k3 b q1 q2 q3 q4) (by rw [e11]; exact k4.put (by omega)))
                                      · omega
                                    · refine j_aload_0 (n' := 266) F dX8_readCode_265 rfl ?_
                                      refine j_getI (n' := 269) F 9 rfl fl_X8_61 kap_99 rfl dX8_readCode_266 rfl ?_
                                      refine j_iload_8 (n' := 271) F dX8_readCode_269 rfl ?_
                                      refine j_iadd (n' := 272) F dX8_readCode_271 rfl ?_
                                      refine j_bipush (n' := 274) F dX8_readCode_272 (by decide) rfl ?_
                                      refine j_icmp_gt (t := 281) (n' := 277) F (by first | omega | (split <;> omega)) (by first | omega | (split <;> omega)) dX8_readCode_274 (by decide) rfl (fun c274_21 => ?_) (fun c274_21 => ?_)
                                      · refine j_iconst (n' := 282) F dX8_readCode_281 rfl ?_
                                        refine j_istore_7 (n' := 284) F (by decide) jc_i dX8_readCode_282 rfl ?_
                                        refine j_iload_7 (n' := 286) F dX8_readCode_284 rfl ?_
                                        refine j_if_eq (t := 341) (n' := 289) F (by first | omega | (split <;> omega)) dX8_readCode_286 (by decide) rfl (fun c286_22 => ?_) (fun c286_22 => ?_)
                                        · exact j_weak (by exact ⟨rfl, rfl, rfl, rfl, trivial⟩) (tail0 la (i + 1) md ts φ11 (by rw [e11]; simp [zU] <;> omega) (by rw [e11]; simp [zU]; exact h5) (h6.fr (by rw [e11]; simp [zU]) (fun b => by rw [e11]; simp [zU])) (by rw [← k2, figF, if_neg (by omega)]) (fun b q1 q2 q3 q4 => by rw [e11]; simp [zU, q3]; exact k3 b q1 q2 q3 q4) (by rw [e11]; exact k4.put (by omega)))
                                        · omega
                                      · refine j_iconst (n' := 278) F dX8_readCode_277 rfl ?_
                                        refine j_goto (t := 282) F dX8_readCode_278 (by decide) ?_
                                        refine j_istore_7 (n' := 284) F (by decide) jc_i dX8_readCode_282 rfl ?_
                                        refine j_iload_7 (n' := 286) F dX8_readCode_284 rfl ?_
                                        refine j_if_eq (t := 341) (n' := 289) F (by first | omega | (split <;> omega)) dX8_readCode_286 (by decide) rfl (fun c286_23 => ?_) (fun c286_23 => ?_)
                                        · omega
                                        · refine j_aload_0 (n' := 290) F dX8_readCode_289 rfl ?_
                                          refine j_iload_6 (n' := 292) F dX8_readCode_290 rfl ?_
                                          refine j_iload_8 (n' := 294) F dX8_readCode_292 rfl ?_
                                          refine j_cV2v (n' := 297) F kl_X8_74 (c_Mod_copy wm (by omega) (by omega)) kap_99 rfl (by decide) (Nat.le_of_ble_eq_true rfl) dX8_readCode_294 rfl (fun z25 φ25 h25 => ?_)
                                          obtain ⟨hm25, hq25, hf25⟩ := h25
                                          have z102 : φ25 102 = φ 102 := (funext fun b => hf25 102 b (by omega)).trans w102
                                          refine j_aload_0 (n' := 298) F dX8_readCode_297 rfl ?_
                                          refine j_dup (n' := 299) F rfl dX8_readCode_298 rfl ?_
                                          refine j_getI (n' := 302) F 10 rfl fl_X8_64 kap_99 rfl dX8_readCode_299 rfl ?_
                                          refine j_iload_5 (n' := 304) F dX8_readCode_302 rfl ?_
                                          refine j_if_eq (t := 316) (n' := 307) F (by first | omega | (split <;> omega)) dX8_readCode_304 (by decide) rfl (fun c304_25 => ?_) (fun c304_25 => ?_)
                                          · refine j_aload_0 (n' := 317) F dX8_readCode_316 rfl ?_
                                            refine j_iload_6 (n' := 319) F dX8_readCode_317 rfl ?_
                                            refine j_iload_8 (n' := 321) F dX8_readCode_319 rfl ?_
                                            refine j_cV2i (n' := 324) F kl_X8_81 (c_Mod_copyPrice (by omega) (by omega)) kap_99 rfl (by decide) (Nat.le_of_ble_eq_true rfl) dX8_readCode_321 rfl (fun z27 φ27 h27 => ?_)
                                            obtain ⟨rfl, rfl⟩ := h27
                                            refine j_iadd (n' := 325) F dX8_readCode_324 rfl ?_
                                            refine j_putI (n' := 328) F 10 rfl fp_X8_64 kap_99 rfl rfl dX8_readCode_325 rfl (fun φ28 e28 => ?_)
                                            refine j_iload_6 (n' := 330) F dX8_readCode_328 rfl ?_
                                            refine j_istore_1 (n' := 331) F (by decide) jc_r dX8_readCode_330 rfl ?_
                                            refine j_aload_0 (n' := 332) F dX8_readCode_331 rfl ?_
                                            refine j_dup (n' := 333) F rfl dX8_readCode_332 rfl ?_
                                            refine j_getI (n' := 336) F 11 rfl fl_X8_67 kap_99 rfl dX8_readCode_333 rfl ?_
                                            refine j_iconst (n' := 337) F dX8_readCode_336 rfl ?_
                                            refine j_iadd (n' := 338) F dX8_readCode_337 rfl ?_
                                            refine j_putI (n' := 341) F 11 rfl fp_X8_67 kap_99 rfl rfl dX8_readCode_338 rfl (fun φ29 e29 => ?_)
                                            rw [figF, if_pos (by omega)] at k2
                                            rw [show a = 0 by rw [← haa]; first | rw [if_pos (by omega)] | rw [if_neg (by omega)]] at k2
                                            refine j_weak (by exact ⟨rfl, rfl, rfl, rfl, trivial⟩) (tail1 d (i + 1 + 1) _ _ φ29 (by omega) (by omega) (by omega) (by rw [e29, e28]; simp [zU]; rw [hq25 11 (by omega), w11]) ?_ (hm25.fr (by rw [e29, e28]; simp [zU]) (fun b => by rw [e29, e28]; simp [zU])) (by rw [cpN_len]; simp <;> omega) (by rw [cpN_len]; omega) (by simp) (by omega) (by omega) k2 (fun b q1 q2 q3 q4 => by rw [e29, e28]; simp [zU, q2, q3]; rw [hq25 b q1]; exact wb b q1 q2 q3 q4) (by rw [e29, e28]; exact (((wf.tr hf25).put (by omega)).put (by omega))))
                                            rw [e29, e28, rwSum_app, rwSum_cons, if_pos rfl]
                                            simp [zU, rwSum]
                                            rw [hq25 10 (by omega), w10, z102]
                                            rfl
                                          · omega
                              · omega
                    · omega
                · omega
              · omega
        · rw [if_neg hop] at k2
          by_cases h61 : φ 100 i = 61
          · rw [if_pos h61] at hdd
            subst hdd
            refine j_iload_2 (n' := 36) F dX8_readCode_35 rfl ?_
            refine j_if_eq (t := 372) (n' := 39) F (by first | omega | (split <;> omega)) dX8_readCode_36 (by decide) rfl (fun c36_0 => ?_) (fun c36_0 => ?_)
            · omega
            · refine j_aload_0 (n' := 40) F dX8_readCode_39 rfl ?_
              refine j_getR (n' := 43) F fl_X8_7 kap_99 rfl dX8_readCode_40 rfl ?_
              refine j_aload_0 (n' := 44) F dX8_readCode_43 rfl ?_
              refine j_getI (n' := 47) F 11 rfl fl_X8_67 kap_99 rfl dX8_readCode_44 rfl ?_
              refine j_iald (n' := 48) F kap_100 (by decide) (by first | omega | (split <;> omega)) dX8_readCode_47 rfl ?_
              rw [h4, u1]
              refine j_istore_3 (n' := 49) F (by decide) jc_i dX8_readCode_48 rfl ?_
              refine j_iload_3 (n' := 50) F dX8_readCode_49 rfl ?_
              refine j_bipush (n' := 52) F dX8_readCode_50 (by decide) rfl ?_
              refine j_bipush (n' := 54) F dX8_readCode_52 (by decide) rfl ?_
              refine j_cS3i (n' := 57) F kl_X8_49 (c_Mod_within (by omega) (by omega) (by omega)) (by decide) (Nat.le_of_ble_eq_true rfl) dX8_readCode_54 rfl (fun z2 φ2 h2 => ?_)
              obtain ⟨rfl, rfl⟩ := h2
              refine j_istore_4 (n' := 59) F (by decide) jc_i dX8_readCode_57 rfl ?_
              refine j_iload_3 (n' := 60) F dX8_readCode_59 rfl ?_
              refine j_bipush (n' := 62) F dX8_readCode_60 (by decide) rfl ?_
              refine j_icmp_ne (t := 69) (n' := 65) F (by first | omega | (split <;> omega)) (by first | omega | (split <;> omega)) dX8_readCode_62 (by decide) rfl (fun c62_2 => ?_) (fun c62_2 => ?_)
              · omega
              · refine j_iconst (n' := 66) F dX8_readCode_65 rfl ?_
                refine j_goto (t := 70) F dX8_readCode_66 (by decide) ?_
                refine j_istore_5 (n' := 72) F (by decide) jc_i dX8_readCode_70 rfl ?_
                refine j_iload_5 (n' := 74) F dX8_readCode_72 rfl ?_
                refine j_if_eq (t := 81) (n' := 77) F (by first | omega | (split <;> omega)) dX8_readCode_74 (by decide) rfl (fun c74_3 => ?_) (fun c74_3 => ?_)
                · omega
                · refine j_iload_1 (n' := 78) F dX8_readCode_77 rfl ?_
                  refine j_goto (t := 102) F dX8_readCode_78 (by decide) ?_
                  refine j_istore_6 (n' := 104) F (by decide) jc_i dX8_readCode_102 rfl ?_
                  refine j_iload_4 (n' := 106) F dX8_readCode_104 rfl ?_
                  refine j_if_eq (t := 126) (n' := 109) F (by first | omega | (split <;> omega)) dX8_readCode_106 (by decide) rfl (fun c106_4 => ?_) (fun c106_4 => ?_)
                  · refine j_iload_6 (n' := 128) F dX8_readCode_126 rfl ?_
                    refine j_if_le (t := 144) (n' := 131) F (by first | omega | (split <;> omega)) dX8_readCode_128 (by decide) rfl (fun c128_5 => ?_) (fun c128_5 => ?_)
                    · refine j_iconst (n' := 145) F dX8_readCode_144 rfl ?_
                      refine j_istore_7 (n' := 147) F (by decide) jc_i dX8_readCode_145 rfl ?_
                      refine j_aload_0 (n' := 148) F dX8_readCode_147 rfl ?_
                      refine j_dup (n' := 149) F rfl dX8_readCode_148 rfl ?_
                      refine j_getI (n' := 152) F 11 rfl fl_X8_67 kap_99 rfl dX8_readCode_149 rfl ?_
                      refine j_iload_7 (n' := 154) F dX8_readCode_152 rfl ?_
                      refine j_if_eq (t := 161) (n' := 157) F (by first | omega | (split <;> omega)) dX8_readCode_154 (by decide) rfl (fun c154_6 => ?_) (fun c154_6 => ?_)
                      · refine j_iconst (n' := 162) F dX8_readCode_161 rfl ?_
                        refine j_iadd (n' := 163) F dX8_readCode_162 rfl ?_
                        refine j_putI (n' := 166) F 11 rfl fp_X8_67 kap_99 rfl rfl dX8_readCode_163 rfl (fun φ8 e8 => ?_)
                        refine j_iload_7 (n' := 168) F dX8_readCode_166 rfl ?_
                        refine j_if_eq (t := 220) (n' := 171) F (by first | omega | (split <;> omega)) dX8_readCode_168 (by decide) rfl (fun c168_8 => ?_) (fun c168_8 => ?_)
                        · refine j_iload_7 (n' := 222) F dX8_readCode_220 rfl ?_
                          refine j_if_eq (t := 341) (n' := 225) F (by first | omega | (split <;> omega)) dX8_readCode_222 (by decide) rfl (fun c222_9 => ?_) (fun c222_9 => ?_)
                          · exact j_weak (by exact ⟨rfl, rfl, rfl, rfl, trivial⟩) (tail0 la i md ts φ8 (by rw [e8]; simp [zU] <;> omega) (by rw [e8]; simp [zU]; exact h5) (h6.fr (by rw [e8]; simp [zU]) (fun b => by rw [e8]; simp [zU])) k2 (fun b q1 q2 q3 q4 => by rw [e8]; simp [zU, q3]; exact k3 b q1 q2 q3 q4) (by rw [e8]; exact k4.put (by omega)))
                          · omega
                        · omega
                      · omega
                    · refine j_iload_6 (n' := 133) F dX8_readCode_131 rfl ?_
                      refine j_aload_0 (n' := 134) F dX8_readCode_133 rfl ?_
                      refine j_getI (n' := 137) F 9 rfl fl_X8_61 kap_99 rfl dX8_readCode_134 rfl ?_
                      refine j_icmp_gt (t := 144) (n' := 140) F (by first | omega | (split <;> omega)) (by first | omega | (split <;> omega)) dX8_readCode_137 (by decide) rfl (fun c137_10 => ?_) (fun c137_10 => ?_)
                      · refine j_iconst (n' := 145) F dX8_readCode_144 rfl ?_
                        refine j_istore_7 (n' := 147) F (by decide) jc_i dX8_readCode_145 rfl ?_
                        refine j_aload_0 (n' := 148) F dX8_readCode_147 rfl ?_
                        refine j_dup (n' := 149) F rfl dX8_readCode_148 rfl ?_
                        refine j_getI (n' := 152) F 11 rfl fl_X8_67 kap_99 rfl dX8_readCode_149 rfl ?_
                        refine j_iload_7 (n' := 154) F dX8_readCode_152 rfl ?_
                        refine j_if_eq (t := 161) (n' := 157) F (by first | omega | (split <;> omega)) dX8_readCode_154 (by decide) rfl (fun c154_11 => ?_) (fun c154_11 => ?_)
                        · refine j_iconst (n' := 162) F dX8_readCode_161 rfl ?_
                          refine j_iadd (n' := 163) F dX8_readCode_162 rfl ?_
                          refine j_putI (n' := 166) F 11 rfl fp_X8_67 kap_99 rfl rfl dX8_readCode_163 rfl (fun φ13 e13 => ?_)
                          refine j_iload_7 (n' := 168) F dX8_readCode_166 rfl ?_
                          refine j_if_eq (t := 220) (n' := 171) F (by first | omega | (split <;> omega)) dX8_readCode_168 (by decide) rfl (fun c168_13 => ?_) (fun c168_13 => ?_)
                          · refine j_iload_7 (n' := 222) F dX8_readCode_220 rfl ?_
                            refine j_if_eq (t := 341) (n' := 225) F (by first | omega | (split <;> omega)) dX8_readCode_222 (by decide) rfl (fun c222_14 => ?_) (fun c222_14 => ?_)
                            · exact j_weak (by exact ⟨rfl, rfl, rfl, rfl, trivial⟩) (tail0 la i md ts φ13 (by rw [e13]; simp [zU] <;> omega) (by rw [e13]; simp [zU]; exact h5) (h6.fr (by rw [e13]; simp [zU]) (fun b => by rw [e13]; simp [zU])) k2 (fun b q1 q2 q3 q4 => by rw [e13]; simp [zU, q3]; exact k3 b q1 q2 q3 q4) (by rw [e13]; exact k4.put (by omega)))
                            · omega
                          · omega
                        · omega
                      · omega
                  · omega
          · rw [if_neg h61] at hdd
            subst hdd
            refine j_iload_2 (n' := 36) F dX8_readCode_35 rfl ?_
            refine j_if_eq (t := 372) (n' := 39) F (by first | omega | (split <;> omega)) dX8_readCode_36 (by decide) rfl (fun c36_0 => ?_) (fun c36_0 => ?_)
            · omega
            · refine j_aload_0 (n' := 40) F dX8_readCode_39 rfl ?_
              refine j_getR (n' := 43) F fl_X8_7 kap_99 rfl dX8_readCode_40 rfl ?_
              refine j_aload_0 (n' := 44) F dX8_readCode_43 rfl ?_
              refine j_getI (n' := 47) F 11 rfl fl_X8_67 kap_99 rfl dX8_readCode_44 rfl ?_
              refine j_iald (n' := 48) F kap_100 (by decide) (by first | omega | (split <;> omega)) dX8_readCode_47 rfl ?_
              rw [h4, u1]
              refine j_istore_3 (n' := 49) F (by decide) jc_i dX8_readCode_48 rfl ?_
              refine j_iload_3 (n' := 50) F dX8_readCode_49 rfl ?_
              refine j_bipush (n' := 52) F dX8_readCode_50 (by decide) rfl ?_
              refine j_bipush (n' := 54) F dX8_readCode_52 (by decide) rfl ?_
              refine j_cS3i (n' := 57) F kl_X8_49 (c_Mod_within (by omega) (by omega) (by omega)) (by decide) (Nat.le_of_ble_eq_true rfl) dX8_readCode_54 rfl (fun z2 φ2 h2 => ?_)
              obtain ⟨rfl, rfl⟩ := h2
              refine j_istore_4 (n' := 59) F (by decide) jc_i dX8_readCode_57 rfl ?_
              refine j_iload_3 (n' := 60) F dX8_readCode_59 rfl ?_
              refine j_bipush (n' := 62) F dX8_readCode_60 (by decide) rfl ?_
              refine j_icmp_ne (t := 69) (n' := 65) F (by first | omega | (split <;> omega)) (by first | omega | (split <;> omega)) dX8_readCode_62 (by decide) rfl (fun c62_2 => ?_) (fun c62_2 => ?_)
              · refine j_iconst (n' := 70) F dX8_readCode_69 rfl ?_
                refine j_istore_5 (n' := 72) F (by decide) jc_i dX8_readCode_70 rfl ?_
                refine j_iload_5 (n' := 74) F dX8_readCode_72 rfl ?_
                refine j_if_eq (t := 81) (n' := 77) F (by first | omega | (split <;> omega)) dX8_readCode_74 (by decide) rfl (fun c74_3 => ?_) (fun c74_3 => ?_)
                · refine j_iload_3 (n' := 82) F dX8_readCode_81 rfl ?_
                  refine j_bipush (n' := 84) F dX8_readCode_82 (by decide) rfl ?_
                  refine j_bipush (n' := 86) F dX8_readCode_84 (by decide) rfl ?_
                  refine j_cS3i (n' := 89) F kl_X8_49 (c_Mod_within (by omega) (by omega) (by omega)) (by decide) (Nat.le_of_ble_eq_true rfl) dX8_readCode_86 rfl (fun z5 φ5 h5 => ?_)
                  obtain ⟨rfl, rfl⟩ := h5
                  refine j_if_eq (t := 101) (n' := 92) F (by first | omega | (split <;> omega)) dX8_readCode_89 (by decide) rfl (fun c89_5 => ?_) (fun c89_5 => ?_)
                  · refine j_iconst (n' := 102) F dX8_readCode_101 rfl ?_
                    refine j_istore_6 (n' := 104) F (by decide) jc_i dX8_readCode_102 rfl ?_
                    refine j_iload_4 (n' := 106) F dX8_readCode_104 rfl ?_
                    refine j_if_eq (t := 126) (n' := 109) F (by first | omega | (split <;> omega)) dX8_readCode_106 (by decide) rfl (fun c106_6 => ?_) (fun c106_6 => ?_)
                    · refine j_iload_6 (n' := 128) F dX8_readCode_126 rfl ?_
                      refine j_if_le (t := 144) (n' := 131) F (by first | omega | (split <;> omega)) dX8_readCode_128 (by decide) rfl (fun c128_7 => ?_) (fun c128_7 => ?_)
                      · refine j_iconst (n' := 145) F dX8_readCode_144 rfl ?_
                        refine j_istore_7 (n' := 147) F (by decide) jc_i dX8_readCode_145 rfl ?_
                        refine j_aload_0 (n' := 148) F dX8_readCode_147 rfl ?_
                        refine j_dup (n' := 149) F rfl dX8_readCode_148 rfl ?_
                        refine j_getI (n' := 152) F 11 rfl fl_X8_67 kap_99 rfl dX8_readCode_149 rfl ?_
                        refine j_iload_7 (n' := 154) F dX8_readCode_152 rfl ?_
                        refine j_if_eq (t := 161) (n' := 157) F (by first | omega | (split <;> omega)) dX8_readCode_154 (by decide) rfl (fun c154_8 => ?_) (fun c154_8 => ?_)
                        · refine j_iconst (n' := 162) F dX8_readCode_161 rfl ?_
                          refine j_iadd (n' := 163) F dX8_readCode_162 rfl ?_
                          refine j_putI (n' := 166) F 11 rfl fp_X8_67 kap_99 rfl rfl dX8_readCode_163 rfl (fun φ10 e10 => ?_)
                          refine j_iload_7 (n' := 168) F dX8_readCode_166 rfl ?_
                          refine j_if_eq (t := 220) (n' := 171) F (by first | omega | (split <;> omega)) dX8_readCode_168 (by decide) rfl (fun c168_10 => ?_) (fun c168_10 => ?_)
                          · refine j_iload_7 (n' := 222) F dX8_readCode_220 rfl ?_
                            refine j_if_eq (t := 341) (n' := 225) F (by first | omega | (split <;> omega)) dX8_readCode_222 (by decide) rfl (fun c222_11 => ?_) (fun c222_11 => ?_)
                            · exact j_weak (by exact ⟨rfl, rfl, rfl, rfl, trivial⟩) (tail0 la i md ts φ10 (by rw [e10]; simp [zU] <;> omega) (by rw [e10]; simp [zU]; exact h5) (h6.fr (by rw [e10]; simp [zU]) (fun b => by rw [e10]; simp [zU])) k2 (fun b q1 q2 q3 q4 => by rw [e10]; simp [zU, q3]; exact k3 b q1 q2 q3 q4) (by rw [e10]; exact k4.put (by omega)))
                            · omega
                          · omega
                        · omega
                      · refine j_iload_6 (n' := 133) F dX8_readCode_131 rfl ?_
                        refine j_aload_0 (n' := 134) F dX8_readCode_133 rfl ?_
                        refine j_getI (n' := 137) F 9 rfl fl_X8_61 kap_99 rfl dX8_readCode_134 rfl ?_
                        refine j_icmp_gt (t := 144) (n' := 140) F (by first | omega | (split <;> omega)) (by first | omega | (split <;> omega)) dX8_readCode_137 (by decide) rfl (fun c137_12 => ?_) (fun c137_12 => ?_)
                        · refine j_iconst (n' := 145) F dX8_readCode_144 rfl ?_
                          refine j_istore_7 (n' := 147) F (by decide) jc_i dX8_readCode_145 rfl ?_
                          refine j_aload_0 (n' := 148) F dX8_readCode_147 rfl ?_
                          refine j_dup (n' := 149) F rfl dX8_readCode_148 rfl ?_
                          refine j_getI (n' := 152) F 11 rfl fl_X8_67 kap_99 rfl dX8_readCode_149 rfl ?_
                          refine j_iload_7 (n' := 154) F dX8_readCode_152 rfl ?_
                          refine j_if_eq (t := 161) (n' := 157) F (by first | omega | (split <;> omega)) dX8_readCode_154 (by decide) rfl (fun c154_13 => ?_) (fun c154_13 => ?_)
                          · refine j_iconst (n' := 162) F dX8_readCode_161 rfl ?_
                            refine j_iadd (n' := 163) F dX8_readCode_162 rfl ?_
                            refine j_putI (n' := 166) F 11 rfl fp_X8_67 kap_99 rfl rfl dX8_readCode_163 rfl (fun φ15 e15 => ?_)
                            refine j_iload_7 (n' := 168) F dX8_readCode_166 rfl ?_
                            refine j_if_eq (t := 220) (n' := 171) F (by first | omega | (split <;> omega)) dX8_readCode_168 (by decide) rfl (fun c168_15 => ?_) (fun c168_15 => ?_)
                            · refine j_iload_7 (n' := 222) F dX8_readCode_220 rfl ?_
                              refine j_if_eq (t := 341) (n' := 225) F (by first | omega | (split <;> omega)) dX8_readCode_222 (by decide) rfl (fun c222_16 => ?_) (fun c222_16 => ?_)
                              · exact j_weak (by exact ⟨rfl, rfl, rfl, rfl, trivial⟩) (tail0 la i md ts φ15 (by rw [e15]; simp [zU] <;> omega) (by rw [e15]; simp [zU]; exact h5) (h6.fr (by rw [e15]; simp [zU]) (fun b => by rw [e15]; simp [zU])) k2 (fun b q1 q2 q3 q4 => by rw [e15]; simp [zU, q3]; exact k3 b q1 q2 q3 q4) (by rw [e15]; exact k4.put (by omega)))
                              · omega
                            · omega
                          · omega
                        · omega
                    · omega
                  · refine j_iload_3 (n' := 93) F dX8_readCode_92 rfl ?_
                    refine j_bipush (n' := 95) F dX8_readCode_93 (by decide) rfl ?_
                    refine j_isub (n' := 96) F dX8_readCode_95 rfl ?_
                    refine j_iconst (n' := 97) F dX8_readCode_96 rfl ?_
                    refine j_iadd (n' := 98) F dX8_readCode_97 rfl ?_
                    refine j_goto (t := 102) F dX8_readCode_98 (by decide) ?_
                    refine j_istore_6 (n' := 104) F (by decide) jc_i dX8_readCode_102 rfl ?_
                    refine j_iload_4 (n' := 106) F dX8_readCode_104 rfl ?_
                    refine j_if_eq (t := 126) (n' := 109) F (by first | omega | (split <;> omega)) dX8_readCode_106 (by decide) rfl (fun c106_17 => ?_) (fun c106_17 => ?_)
                    · refine j_iload_6 (n' := 128) F dX8_readCode_126 rfl ?_
                      refine j_if_le (t := 144) (n' := 131) F (by first | omega | (split <;> omega)) dX8_readCode_128 (by decide) rfl (fun c128_18 => ?_) (fun c128_18 => ?_)
                      · refine j_iconst (n' := 145) F dX8_readCode_144 rfl ?_
                        refine j_istore_7 (n' := 147) F (by decide) jc_i dX8_readCode_145 rfl ?_
                        refine j_aload_0 (n' := 148) F dX8_readCode_147 rfl ?_
                        refine j_dup (n' := 149) F rfl dX8_readCode_148 rfl ?_
                        refine j_getI (n' := 152) F 11 rfl fl_X8_67 kap_99 rfl dX8_readCode_149 rfl ?_
                        refine j_iload_7 (n' := 154) F dX8_readCode_152 rfl ?_
                        refine j_if_eq (t := 161) (n' := 157) F (by first | omega | (split <;> omega)) dX8_readCode_154 (by decide) rfl (fun c154_19 => ?_) (fun c154_19 => ?_)
                        · refine j_iconst (n' := 162) F dX8_readCode_161 rfl ?_
                          refine j_iadd (n' := 163) F dX8_readCode_162 rfl ?_
                          refine j_putI (n' := 166) F 11 rfl fp_X8_67 kap_99 rfl rfl dX8_readCode_163 rfl (fun φ21 e21 => ?_)
                          refine j_iload_7 (n' := 168) F dX8_readCode_166 rfl ?_
                          refine j_if_eq (t := 220) (n' := 171) F (by first | omega | (split <;> omega)) dX8_readCode_168 (by decide) rfl (fun c168_21 => ?_) (fun c168_21 => ?_)
                          · refine j_iload_7 (n' := 222) F dX8_readCode_220 rfl ?_
                            refine j_if_eq (t := 341) (n' := 225) F (by first | omega | (split <;> omega)) dX8_readCode_222 (by decide) rfl (fun c222_22 => ?_) (fun c222_22 => ?_)
                            · exact j_weak (by exact ⟨rfl, rfl, rfl, rfl, trivial⟩) (tail0 la i md ts φ21 (by rw [e21]; simp [zU] <;> omega) (by rw [e21]; simp [zU]; exact h5) (h6.fr (by rw [e21]; simp [zU]) (fun b => by rw [e21]; simp [zU])) k2 (fun b q1 q2 q3 q4 => by rw [e21]; simp [zU, q3]; exact k3 b q1 q2 q3 q4) (by rw [e21]; exact k4.put (by omega)))
                            · omega
                          · omega
                        · omega
                      · refine j_iload_6 (n' := 133) F dX8_readCode_131 rfl ?_
                        refine j_aload_0 (n' := 134) F dX8_readCode_133 rfl ?_
                        refine j_getI (n' := 137) F 9 rfl fl_X8_61 kap_99 rfl dX8_readCode_134 rfl ?_
                        refine j_icmp_gt (t := 144) (n' := 140) F (by first | omega | (split <;> omega)) (by first | omega | (split <;> omega)) dX8_readCode_137 (by decide) rfl (fun c137_23 => ?_) (fun c137_23 => ?_)
                        · refine j_iconst (n' := 145) F dX8_readCode_144 rfl ?_
                          refine j_istore_7 (n' := 147) F (by decide) jc_i dX8_readCode_145 rfl ?_
                          refine j_aload_0 (n' := 148) F dX8_readCode_147 rfl ?_
                          refine j_dup (n' := 149) F rfl dX8_readCode_148 rfl ?_
                          refine j_getI (n' := 152) F 11 rfl fl_X8_67 kap_99 rfl dX8_readCode_149 rfl ?_
                          refine j_iload_7 (n' := 154) F dX8_readCode_152 rfl ?_
                          refine j_if_eq (t := 161) (n' := 157) F (by first | omega | (split <;> omega)) dX8_readCode_154 (by decide) rfl (fun c154_24 => ?_) (fun c154_24 => ?_)
                          · refine j_iconst (n' := 162) F dX8_readCode_161 rfl ?_
                            refine j_iadd (n' := 163) F dX8_readCode_162 rfl ?_
                            refine j_putI (n' := 166) F 11 rfl fp_X8_67 kap_99 rfl rfl dX8_readCode_163 rfl (fun φ26 e26 => ?_)
                            refine j_iload_7 (n' := 168) F dX8_readCode_166 rfl ?_
                            refine j_if_eq (t := 220) (n' := 171) F (by first | omega | (split <;> omega)) dX8_readCode_168 (by decide) rfl (fun c168_26 => ?_) (fun c168_26 => ?_)
                            · refine j_iload_7 (n' := 222) F dX8_readCode_220 rfl ?_
                              refine j_if_eq (t := 341) (n' := 225) F (by first | omega | (split <;> omega)) dX8_readCode_222 (by decide) rfl (fun c222_27 => ?_) (fun c222_27 => ?_)
                              · exact j_weak (by exact ⟨rfl, rfl, rfl, rfl, trivial⟩) (tail0 la i md ts φ26 (by rw [e26]; simp [zU] <;> omega) (by rw [e26]; simp [zU]; exact h5) (h6.fr (by rw [e26]; simp [zU]) (fun b => by rw [e26]; simp [zU])) k2 (fun b q1 q2 q3 q4 => by rw [e26]; simp [zU, q3]; exact k3 b q1 q2 q3 q4) (by rw [e26]; exact k4.put (by omega)))
                              · omega
                            · omega
                          · omega
                        · omega
                    · omega
                · omega
              · omega
  refine j_aload_0 (n' := 1) F dX8_readCode_0 rfl ?_
  refine j_iconst (n' := 2) F dX8_readCode_1 rfl ?_
  refine j_putI (n' := 5) F 9 rfl fp_X8_61 kap_99 rfl rfl dX8_readCode_2 rfl (fun φ1 e1 => ?_)
  refine j_aload_0 (n' := 6) F dX8_readCode_5 rfl ?_
  refine j_iconst (n' := 7) F dX8_readCode_6 rfl ?_
  refine j_putI (n' := 10) F 10 rfl fp_X8_64 kap_99 rfl rfl dX8_readCode_7 rfl (fun φ2 e2 => ?_)
  refine j_aload_0 (n' := 11) F dX8_readCode_10 rfl ?_
  refine j_iconst (n' := 12) F dX8_readCode_11 rfl ?_
  refine j_putI (n' := 15) F 11 rfl fp_X8_67 kap_99 rfl rfl dX8_readCode_12 rfl (fun φ3 e3 => ?_)
  have i0 : φ3 99 0 = φ 99 0 := by rw [e3, e2, e1]; simp [zU]
  refine j_iconst (n' := 16) F dX8_readCode_15 rfl ?_
  refine j_istore_1 (n' := 17) F (by decide) jc_r dX8_readCode_16 rfl ?_
  refine j_aload_0 (n' := 18) F dX8_readCode_17 rfl ?_
  refine j_getI (n' := 21) F 0 rfl fl_X8_53 kap_99 rfl dX8_readCode_18 rfl ?_
  refine j_if_le (t := 28) (n' := 24) F (by omega) dX8_readCode_21 (by decide) rfl (fun c21_3 => ?_) (fun c21_3 => ?_)
  · refine j_iconst (n' := 29) F dX8_readCode_28 rfl ?_
    refine j_istore_2 (n' := 30) F (by decide) jc_i dX8_readCode_29 rfl ?_
    refine j_aload_0 (n' := 31) F dX8_readCode_30 rfl ?_
    refine j_iload_2 (n' := 32) F dX8_readCode_31 rfl ?_
    refine j_putB (n' := 35) F 12 rfl (by omega) fp_X8_70 kap_99 rfl rfl dX8_readCode_32 rfl (fun φ5 e5 => ?_)
    have hn : φ 99 0 = 0 := by omega
    have hk : (rdR (φ 100) (φ 99 0)) = ((0 : Int), (0 : Int), ([] : List Int), ([] : List Int)) := by
      unfold rdR
      rw [rdC, if_neg (by omega)]
      rfl
    exact j_weak (by exact ⟨rfl, rfl, rfl, trivial⟩) (done 0 φ5 (by rw [hk, e5, e3, e2, e1]; simp [zU]) (by rw [hk, e5, e3, e2, e1]; simp [zU]) (by rw [hk, e5, e3, e2, e1]; simp [zU, rwSum]) (by rw [hk]; exact ⟨by rw [e5, e3, e2, e1]; simp [zU], fun k hk => by simp at hk⟩) (fun b q1 q2 q3 q4 => by rw [e5, e3, e2, e1]; simp [zU, q1, q2, q3, q4]) (by rw [e5, e3, e2, e1]; repeat (first | exact frC.rf | refine frC.put ?_ (by omega))))
  · refine j_iconst (n' := 25) F dX8_readCode_24 rfl ?_
    refine j_goto (t := 29) F dX8_readCode_25 (by decide) ?_
    refine j_istore_2 (n' := 30) F (by decide) jc_i dX8_readCode_29 rfl ?_
    refine j_aload_0 (n' := 31) F dX8_readCode_30 rfl ?_
    refine j_iload_2 (n' := 32) F dX8_readCode_31 rfl ?_
    refine j_putB (n' := 35) F 12 rfl (by omega) fp_X8_70 kap_99 rfl rfl dX8_readCode_32 rfl (fun φ6 e6 => ?_)
    by_cases hn : 0 < φ 99 0
    · exact j_weak (by exact ⟨rfl, rfl, rfl, trivial⟩) (main 31 0 [] [] 0 φ6 (by omega) (by omega) hn (by rw [e6, e3, e2, e1]; simp [zU]) (by rw [e6, e3, e2, e1]; simp [zU, rwSum]) ⟨by rw [e6, e3, e2, e1]; simp [zU], fun k hk => by simp at hk⟩ (by simp) (by simp) (by omega) (by omega) rfl (fun b q1 q2 q3 q4 => by rw [e6, e3, e2, e1]; simp [zU, q1, q2, q3, q4]) (by rw [e6, e3, e2, e1]; repeat (first | exact frC.rf | refine frC.put ?_ (by omega))))
    · omega
