set_option maxRecDepth 20000 in
theorem c_Rea_read {l : Launch} {G : jG} {B0 : Nat} {φ : jPhi}  (hs : 0 ≤ φ 1 1 ∧ φ 1 1 ≤ 30) (hp : ∀ k, 0 ≤ k → k < φ 1 1 → 32 ≤ φ 2 k ∧ φ 2 k ≤ 126) : jC l G B0 κF 113 yX1_read cX1_read 2 none 4 [rf B0 3, rf B0 1] φ mkV (fun z φ' => (if φ' 3 7 ≠ 0 ∧ φ' 3 4 = 0 ∧ 0 < φ' 5 1 then 1 else 0) = (rdR (φ 2) (φ 1 1)).2.1 ∧ φ' 3 6 = (rdR (φ 2) (φ 1 1)).1 ∧ (0 ≤ φ' 5 1 ∧ φ' 5 1 ≤ 24) ∧ (0 ≤ φ' 3 4 ∧ φ' 3 4 ≤ 24) ∧ (0 ≤ φ' 3 7 ∧ φ' 3 7 ≤ 1) ∧ mdIs φ' 3 4 2 (rdR (φ 2) (φ 1 1)).2.2.1 ∧ rowIs φ' 5 6 (rdR (φ 2) (φ 1 1)).2.2.2 ∧ frC (fun a => a = 3 ∨ a = 4 ∨ a = 5 ∨ a = 6) φ φ') := by
  refine jC_start RX1 [some (rf B0 3), some (rf B0 1)] (by decide) rfl (Nat.le_of_ble_eq_true rfl) rfl (fun X Q F E => ?_)
  have done : ∀ (i o a : Int) (md ts : List Int) (ψ : jPhi), ψ 3 7 = a → (a = 0 ∨ (a = 1 ∧ φ 1 1 ≤ i)) → 0 ≤ i → i ≤ φ 1 1 → ψ 3 6 = i → rdR (φ 2) (φ 1 1) = (i, (if a ≠ 0 ∧ o = 0 ∧ 0 < (ts.length : Int) then 1 else 0), md, ts) → mdIs ψ 3 4 2 md → rowIs ψ 5 6 ts → ts.length ≤ 24 → ψ 3 4 = o → 0 ≤ o → o ≤ 24 → frC (fun a => a = 3 ∨ a = 4 ∨ a = 5 ∨ a = 6) φ ψ → jJ X G B0 κF 113 0 0 Q 2 ψ 37 [some (rf B0 3), some (rf B0 1)] [] := by
    intro i o a md ts ψ h1 h2 h3 h4 h5 h6 h7 h8 h9 k1 k2 k3 k4
    have v1 : ψ 1 1 = φ 1 1 := k4 1 1 (by omega)
    have w1 := h8.1
    refine j_aload_0 (n' := 38) F dX1_read_37 rfl ?_
    refine j_getI (n' := 41) F 7 rfl fl_X1_39 kap_3 rfl dX1_read_38 rfl ?_
    refine j_if_eq (t := 91) (n' := 44) F (by omega) dX1_read_41 (by decide) rfl (fun c41_0 => ?_) (fun c41_0 => ?_)
    · refine j_return F E dX1_read_91 ?_
      rw [h6]
      exact ⟨by rw [h1, k1, w1], h5, by omega, by omega, by omega, h7, h8, k4⟩
    · refine j_aload_0 (n' := 45) F dX1_read_44 rfl ?_
      refine j_getI (n' := 48) F 6 rfl fl_X1_36 kap_3 rfl dX1_read_45 rfl ?_
      refine j_aload_1 (n' := 49) F dX1_read_48 rfl ?_
      refine j_cV0i (n' := 52) F kl_X1_45 (c_Pag_size) kap_1 rfl (by decide) (Nat.le_of_ble_eq_true rfl) dX1_read_49 rfl (fun z2 φ2 h2 => ?_)
      obtain ⟨rfl, rfl⟩ := h2
      refine j_icmp_ge (t := 91) (n' := 55) F (by omega) (by omega) dX1_read_52 (by decide) rfl (fun c52_2 => ?_) (fun c52_2 => ?_)
      · refine j_return F E dX1_read_91 ?_
        rw [h6]
        exact ⟨by rw [h1, k1, w1], h5, by omega, by omega, by omega, h7, h8, k4⟩
      · omega
  have main : ∀ (k : Nat) (i : Int) (md ts : List Int) (la : Int) (ψ : jPhi), φ 1 1 - i < k → 0 ≤ i → i ≤ φ 1 1 → ψ 3 6 = i → ψ 3 7 = 1 → (ψ 3 5 = 0 ∨ ψ 3 5 = 1) → mdIs ψ 3 4 2 md → rowIs ψ 5 6 ts → ts.length ≤ md.length → md.length ≤ 24 → frC (fun a => a = 3 ∨ a = 4 ∨ a = 5 ∨ a = 6) φ ψ → ψ 3 4 = 0 → ψ 3 3 = la → 0 ≤ la → la ≤ 24 → rdC (φ 2) (φ 1 1) k i md ts la = rdR (φ 2) (φ 1 1) → jJ X G B0 κF 113 0 0 Q 2 ψ 37 [some (rf B0 3), some (rf B0 1)] [] := by
    intro k
    induction k with
    | zero => intro i md ts la ψ h1 h2 h3; omega
    | succ k ih =>
      have opn : ∀ (i : Int) (md ts : List Int) (d a : Int) (ψ : jPhi), φ 1 1 - i < k → 0 ≤ i → i ≤ φ 1 1 → ψ 3 6 = i → ψ 3 7 = 1 → ψ 3 5 = a → (a = 0 ∨ a = 1) → mdIs ψ 3 4 2 md → rowIs ψ 5 6 ts → ts.length ≤ md.length → md.length ≤ 24 → frC (fun a => a = 3 ∨ a = 4 ∨ a = 5 ∨ a = 6) φ ψ → ψ 3 4 = d → 1 ≤ d → d ≤ md.length → figF (rdC (φ 2) (φ 1 1) k) (φ 2) (φ 1 1) i md ts d a = rdR (φ 2) (φ 1 1) → jJ X G B0 κF 113 0 0 Q 2 ψ 37 [some (rf B0 3), some (rf B0 1)] [] := by
        intro i md ts d a ψ h1 h2 h3 h4 h5 h6 h7 h8 h9 k1 k2 k3 k4 k5 k6 k7
        have v1 : ψ 1 1 = φ 1 1 := k3 1 1 (by omega)
        have v2 : ψ 2 = φ 2 := funext fun b => k3 2 b (by omega)
        by_cases hin : i < φ 1 1
        · have hg := hp i h2 hin
          by_cases hgd : 2 ≤ φ 2 i - 48 ∧ φ 2 i - 48 ≤ 8 ∧ md.length + (φ 2 i - 48) ≤ 24
          · rw [figF, if_pos ⟨hin, hgd⟩] at k7
            refine j_aload_0 (n' := 38) F dX1_read_37 rfl ?_
            refine j_getI (n' := 41) F 7 rfl fl_X1_39 kap_3 rfl dX1_read_38 rfl ?_
            refine j_if_eq (t := 91) (n' := 44) F (by omega) dX1_read_41 (by decide) rfl (fun c41_0 => ?_) (fun c41_0 => ?_)
            · omega
            · refine j_aload_0 (n' := 45) F dX1_read_44 rfl ?_
              refine j_getI (n' := 48) F 6 rfl fl_X1_36 kap_3 rfl dX1_read_45 rfl ?_
              refine j_aload_1 (n' := 49) F dX1_read_48 rfl ?_
              refine j_cV0i (n' := 52) F kl_X1_45 (c_Pag_size) kap_1 rfl (by decide) (Nat.le_of_ble_eq_true rfl) dX1_read_49 rfl (fun z2 φ2 h2 => ?_)
              obtain ⟨rfl, rfl⟩ := h2
              refine j_icmp_ge (t := 91) (n' := 55) F (by omega) (by omega) dX1_read_52 (by decide) rfl (fun c52_2 => ?_) (fun c52_2 => ?_)
              · omega
              · refine j_aload_0 (n' := 56) F dX1_read_55 rfl ?_
                refine j_aload_1 (n' := 57) F dX1_read_56 rfl ?_
                refine j_aload_0 (n' := 58) F dX1_read_57 rfl ?_
                refine j_getI (n' := 61) F 6 rfl fl_X1_36 kap_3 rfl dX1_read_58 rfl ?_
                refine j_cV1i (n' := 64) F kl_X1_51 (c_Pag_signAt (by omega) (by omega)) kap_1 rfl (by decide) (Nat.le_of_ble_eq_true rfl) dX1_read_61 rfl (fun z4 φ4 h4 => ?_)
                obtain ⟨rfl, rfl⟩ := h4
                rw [if_pos (by omega), h4, v2]
                refine j_cV1i (n' := 67) F kl_X1_55 (c_Rea_takes_fig h8 h9 k1 k2 (by omega) (by omega) (by omega)) kap_3 rfl (by decide) (Nat.le_of_ble_eq_true rfl) dX1_read_64 rfl (fun z5 φ5 h5 => ?_)
                obtain ⟨hz5, hy5, hx5, hq5, hf5⟩ := h5
                obtain ⟨t0, t1, t2, t3, t4⟩ := hy5 (by omega)
                subst t0
                refine j_if_eq (t := 83) (n' := 70) F (by omega) dX1_read_67 (by decide) rfl (fun c67_5 => ?_) (fun c67_5 => ?_)
                · omega
                · refine j_aload_0 (n' := 71) F dX1_read_70 rfl ?_
                  refine j_dup (n' := 72) F rfl dX1_read_71 rfl ?_
                  refine j_getI (n' := 75) F 6 rfl fl_X1_36 kap_3 rfl dX1_read_72 rfl ?_
                  refine j_iconst (n' := 76) F dX1_read_75 rfl ?_
                  refine j_iadd (n' := 77) F dX1_read_76 rfl ?_
                  refine j_putI (n' := 80) F 6 rfl fp_X1_36 kap_3 rfl rfl dX1_read_77 rfl (fun φ7 e7 => ?_)
                  refine j_goto (t := 37) F dX1_read_80 (by decide) ?_
                  refine ih (i + 1) _ _ d φ7 (by omega) (by omega) (by omega) (by rw [e7, zU_self, hq5 6 (by omega), h4]) (by rw [e7, zU_ne (by omega), hq5 7 (by omega)]; exact h5) (by rw [e7, zU_ne (by omega), hq5 5 (by omega)]; omega) ?_ ?_ (by rw [cpN_len]; simp; omega) (by rw [cpN_len]; omega) ?_ (by rw [e7, zU_ne (by omega)]; exact t4) (by rw [e7, zU_ne (by omega), t3]; exact k4) (by omega) (by omega) k7
                  · rw [k4] at t1
                    exact t1.fr (by rw [e7, zU_ne (by omega)]) (fun b => by rw [e7, zU_ne (by omega)])
                  · rw [k4, h6] at t2
                    exact t2.fr (fun b => by rw [e7, zU_ne (by omega)]) (fun b => by rw [e7, zU_ne (by omega)])
                  · rw [e7]
                    exact (k3.tr hf5).put (by omega)
          · rw [figF, if_neg (fun q => hgd q.2)] at k7
            refine j_aload_0 (n' := 38) F dX1_read_37 rfl ?_
            refine j_getI (n' := 41) F 7 rfl fl_X1_39 kap_3 rfl dX1_read_38 rfl ?_
            refine j_if_eq (t := 91) (n' := 44) F (by omega) dX1_read_41 (by decide) rfl (fun c41_0 => ?_) (fun c41_0 => ?_)
            · omega
            · refine j_aload_0 (n' := 45) F dX1_read_44 rfl ?_
              refine j_getI (n' := 48) F 6 rfl fl_X1_36 kap_3 rfl dX1_read_45 rfl ?_
              refine j_aload_1 (n' := 49) F dX1_read_48 rfl ?_
              refine j_cV0i (n' := 52) F kl_X1_45 (c_Pag_size) kap_1 rfl (by decide) (Nat.le_of_ble_eq_true rfl) dX1_read_49 rfl (fun z2 φ2 h2 => ?_)
              obtain ⟨rfl, rfl⟩ := h2
              refine j_icmp_ge (t := 91) (n' := 55) F (by omega) (by omega) dX1_read_52 (by decide) rfl (fun c52_2 => ?_) (fun c52_2 => ?_)
              · omega
              · refine j_aload_0 (n' := 56) F dX1_read_55 rfl ?_
                refine j_aload_1 (n' := 57) F dX1_read_56 rfl ?_
                refine j_aload_0 (n' := 58) F dX1_read_57 rfl ?_
                refine j_getI (n' := 61) F 6 rfl fl_X1_36 kap_3 rfl dX1_read_58 rfl ?_
                refine j_cV1i (n' := 64) F kl_X1_51 (c_Pag_signAt (by omega) (by omega)) kap_1 rfl (by decide) (Nat.le_of_ble_eq_true rfl) dX1_read_61 rfl (fun z4 φ4 h4 => ?_)
                obtain ⟨rfl, rfl⟩ := h4
                rw [if_pos (by omega), h4, v2]
                refine j_cV1i (n' := 67) F kl_X1_55 (c_Rea_takes_fig h8 h9 k1 k2 (by omega) (by omega) (by omega)) kap_3 rfl (by decide) (Nat.le_of_ble_eq_true rfl) dX1_read_64 rfl (fun z5 φ5 h5 => ?_)
                obtain ⟨hz5, hy5, hx5, hq5, hf5⟩ := h5
                obtain ⟨t0, t1⟩ := hx5 (by omega)
                subst t0
                subst t1
                refine j_if_eq (t := 83) (n' := 70) F (by omega) dX1_read_67 (by decide) rfl (fun c67_5 => ?_) (fun c67_5 => ?_)
                · refine j_aload_0 (n' := 84) F dX1_read_83 rfl ?_
                  refine j_iconst (n' := 85) F dX1_read_84 rfl ?_
                  refine j_putB (n' := 88) F 7 rfl (by omega) fp_X1_39 kap_3 rfl rfl dX1_read_85 rfl (fun φ7 e7 => ?_)
                  refine j_goto (t := 37) F dX1_read_88 (by decide) ?_
                  exact done i d 0 md ts φ7 (by rw [e7, zU_self]) (Or.inl rfl) h2 h3 (by rw [e7, zU_ne (by omega)]; exact h4) (by rw [if_neg (by omega)]; exact k7.symm) (h8.fr (by rw [e7, zU_ne (by omega)]) (fun b => by rw [e7, zU_ne (by omega)])) (h9.fr (fun b => by rw [e7, zU_ne (by omega)]) (fun b => by rw [e7, zU_ne (by omega)])) (by omega) (by rw [e7, zU_ne (by omega)]; exact k4) (by omega) (by omega) (by rw [e7]; exact k3.put (by omega))
                · omega
        · rw [figF, if_neg (fun q => hin q.1)] at k7
          exact done i d 1 md ts ψ h5 (Or.inr ⟨rfl, by omega⟩) h2 h3 h4 (by rw [if_neg (by omega)]; exact k7.symm) h8 h9 (by omega) k4 (by omega) (by omega) k3
      intro i md ts la ψ h1 h2 h3 h4 h5 h6 h7 h8 h9 k1 k2 k3 k4 k5 k6 k7
      have v1 : ψ 1 1 = φ 1 1 := k2 1 1 (by omega)
      have v2 : ψ 2 = φ 2 := funext fun b => k2 2 b (by omega)
      rw [rdC] at k7
      by_cases hin : i < φ 1 1
      · rw [if_pos hin] at k7
        have hg := hp i h2 hin
        by_cases hlt : 97 ≤ φ 2 i ∧ φ 2 i ≤ 100
        · rw [if_pos hlt] at k7
          by_cases hml : (md.length : Int) < 24
          · rw [if_pos hml] at k7
            refine j_aload_0 (n' := 38) F dX1_read_37 rfl ?_
            refine j_getI (n' := 41) F 7 rfl fl_X1_39 kap_3 rfl dX1_read_38 rfl ?_
            refine j_if_eq (t := 91) (n' := 44) F (by omega) dX1_read_41 (by decide) rfl (fun c41_0 => ?_) (fun c41_0 => ?_)
            · omega
            · refine j_aload_0 (n' := 45) F dX1_read_44 rfl ?_
              refine j_getI (n' := 48) F 6 rfl fl_X1_36 kap_3 rfl dX1_read_45 rfl ?_
              refine j_aload_1 (n' := 49) F dX1_read_48 rfl ?_
              refine j_cV0i (n' := 52) F kl_X1_45 (c_Pag_size) kap_1 rfl (by decide) (Nat.le_of_ble_eq_true rfl) dX1_read_49 rfl (fun z2 φ2 h2 => ?_)
              obtain ⟨rfl, rfl⟩ := h2
              refine j_icmp_ge (t := 91) (n' := 55) F (by omega) (by omega) dX1_read_52 (by decide) rfl (fun c52_2 => ?_) (fun c52_2 => ?_)
              · omega
              · refine j_aload_0 (n' := 56) F dX1_read_55 rfl ?_
                refine j_aload_1 (n' := 57) F dX1_read_56 rfl ?_
                refine j_aload_0 (n' := 58) F dX1_read_57 rfl ?_
                refine j_getI (n' := 61) F 6 rfl fl_X1_36 kap_3 rfl dX1_read_58 rfl ?_
                refine j_cV1i (n' := 64) F kl_X1_51 (c_Pag_signAt (by omega) (by omega)) kap_1 rfl (by decide) (Nat.le_of_ble_eq_true rfl) dX1_read_61 rfl (fun z4 φ4 h4 => ?_)
                obtain ⟨rfl, rfl⟩ := h4
                rw [if_pos (by omega), h4, v2]
                refine j_cV1i (n' := 67) F kl_X1_55 (c_Rea_takes_let h7 h8 h9 k1 (by omega) k3 (by omega)) kap_3 rfl (by decide) (Nat.le_of_ble_eq_true rfl) dX1_read_64 rfl (fun z5 φ5 h5 => ?_)
                obtain ⟨hz5, hy5, hx5, hq5, hf5⟩ := h5
                obtain ⟨t0, t1, t2⟩ := hy5 (by omega)
                subst t0
                refine j_if_eq (t := 83) (n' := 70) F (by omega) dX1_read_67 (by decide) rfl (fun c67_5 => ?_) (fun c67_5 => ?_)
                · omega
                · refine j_aload_0 (n' := 71) F dX1_read_70 rfl ?_
                  refine j_dup (n' := 72) F rfl dX1_read_71 rfl ?_
                  refine j_getI (n' := 75) F 6 rfl fl_X1_36 kap_3 rfl dX1_read_72 rfl ?_
                  refine j_iconst (n' := 76) F dX1_read_75 rfl ?_
                  refine j_iadd (n' := 77) F dX1_read_76 rfl ?_
                  refine j_putI (n' := 80) F 6 rfl fp_X1_36 kap_3 rfl rfl dX1_read_77 rfl (fun φ7 e7 => ?_)
                  refine j_goto (t := 37) F dX1_read_80 (by decide) ?_
                  refine ih (i + 1) _ _ la φ7 (by omega) (by omega) (by omega) (by rw [e7, zU_self, hq5 6 (by omega), h4]) (by rw [e7, zU_ne (by omega), hq5 7 (by omega)]; exact h5) (by rw [e7, zU_ne (by omega), hq5 5 (by omega)]; exact h6) (t1.fr (by rw [e7, zU_ne (by omega)]) (fun b => by rw [e7, zU_ne (by omega)])) (t2.fr (fun b => by rw [e7, zU_ne (by omega)]) (fun b => by rw [e7, zU_ne (by omega)])) (by simp; omega) (by simp; omega) (by rw [e7]; exact (k2.tr hf5).put (by omega)) (by rw [e7, zU_ne (by omega), hq5 4 (by omega)]; exact k3) (by rw [e7, zU_ne (by omega), hq5 3 (by omega)]; exact k4) k5 k6 k7
          · rw [if_neg hml] at k7
            refine j_aload_0 (n' := 38) F dX1_read_37 rfl ?_
            refine j_getI (n' := 41) F 7 rfl fl_X1_39 kap_3 rfl dX1_read_38 rfl ?_
            refine j_if_eq (t := 91) (n' := 44) F (by omega) dX1_read_41 (by decide) rfl (fun c41_0 => ?_) (fun c41_0 => ?_)
            · omega
            · refine j_aload_0 (n' := 45) F dX1_read_44 rfl ?_
              refine j_getI (n' := 48) F 6 rfl fl_X1_36 kap_3 rfl dX1_read_45 rfl ?_
              refine j_aload_1 (n' := 49) F dX1_read_48 rfl ?_
              refine j_cV0i (n' := 52) F kl_X1_45 (c_Pag_size) kap_1 rfl (by decide) (Nat.le_of_ble_eq_true rfl) dX1_read_49 rfl (fun z2 φ2 h2 => ?_)
              obtain ⟨rfl, rfl⟩ := h2
              refine j_icmp_ge (t := 91) (n' := 55) F (by omega) (by omega) dX1_read_52 (by decide) rfl (fun c52_2 => ?_) (fun c52_2 => ?_)
              · omega
              · refine j_aload_0 (n' := 56) F dX1_read_55 rfl ?_
                refine j_aload_1 (n' := 57) F dX1_read_56 rfl ?_
                refine j_aload_0 (n' := 58) F dX1_read_57 rfl ?_
                refine j_getI (n' := 61) F 6 rfl fl_X1_36 kap_3 rfl dX1_read_58 rfl ?_
                refine j_cV1i (n' := 64) F kl_X1_51 (c_Pag_signAt (by omega) (by omega)) kap_1 rfl (by decide) (Nat.le_of_ble_eq_true rfl) dX1_read_61 rfl (fun z4 φ4 h4 => ?_)
                obtain ⟨rfl, rfl⟩ := h4
                rw [if_pos (by omega), h4, v2]
                refine j_cV1i (n' := 67) F kl_X1_55 (c_Rea_takes_let h7 h8 h9 k1 (by omega) k3 (by omega)) kap_3 rfl (by decide) (Nat.le_of_ble_eq_true rfl) dX1_read_64 rfl (fun z5 φ5 h5 => ?_)
                obtain ⟨hz5, hy5, hx5, hq5, hf5⟩ := h5
                obtain ⟨t0, t1, t2⟩ := hx5 (by omega)
                subst t0
                refine j_if_eq (t := 83) (n' := 70) F (by omega) dX1_read_67 (by decide) rfl (fun c67_5 => ?_) (fun c67_5 => ?_)
                · refine j_aload_0 (n' := 84) F dX1_read_83 rfl ?_
                  refine j_iconst (n' := 85) F dX1_read_84 rfl ?_
                  refine j_putB (n' := 88) F 7 rfl (by omega) fp_X1_39 kap_3 rfl rfl dX1_read_85 rfl (fun φ7 e7 => ?_)
                  refine j_goto (t := 37) F dX1_read_88 (by decide) ?_
                  exact done i 0 0 md ts φ7 (by rw [e7, zU_self]) (Or.inl rfl) h2 h3 (by rw [e7, zU_ne (by omega), hq5 6 (by omega)]; exact h4) (by rw [if_neg (by omega)]; exact k7.symm) (t1.fr (by rw [e7, zU_ne (by omega)]) (fun b => by rw [e7, zU_ne (by omega)])) (t2.fr (fun b => by rw [e7, zU_ne (by omega)]) (fun b => by rw [e7, zU_ne (by omega)])) (by omega) (by rw [e7, zU_ne (by omega), hq5 4 (by omega)]; exact k3) (by omega) (by omega) (by rw [e7]; exact (k2.tr hf5).put (by omega))
                · omega
        · rw [if_neg hlt] at k7
          have k40 := k4
          generalize hdd : (if φ 2 i = 61 then la else φ 2 i - 64) = d at k7
          generalize haa : (if φ 2 i = 61 then (1 : Int) else 0) = a at k7
          have ha01 : a = 0 ∨ a = 1 := by rw [← haa]; split <;> omega
          by_cases hop : 1 ≤ d ∧ d ≤ md.length
          · rw [if_pos hop] at k7
            refine j_aload_0 (n' := 38) F dX1_read_37 rfl ?_
            refine j_getI (n' := 41) F 7 rfl fl_X1_39 kap_3 rfl dX1_read_38 rfl ?_
            refine j_if_eq (t := 91) (n' := 44) F (by omega) dX1_read_41 (by decide) rfl (fun c41_0 => ?_) (fun c41_0 => ?_)
            · omega
            · refine j_aload_0 (n' := 45) F dX1_read_44 rfl ?_
              refine j_getI (n' := 48) F 6 rfl fl_X1_36 kap_3 rfl dX1_read_45 rfl ?_
              refine j_aload_1 (n' := 49) F dX1_read_48 rfl ?_
              refine j_cV0i (n' := 52) F kl_X1_45 (c_Pag_size) kap_1 rfl (by decide) (Nat.le_of_ble_eq_true rfl) dX1_read_49 rfl (fun z2 φ2 h2 => ?_)
              obtain ⟨rfl, rfl⟩ := h2
              refine j_icmp_ge (t := 91) (n' := 55) F (by omega) (by omega) dX1_read_52 (by decide) rfl (fun c52_2 => ?_) (fun c52_2 => ?_)
              · omega
              · refine j_aload_0 (n' := 56) F dX1_read_55 rfl ?_
                refine j_aload_1 (n' := 57) F dX1_read_56 rfl ?_
                refine j_aload_0 (n' := 58) F dX1_read_57 rfl ?_
                refine j_getI (n' := 61) F 6 rfl fl_X1_36 kap_3 rfl dX1_read_58 rfl ?_
                refine j_cV1i (n' := 64) F kl_X1_51 (c_Pag_signAt (by omega) (by omega)) kap_1 rfl (by decide) (Nat.le_of_ble_eq_true rfl) dX1_read_61 rfl (fun z4 φ4 h4 => ?_)
                obtain ⟨rfl, rfl⟩ := h4
                rw [if_pos (by omega), h4, v2]
                refine j_cV1i (n' := 67) F kl_X1_55 (c_Rea_takes_opn h7 k1 (by omega) k3 (by omega) (by omega)) kap_3 rfl (by decide) (Nat.le_of_ble_eq_true rfl) dX1_read_64 rfl (fun z5 φ5 h5 => ?_)
                obtain ⟨hz5, ho5, hy5, hx5, hq5, hf5⟩ := h5
                rw [k4, hdd] at hy5 hx5
                rw [haa] at ho5
                obtain ⟨t0, t1⟩ := hy5 hop
                subst t0
                refine j_if_eq (t := 83) (n' := 70) F (by omega) dX1_read_67 (by decide) rfl (fun c67_5 => ?_) (fun c67_5 => ?_)
                · omega
                · refine j_aload_0 (n' := 71) F dX1_read_70 rfl ?_
                  refine j_dup (n' := 72) F rfl dX1_read_71 rfl ?_
                  refine j_getI (n' := 75) F 6 rfl fl_X1_36 kap_3 rfl dX1_read_72 rfl ?_
                  refine j_iconst (n' := 76) F dX1_read_75 rfl ?_
                  refine j_iadd (n' := 77) F dX1_read_76 rfl ?_
                  refine j_putI (n' := 80) F 6 rfl fp_X1_36 kap_3 rfl rfl dX1_read_77 rfl (fun φ7 e7 => ?_)
                  refine j_goto (t := 37) F dX1_read_80 (by decide) ?_
                  exact opn (i + 1) md ts d a φ7 (by omega) (by omega) (by omega) (by rw [e7, zU_self, hq5 6 (by omega) (by omega), h4]) (by rw [e7, zU_ne (by omega), hq5 7 (by omega) (by omega)]; exact h5) (by rw [e7, zU_ne (by omega), ho5]) ha01 (h7.fr (by rw [e7, zU_ne (by omega), hq5 2 (by omega) (by omega)]) (fun b => by rw [e7, zU_ne (by omega), hf5 4 b (by omega)])) (h8.fr (fun b => by rw [e7, zU_ne (by omega), hf5 5 b (by omega)]) (fun b => by rw [e7, zU_ne (by omega), hf5 6 b (by omega)])) h9 k1 (by rw [e7]; exact (k2.tr (hf5.wk (fun a h => by omega))).put (by omega)) (by rw [e7, zU_ne (by omega)]; exact t1) hop.1 hop.2 k7
          · rw [if_neg hop] at k7
            refine j_aload_0 (n' := 38) F dX1_read_37 rfl ?_
            refine j_getI (n' := 41) F 7 rfl fl_X1_39 kap_3 rfl dX1_read_38 rfl ?_
            refine j_if_eq (t := 91) (n' := 44) F (by omega) dX1_read_41 (by decide) rfl (fun c41_0 => ?_) (fun c41_0 => ?_)
            · omega
            · refine j_aload_0 (n' := 45) F dX1_read_44 rfl ?_
              refine j_getI (n' := 48) F 6 rfl fl_X1_36 kap_3 rfl dX1_read_45 rfl ?_
              refine j_aload_1 (n' := 49) F dX1_read_48 rfl ?_
              refine j_cV0i (n' := 52) F kl_X1_45 (c_Pag_size) kap_1 rfl (by decide) (Nat.le_of_ble_eq_true rfl) dX1_read_49 rfl (fun z2 φ2 h2 => ?_)
              obtain ⟨rfl, rfl⟩ := h2
              refine j_icmp_ge (t := 91) (n' := 55) F (by omega) (by omega) dX1_read_52 (by decide) rfl (fun c52_2 => ?_) (fun c52_2 => ?_)
              · omega
              · refine j_aload_0 (n' := 56) F dX1_read_55 rfl ?_
                refine j_aload_1 (n' := 57) F dX1_read_56 rfl ?_
                refine j_aload_0 (n' := 58) F dX1_read_57 rfl ?_
                refine j_getI (n' := 61) F 6 rfl fl_X1_36 kap_3 rfl dX1_read_58 rfl ?_
                refine j_cV1i (n' := 64) F kl_X1_51 (c_Pag_signAt (by omega) (by omega)) kap_1 rfl (by decide) (Nat.le_of_ble_eq_true rfl) dX1_read_61 rfl (fun z4 φ4 h4 => ?_)
                obtain ⟨rfl, rfl⟩ := h4
                rw [if_pos (by omega), h4, v2]
                refine j_cV1i (n' := 67) F kl_X1_55 (c_Rea_takes_opn h7 k1 (by omega) k3 (by omega) (by omega)) kap_3 rfl (by decide) (Nat.le_of_ble_eq_true rfl) dX1_read_64 rfl (fun z5 φ5 h5 => ?_)
                obtain ⟨hz5, ho5, hy5, hx5, hq5, hf5⟩ := h5
                rw [k4, hdd] at hy5 hx5
                rw [haa] at ho5
                obtain ⟨t0, t1⟩ := hx5 hop
                subst t0
                refine j_if_eq (t := 83) (n' := 70) F (by omega) dX1_read_67 (by decide) rfl (fun c67_5 => ?_) (fun c67_5 => ?_)
                · refine j_aload_0 (n' := 84) F dX1_read_83 rfl ?_
                  refine j_iconst (n' := 85) F dX1_read_84 rfl ?_
                  refine j_putB (n' := 88) F 7 rfl (by omega) fp_X1_39 kap_3 rfl rfl dX1_read_85 rfl (fun φ7 e7 => ?_)
                  refine j_goto (t := 37) F dX1_read_88 (by decide) ?_
                  exact done i 0 0 md ts φ7 (by rw [e7, zU_self]) (Or.inl rfl) h2 h3 (by rw [e7, zU_ne (by omega), hq5 6 (by omega) (by omega)]; exact h4) (by rw [if_neg (by omega)]; exact k7.symm) (h7.fr (by rw [e7, zU_ne (by omega), hq5 2 (by omega) (by omega)]) (fun b => by rw [e7, zU_ne (by omega), hf5 4 b (by omega)])) (h8.fr (fun b => by rw [e7, zU_ne (by omega), hf5 5 b (by omega)]) (fun b => by rw [e7, zU_ne (by omega), hf5 6 b (by omega)])) (by omega) (by rw [e7, zU_ne (by omega)]; exact t1) (by omega) (by omega) (by rw [e7]; exact (k2.tr (hf5.wk (fun a h => by omega))).put (by omega))
                · omega
      · rw [if_neg hin] at k7
        refine done i 0 1 md ts ψ h5 (Or.inr ⟨rfl, by omega⟩) h2 h3 h4 ?_ h7 h8 (by omega) k3 (by omega) (by omega) k2
        rw [← k7]
        by_cases hz : ts.length = 0
        · rw [if_pos hz, if_neg (by omega)]
        · rw [if_neg hz, if_pos (by omega)]
  refine j_aload_0 (n' := 1) F dX1_read_0 rfl ?_
  refine j_getR (n' := 4) F fl_X1_18 kap_3 rfl dX1_read_1 rfl ?_
  refine j_cV0v (n' := 7) F kl_X1_42 (c_Row_clear kap_5 (r := 6)) kap_5 rfl (by decide) (Nat.le_of_ble_eq_true rfl) dX1_read_4 rfl (fun z1 φ1 h1 => ?_)
  obtain ⟨hr1, hf1⟩ := h1
  refine j_aload_0 (n' := 8) F dX1_read_7 rfl ?_
  refine j_iconst (n' := 9) F dX1_read_8 rfl ?_
  refine j_putI (n' := 12) F 2 rfl fp_X1_22 kap_3 rfl rfl dX1_read_9 rfl (fun φ2 e2 => ?_)
  refine j_aload_0 (n' := 13) F dX1_read_12 rfl ?_
  refine j_iconst (n' := 14) F dX1_read_13 rfl ?_
  refine j_putI (n' := 17) F 3 rfl fp_X1_26 kap_3 rfl rfl dX1_read_14 rfl (fun φ3 e3 => ?_)
  refine j_aload_0 (n' := 18) F dX1_read_17 rfl ?_
  refine j_iconst (n' := 19) F dX1_read_18 rfl ?_
  refine j_putI (n' := 22) F 4 rfl fp_X1_29 kap_3 rfl rfl dX1_read_19 rfl (fun φ4 e4 => ?_)
  refine j_aload_0 (n' := 23) F dX1_read_22 rfl ?_
  refine j_iconst (n' := 24) F dX1_read_23 rfl ?_
  refine j_putB (n' := 27) F 5 rfl (by omega) fp_X1_32 kap_3 rfl rfl dX1_read_24 rfl (fun φ5 e5 => ?_)
  refine j_aload_0 (n' := 28) F dX1_read_27 rfl ?_
  refine j_iconst (n' := 29) F dX1_read_28 rfl ?_
  refine j_putI (n' := 32) F 6 rfl fp_X1_36 kap_3 rfl rfl dX1_read_29 rfl (fun φ6 e6 => ?_)
  refine j_aload_0 (n' := 33) F dX1_read_32 rfl ?_
  refine j_iconst (n' := 34) F dX1_read_33 rfl ?_
  refine j_putB (n' := 37) F 7 rfl (by omega) fp_X1_39 kap_3 rfl rfl dX1_read_34 rfl (fun φ7 e7 => ?_)
  have hfin : frC (fun a => a = 3 ∨ a = 4 ∨ a = 5 ∨ a = 6) φ φ7 := by
    rw [e7, e6, e5, e4, e3, e2]
    repeat (first | exact hf1.wk (fun a h => by omega) | refine frC.put ?_ (by omega))
  exact main 31 0 [] [] 0 φ7 (by omega) (by omega) (by omega) (by rw [e7, e6, e5, e4, e3, e2]; simp [zU]) (by rw [e7, e6, e5, e4, e3, e2]; simp [zU]) (by rw [e7, e6, e5, e4, e3, e2]; simp [zU]) ⟨by rw [e7, e6, e5, e4, e3, e2]; simp [zU], fun k hk => by simp at hk⟩ (hr1.fr (fun b => by rw [e7, e6, e5, e4, e3, e2]; simp [zU]) (fun b => by rw [e7, e6, e5, e4, e3, e2]; simp [zU])) (by simp) (by simp) hfin (by rw [e7, e6, e5, e4, e3, e2]; simp [zU]) (by rw [e7, e6, e5, e4, e3, e2]; simp [zU]) (by omega) (by omega) rfl
