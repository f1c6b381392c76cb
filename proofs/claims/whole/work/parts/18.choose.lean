theorem alOk.fr {φ φ' : jPhi} (hs : φ 7 2 ≤ 24) (h : alOk φ) (hf : ∀ a, (a = 7 ∨ a = 8 ∨ (10 ≤ a ∧ a < 34)) → ∀ b, φ' a b = φ a b) : alOk φ' := by
  intro p d h1 h2 h3
  have e7 : φ' 7 2 = φ 7 2 := hf 7 (Or.inl rfl) 2
  have e8 : φ' 8 = φ 8 := funext (hf 8 (Or.inr (Or.inl rfl)))
  rw [e7] at h3
  rw [e7, e8, hf (10 + p) (by omega) d]
  exact h p d h1 h2 h3
set_option maxRecDepth 20000 in
theorem c_Cho_collect {l : Launch} {G : jG} {B0 : Nat} {φ : jPhi} {fr en ro rr : Int} {F0 : Int → Int → Int} (hk2 : κF ro = some (.inl (5, [.inl rr, .inr 0, .inr 0, .inr 0]))) (hr2 : κF rr = some (.inr (.inl 24))) (hrs : (ro = 90 ∧ rr = 91) ∨ (ro = 97 ∧ rr = 98)) (hp : 0 ≤ fr ∧ fr ≤ en ∧ en ≤ 24) (hF : ∀ q la, fr ≤ q → q < en → 0 ≤ la → la ≤ q - fr → φ (65 + q) la = F0 q la ∧ tkOk (F0 q la) ∧ q + tkLen (F0 q la) ≤ en ∧ (1000 ≤ F0 q la → tkDist (F0 q la) ≤ q - fr)) (ht : rowIs φ ro rr []) : jC l G B0 κF 113 yX0_collect cX0_collect 7 none 2 [rf B0 37, iv fr, iv en, rf B0 ro] φ mkV (fun z φ' => rowIs φ' ro rr (wlk F0 en 24 fr 0) ∧ frC (fun a => a = ro ∨ a = rr) φ φ') := by
  refine jC_start RX0 [some (rf B0 37), some (iv fr), some (iv en), some (rf B0 ro), none, none, none] (by decide) rfl (Nat.le_of_ble_eq_true rfl) rfl (fun X Q F E => ?_)
  have loop : ∀ (k : Nat) (p la : Int) (ac : List Int) (ψ : jPhi), en - p ≤ k → fr ≤ p → p ≤ en → 0 ≤ la → la ≤ p - fr → (ac.length : Int) ≤ p - fr → rowIs ψ ro rr ac → ac ++ wlk F0 en k p la = wlk F0 en 24 fr 0 → frC (fun a => a = ro ∨ a = rr) φ ψ → jJ X G B0 κF 113 0 0 Q 7 ψ 6 [some (rf B0 37), some (iv fr), some (iv en), some (rf B0 ro), some (iv la), some (iv p), none] [] := by
    intro k
    induction k with
    | zero =>
      intro p la ac ψ h1 h2 h3 h4 h5 h6 h7 h8 h9
      rw [wlk, List.append_nil] at h8
      refine j_iload_5 (n' := 8) F dX0_collect_6 rfl ?_
      refine j_iload_2 (n' := 9) F dX0_collect_8 rfl ?_
      refine j_icmp_ge (t := 67) (n' := 12) F (by omega) (by omega) dX0_collect_9 (by decide) rfl (fun c9_0 => ?_) (fun c9_0 => ?_)
      · exact j_return F E dX0_collect_67 (⟨h8 ▸ h7, h9⟩)
      · omega
    | succ k ih =>
      intro p la ac ψ h1 h2 h3 h4 h5 h6 h7 h8 h9
      rw [wlk] at h8
      by_cases hpe : p < en
      · rw [if_pos hpe] at h8
        obtain ⟨f1, f2, f3, f4⟩ := hF p la h2 hpe h4 h5
        have f1 : ψ (65 + p) la = F0 p la := (h9 (65 + p) la (by omega)).trans f1
        generalize F0 p la = x at *
        have hlen : 1 ≤ tkLen x ∧ tkLen x ≤ 8 := by unfold tkOk at f2; unfold tkLen; split <;> omega
        have hdi : 0 ≤ tkDist x ∧ tkDist x ≤ 24 := by unfold tkOk at f2; unfold tkDist; split <;> omega
        have hxr : -2147483648 ≤ x ∧ x ≤ 2147483647 := by unfold tkOk at f2; omega
        refine j_iload_5 (n' := 8) F dX0_collect_6 rfl ?_
        refine j_iload_2 (n' := 9) F dX0_collect_8 rfl ?_
        refine j_icmp_ge (t := 67) (n' := 12) F (by first | omega | (split <;> omega)) (by first | omega | (split <;> omega)) dX0_collect_9 (by decide) rfl (fun c9_0 => ?_) (fun c9_0 => ?_)
        · omega
        · refine j_aload_0 (n' := 13) F dX0_collect_12 rfl ?_
          refine j_getR (n' := 16) F fl_X0_16 kap_37 rfl dX0_collect_13 rfl ?_
          refine j_iload_5 (n' := 18) F dX0_collect_16 rfl ?_
          refine j_aald (n' := 19) F kap_64 (by decide) (by first | omega | (split <;> omega)) dX0_collect_18 rfl ?_
          refine j_iload_4 (n' := 21) F dX0_collect_19 rfl ?_
          refine j_iald (n' := 22) F (kap_fi (by first | omega | (split <;> omega))) (by decide) (by first | omega | (split <;> omega)) dX0_collect_21 rfl ?_
          rw [f1]
          refine j_istore_6 (n' := 24) F (by decide) jc_i dX0_collect_22 rfl ?_
          refine j_aload_3 (n' := 25) F dX0_collect_24 rfl ?_
          refine j_iload_6 (n' := 27) F dX0_collect_25 rfl ?_
          refine j_cV1v (n' := 30) F kl_X0_78 (c_Row_add hk2 hr2 (by omega) h7 (by omega) hxr) hk2 rfl (by decide) (Nat.le_of_ble_eq_true rfl) dX0_collect_27 rfl (fun z2 φ2 h2 => ?_)
          obtain ⟨hra2, hfa2⟩ := h2
          refine j_iload_6 (n' := 32) F dX0_collect_30 rfl ?_
          refine j_cS1i (n' := 35) F kl_X0_82 (c_Tok_isCopy hxr) (by decide) (Nat.le_of_ble_eq_true rfl) dX0_collect_32 rfl (fun z3 φ3 h3 => ?_)
          obtain ⟨rfl, rfl⟩ := h3
          refine j_if_eq (t := 50) (n' := 38) F (by first | omega | (split <;> omega)) dX0_collect_35 (by decide) rfl (fun c35_3 => ?_) (fun c35_3 => ?_)
          · refine j_iload_5 (n' := 52) F dX0_collect_50 rfl ?_
            refine j_iconst (n' := 53) F dX0_collect_52 rfl ?_
            refine j_iload_6 (n' := 55) F dX0_collect_53 rfl ?_
            refine j_cS1i (n' := 58) F kl_X0_89 (c_Tok_lengthOf hxr) (by decide) (Nat.le_of_ble_eq_true rfl) dX0_collect_55 rfl (fun z5 φ5 h5 => ?_)
            obtain ⟨rfl, rfl⟩ := h5
            refine j_max (n' := 61) F q_450 (by decide) (Nat.le_of_ble_eq_true rfl) (by first | omega | (split <;> omega)) (by first | omega | (split <;> omega)) dX0_collect_58 rfl ?_
            rw [show max 1 (tkLen x) = tkLen x by omega]
            refine j_iadd (n' := 62) F dX0_collect_61 rfl ?_
            refine j_istore_5 (n' := 64) F (by decide) jc_i dX0_collect_62 rfl ?_
            refine j_goto (t := 6) F dX0_collect_64 (by decide) ?_
            have hwl : (ac ++ [x]) ++ wlk F0 en k (p + tkLen x) (nxL la x) = wlk F0 en 24 fr 0 := by
              rw [← h8, List.append_assoc]
              rfl
            first
              | exact j_weak (by exact ⟨rfl, rfl, rfl, rfl, rfl, rfl, trivial⟩) (ih (p + tkLen x) (nxL la x) (ac ++ [x]) φ2 (by omega) (by omega) (by omega) (by unfold nxL; split <;> omega) (by unfold nxL; split <;> omega) (by simp; omega) hra2 hwl (h9.tr hfa2))
              | exact j_weak (by exact ⟨rfl, rfl, rfl, rfl, rfl, rfl, trivial⟩) (ih (p + tkLen x) la (ac ++ [x]) φ2 (by omega) (by omega) (by omega) (by omega) (by omega) (by simp; omega) hra2 (by rw [show nxL la x = la by unfold nxL; rw [if_neg (by omega)]] at hwl; exact hwl) (h9.tr hfa2))
          · refine j_bipush (n' := 40) F dX0_collect_38 (by decide) rfl ?_
            refine j_iload_6 (n' := 42) F dX0_collect_40 rfl ?_
            refine j_cS1i (n' := 45) F kl_X0_86 (c_Tok_distanceOf hxr) (by decide) (Nat.le_of_ble_eq_true rfl) dX0_collect_42 rfl (fun z6 φ6 h6 => ?_)
            obtain ⟨rfl, rfl⟩ := h6
            refine j_min (n' := 48) F q_422 (by decide) (Nat.le_of_ble_eq_true rfl) (by first | omega | (split <;> omega)) (by first | omega | (split <;> omega)) dX0_collect_45 rfl ?_
            rw [show min 24 (tkDist x) = nxL la x by unfold nxL; rw [if_pos (by omega)]; omega]
            refine j_istore_4 (n' := 50) F (by decide) jc_r dX0_collect_48 rfl ?_
            refine j_iload_5 (n' := 52) F dX0_collect_50 rfl ?_
            refine j_iconst (n' := 53) F dX0_collect_52 rfl ?_
            refine j_iload_6 (n' := 55) F dX0_collect_53 rfl ?_
            refine j_cS1i (n' := 58) F kl_X0_89 (c_Tok_lengthOf hxr) (by decide) (Nat.le_of_ble_eq_true rfl) dX0_collect_55 rfl (fun z7 φ7 h7 => ?_)
            obtain ⟨rfl, rfl⟩ := h7
            refine j_max (n' := 61) F q_450 (by decide) (Nat.le_of_ble_eq_true rfl) (by first | omega | (split <;> omega)) (by first | omega | (split <;> omega)) dX0_collect_58 rfl ?_
            rw [show max 1 (tkLen x) = tkLen x by omega]
            refine j_iadd (n' := 62) F dX0_collect_61 rfl ?_
            refine j_istore_5 (n' := 64) F (by decide) jc_i dX0_collect_62 rfl ?_
            refine j_goto (t := 6) F dX0_collect_64 (by decide) ?_
            have hwl : (ac ++ [x]) ++ wlk F0 en k (p + tkLen x) (nxL la x) = wlk F0 en 24 fr 0 := by
              rw [← h8, List.append_assoc]
              rfl
            first
              | exact j_weak (by exact ⟨rfl, rfl, rfl, rfl, rfl, rfl, trivial⟩) (ih (p + tkLen x) (nxL la x) (ac ++ [x]) φ2 (by omega) (by omega) (by omega) (by unfold nxL; split <;> omega) (by unfold nxL; split <;> omega) (by simp; omega) hra2 hwl (h9.tr hfa2))
              | exact j_weak (by exact ⟨rfl, rfl, rfl, rfl, rfl, rfl, trivial⟩) (ih (p + tkLen x) la (ac ++ [x]) φ2 (by omega) (by omega) (by omega) (by omega) (by omega) (by simp; omega) hra2 (by rw [show nxL la x = la by unfold nxL; rw [if_neg (by omega)]] at hwl; exact hwl) (h9.tr hfa2))
      · rw [if_neg hpe, List.append_nil] at h8
        refine j_iload_5 (n' := 8) F dX0_collect_6 rfl ?_
        refine j_iload_2 (n' := 9) F dX0_collect_8 rfl ?_
        refine j_icmp_ge (t := 67) (n' := 12) F (by omega) (by omega) dX0_collect_9 (by decide) rfl (fun c9_0 => ?_) (fun c9_0 => ?_)
        · exact j_return F E dX0_collect_67 (⟨h8 ▸ h7, h9⟩)
        · omega
  refine j_iconst (n' := 1) F dX0_collect_0 rfl ?_
  refine j_istore_4 (n' := 3) F (by decide) jc_r dX0_collect_1 rfl ?_
  refine j_iload_1 (n' := 4) F dX0_collect_3 rfl ?_
  refine j_istore_5 (n' := 6) F (by decide) jc_i dX0_collect_4 rfl ?_
  exact loop 24 fr 0 [] φ (by omega) (by omega) (by omega) (by omega) (by omega) (by simp) ht rfl frC.rf
set_option maxRecDepth 20000 in
theorem c_Cho_choose {l : Launch} {G : jG} {B0 : Nat} {φ : jPhi} {o v w fr en ro rr : Int} (hs : 0 ≤ φ 7 2 ∧ φ 7 2 ≤ 24) (hal : alOk φ) (hle : txOk (φ 8) (φ 7 2)) (hk : κF o = some (.inl (3, [.inl v, .inl w]))) (hv : κF v = some (.inr (.inl 18))) (hvs : v = 35 ∨ v = 95) (hP : prOk (φ v)) (hk2 : κF ro = some (.inl (5, [.inl rr, .inr 0, .inr 0, .inr 0]))) (hr2 : κF rr = some (.inr (.inl 24))) (hrs : (ro = 90 ∧ rr = 91) ∨ (ro = 97 ∧ rr = 98)) (hp : 0 ≤ fr ∧ fr ≤ en ∧ en ≤ φ 7 2) : jC l G B0 κF 113 yX0_choose cX0_choose 7 none 3 [rf B0 37, rf B0 7, rf B0 o, iv fr, iv en, rf B0 ro] φ mkV (fun z φ' => rowIs φ' ro rr (toks (φ v) (φ 8) fr en) ∧ frC (fun a => a = 37 ∨ (39 ≤ a ∧ a < 64) ∨ (65 ≤ a ∧ a < 90) ∨ a = ro ∨ a = rr) φ φ') := by
  refine jC_start RX0 [some (rf B0 37), some (rf B0 7), some (rf B0 o), some (iv fr), some (iv en), some (rf B0 ro), none] (by decide) rfl (Nat.le_of_ble_eq_true rfl) rfl (fun X Q F E => ?_)
  have hte : txOk (φ 8) en := fun k q1 q2 => hle k q1 (by omega)
  have hwb : ∀ q la, fr ≤ q → q ≤ en → 0 ≤ Tw (φ v) (φ 8) fr en q la ∧ Tw (φ v) (φ 8) fr en q la ≤ 24000 := fun q la q1 q2 => by
    have := Tw_bd hP hp.1 (by omega) hte (en - q).toNat q la q1 q2 rfl
    omega
  have fin : ∀ (ψ : jPhi), fr < en → (∀ q la, fr ≤ q → q < en → 0 ≤ la → la ≤ q - fr → ψ (65 + q) la = Tf (φ v) (φ 8) fr en q la) → rowIs ψ ro rr [] → frC (fun a => a = 37 ∨ (39 ≤ a ∧ a < 64) ∨ (65 ≤ a ∧ a < 90) ∨ a = ro ∨ a = rr) φ ψ → jJ X G B0 κF 113 0 0 Q 7 ψ 101 [some (rf B0 37), some (rf B0 7), some (rf B0 o), some (iv fr), some (iv en), some (rf B0 ro), none] [] := by
    intro ψ h0 h1 h2 h3
    refine j_aload_0 (n' := 102) F dX0_choose_101 rfl ?_
    refine j_iload_3 (n' := 103) F dX0_choose_102 rfl ?_
    refine j_iload_4 (n' := 105) F dX0_choose_103 rfl ?_
    refine j_aload_5 (n' := 107) F dX0_choose_105 rfl ?_
    refine j_cV3v (n' := 110) F kl_X0_44 (c_Cho_collect hk2 hr2 hrs (F0 := Tf (φ v) (φ 8) fr en) (by omega) (fun q la q1 q2 q3 q4 => ⟨h1 q la q1 q2 q3 q4, (Tb_ok hp.1 (by omega) hte q1 q2).1, (Tb_ok hp.1 (by omega) hte q1 q2).2.1, (Tb_ok hp.1 (by omega) hte q1 q2).2.2.1⟩) h2) kap_37 rfl (by decide) (Nat.le_of_ble_eq_true rfl) dX0_choose_107 rfl (fun z1 φ1 h1 => ?_)
    obtain ⟨ha1, hb1⟩ := h1
    exact j_return F E dX0_choose_110 (⟨ha1, h3.tr (hb1.wk (fun a h => by omega))⟩)
  have down : ∀ (m : Nat) (p : Int) (ψ : jPhi), fr < en → p + 1 = fr + m → p < en → (∀ q la, p < q → q ≤ en → 0 ≤ la → la ≤ q - fr → ψ (39 + q) la = Tw (φ v) (φ 8) fr en q la ∧ (q < en → ψ (65 + q) la = Tf (φ v) (φ 8) fr en q la)) → rowIs ψ ro rr [] → frC (fun a => a = 37 ∨ (39 ≤ a ∧ a < 64) ∨ (65 ≤ a ∧ a < 90) ∨ a = ro ∨ a = rr) φ ψ → jJ X G B0 κF 113 0 0 Q 7 ψ 67 [some (rf B0 37), some (rf B0 7), some (rf B0 o), some (iv fr), some (iv en), some (rf B0 ro), some (iv p)] [] := by
    intro m
    induction m with
    | zero =>
      intro p ψ h0 h1 h2 h3 h4 h5
      refine j_iload_6 (n' := 69) F dX0_choose_67 rfl ?_
      refine j_iload_3 (n' := 70) F dX0_choose_69 rfl ?_
      refine j_icmp_lt (t := 101) (n' := 73) F (by omega) (by omega) dX0_choose_70 (by decide) rfl (fun c70_0 => ?_) (fun c70_0 => ?_)
      · exact j_weak (by exact ⟨rfl, rfl, rfl, rfl, rfl, rfl, trivial⟩) (fin ψ h0 (fun q la q1 q2 q3 q4 => (h3 q la (by omega) (by omega) q3 q4).2 q2) h4 h5)
      · omega
    | succ m ih =>
      intro p ψ h0 h1 h2 h3 h4 h5
      have u7 : ψ 7 2 = φ 7 2 := h5 7 2 (by omega)
      have u8 : ψ 8 = φ 8 := funext fun b => h5 8 b (by omega)
      have uv : ψ v = φ v := funext fun b => h5 v b (by omega)
      have hal2 : alOk ψ := hal.fr hs.2 (fun a ha b => h5 a b (by omega))
      have hT : ∀ q d, p < q → q ≤ en → 0 ≤ d → d ≤ q - fr → ψ (39 + q) d = Tw (φ v) (φ 8) fr en q d ∧ 0 ≤ Tw (φ v) (φ 8) fr en q d ∧ Tw (φ v) (φ 8) fr en q d ≤ 24000 := fun q d q1 q2 q3 q4 => ⟨(h3 q d q1 q2 q3 q4).1, hwb q d (by omega) q2⟩
      refine j_iload_6 (n' := 69) F dX0_choose_67 rfl ?_
      refine j_iload_3 (n' := 70) F dX0_choose_69 rfl ?_
      refine j_icmp_lt (t := 101) (n' := 73) F (by omega) (by omega) dX0_choose_70 (by decide) rfl (fun c70_0 => ?_) (fun c70_0 => ?_)
      · omega
      · refine j_aload_0 (n' := 74) F dX0_choose_73 rfl ?_
        refine j_aload_1 (n' := 75) F dX0_choose_74 rfl ?_
        refine j_aload_2 (n' := 76) F dX0_choose_75 rfl ?_
        refine j_iload_3 (n' := 77) F dX0_choose_76 rfl ?_
        refine j_iload_4 (n' := 79) F dX0_choose_77 rfl ?_
        refine j_iload_6 (n' := 81) F dX0_choose_79 rfl ?_
        refine j_cV5v (n' := 84) F kl_X0_37 (c_Cho_chooseCopy (T := Tw (φ v) (φ 8) fr en) (by omega) hal2 (by rw [u7, u8]; exact hle) hk hv hvs (by rw [uv]; exact hP) (by omega) hT) kap_37 rfl (by decide) (Nat.le_of_ble_eq_true rfl) dX0_choose_81 rfl (fun z2 φ2 h2 => ?_)
        obtain ⟨hb2, hk2, hf2⟩ := h2
        have v7 : φ2 7 2 = φ 7 2 := (hf2 7 2 (by omega)).trans u7
        have v8 : φ2 8 = φ 8 := (funext fun b => hf2 8 b (by omega)).trans u8
        have vv : φ2 v = φ v := (funext fun b => hf2 v b (by omega)).trans uv
        have hal3 : alOk φ2 := hal2.fr (by omega) (fun a ha b => hf2 a b (by omega))
        have hT2 : ∀ q d, p < q → q ≤ en → 0 ≤ d → d ≤ q - fr → φ2 (39 + q) d = Tw (φ v) (φ 8) fr en q d ∧ 0 ≤ Tw (φ v) (φ 8) fr en q d ∧ Tw (φ v) (φ 8) fr en q d ≤ 24000 := fun q d q1 q2 q3 q4 => ⟨(hf2 (39 + q) d (by omega)).trans (hT q d q1 q2 q3 q4).1, (hT q d q1 q2 q3 q4).2⟩
        have hcp : (bst φ2).2 = (cpF (φ2 v) (Tw (φ v) (φ 8) fr en) (lik (φ2 8) en 8 p) p fr (0, -1)).2 ∧ ((bst φ2).2 ≠ -1 → bst φ2 = cpF (φ2 v) (Tw (φ v) (φ 8) fr en) (lik (φ2 8) en 8 p) p fr (0, -1)) := by
          rw [hb2, uv, u8, vv, v8]
          have hst := cpF_stale (P := φ v) (T := Tw (φ v) (φ 8) fr en) (L := lik (φ 8) en 8 p) (q := p) (f := fr) (x := ψ 37 3) (by omega)
          exact ⟨hst.1, fun q => hst.2 (by rw [← hst.1]; exact q)⟩
        refine j_aload_0 (n' := 85) F dX0_choose_84 rfl ?_
        refine j_aload_1 (n' := 86) F dX0_choose_85 rfl ?_
        refine j_aload_2 (n' := 87) F dX0_choose_86 rfl ?_
        refine j_iload_3 (n' := 88) F dX0_choose_87 rfl ?_
        refine j_iload_4 (n' := 90) F dX0_choose_88 rfl ?_
        refine j_iload_6 (n' := 92) F dX0_choose_90 rfl ?_
        refine j_cV5v (n' := 95) F kl_X0_41 (c_Cho_chooseFirsts (T := Tw (φ v) (φ 8) fr en) (by omega) hal3 (by rw [v7, v8]; exact hle) hk hv hvs (by rw [vv]; exact hP) (by omega) hT2 hk2 hcp) kap_37 rfl (by decide) (Nat.le_of_ble_eq_true rfl) dX0_choose_92 rfl (fun z3 φ3 h3 => ?_)
        obtain ⟨hw3, hf3⟩ := h3
        rw [vv, v8] at hw3
        refine j_iinc_6 (n' := 98) F (by decide) jc_r dX0_choose_95 rfl ?_
        refine j_goto (t := 67) F dX0_choose_98 (by decide) ?_
        refine ih (p + -1) φ3 h0 (by omega) (by omega) (fun q la q1 q2 q3 q4 => ?_) ?_ ?_
        · by_cases hq : q = p
          · subst hq
            have hz := hw3 la q3 q4
            rw [← Tb_step (by omega)] at hz
            exact ⟨hz.1, fun _ => hz.2⟩
          · rw [hf3 (39 + q) la (by omega), hf3 (65 + q) la (by omega), hf2 (39 + q) la (by omega), hf2 (65 + q) la (by omega)]
            exact h3 q la (by omega) q2 q3 q4
        · exact h4.fr (fun b => by rw [hf3 ro b (by omega), hf2 ro b (by omega)]) (fun b => by rw [hf3 rr b (by omega), hf2 rr b (by omega)])
        · exact (h5.tr (hf2.wk (fun a h => by omega))).tr (hf3.wk (fun a h => by omega))
  have up : ∀ (m : Nat) (la : Int) (ψ : jPhi), fr < en → la + m = en - fr + 1 → 0 ≤ la → (∀ c, 0 ≤ c → c < la → ψ (39 + en) c = 0) → rowIs ψ ro rr [] → frC (fun a => a = 37 ∨ (39 ≤ a ∧ a < 64) ∨ (65 ≤ a ∧ a < 90) ∨ a = ro ∨ a = rr) φ ψ → jJ X G B0 κF 113 0 0 Q 7 ψ 35 [some (rf B0 37), some (rf B0 7), some (rf B0 o), some (iv fr), some (iv en), some (rf B0 ro), some (iv la)] [] := by
    intro m
    induction m with
    | zero =>
      intro la ψ h0 h1 h2 h3 h4 h5
      refine j_iload_6 (n' := 37) F dX0_choose_35 rfl ?_
      refine j_iload_4 (n' := 39) F dX0_choose_37 rfl ?_
      refine j_iload_3 (n' := 40) F dX0_choose_39 rfl ?_
      refine j_isub (n' := 41) F dX0_choose_40 rfl ?_
      refine j_icmp_gt (t := 61) (n' := 44) F (by omega) (by omega) dX0_choose_41 (by decide) rfl (fun c41_0 => ?_) (fun c41_0 => ?_)
      · refine j_iload_4 (n' := 63) F dX0_choose_61 rfl ?_
        refine j_iconst (n' := 64) F dX0_choose_63 rfl ?_
        refine j_isub (n' := 65) F dX0_choose_64 rfl ?_
        refine j_istore_6 (n' := 67) F (by decide) jc_r dX0_choose_65 rfl ?_
        refine down (en - fr).toNat (en - 1) ψ h0 (by omega) (by omega) (fun q c q1 q2 q3 q4 => ?_) h4 h5
        have hq : q = en := by omega
        subst hq
        refine ⟨?_, fun h => by omega⟩
        rw [h3 c q3 (by omega)]
        unfold Tw
        rw [Tb_end]
      · omega
    | succ m ih =>
      intro la ψ h0 h1 h2 h3 h4 h5
      refine j_iload_6 (n' := 37) F dX0_choose_35 rfl ?_
      refine j_iload_4 (n' := 39) F dX0_choose_37 rfl ?_
      refine j_iload_3 (n' := 40) F dX0_choose_39 rfl ?_
      refine j_isub (n' := 41) F dX0_choose_40 rfl ?_
      refine j_icmp_gt (t := 61) (n' := 44) F (by omega) (by omega) dX0_choose_41 (by decide) rfl (fun c41_0 => ?_) (fun c41_0 => ?_)
      · omega
      · refine j_aload_0 (n' := 45) F dX0_choose_44 rfl ?_
        refine j_getR (n' := 48) F fl_X0_11 kap_37 rfl dX0_choose_45 rfl ?_
        refine j_iload_4 (n' := 50) F dX0_choose_48 rfl ?_
        refine j_aald (n' := 51) F kap_38 (by decide) (by omega) dX0_choose_50 rfl ?_
        refine j_iload_6 (n' := 53) F dX0_choose_51 rfl ?_
        refine j_iconst (n' := 54) F dX0_choose_53 rfl ?_
        refine j_iast (n' := 55) F (kap_we (by omega)) (by decide) (by omega) dX0_choose_54 rfl (fun φ2 e2 => ?_)
        refine j_iinc_6 (n' := 58) F (by decide) jc_r dX0_choose_55 rfl ?_
        refine j_goto (t := 35) F dX0_choose_58 (by decide) ?_
        refine ih (la + 1) φ2 h0 (by omega) (by omega) (fun c q1 q2 => ?_) ?_ ?_
        · by_cases q : c = la
          · rw [q, e2, zU_self]
          · rw [e2, zU_ne (by omega)]
            exact h3 c q1 (by omega)
        · exact h4.fr (fun b => by rw [e2, zU_ne (by omega)]) (fun b => by rw [e2, zU_ne (by omega)])
        · rw [e2]
          exact h5.put (by omega)
  refine j_aload_5 (n' := 2) F dX0_choose_0 rfl ?_
  refine j_cV0v (n' := 5) F kl_X0_26 (c_Row_clear hk2 (r := rr)) hk2 rfl (by decide) (Nat.le_of_ble_eq_true rfl) dX0_choose_2 rfl (fun z1 φ1 h1 => ?_)
  obtain ⟨hr1, hf1⟩ := h1
  have u7 : φ1 7 2 = φ 7 2 := hf1 7 2 (by omega)
  refine j_iload_3 (n' := 6) F dX0_choose_5 rfl ?_
  refine j_if_lt (t := 31) (n' := 9) F (by omega) dX0_choose_6 (by decide) rfl (fun c6_1 => ?_) (fun c6_1 => ?_)
  · exact j_return F E dX0_choose_31 (⟨by unfold toks; rw [wlk, if_neg (by omega)]; exact hr1, hf1.wk (fun a h => by omega)⟩)
  · refine j_iload_3 (n' := 10) F dX0_choose_9 rfl ?_
    refine j_iload_4 (n' := 12) F dX0_choose_10 rfl ?_
    refine j_icmp_ge (t := 31) (n' := 15) F (by omega) (by omega) dX0_choose_12 (by decide) rfl (fun c12_2 => ?_) (fun c12_2 => ?_)
    · exact j_return F E dX0_choose_31 (⟨by unfold toks; rw [wlk, if_neg (by omega)]; exact hr1, hf1.wk (fun a h => by omega)⟩)
    · refine j_iload_4 (n' := 17) F dX0_choose_15 rfl ?_
      refine j_aload_1 (n' := 18) F dX0_choose_17 rfl ?_
      refine j_cV0i (n' := 21) F kl_X0_31 (c_Txt_size) kap_7 rfl (by decide) (Nat.le_of_ble_eq_true rfl) dX0_choose_18 rfl (fun z4 φ4 h4 => ?_)
      obtain ⟨rfl, rfl⟩ := h4
      refine j_icmp_gt (t := 31) (n' := 24) F (by omega) (by omega) dX0_choose_21 (by decide) rfl (fun c21_4 => ?_) (fun c21_4 => ?_)
      · exact j_return F E dX0_choose_31 (⟨by unfold toks; rw [wlk, if_neg (by omega)]; exact hr1, hf1.wk (fun a h => by omega)⟩)
      · refine j_iload_4 (n' := 26) F dX0_choose_24 rfl ?_
        refine j_bipush (n' := 28) F dX0_choose_26 (by decide) rfl ?_
        refine j_icmp_le (t := 32) (n' := 31) F (by omega) (by omega) dX0_choose_28 (by decide) rfl (fun c28_5 => ?_) (fun c28_5 => ?_)
        · refine j_iconst (n' := 33) F dX0_choose_32 rfl ?_
          refine j_istore_6 (n' := 35) F (by decide) jc_r dX0_choose_33 rfl ?_
          exact up (en - fr + 1).toNat 0 φ1 (by omega) (by omega) (by omega) (fun c q1 q2 => by omega) hr1 (hf1.wk (fun a h => by omega))
        · exact j_return F E dX0_choose_31 (⟨by unfold toks; rw [wlk, if_neg (by omega)]; exact hr1, hf1.wk (fun a h => by omega)⟩)
