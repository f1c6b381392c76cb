def bst (φ : jPhi) : Int × Int := (φ 37 3, φ 37 2)
def bOk (b : Int × Int) : Prop := -1 ≤ b.2 ∧ b.2 ≤ 1248 ∧ (b.2 ≠ -1 → 0 ≤ b.1 ∧ b.1 ≤ 40000)
theorem bOk_cnd {b : Int × Int} {w x : Int} (h : bOk b) (hw : 0 ≤ w ∧ w ≤ 40000) (hx : -1 ≤ x ∧ x ≤ 1248) : bOk (cnd b w x) := by
  unfold cnd
  split
  · exact h
  · exact ⟨hx.1, hx.2, fun _ => hw⟩
set_option maxRecDepth 20000 in
theorem c_Cho_consider {l : Launch} {G : jG} {B0 : Nat} {φ : jPhi} {x c b : Int} (hc : 0 ≤ c ∧ c ≤ 90) (hb : 0 ≤ b ∧ b ≤ 30000) (hk : bOk (bst φ)) : jC l G B0 κF 113 yX0_consider cX0_consider 5 none 0 [rf B0 37, iv x, iv c, iv b] φ mkV (fun z φ' => bst φ' = cnd (bst φ) (32 * c + 1 + b) x ∧ frC (fun a => a = 37) φ φ') := by
  refine jC_start RX0 [some (rf B0 37), some (iv x), some (iv c), some (iv b), none] (by decide) rfl (Nat.le_of_ble_eq_true rfl) rfl (fun X Q F E => ?_)
  obtain ⟨k1, k2, k3⟩ := hk
  simp only [bst] at k1 k2 k3
  refine j_bipush (n' := 2) F dX0_consider_0 (by decide) rfl ?_
  refine j_iload_2 (n' := 3) F dX0_consider_2 rfl ?_
  refine j_imul (n' := 4) F dX0_consider_3 rfl ?_
  refine j_iconst (n' := 5) F dX0_consider_4 rfl ?_
  refine j_iadd (n' := 6) F dX0_consider_5 rfl ?_
  refine j_iload_3 (n' := 7) F dX0_consider_6 rfl ?_
  refine j_iadd (n' := 8) F dX0_consider_7 rfl ?_
  refine j_istore_4 (n' := 10) F (by decide) jc_i dX0_consider_8 rfl ?_
  refine j_aload_0 (n' := 11) F dX0_consider_10 rfl ?_
  refine j_getI (n' := 14) F 2 rfl fl_X0_19 kap_37 rfl dX0_consider_11 rfl ?_
  refine j_iconst (n' := 15) F dX0_consider_14 rfl ?_
  refine j_icmp_eq (t := 28) (n' := 18) F (by omega) (by omega) dX0_consider_15 (by decide) rfl (fun c15_0 => ?_) (fun c15_0 => ?_)
  · refine j_aload_0 (n' := 29) F dX0_consider_28 rfl ?_
    refine j_iload_1 (n' := 30) F dX0_consider_29 rfl ?_
    refine j_putI (n' := 33) F 2 rfl fp_X0_19 kap_37 rfl rfl dX0_consider_30 rfl (fun φ2 e2 => ?_)
    refine j_aload_0 (n' := 34) F dX0_consider_33 rfl ?_
    refine j_iload_4 (n' := 36) F dX0_consider_34 rfl ?_
    refine j_putI (n' := 39) F 3 rfl fp_X0_23 kap_37 rfl rfl dX0_consider_36 rfl (fun φ3 e3 => ?_)
    exact j_return F E dX0_consider_39 (⟨by unfold cnd bst; rw [if_neg (by simp only; omega), e3, e2]; simp [zU], by rw [e3, e2]; exact (frC.put (frC.put frC.rf rfl) rfl)⟩)
  · refine j_iload_4 (n' := 20) F dX0_consider_18 rfl ?_
    refine j_aload_0 (n' := 21) F dX0_consider_20 rfl ?_
    refine j_getI (n' := 24) F 3 rfl fl_X0_23 kap_37 rfl dX0_consider_21 rfl ?_
    refine j_icmp_lt (t := 28) (n' := 27) F (by omega) (by omega) dX0_consider_24 (by decide) rfl (fun c24_3 => ?_) (fun c24_3 => ?_)
    · refine j_aload_0 (n' := 29) F dX0_consider_28 rfl ?_
      refine j_iload_1 (n' := 30) F dX0_consider_29 rfl ?_
      refine j_putI (n' := 33) F 2 rfl fp_X0_19 kap_37 rfl rfl dX0_consider_30 rfl (fun φ5 e5 => ?_)
      refine j_aload_0 (n' := 34) F dX0_consider_33 rfl ?_
      refine j_iload_4 (n' := 36) F dX0_consider_34 rfl ?_
      refine j_putI (n' := 39) F 3 rfl fp_X0_23 kap_37 rfl rfl dX0_consider_36 rfl (fun φ6 e6 => ?_)
      exact j_return F E dX0_consider_39 (⟨by unfold cnd bst; rw [if_neg (by simp only; omega), e6, e5]; simp [zU], by rw [e6, e5]; exact (frC.put (frC.put frC.rf rfl) rfl)⟩)
    · exact j_return F E dX0_consider_27 (⟨by unfold cnd bst; rw [if_pos (by simp only; omega)], frC.rf⟩)
set_option maxRecDepth 20000 in
theorem c_Cho_chooseCopy {l : Launch} {G : jG} {B0 : Nat} {φ : jPhi} {o v w fr en pl : Int} {T : Int → Int → Int} (hs : 0 ≤ φ 7 2 ∧ φ 7 2 ≤ 24) (hal : alOk φ) (hle : txOk (φ 8) (φ 7 2)) (hk : κF o = some (.inl (3, [.inl v, .inl w]))) (hv : κF v = some (.inr (.inl 18))) (hvs : v = 35 ∨ v = 95) (hP : prOk (φ v)) (hp : 0 ≤ fr ∧ fr ≤ pl ∧ pl < en ∧ en ≤ φ 7 2) (hT : ∀ q d, pl < q → q ≤ en → 0 ≤ d → d ≤ q - fr → φ (39 + q) d = T q d ∧ 0 ≤ T q d ∧ T q d ≤ 24000) : jC l G B0 κF 113 yX0_chooseCopy cX0_chooseCopy 10 none 2 [rf B0 37, rf B0 7, rf B0 o, iv fr, iv en, iv pl] φ mkV (fun z φ' => bst φ' = cpF (φ v) T (lik (φ 8) en 8 pl) pl fr (φ 37 3, -1) ∧ bOk (bst φ') ∧ frC (fun a => a = 37) φ φ') := by
  refine jC_start RX0 [some (rf B0 37), some (rf B0 7), some (rf B0 o), some (iv fr), some (iv en), some (iv pl), none, none, none, none] (by decide) rfl (Nat.le_of_ble_eq_true rfl) rfl (fun X Q F E => ?_)
  have outer : ∀ (m : Nat) (d : Int) (ψ : jPhi), d + m = pl - fr + 1 → 1 ≤ d → bOk (bst ψ) → frC (fun a => a = 37) φ ψ → lpI (cpD (φ v) T (lik (φ 8) en 8 pl) pl) d (pl - fr + 1) (bst ψ) = cpF (φ v) T (lik (φ 8) en 8 pl) pl fr (φ 37 3, -1) → jJ X G B0 κF 113 0 0 Q 10 ψ 8 [some (rf B0 37), some (rf B0 7), some (rf B0 o), some (iv fr), some (iv en), some (iv pl), some (iv d), none, none, none] [] := by
    intro m
    induction m with
    | zero =>
      intro d ψ h1 h2 h3 h4 h5
      rw [lpI_end (by omega)] at h5
      refine j_iload_6 (n' := 10) F dX0_chooseCopy_8 rfl ?_
      refine j_iload_5 (n' := 12) F dX0_chooseCopy_10 rfl ?_
      refine j_iload_3 (n' := 13) F dX0_chooseCopy_12 rfl ?_
      refine j_isub (n' := 14) F dX0_chooseCopy_13 rfl ?_
      refine j_icmp_gt (t := 91) (n' := 17) F (by omega) (by omega) dX0_chooseCopy_14 (by decide) rfl (fun c14_0 => ?_) (fun c14_0 => ?_)
      · exact j_return F E dX0_chooseCopy_91 (⟨h5, h3, h4⟩)
      · omega
    | succ m ih =>
      intro d ψ h1 h2 h3 h4 h5
      have hlb := lik_bd (φ 8) en 8 pl d
      have hlb2 := hlb.2.2 (by omega)
      have hcut := lik_cut (φ 8) (e := en) (n := φ 7 2) (by omega) 8 pl d (by omega)
      have hlk : (if pl < ψ 7 2 ∧ 1 ≤ d ∧ d ≤ pl then ψ (10 + pl) d else 0) = lik (φ 8) (φ 7 2) 8 pl d := by
        rw [h4 7 2 (by omega), if_pos (by omega), h4 (10 + pl) d (by omega)]
        exact hal pl d h2 (by omega) (by omega)
      have hlb3 := lik_bd (φ 8) (φ 7 2) 8 pl d
      have u70 : ψ 7 2 = φ 7 2 := h4 7 2 (by omega)
      rw [lpI_step (by omega)] at h5
      have inner : ∀ (j : Nat) (n : Int) (χ : jPhi), n + j = max 2 (lik (φ 8) en 8 pl d + 1) → 2 ≤ n → bOk (bst χ) → frC (fun a => a = 37) φ χ → lpI (cpD (φ v) T (lik (φ 8) en 8 pl) pl) (d + 1) (pl - fr + 1) (lpI (cpI (φ v) T pl d) n (lik (φ 8) en 8 pl d + 1) (bst χ)) = cpF (φ v) T (lik (φ 8) en 8 pl) pl fr (φ 37 3, -1) → jJ X G B0 κF 113 0 0 Q 10 χ 38 [some (rf B0 37), some (rf B0 7), some (rf B0 o), some (iv fr), some (iv en), some (iv pl), some (iv d), some (iv (lik (φ 8) en 8 pl d)), some (iv n), none] [] := by
        intro j
        induction j with
        | zero =>
          intro n χ g1 g2 g3 g4 g5
          rw [lpI_end (lo := n) (by omega)] at g5
          refine j_iload_8 (n' := 40) F dX0_chooseCopy_38 rfl ?_
          refine j_iload_7 (n' := 42) F dX0_chooseCopy_40 rfl ?_
          refine j_icmp_gt (t := 85) (n' := 45) F (by omega) (by omega) dX0_chooseCopy_42 (by decide) rfl (fun c42_0 => ?_) (fun c42_0 => ?_)
          · refine j_iinc_6 (n' := 88) F (by decide) jc_i dX0_chooseCopy_85 rfl ?_
            refine j_goto (t := 8) F dX0_chooseCopy_88 (by decide) ?_
            exact j_weak (by exact ⟨rfl, rfl, rfl, rfl, rfl, rfl, rfl, trivial⟩) (ih (d + 1) χ (by omega) (by omega) g3 g4 g5)
          · omega
        | succ j ihj =>
          intro n χ g1 g2 g3 g4 g5
          have uv : χ v = φ v := funext fun b => g4 v b (by omega)
          obtain ⟨hT1, hT2⟩ := hT (pl + n) d (by omega) (by omega) (by omega) (by omega)
          have hT1 : χ (39 + (pl + n)) d = T (pl + n) d := (g4 (39 + (pl + n)) d (by omega)).trans hT1
          have hpb := tkPrice_bd hP (1000 + 10 * d + n)
          obtain ⟨tk1, tk2, tk3, tk4⟩ := tk_copy (j := n) (d := d) (by omega) (by omega) 0
          rw [lpI_step (lo := n) (by omega)] at g5
          refine j_iload_8 (n' := 40) F dX0_chooseCopy_38 rfl ?_
          refine j_iload_7 (n' := 42) F dX0_chooseCopy_40 rfl ?_
          refine j_icmp_gt (t := 85) (n' := 45) F (by omega) (by omega) dX0_chooseCopy_42 (by decide) rfl (fun c42_0 => ?_) (fun c42_0 => ?_)
          · omega
          · refine j_iload_6 (n' := 47) F dX0_chooseCopy_45 rfl ?_
            refine j_iload_8 (n' := 49) F dX0_chooseCopy_47 rfl ?_
            refine j_cS2i (n' := 52) F kl_X0_57 (c_Tok_copy) (by decide) (Nat.le_of_ble_eq_true rfl) dX0_chooseCopy_49 rfl (fun z2 φ2 h2 => ?_)
            obtain ⟨rfl, rfl⟩ := h2
            refine j_istore_9 (n' := 54) F (by decide) jc_i dX0_chooseCopy_52 rfl ?_
            refine j_aload_0 (n' := 55) F dX0_chooseCopy_54 rfl ?_
            refine j_iload_9 (n' := 57) F dX0_chooseCopy_55 rfl ?_
            refine j_aload_2 (n' := 58) F dX0_chooseCopy_57 rfl ?_
            refine j_iload_9 (n' := 60) F dX0_chooseCopy_58 rfl ?_
            refine j_cV1i (n' := 63) F kl_X0_62 (c_Pri_ofToken hk hv tk1 (by rw [uv]; exact hP)) hk rfl (by decide) (Nat.le_of_ble_eq_true rfl) dX0_chooseCopy_60 rfl (fun z3 φ3 h3 => ?_)
            obtain ⟨rfl, rfl⟩ := h3
            rw [uv]
            refine j_aload_0 (n' := 64) F dX0_chooseCopy_63 rfl ?_
            refine j_getR (n' := 67) F fl_X0_11 kap_37 rfl dX0_chooseCopy_64 rfl ?_
            refine j_iload_5 (n' := 69) F dX0_chooseCopy_67 rfl ?_
            refine j_iload_8 (n' := 71) F dX0_chooseCopy_69 rfl ?_
            refine j_iadd (n' := 72) F dX0_chooseCopy_71 rfl ?_
            refine j_aald (n' := 73) F kap_38 (by decide) (by omega) dX0_chooseCopy_72 rfl ?_
            refine j_iload_6 (n' := 75) F dX0_chooseCopy_73 rfl ?_
            refine j_iald (n' := 76) F (kap_we (by omega)) (by decide) (by omega) dX0_chooseCopy_75 rfl ?_
            rw [hT1]
            refine j_cV3v (n' := 79) F kl_X0_68 (c_Cho_consider (by omega) (by omega) g3) kap_37 rfl (by decide) (Nat.le_of_ble_eq_true rfl) dX0_chooseCopy_76 rfl (fun z4 φ4 h4 => ?_)
            obtain ⟨hc4, hf4⟩ := h4
            refine j_iinc_8 (n' := 82) F (by decide) jc_i dX0_chooseCopy_79 rfl ?_
            refine j_goto (t := 38) F dX0_chooseCopy_82 (by decide) ?_
            refine j_weak (by exact ⟨rfl, rfl, rfl, rfl, rfl, rfl, rfl, rfl, rfl, trivial⟩) (ihj (n + 1) φ4 (by omega) (by omega) (by rw [hc4]; exact bOk_cnd g3 (by omega) (by unfold tkOk at tk1; omega)) (g4.tr hf4) ?_)
            rw [hc4]
            exact g5
      refine j_iload_6 (n' := 10) F dX0_chooseCopy_8 rfl ?_
      refine j_iload_5 (n' := 12) F dX0_chooseCopy_10 rfl ?_
      refine j_iload_3 (n' := 13) F dX0_chooseCopy_12 rfl ?_
      refine j_isub (n' := 14) F dX0_chooseCopy_13 rfl ?_
      refine j_icmp_gt (t := 91) (n' := 17) F (by omega) (by omega) dX0_chooseCopy_14 (by decide) rfl (fun c14_0 => ?_) (fun c14_0 => ?_)
      · omega
      · refine j_aload_1 (n' := 18) F dX0_chooseCopy_17 rfl ?_
        refine j_iload_5 (n' := 20) F dX0_chooseCopy_18 rfl ?_
        refine j_iload_6 (n' := 22) F dX0_chooseCopy_20 rfl ?_
        refine j_cV2i (n' := 25) F kl_X0_48 (c_Txt_likeness (by omega) (by omega) (by omega)) kap_7 rfl (by decide) (Nat.le_of_ble_eq_true rfl) dX0_chooseCopy_22 rfl (fun z2 φ2 h2 => ?_)
        obtain ⟨rfl, rfl⟩ := h2
        rw [hlk]
        refine j_iload_4 (n' := 27) F dX0_chooseCopy_25 rfl ?_
        refine j_iload_5 (n' := 29) F dX0_chooseCopy_27 rfl ?_
        refine j_isub (n' := 30) F dX0_chooseCopy_29 rfl ?_
        refine j_min (n' := 33) F q_422 (by decide) (Nat.le_of_ble_eq_true rfl) (by omega) (by omega) dX0_chooseCopy_30 rfl ?_
        rw [← hcut]
        refine j_istore_7 (n' := 35) F (by decide) jc_i dX0_chooseCopy_33 rfl ?_
        refine j_iconst (n' := 36) F dX0_chooseCopy_35 rfl ?_
        refine j_istore_8 (n' := 38) F (by decide) jc_i dX0_chooseCopy_36 rfl ?_
        exact j_weak (by exact ⟨rfl, rfl, rfl, rfl, rfl, rfl, rfl, rfl, rfl, trivial⟩) (inner (lik (φ 8) en 8 pl d + 1 - 2).toNat 2 ψ (by omega) (by omega) h3 h4 h5)
  refine j_aload_0 (n' := 1) F dX0_chooseCopy_0 rfl ?_
  refine j_iconst (n' := 2) F dX0_chooseCopy_1 rfl ?_
  refine j_putI (n' := 5) F 2 rfl fp_X0_19 kap_37 rfl rfl dX0_chooseCopy_2 rfl (fun φ1 e1 => ?_)
  refine j_iconst (n' := 6) F dX0_chooseCopy_5 rfl ?_
  refine j_istore_6 (n' := 8) F (by decide) jc_i dX0_chooseCopy_6 rfl ?_
  exact outer (pl - fr).toNat 1 φ1 (by omega) (by omega) (by rw [e1]; unfold bst bOk; simp [zU]) (by rw [e1]; exact frC.rf.put rfl) (by rw [e1]; unfold bst cpF; simp [zU])
set_option maxRecDepth 20000 in
theorem c_Cho_chooseFirsts {l : Launch} {G : jG} {B0 : Nat} {φ : jPhi} {o v w fr en pl : Int} {T : Int → Int → Int} (hs : 0 ≤ φ 7 2 ∧ φ 7 2 ≤ 24) (hal : alOk φ) (hle : txOk (φ 8) (φ 7 2)) (hk : κF o = some (.inl (3, [.inl v, .inl w]))) (hv : κF v = some (.inr (.inl 18))) (hvs : v = 35 ∨ v = 95) (hP : prOk (φ v)) (hp : 0 ≤ fr ∧ fr ≤ pl ∧ pl < en ∧ en ≤ φ 7 2) (hT : ∀ q d, pl < q → q ≤ en → 0 ≤ d → d ≤ q - fr → φ (39 + q) d = T q d ∧ 0 ≤ T q d ∧ T q d ≤ 24000) (hbk : bOk (bst φ)) (hcp : (bst φ).2 = (cpF (φ v) T (lik (φ 8) en 8 pl) pl fr (0, -1)).2 ∧ ((bst φ).2 ≠ -1 → bst φ = cpF (φ v) T (lik (φ 8) en 8 pl) pl fr (0, -1))) : jC l G B0 κF 113 yX0_chooseFirsts cX0_chooseFirsts 13 none 2 [rf B0 37, rf B0 7, rf B0 o, iv fr, iv en, iv pl] φ mkV (fun z φ' => (∀ la, 0 ≤ la → la ≤ pl - fr → φ' (39 + pl) la = (stS (φ v) T (φ 8) (lik (φ 8) en 8 pl) pl la fr).1 ∧ φ' (65 + pl) la = (stS (φ v) T (φ 8) (lik (φ 8) en 8 pl) pl la fr).2) ∧ frC (fun a => a = 37 ∨ a = 39 + pl ∨ a = 65 + pl) φ φ') := by
  refine jC_start RX0 [some (rf B0 37), some (rf B0 7), some (rf B0 o), some (iv fr), some (iv en), some (iv pl), none, none, none, none, none, none, none] (by decide) rfl (Nat.le_of_ble_eq_true rfl) rfl (fun X Q F E => ?_)
  have hc0 := hle pl (by omega) (by omega)
  have hbk2 := hbk
  obtain ⟨k1, k2, k3⟩ := hbk2
  simp only [bst] at k1 k2 k3
  have outer : ∀ (m : Nat) (la : Int) (ψ : jPhi), la + m = pl - fr + 1 → 0 ≤ la → (∀ c, 0 ≤ c → c < la → ψ (39 + pl) c = (stS (φ v) T (φ 8) (lik (φ 8) en 8 pl) pl c fr).1 ∧ ψ (65 + pl) c = (stS (φ v) T (φ 8) (lik (φ 8) en 8 pl) pl c fr).2) → frC (fun a => a = 37 ∨ a = 39 + pl ∨ a = 65 + pl) φ ψ → jJ X G B0 κF 113 0 0 Q 13 ψ 23 [some (rf B0 37), some (rf B0 7), some (rf B0 o), some (iv fr), some (iv en), some (iv pl), some (iv (φ 37 2)), some (iv (φ 37 3)), some (iv (φ 8 pl)), some (iv la), none, none, none] [] := by
    intro m
    induction m with
    | zero =>
      intro la ψ h1 h2 h3 h4
      refine j_iload_9 (n' := 25) F dX0_chooseFirsts_23 rfl ?_
      refine j_iload_5 (n' := 27) F dX0_chooseFirsts_25 rfl ?_
      refine j_iload_3 (n' := 28) F dX0_chooseFirsts_27 rfl ?_
      refine j_isub (n' := 29) F dX0_chooseFirsts_28 rfl ?_
      refine j_icmp_gt (t := 203) (n' := 32) F (by omega) (by omega) dX0_chooseFirsts_29 (by decide) rfl (fun c29_0 => ?_) (fun c29_0 => ?_)
      · exact j_return F E dX0_chooseFirsts_203 (⟨fun c q1 q2 => h3 c q1 (by omega), h4⟩)
      · omega
    | succ m ih =>
      intro la ψ h1 h2 h3 h4
      have hTr : ∀ q d, pl < q → q ≤ en → 0 ≤ d → d ≤ q - fr → ∀ χ : jPhi, frC (fun a => a = 37 ∨ a = 39 + pl ∨ a = 65 + pl) φ χ → χ (39 + q) d = T q d := fun q d q1 q2 q3 q4 χ hχ => by
        rw [hχ (39 + q) d (by omega)]
        exact (hT q d q1 q2 q3 q4).1
      have hlb := lik_bd (φ 8) en 8 pl la
      have hlb2 := hlb.2.2 (by omega)
      have hcut := lik_cut (φ 8) (e := en) (n := φ 7 2) (by omega) 8 pl la (by omega)
      have hlb3 := lik_bd (φ 8) (φ 7 2) 8 pl la
      have hlk : ∀ χ : jPhi, frC (fun a => a = 37 ∨ a = 39 + pl ∨ a = 65 + pl) φ χ → min (if pl < χ 7 2 ∧ 1 ≤ la ∧ la ≤ pl then χ (10 + pl) la else 0) (en - pl) = agM (lik (φ 8) en 8 pl) la := fun χ hχ => by
        rw [hχ 7 2 (by omega)]
        unfold agM
        by_cases e0 : la = 0
        · rw [if_neg (by omega), if_pos e0]
          omega
        · rw [if_pos (by omega), if_neg e0, hχ (10 + pl) la (by omega), hal pl la (by omega) (by omega) (by omega)]
          exact hcut.symm
      have hlr : ∀ χ : jPhi, frC (fun a => a = 37 ∨ a = 39 + pl ∨ a = 65 + pl) φ χ → (-2147483648 ≤ (if pl < χ 7 2 ∧ 1 ≤ la ∧ la ≤ pl then χ (10 + pl) la else 0) ∧ (if pl < χ 7 2 ∧ 1 ≤ la ∧ la ≤ pl then χ (10 + pl) la else 0) ≤ 2147483647) := fun χ hχ => by
        rw [hχ 7 2 (by omega)]
        split
        · rw [hχ (10 + pl) la (by omega), hal pl la (by omega) (by omega) (by omega)]
          omega
        · omega
      have hagb : 0 ≤ agM (lik (φ 8) en 8 pl) la ∧ agM (lik (φ 8) en 8 pl) la ≤ 8 ∧ agM (lik (φ 8) en 8 pl) la ≤ en - pl := by
        unfold agM
        split <;> omega
      have join : ∀ χ : jPhi, bst χ = agF (φ v) T (agM (lik (φ 8) en 8 pl) la) pl la (plB (φ v) T (φ 8) pl la) → bOk (bst χ) → (∀ c, 0 ≤ c → c < la → χ (39 + pl) c = (stS (φ v) T (φ 8) (lik (φ 8) en 8 pl) pl c fr).1 ∧ χ (65 + pl) c = (stS (φ v) T (φ 8) (lik (φ 8) en 8 pl) pl c fr).2) → frC (fun a => a = 37 ∨ a = 39 + pl ∨ a = 65 + pl) φ χ → jJ X G B0 κF 113 0 0 Q 13 χ 127 [some (rf B0 37), some (rf B0 7), some (rf B0 o), some (iv fr), some (iv en), some (iv pl), some (iv (φ 37 2)), some (iv (φ 37 3)), some (iv (φ 8 pl)), some (iv la), none, none, none] [] := by
        intro χ j1 j2 j3 j4
        have jb := j2
        obtain ⟨b1, b2, b3⟩ := jb
        simp only [bst] at b1 b2 b3
        have hne : χ 37 2 ≠ -1 := by
          have hg := (agF_le (P := φ v) (T := T) (m := agM (lik (φ 8) en 8 pl) la) (q := pl) (la := la) (b := plB (φ v) T (φ 8) pl la) (by simp only [plB]; omega)).2
          rw [← j1] at hg
          exact hg
        have b3 := b3 hne
        have hst : (stS (φ v) T (φ 8) (lik (φ 8) en 8 pl) pl la fr) = if φ 37 2 ≠ -1 ∧ φ 37 3 < χ 37 3 then (φ 37 3, φ 37 2) else (χ 37 3, χ 37 2) := by
          unfold stS
          rw [← j1]
          by_cases z : φ 37 2 = -1
          · have z2 : (cpF (φ v) T (lik (φ 8) en 8 pl) pl fr (0, -1)).2 = -1 := hcp.1.symm.trans z
            rw [if_neg (fun q => q.1 z2), if_neg (fun q => q.1 z)]
            rfl
          · rw [← hcp.2 z]
            rfl
        refine j_iload_6 (n' := 129) F dX0_chooseFirsts_127 rfl ?_
        refine j_iconst (n' := 130) F dX0_chooseFirsts_129 rfl ?_
        refine j_icmp_eq (t := 146) (n' := 133) F (by omega) (by omega) dX0_chooseFirsts_130 (by decide) rfl (fun c130_0 => ?_) (fun c130_0 => ?_)
        · refine j_iconst (n' := 147) F dX0_chooseFirsts_146 rfl ?_
          refine j_istore_11 (n' := 149) F (by decide) jc_n dX0_chooseFirsts_147 rfl ?_
          refine j_aload_0 (n' := 150) F dX0_chooseFirsts_149 rfl ?_
          refine j_getR (n' := 153) F fl_X0_16 kap_37 rfl dX0_chooseFirsts_150 rfl ?_
          refine j_iload_5 (n' := 155) F dX0_chooseFirsts_153 rfl ?_
          refine j_aald (n' := 156) F kap_64 (by decide) (by omega) dX0_chooseFirsts_155 rfl ?_
          refine j_iload_9 (n' := 158) F dX0_chooseFirsts_156 rfl ?_
          refine j_iload_11 (n' := 160) F dX0_chooseFirsts_158 rfl ?_
          refine j_if_eq (t := 168) (n' := 163) F (by omega) dX0_chooseFirsts_160 (by decide) rfl (fun c160_1 => ?_) (fun c160_1 => ?_)
          · refine j_aload_0 (n' := 169) F dX0_chooseFirsts_168 rfl ?_
            refine j_getI (n' := 172) F 2 rfl fl_X0_19 kap_37 rfl dX0_chooseFirsts_169 rfl ?_
            refine j_iast (n' := 173) F (kap_fi (by omega)) (by decide) (by omega) dX0_chooseFirsts_172 rfl (fun φ3 e3 => ?_)
            refine j_aload_0 (n' := 174) F dX0_chooseFirsts_173 rfl ?_
            refine j_getR (n' := 177) F fl_X0_11 kap_37 rfl dX0_chooseFirsts_174 rfl ?_
            refine j_iload_5 (n' := 179) F dX0_chooseFirsts_177 rfl ?_
            refine j_aald (n' := 180) F kap_38 (by decide) (by omega) dX0_chooseFirsts_179 rfl ?_
            refine j_iload_9 (n' := 182) F dX0_chooseFirsts_180 rfl ?_
            refine j_iload_11 (n' := 184) F dX0_chooseFirsts_182 rfl ?_
            refine j_if_eq (t := 192) (n' := 187) F (by omega) dX0_chooseFirsts_184 (by decide) rfl (fun c184_3 => ?_) (fun c184_3 => ?_)
            · refine j_aload_0 (n' := 193) F dX0_chooseFirsts_192 rfl ?_
              refine j_getI (n' := 196) F 3 rfl fl_X0_23 kap_37 rfl dX0_chooseFirsts_193 rfl ?_
              refine j_iast (n' := 197) F (kap_we (by omega)) (by decide) (by omega) dX0_chooseFirsts_196 rfl (fun φ5 e5 => ?_)
              refine j_iinc_9 (n' := 200) F (by decide) jc_i dX0_chooseFirsts_197 rfl ?_
              refine j_goto (t := 23) F dX0_chooseFirsts_200 (by decide) ?_
              refine j_weak (by exact ⟨rfl, rfl, rfl, rfl, rfl, rfl, rfl, rfl, rfl, rfl, trivial⟩) (ih (la + 1) φ5 (by omega) (by omega) (fun c q1 q2 => ?_) ?_)
              · by_cases q : c = la
                · subst q
                  rw [hst, e5, e3]
                  first | (rw [if_pos (by omega)]; simp [zU]; done) | (rw [if_neg (by omega)]; simp [zU]; done) | (rw [if_pos (by omega)]; simp [zU]; omega) | (rw [if_neg (by omega)]; simp [zU]; omega)
                · rw [e5, e3, zU_ne (by omega), zU_ne (by omega), zU_ne (by omega), zU_ne (by omega)]
                  exact j3 c q1 (by omega)
              · rw [e5, e3]
                exact (j4.put (by omega)).put (by omega)
            · refine j_iload_7 (n' := 189) F dX0_chooseFirsts_187 rfl ?_
              refine j_goto (t := 196) F dX0_chooseFirsts_189 (by decide) ?_
              refine j_iast (n' := 197) F (kap_we (by omega)) (by decide) (by omega) dX0_chooseFirsts_196 rfl (fun φ6 e6 => ?_)
              refine j_iinc_9 (n' := 200) F (by decide) jc_i dX0_chooseFirsts_197 rfl ?_
              refine j_goto (t := 23) F dX0_chooseFirsts_200 (by decide) ?_
              refine j_weak (by exact ⟨rfl, rfl, rfl, rfl, rfl, rfl, rfl, rfl, rfl, rfl, trivial⟩) (ih (la + 1) φ6 (by omega) (by omega) (fun c q1 q2 => ?_) ?_)
              · by_cases q : c = la
                · subst q
                  rw [hst, e6, e3]
                  first | (rw [if_pos (by omega)]; simp [zU]; done) | (rw [if_neg (by omega)]; simp [zU]; done) | (rw [if_pos (by omega)]; simp [zU]; omega) | (rw [if_neg (by omega)]; simp [zU]; omega)
                · rw [e6, e3, zU_ne (by omega), zU_ne (by omega), zU_ne (by omega), zU_ne (by omega)]
                  exact j3 c q1 (by omega)
              · rw [e6, e3]
                exact (j4.put (by omega)).put (by omega)
          · refine j_iload_6 (n' := 165) F dX0_chooseFirsts_163 rfl ?_
            refine j_goto (t := 172) F dX0_chooseFirsts_165 (by decide) ?_
            refine j_iast (n' := 173) F (kap_fi (by omega)) (by decide) (by omega) dX0_chooseFirsts_172 rfl (fun φ7 e7 => ?_)
            refine j_aload_0 (n' := 174) F dX0_chooseFirsts_173 rfl ?_
            refine j_getR (n' := 177) F fl_X0_11 kap_37 rfl dX0_chooseFirsts_174 rfl ?_
            refine j_iload_5 (n' := 179) F dX0_chooseFirsts_177 rfl ?_
            refine j_aald (n' := 180) F kap_38 (by decide) (by omega) dX0_chooseFirsts_179 rfl ?_
            refine j_iload_9 (n' := 182) F dX0_chooseFirsts_180 rfl ?_
            refine j_iload_11 (n' := 184) F dX0_chooseFirsts_182 rfl ?_
            refine j_if_eq (t := 192) (n' := 187) F (by omega) dX0_chooseFirsts_184 (by decide) rfl (fun c184_7 => ?_) (fun c184_7 => ?_)
            · refine j_aload_0 (n' := 193) F dX0_chooseFirsts_192 rfl ?_
              refine j_getI (n' := 196) F 3 rfl fl_X0_23 kap_37 rfl dX0_chooseFirsts_193 rfl ?_
              refine j_iast (n' := 197) F (kap_we (by omega)) (by decide) (by omega) dX0_chooseFirsts_196 rfl (fun φ9 e9 => ?_)
              refine j_iinc_9 (n' := 200) F (by decide) jc_i dX0_chooseFirsts_197 rfl ?_
              refine j_goto (t := 23) F dX0_chooseFirsts_200 (by decide) ?_
              refine j_weak (by exact ⟨rfl, rfl, rfl, rfl, rfl, rfl, rfl, rfl, rfl, rfl, trivial⟩) (ih (la + 1) φ9 (by omega) (by omega) (fun c q1 q2 => ?_) ?_)
              · by_cases q : c = la
                · subst q
                  rw [hst, e9, e7]
                  first | (rw [if_pos (by omega)]; simp [zU]; done) | (rw [if_neg (by omega)]; simp [zU]; done) | (rw [if_pos (by omega)]; simp [zU]; omega) | (rw [if_neg (by omega)]; simp [zU]; omega)
                · rw [e9, e7, zU_ne (by omega), zU_ne (by omega), zU_ne (by omega), zU_ne (by omega)]
                  exact j3 c q1 (by omega)
              · rw [e9, e7]
                exact (j4.put (by omega)).put (by omega)
            · refine j_iload_7 (n' := 189) F dX0_chooseFirsts_187 rfl ?_
              refine j_goto (t := 196) F dX0_chooseFirsts_189 (by decide) ?_
              refine j_iast (n' := 197) F (kap_we (by omega)) (by decide) (by omega) dX0_chooseFirsts_196 rfl (fun φ10 e10 => ?_)
              refine j_iinc_9 (n' := 200) F (by decide) jc_i dX0_chooseFirsts_197 rfl ?_
              refine j_goto (t := 23) F dX0_chooseFirsts_200 (by decide) ?_
              refine j_weak (by exact ⟨rfl, rfl, rfl, rfl, rfl, rfl, rfl, rfl, rfl, rfl, trivial⟩) (ih (la + 1) φ10 (by omega) (by omega) (fun c q1 q2 => ?_) ?_)
              · by_cases q : c = la
                · subst q
                  rw [hst, e10, e7]
                  first | (rw [if_pos (by omega)]; simp [zU]; done) | (rw [if_neg (by omega)]; simp [zU]; done) | (rw [if_pos (by omega)]; simp [zU]; omega) | (rw [if_neg (by omega)]; simp [zU]; omega)
                · rw [e10, e7, zU_ne (by omega), zU_ne (by omega), zU_ne (by omega), zU_ne (by omega)]
                  exact j3 c q1 (by omega)
              · rw [e10, e7]
                exact (j4.put (by omega)).put (by omega)
        · refine j_iload_7 (n' := 135) F dX0_chooseFirsts_133 rfl ?_
          refine j_aload_0 (n' := 136) F dX0_chooseFirsts_135 rfl ?_
          refine j_getI (n' := 139) F 3 rfl fl_X0_23 kap_37 rfl dX0_chooseFirsts_136 rfl ?_
          refine j_icmp_ge (t := 146) (n' := 142) F (by omega) (by omega) dX0_chooseFirsts_139 (by decide) rfl (fun c139_10 => ?_) (fun c139_10 => ?_)
          · refine j_iconst (n' := 147) F dX0_chooseFirsts_146 rfl ?_
            refine j_istore_11 (n' := 149) F (by decide) jc_n dX0_chooseFirsts_147 rfl ?_
            refine j_aload_0 (n' := 150) F dX0_chooseFirsts_149 rfl ?_
            refine j_getR (n' := 153) F fl_X0_16 kap_37 rfl dX0_chooseFirsts_150 rfl ?_
            refine j_iload_5 (n' := 155) F dX0_chooseFirsts_153 rfl ?_
            refine j_aald (n' := 156) F kap_64 (by decide) (by omega) dX0_chooseFirsts_155 rfl ?_
            refine j_iload_9 (n' := 158) F dX0_chooseFirsts_156 rfl ?_
            refine j_iload_11 (n' := 160) F dX0_chooseFirsts_158 rfl ?_
            refine j_if_eq (t := 168) (n' := 163) F (by omega) dX0_chooseFirsts_160 (by decide) rfl (fun c160_11 => ?_) (fun c160_11 => ?_)
            · refine j_aload_0 (n' := 169) F dX0_chooseFirsts_168 rfl ?_
              refine j_getI (n' := 172) F 2 rfl fl_X0_19 kap_37 rfl dX0_chooseFirsts_169 rfl ?_
              refine j_iast (n' := 173) F (kap_fi (by omega)) (by decide) (by omega) dX0_chooseFirsts_172 rfl (fun φ13 e13 => ?_)
              refine j_aload_0 (n' := 174) F dX0_chooseFirsts_173 rfl ?_
              refine j_getR (n' := 177) F fl_X0_11 kap_37 rfl dX0_chooseFirsts_174 rfl ?_
              refine j_iload_5 (n' := 179) F dX0_chooseFirsts_177 rfl ?_
              refine j_aald (n' := 180) F kap_38 (by decide) (by omega) dX0_chooseFirsts_179 rfl ?_
              refine j_iload_9 (n' := 182) F dX0_chooseFirsts_180 rfl ?_
              refine j_iload_11 (n' := 184) F dX0_chooseFirsts_182 rfl ?_
              refine j_if_eq (t := 192) (n' := 187) F (by omega) dX0_chooseFirsts_184 (by decide) rfl (fun c184_13 => ?_) (fun c184_13 => ?_)
              · refine j_aload_0 (n' := 193) F dX0_chooseFirsts_192 rfl ?_
                refine j_getI (n' := 196) F 3 rfl fl_X0_23 kap_37 rfl dX0_chooseFirsts_193 rfl ?_
                refine j_iast (n' := 197) F (kap_we (by omega)) (by decide) (by omega) dX0_chooseFirsts_196 rfl (fun φ15 e15 => ?_)
                refine j_iinc_9 (n' := 200) F (by decide) jc_i dX0_chooseFirsts_197 rfl ?_
                refine j_goto (t := 23) F dX0_chooseFirsts_200 (by decide) ?_
                refine j_weak (by exact ⟨rfl, rfl, rfl, rfl, rfl, rfl, rfl, rfl, rfl, rfl, trivial⟩) (ih (la + 1) φ15 (by omega) (by omega) (fun c q1 q2 => ?_) ?_)
                · by_cases q : c = la
                  · subst q
                    rw [hst, e15, e13]
                    first | (rw [if_pos (by omega)]; simp [zU]; done) | (rw [if_neg (by omega)]; simp [zU]; done) | (rw [if_pos (by omega)]; simp [zU]; omega) | (rw [if_neg (by omega)]; simp [zU]; omega)
                  · rw [e15, e13, zU_ne (by omega), zU_ne (by omega), zU_ne (by omega), zU_ne (by omega)]
                    exact j3 c q1 (by omega)
                · rw [e15, e13]
                  exact (j4.put (by omega)).put (by omega)
              · refine j_iload_7 (n' := 189) F dX0_chooseFirsts_187 rfl ?_
                refine j_goto (t := 196) F dX0_chooseFirsts_189 (by decide) ?_
                refine j_iast (n' := 197) F (kap_we (by omega)) (by decide) (by omega) dX0_chooseFirsts_196 rfl (fun φ16 e16 => ?_)
                refine j_iinc_9 (n' := 200) F (by decide) jc_i dX0_chooseFirsts_197 rfl ?_
                refine j_goto (t := 23) F dX0_chooseFirsts_200 (by decide) ?_
                refine j_weak (by exact ⟨rfl, rfl, rfl, rfl, rfl, rfl, rfl, rfl, rfl, rfl, trivial⟩) (ih (la + 1) φ16 (by omega) (by omega) (fun c q1 q2 => ?_) ?_)
                · by_cases q : c = la
                  · subst q
                    rw [hst, e16, e13]
                    first | (rw [if_pos (by omega)]; simp [zU]; done) | (rw [if_neg (by omega)]; simp [zU]; done) | (rw [if_pos (by omega)]; simp [zU]; omega) | (rw [if_neg (by omega)]; simp [zU]; omega)
                  · rw [e16, e13, zU_ne (by omega), zU_ne (by omega), zU_ne (by omega), zU_ne (by omega)]
                    exact j3 c q1 (by omega)
                · rw [e16, e13]
                  exact (j4.put (by omega)).put (by omega)
            · refine j_iload_6 (n' := 165) F dX0_chooseFirsts_163 rfl ?_
              refine j_goto (t := 172) F dX0_chooseFirsts_165 (by decide) ?_
              refine j_iast (n' := 173) F (kap_fi (by omega)) (by decide) (by omega) dX0_chooseFirsts_172 rfl (fun φ17 e17 => ?_)
              refine j_aload_0 (n' := 174) F dX0_chooseFirsts_173 rfl ?_
              refine j_getR (n' := 177) F fl_X0_11 kap_37 rfl dX0_chooseFirsts_174 rfl ?_
              refine j_iload_5 (n' := 179) F dX0_chooseFirsts_177 rfl ?_
              refine j_aald (n' := 180) F kap_38 (by decide) (by omega) dX0_chooseFirsts_179 rfl ?_
              refine j_iload_9 (n' := 182) F dX0_chooseFirsts_180 rfl ?_
              refine j_iload_11 (n' := 184) F dX0_chooseFirsts_182 rfl ?_
              refine j_if_eq (t := 192) (n' := 187) F (by omega) dX0_chooseFirsts_184 (by decide) rfl (fun c184_17 => ?_) (fun c184_17 => ?_)
              · refine j_aload_0 (n' := 193) F dX0_chooseFirsts_192 rfl ?_
                refine j_getI (n' := 196) F 3 rfl fl_X0_23 kap_37 rfl dX0_chooseFirsts_193 rfl ?_
                refine j_iast (n' := 197) F (kap_we (by omega)) (by decide) (by omega) dX0_chooseFirsts_196 rfl (fun φ19 e19 => ?_)
                refine j_iinc_9 (n' := 200) F (by decide) jc_i dX0_chooseFirsts_197 rfl ?_
                refine j_goto (t := 23) F dX0_chooseFirsts_200 (by decide) ?_
                refine j_weak (by exact ⟨rfl, rfl, rfl, rfl, rfl, rfl, rfl, rfl, rfl, rfl, trivial⟩) (ih (la + 1) φ19 (by omega) (by omega) (fun c q1 q2 => ?_) ?_)
                · by_cases q : c = la
                  · subst q
                    rw [hst, e19, e17]
                    first | (rw [if_pos (by omega)]; simp [zU]; done) | (rw [if_neg (by omega)]; simp [zU]; done) | (rw [if_pos (by omega)]; simp [zU]; omega) | (rw [if_neg (by omega)]; simp [zU]; omega)
                  · rw [e19, e17, zU_ne (by omega), zU_ne (by omega), zU_ne (by omega), zU_ne (by omega)]
                    exact j3 c q1 (by omega)
                · rw [e19, e17]
                  exact (j4.put (by omega)).put (by omega)
              · refine j_iload_7 (n' := 189) F dX0_chooseFirsts_187 rfl ?_
                refine j_goto (t := 196) F dX0_chooseFirsts_189 (by decide) ?_
                refine j_iast (n' := 197) F (kap_we (by omega)) (by decide) (by omega) dX0_chooseFirsts_196 rfl (fun φ20 e20 => ?_)
                refine j_iinc_9 (n' := 200) F (by decide) jc_i dX0_chooseFirsts_197 rfl ?_
                refine j_goto (t := 23) F dX0_chooseFirsts_200 (by decide) ?_
                refine j_weak (by exact ⟨rfl, rfl, rfl, rfl, rfl, rfl, rfl, rfl, rfl, rfl, trivial⟩) (ih (la + 1) φ20 (by omega) (by omega) (fun c q1 q2 => ?_) ?_)
                · by_cases q : c = la
                  · subst q
                    rw [hst, e20, e17]
                    first | (rw [if_pos (by omega)]; simp [zU]; done) | (rw [if_neg (by omega)]; simp [zU]; done) | (rw [if_pos (by omega)]; simp [zU]; omega) | (rw [if_neg (by omega)]; simp [zU]; omega)
                  · rw [e20, e17, zU_ne (by omega), zU_ne (by omega), zU_ne (by omega), zU_ne (by omega)]
                    exact j3 c q1 (by omega)
                · rw [e20, e17]
                  exact (j4.put (by omega)).put (by omega)
          · refine j_iconst (n' := 143) F dX0_chooseFirsts_142 rfl ?_
            refine j_goto (t := 147) F dX0_chooseFirsts_143 (by decide) ?_
            refine j_istore_11 (n' := 149) F (by decide) jc_n dX0_chooseFirsts_147 rfl ?_
            refine j_aload_0 (n' := 150) F dX0_chooseFirsts_149 rfl ?_
            refine j_getR (n' := 153) F fl_X0_16 kap_37 rfl dX0_chooseFirsts_150 rfl ?_
            refine j_iload_5 (n' := 155) F dX0_chooseFirsts_153 rfl ?_
            refine j_aald (n' := 156) F kap_64 (by decide) (by omega) dX0_chooseFirsts_155 rfl ?_
            refine j_iload_9 (n' := 158) F dX0_chooseFirsts_156 rfl ?_
            refine j_iload_11 (n' := 160) F dX0_chooseFirsts_158 rfl ?_
            refine j_if_eq (t := 168) (n' := 163) F (by omega) dX0_chooseFirsts_160 (by decide) rfl (fun c160_20 => ?_) (fun c160_20 => ?_)
            · refine j_aload_0 (n' := 169) F dX0_chooseFirsts_168 rfl ?_
              refine j_getI (n' := 172) F 2 rfl fl_X0_19 kap_37 rfl dX0_chooseFirsts_169 rfl ?_
              refine j_iast (n' := 173) F (kap_fi (by omega)) (by decide) (by omega) dX0_chooseFirsts_172 rfl (fun φ22 e22 => ?_)
              refine j_aload_0 (n' := 174) F dX0_chooseFirsts_173 rfl ?_
              refine j_getR (n' := 177) F fl_X0_11 kap_37 rfl dX0_chooseFirsts_174 rfl ?_
              refine j_iload_5 (n' := 179) F dX0_chooseFirsts_177 rfl ?_
              refine j_aald (n' := 180) F kap_38 (by decide) (by omega) dX0_chooseFirsts_179 rfl ?_
              refine j_iload_9 (n' := 182) F dX0_chooseFirsts_180 rfl ?_
              refine j_iload_11 (n' := 184) F dX0_chooseFirsts_182 rfl ?_
              refine j_if_eq (t := 192) (n' := 187) F (by omega) dX0_chooseFirsts_184 (by decide) rfl (fun c184_22 => ?_) (fun c184_22 => ?_)
              · refine j_aload_0 (n' := 193) F dX0_chooseFirsts_192 rfl ?_
                refine j_getI (n' := 196) F 3 rfl fl_X0_23 kap_37 rfl dX0_chooseFirsts_193 rfl ?_
                refine j_iast (n' := 197) F (kap_we (by omega)) (by decide) (by omega) dX0_chooseFirsts_196 rfl (fun φ24 e24 => ?_)
                refine j_iinc_9 (n' := 200) F (by decide) jc_i dX0_chooseFirsts_197 rfl ?_
                refine j_goto (t := 23) F dX0_chooseFirsts_200 (by decide) ?_
                refine j_weak (by exact ⟨rfl, rfl, rfl, rfl, rfl, rfl, rfl, rfl, rfl, rfl, trivial⟩) (ih (la + 1) φ24 (by omega) (by omega) (fun c q1 q2 => ?_) ?_)
                · by_cases q : c = la
                  · subst q
                    rw [hst, e24, e22]
                    first | (rw [if_pos (by omega)]; simp [zU]; done) | (rw [if_neg (by omega)]; simp [zU]; done) | (rw [if_pos (by omega)]; simp [zU]; omega) | (rw [if_neg (by omega)]; simp [zU]; omega)
                  · rw [e24, e22, zU_ne (by omega), zU_ne (by omega), zU_ne (by omega), zU_ne (by omega)]
                    exact j3 c q1 (by omega)
                · rw [e24, e22]
                  exact (j4.put (by omega)).put (by omega)
              · refine j_iload_7 (n' := 189) F dX0_chooseFirsts_187 rfl ?_
                refine j_goto (t := 196) F dX0_chooseFirsts_189 (by decide) ?_
                refine j_iast (n' := 197) F (kap_we (by omega)) (by decide) (by omega) dX0_chooseFirsts_196 rfl (fun φ25 e25 => ?_)
                refine j_iinc_9 (n' := 200) F (by decide) jc_i dX0_chooseFirsts_197 rfl ?_
                refine j_goto (t := 23) F dX0_chooseFirsts_200 (by decide) ?_
                refine j_weak (by exact ⟨rfl, rfl, rfl, rfl, rfl, rfl, rfl, rfl, rfl, rfl, trivial⟩) (ih (la + 1) φ25 (by omega) (by omega) (fun c q1 q2 => ?_) ?_)
                · by_cases q : c = la
                  · subst q
                    rw [hst, e25, e22]
                    first | (rw [if_pos (by omega)]; simp [zU]; done) | (rw [if_neg (by omega)]; simp [zU]; done) | (rw [if_pos (by omega)]; simp [zU]; omega) | (rw [if_neg (by omega)]; simp [zU]; omega)
                  · rw [e25, e22, zU_ne (by omega), zU_ne (by omega), zU_ne (by omega), zU_ne (by omega)]
                    exact j3 c q1 (by omega)
                · rw [e25, e22]
                  exact (j4.put (by omega)).put (by omega)
            · refine j_iload_6 (n' := 165) F dX0_chooseFirsts_163 rfl ?_
              refine j_goto (t := 172) F dX0_chooseFirsts_165 (by decide) ?_
              refine j_iast (n' := 173) F (kap_fi (by omega)) (by decide) (by omega) dX0_chooseFirsts_172 rfl (fun φ26 e26 => ?_)
              refine j_aload_0 (n' := 174) F dX0_chooseFirsts_173 rfl ?_
              refine j_getR (n' := 177) F fl_X0_11 kap_37 rfl dX0_chooseFirsts_174 rfl ?_
              refine j_iload_5 (n' := 179) F dX0_chooseFirsts_177 rfl ?_
              refine j_aald (n' := 180) F kap_38 (by decide) (by omega) dX0_chooseFirsts_179 rfl ?_
              refine j_iload_9 (n' := 182) F dX0_chooseFirsts_180 rfl ?_
              refine j_iload_11 (n' := 184) F dX0_chooseFirsts_182 rfl ?_
              refine j_if_eq (t := 192) (n' := 187) F (by omega) dX0_chooseFirsts_184 (by decide) rfl (fun c184_26 => ?_) (fun c184_26 => ?_)
              · refine j_aload_0 (n' := 193) F dX0_chooseFirsts_192 rfl ?_
                refine j_getI (n' := 196) F 3 rfl fl_X0_23 kap_37 rfl dX0_chooseFirsts_193 rfl ?_
                refine j_iast (n' := 197) F (kap_we (by omega)) (by decide) (by omega) dX0_chooseFirsts_196 rfl (fun φ28 e28 => ?_)
                refine j_iinc_9 (n' := 200) F (by decide) jc_i dX0_chooseFirsts_197 rfl ?_
                refine j_goto (t := 23) F dX0_chooseFirsts_200 (by decide) ?_
                refine j_weak (by exact ⟨rfl, rfl, rfl, rfl, rfl, rfl, rfl, rfl, rfl, rfl, trivial⟩) (ih (la + 1) φ28 (by omega) (by omega) (fun c q1 q2 => ?_) ?_)
                · by_cases q : c = la
                  · subst q
                    rw [hst, e28, e26]
                    first | (rw [if_pos (by omega)]; simp [zU]; done) | (rw [if_neg (by omega)]; simp [zU]; done) | (rw [if_pos (by omega)]; simp [zU]; omega) | (rw [if_neg (by omega)]; simp [zU]; omega)
                  · rw [e28, e26, zU_ne (by omega), zU_ne (by omega), zU_ne (by omega), zU_ne (by omega)]
                    exact j3 c q1 (by omega)
                · rw [e28, e26]
                  exact (j4.put (by omega)).put (by omega)
              · refine j_iload_7 (n' := 189) F dX0_chooseFirsts_187 rfl ?_
                refine j_goto (t := 196) F dX0_chooseFirsts_189 (by decide) ?_
                refine j_iast (n' := 197) F (kap_we (by omega)) (by decide) (by omega) dX0_chooseFirsts_196 rfl (fun φ29 e29 => ?_)
                refine j_iinc_9 (n' := 200) F (by decide) jc_i dX0_chooseFirsts_197 rfl ?_
                refine j_goto (t := 23) F dX0_chooseFirsts_200 (by decide) ?_
                refine j_weak (by exact ⟨rfl, rfl, rfl, rfl, rfl, rfl, rfl, rfl, rfl, rfl, trivial⟩) (ih (la + 1) φ29 (by omega) (by omega) (fun c q1 q2 => ?_) ?_)
                · by_cases q : c = la
                  · subst q
                    rw [hst, e29, e26]
                    first | (rw [if_pos (by omega)]; simp [zU]; done) | (rw [if_neg (by omega)]; simp [zU]; done) | (rw [if_pos (by omega)]; simp [zU]; omega) | (rw [if_neg (by omega)]; simp [zU]; omega)
                  · rw [e29, e26, zU_ne (by omega), zU_ne (by omega), zU_ne (by omega), zU_ne (by omega)]
                    exact j3 c q1 (by omega)
                · rw [e29, e26]
                  exact (j4.put (by omega)).put (by omega)
      have inner : ∀ (j : Nat) (n : Int) (χ : jPhi), n + j = max 2 (agM (lik (φ 8) en 8 pl) la + 1) → 2 ≤ n → bOk (bst χ) → lpI (agI (φ v) T pl la) n (agM (lik (φ 8) en 8 pl) la + 1) (bst χ) = agF (φ v) T (agM (lik (φ 8) en 8 pl) la) pl la (plB (φ v) T (φ 8) pl la) → (∀ c, 0 ≤ c → c < la → χ (39 + pl) c = (stS (φ v) T (φ 8) (lik (φ 8) en 8 pl) pl c fr).1 ∧ χ (65 + pl) c = (stS (φ v) T (φ 8) (lik (φ 8) en 8 pl) pl c fr).2) → frC (fun a => a = 37 ∨ a = 39 + pl ∨ a = 65 + pl) φ χ → jJ X G B0 κF 113 0 0 Q 13 χ 82 [some (rf B0 37), some (rf B0 7), some (rf B0 o), some (iv fr), some (iv en), some (iv pl), some (iv (φ 37 2)), some (iv (φ 37 3)), some (iv (φ 8 pl)), some (iv la), some (iv (agM (lik (φ 8) en 8 pl) la)), some (iv n), none] [] := by
        intro j
        induction j with
        | zero =>
          intro n χ g1 g2 g3 g4 g5 g6
          rw [lpI_end (by omega)] at g4
          refine j_iload_11 (n' := 84) F dX0_chooseFirsts_82 rfl ?_
          refine j_iload_10 (n' := 86) F dX0_chooseFirsts_84 rfl ?_
          refine j_icmp_gt (t := 127) (n' := 89) F (by omega) (by omega) dX0_chooseFirsts_86 (by decide) rfl (fun c86_0 => ?_) (fun c86_0 => ?_)
          · exact j_weak (by exact ⟨rfl, rfl, rfl, rfl, rfl, rfl, rfl, rfl, rfl, rfl, trivial⟩) (join χ g4 g3 g5 g6)
          · omega
        | succ j ihj =>
          intro n χ g1 g2 g3 g4 g5 g6
          have uv : χ v = φ v := funext fun b => g6 v b (by omega)
          have hTb := (hT (pl + n) la (by omega) (by omega) (by omega) (by omega)).2
          have hT1 : χ (39 + (pl + n)) la = T (pl + n) la := hTr _ _ (by omega) (by omega) (by omega) (by omega) χ g6
          have hpb := tkPrice_bd hP (100 + n)
          obtain ⟨tk1, tk2, tk3⟩ := tk_again (j := n) (by omega) la
          rw [lpI_step (by omega)] at g4
          refine j_iload_11 (n' := 84) F dX0_chooseFirsts_82 rfl ?_
          refine j_iload_10 (n' := 86) F dX0_chooseFirsts_84 rfl ?_
          refine j_icmp_gt (t := 127) (n' := 89) F (by omega) (by omega) dX0_chooseFirsts_86 (by decide) rfl (fun c86_0 => ?_) (fun c86_0 => ?_)
          · omega
          · refine j_iload_11 (n' := 91) F dX0_chooseFirsts_89 rfl ?_
            refine j_cS1i (n' := 94) F kl_X0_75 (c_Tok_again) (by decide) (Nat.le_of_ble_eq_true rfl) dX0_chooseFirsts_91 rfl (fun z2 φ2 h2 => ?_)
            obtain ⟨rfl, rfl⟩ := h2
            refine j_istore_12 (n' := 96) F (by decide) jc_i dX0_chooseFirsts_94 rfl ?_
            refine j_aload_0 (n' := 97) F dX0_chooseFirsts_96 rfl ?_
            refine j_iload_12 (n' := 99) F dX0_chooseFirsts_97 rfl ?_
            refine j_aload_2 (n' := 100) F dX0_chooseFirsts_99 rfl ?_
            refine j_iload_12 (n' := 102) F dX0_chooseFirsts_100 rfl ?_
            refine j_cV1i (n' := 105) F kl_X0_62 (c_Pri_ofToken hk hv tk1 (by rw [uv]; exact hP)) hk rfl (by decide) (Nat.le_of_ble_eq_true rfl) dX0_chooseFirsts_102 rfl (fun z3 φ3 h3 => ?_)
            obtain ⟨rfl, rfl⟩ := h3
            rw [uv]
            refine j_aload_0 (n' := 106) F dX0_chooseFirsts_105 rfl ?_
            refine j_getR (n' := 109) F fl_X0_11 kap_37 rfl dX0_chooseFirsts_106 rfl ?_
            refine j_iload_5 (n' := 111) F dX0_chooseFirsts_109 rfl ?_
            refine j_iload_11 (n' := 113) F dX0_chooseFirsts_111 rfl ?_
            refine j_iadd (n' := 114) F dX0_chooseFirsts_113 rfl ?_
            refine j_aald (n' := 115) F kap_38 (by decide) (by omega) dX0_chooseFirsts_114 rfl ?_
            refine j_iload_9 (n' := 117) F dX0_chooseFirsts_115 rfl ?_
            refine j_iald (n' := 118) F (kap_we (by omega)) (by decide) (by omega) dX0_chooseFirsts_117 rfl ?_
            rw [hT1]
            refine j_cV3v (n' := 121) F kl_X0_68 (c_Cho_consider (by omega) (by omega) g3) kap_37 rfl (by decide) (Nat.le_of_ble_eq_true rfl) dX0_chooseFirsts_118 rfl (fun z4 φ4 h4 => ?_)
            obtain ⟨hc4, hf4⟩ := h4
            refine j_iinc_11 (n' := 124) F (by decide) jc_i dX0_chooseFirsts_121 rfl ?_
            refine j_goto (t := 82) F dX0_chooseFirsts_124 (by decide) ?_
            refine j_weak (by exact ⟨rfl, rfl, rfl, rfl, rfl, rfl, rfl, rfl, rfl, rfl, rfl, rfl, trivial⟩) (ihj (n + 1) φ4 (by omega) (by omega) (by rw [hc4]; exact bOk_cnd g3 (by omega) (by unfold tkOk at tk1; omega)) (by rw [hc4]; exact g4) (fun c q1 q2 => ?_) (g6.tr (hf4.wk (fun _ h => Or.inl h))))
            rw [hf4 (39 + pl) c (by omega), hf4 (65 + pl) c (by omega)]
            exact g5 c q1 q2
      have uv : ∀ χ : jPhi, frC (fun a => a = 37 ∨ a = 39 + pl ∨ a = 65 + pl) φ χ → χ v = φ v := fun χ hχ => funext fun b => hχ v b (by omega)
      have hpb := tkPrice_bd hP (φ 8 pl)
      have hTb := (hT (pl + 1) la (by omega) (by omega) (by omega) (by omega)).2
      refine j_iload_9 (n' := 25) F dX0_chooseFirsts_23 rfl ?_
      refine j_iload_5 (n' := 27) F dX0_chooseFirsts_25 rfl ?_
      refine j_iload_3 (n' := 28) F dX0_chooseFirsts_27 rfl ?_
      refine j_isub (n' := 29) F dX0_chooseFirsts_28 rfl ?_
      refine j_icmp_gt (t := 203) (n' := 32) F (by omega) (by omega) dX0_chooseFirsts_29 (by decide) rfl (fun c29_0 => ?_) (fun c29_0 => ?_)
      · omega
      · refine j_aload_0 (n' := 33) F dX0_chooseFirsts_32 rfl ?_
        refine j_iconst (n' := 34) F dX0_chooseFirsts_33 rfl ?_
        refine j_putI (n' := 37) F 2 rfl fp_X0_19 kap_37 rfl rfl dX0_chooseFirsts_34 rfl (fun φ2 e2 => ?_)
        have hfa : frC (fun a => a = 37 ∨ a = 39 + pl ∨ a = 65 + pl) φ φ2 := by rw [e2]; exact h4.put (Or.inl rfl)
        have uva := uv φ2 hfa
        have hT1 : φ2 (39 + (pl + 1)) la = T (pl + 1) la := hTr _ _ (by omega) (by omega) (by omega) (by omega) φ2 hfa
        refine j_aload_0 (n' := 38) F dX0_chooseFirsts_37 rfl ?_
        refine j_iload_8 (n' := 40) F dX0_chooseFirsts_38 rfl ?_
        refine j_aload_2 (n' := 41) F dX0_chooseFirsts_40 rfl ?_
        refine j_iload_8 (n' := 43) F dX0_chooseFirsts_41 rfl ?_
        refine j_cV1i (n' := 46) F kl_X0_62 (c_Pri_ofToken hk hv (by unfold tkOk; omega) (by rw [uva]; exact hP)) hk rfl (by decide) (Nat.le_of_ble_eq_true rfl) dX0_chooseFirsts_43 rfl (fun z3 φ3 h3 => ?_)
        obtain ⟨rfl, rfl⟩ := h3
        rw [uva]
        refine j_aload_0 (n' := 47) F dX0_chooseFirsts_46 rfl ?_
        refine j_getR (n' := 50) F fl_X0_11 kap_37 rfl dX0_chooseFirsts_47 rfl ?_
        refine j_iload_5 (n' := 52) F dX0_chooseFirsts_50 rfl ?_
        refine j_iconst (n' := 53) F dX0_chooseFirsts_52 rfl ?_
        refine j_iadd (n' := 54) F dX0_chooseFirsts_53 rfl ?_
        refine j_aald (n' := 55) F kap_38 (by decide) (by omega) dX0_chooseFirsts_54 rfl ?_
        refine j_iload_9 (n' := 57) F dX0_chooseFirsts_55 rfl ?_
        refine j_iald (n' := 58) F (kap_we (by omega)) (by decide) (by omega) dX0_chooseFirsts_57 rfl ?_
        rw [hT1]
        refine j_cV3v (n' := 61) F kl_X0_68 (c_Cho_consider (by omega) (by omega) (by rw [e2]; unfold bst bOk; simp [zU])) kap_37 rfl (by decide) (Nat.le_of_ble_eq_true rfl) dX0_chooseFirsts_58 rfl (fun z4 φ4 h4 => ?_)
        obtain ⟨hc4, hf4⟩ := h4
        refine j_aload_1 (n' := 62) F dX0_chooseFirsts_61 rfl ?_
        refine j_iload_5 (n' := 64) F dX0_chooseFirsts_62 rfl ?_
        refine j_iload_9 (n' := 66) F dX0_chooseFirsts_64 rfl ?_
        refine j_cV2i (n' := 69) F kl_X0_48 (c_Txt_likeness (by rw [(hfa.tr (hf4.wk (fun _ h => Or.inl h)) : frC (fun a => a = 37 ∨ a = 39 + pl ∨ a = 65 + pl) φ φ4) 7 2 (by omega)]; exact hs) (by omega) (by omega)) kap_7 rfl (by decide) (Nat.le_of_ble_eq_true rfl) dX0_chooseFirsts_66 rfl (fun z5 φ5 h5 => ?_)
        obtain ⟨rfl, rfl⟩ := h5
        refine j_iload_4 (n' := 71) F dX0_chooseFirsts_69 rfl ?_
        refine j_iload_5 (n' := 73) F dX0_chooseFirsts_71 rfl ?_
        refine j_isub (n' := 74) F dX0_chooseFirsts_73 rfl ?_
        refine j_min (n' := 77) F q_422 (by decide) (Nat.le_of_ble_eq_true rfl) (by exact hlr _ (hfa.tr (hf4.wk (fun _ h => Or.inl h)))) (by omega) dX0_chooseFirsts_74 rfl ?_
        rw [hlk φ4 (hfa.tr (hf4.wk (fun _ h => Or.inl h)))]
        refine j_istore_10 (n' := 79) F (by decide) jc_i dX0_chooseFirsts_77 rfl ?_
        refine j_iconst (n' := 80) F dX0_chooseFirsts_79 rfl ?_
        refine j_istore_11 (n' := 82) F (by decide) jc_i dX0_chooseFirsts_80 rfl ?_
        have hfr : frC (fun a => a = 37 ∨ a = 39 + pl ∨ a = 65 + pl) φ φ4 := (hfa).tr (hf4.wk (fun _ h => Or.inl h))
        exact j_weak (by exact ⟨rfl, rfl, rfl, rfl, rfl, rfl, rfl, rfl, rfl, rfl, rfl, rfl, trivial⟩) (inner (agM (lik (φ 8) en 8 pl) la + 1 - 2).toNat 2 φ4 (by omega) (by omega) (by rw [hc4]; exact bOk_cnd (by rw [e2]; unfold bst bOk; simp [zU]) (by omega) (by omega)) (by rw [hc4, e2]; unfold bst cnd; simp [zU, plB, agF]) (fun c q1 q2 => by rw [hf4 (39 + pl) c (by omega), hf4 (65 + pl) c (by omega), e2, zU_ne (by omega), zU_ne (by omega)]; exact h3 c q1 q2) hfr)
  refine j_aload_0 (n' := 1) F dX0_chooseFirsts_0 rfl ?_
  refine j_getI (n' := 4) F 2 rfl fl_X0_19 kap_37 rfl dX0_chooseFirsts_1 rfl ?_
  refine j_istore_6 (n' := 6) F (by decide) jc_i dX0_chooseFirsts_4 rfl ?_
  refine j_aload_0 (n' := 7) F dX0_chooseFirsts_6 rfl ?_
  refine j_getI (n' := 10) F 3 rfl fl_X0_23 kap_37 rfl dX0_chooseFirsts_7 rfl ?_
  refine j_istore_7 (n' := 12) F (by decide) jc_i dX0_chooseFirsts_10 rfl ?_
  refine j_aload_1 (n' := 13) F dX0_chooseFirsts_12 rfl ?_
  refine j_iload_5 (n' := 15) F dX0_chooseFirsts_13 rfl ?_
  refine j_cV1i (n' := 18) F kl_X0_72 (c_Txt_letterAt hs (by omega)) kap_7 rfl (by decide) (Nat.le_of_ble_eq_true rfl) dX0_chooseFirsts_15 rfl (fun z1 φ1 h1 => ?_)
  obtain ⟨rfl, rfl⟩ := h1
  rw [if_pos (by omega)]
  refine j_istore_8 (n' := 20) F (by decide) jc_i dX0_chooseFirsts_18 rfl ?_
  refine j_iconst (n' := 21) F dX0_chooseFirsts_20 rfl ?_
  refine j_istore_9 (n' := 23) F (by decide) jc_i dX0_chooseFirsts_21 rfl ?_
  exact outer (pl - fr + 1).toNat 0 φ (by omega) (by omega) (fun c q1 q2 => by omega) frC.rf
