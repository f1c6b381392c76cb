set_option maxRecDepth 20000 in
theorem c_Mod_way {l : Launch} {G : jG} {B0 : Nat} {φ : jPhi} {st nx c x B : Int} (hst : 0 ≤ st ∧ st < 625) (hnx : 0 ≤ nx ∧ nx < 625) (hn : 0 ≤ φ 104 nx ∧ φ 104 nx ≤ 100000 ∧ 0 ≤ φ 105 nx ∧ 1 + φ 105 nx ≤ B) (hs : 0 ≤ φ 104 st ∧ φ 104 st ≤ 268435456 ∧ 0 ≤ φ 105 st ∧ φ 105 st ≤ B) (hB : B ≤ 24) (hc : 0 ≤ c ∧ c ≤ 90) (hx : -1 ≤ φ 106 st ∧ φ 106 st < x ∧ x ≤ 2000) : jC l G B0 κF 113 yX8_way cX8_way 8 none 0 [rf B0 99, iv st, iv nx, iv c, iv x] φ mkV (fun z φ' => mst φ' st = (if 32 * c + 1 + (mst φ nx).1 < (mst φ st).1 then (32 * c + 1 + (mst φ nx).1, x) else mst φ st) ∧ (0 ≤ φ' 104 st ∧ φ' 104 st ≤ 268435456) ∧ (0 ≤ φ' 105 st ∧ φ' 105 st ≤ B) ∧ (∀ i, i ≠ st → φ' 104 i = φ 104 i ∧ φ' 105 i = φ 105 i ∧ φ' 106 i = φ 106 i) ∧ frC (fun a => a = 104 ∨ a = 105 ∨ a = 106) φ φ') := by
  refine jC_start RX8 [some (rf B0 99), some (iv st), some (iv nx), some (iv c), some (iv x), none, none, none] (by decide) rfl (Nat.le_of_ble_eq_true rfl) rfl (fun X Q F E => ?_)
  refine j_iload_3 (n' := 1) F dX8_way_0 rfl ?_
  refine j_aload_0 (n' := 2) F dX8_way_1 rfl ?_
  refine j_getR (n' := 5) F fl_X8_22 kap_99 rfl dX8_way_2 rfl ?_
  refine j_iload_2 (n' := 6) F dX8_way_5 rfl ?_
  refine j_iald (n' := 7) F kap_104 (by decide) (by omega) dX8_way_6 rfl ?_
  refine j_iadd (n' := 8) F dX8_way_7 rfl ?_
  refine j_istore_5 (n' := 10) F (by decide) jc_i dX8_way_8 rfl ?_
  refine j_iconst (n' := 11) F dX8_way_10 rfl ?_
  refine j_aload_0 (n' := 12) F dX8_way_11 rfl ?_
  refine j_getR (n' := 15) F fl_X8_25 kap_99 rfl dX8_way_12 rfl ?_
  refine j_iload_2 (n' := 16) F dX8_way_15 rfl ?_
  refine j_iald (n' := 17) F kap_105 (by decide) (by omega) dX8_way_16 rfl ?_
  refine j_iadd (n' := 18) F dX8_way_17 rfl ?_
  refine j_istore_6 (n' := 20) F (by decide) jc_i dX8_way_18 rfl ?_
  refine j_iload_5 (n' := 22) F dX8_way_20 rfl ?_
  refine j_aload_0 (n' := 23) F dX8_way_22 rfl ?_
  refine j_getR (n' := 26) F fl_X8_22 kap_99 rfl dX8_way_23 rfl ?_
  refine j_iload_1 (n' := 27) F dX8_way_26 rfl ?_
  refine j_iald (n' := 28) F kap_104 (by decide) (by omega) dX8_way_27 rfl ?_
  refine j_icmp_lt (t := 75) (n' := 31) F (by omega) (by omega) dX8_way_28 (by decide) rfl (fun c28_0 => ?_) (fun c28_0 => ?_)
  · refine j_iconst (n' := 76) F dX8_way_75 rfl ?_
    refine j_goto (t := 80) F dX8_way_76 (by decide) ?_
    refine j_istore_7 (n' := 82) F (by decide) jc_i dX8_way_80 rfl ?_
    refine j_iload_7 (n' := 84) F dX8_way_82 rfl ?_
    refine j_if_eq (t := 111) (n' := 87) F (by omega) dX8_way_84 (by decide) rfl (fun c84_1 => ?_) (fun c84_1 => ?_)
    · omega
    · refine j_aload_0 (n' := 88) F dX8_way_87 rfl ?_
      refine j_getR (n' := 91) F fl_X8_22 kap_99 rfl dX8_way_88 rfl ?_
      refine j_iload_1 (n' := 92) F dX8_way_91 rfl ?_
      refine j_iload_5 (n' := 94) F dX8_way_92 rfl ?_
      refine j_iast (n' := 95) F kap_104 (by decide) (by omega) dX8_way_94 rfl (fun φ3 e3 => ?_)
      refine j_aload_0 (n' := 96) F dX8_way_95 rfl ?_
      refine j_getR (n' := 99) F fl_X8_25 kap_99 rfl dX8_way_96 rfl ?_
      refine j_iload_1 (n' := 100) F dX8_way_99 rfl ?_
      refine j_iload_6 (n' := 102) F dX8_way_100 rfl ?_
      refine j_iast (n' := 103) F kap_105 (by decide) (by omega) dX8_way_102 rfl (fun φ4 e4 => ?_)
      refine j_aload_0 (n' := 104) F dX8_way_103 rfl ?_
      refine j_getR (n' := 107) F fl_X8_28 kap_99 rfl dX8_way_104 rfl ?_
      refine j_iload_1 (n' := 108) F dX8_way_107 rfl ?_
      refine j_iload_4 (n' := 110) F dX8_way_108 rfl ?_
      refine j_iast (n' := 111) F kap_106 (by decide) (by omega) dX8_way_110 rfl (fun φ5 e5 => ?_)
      refine j_return F E dX8_way_111 ?_
      refine ⟨?_, ?_, ?_, fun i hi => ?_, ?_⟩
      · rw [if_pos (by simp only [mst]; omega)]
        unfold mst
        rw [e5, e4, e3]
        simp [zU]
        omega
      · rw [e5, e4, e3]
        simp [zU]
        omega
      · rw [e5, e4, e3]
        simp [zU]
        omega
      · rw [e5, e4, e3]
        simp [zU, hi]
      · rw [e5, e4, e3]
        repeat (first | exact frC.rf | refine frC.put ?_ (by omega))
  · refine j_iload_5 (n' := 33) F dX8_way_31 rfl ?_
    refine j_aload_0 (n' := 34) F dX8_way_33 rfl ?_
    refine j_getR (n' := 37) F fl_X8_22 kap_99 rfl dX8_way_34 rfl ?_
    refine j_iload_1 (n' := 38) F dX8_way_37 rfl ?_
    refine j_iald (n' := 39) F kap_104 (by decide) (by omega) dX8_way_38 rfl ?_
    refine j_icmp_ne (t := 79) (n' := 42) F (by omega) (by omega) dX8_way_39 (by decide) rfl (fun c39_5 => ?_) (fun c39_5 => ?_)
    · refine j_iconst (n' := 80) F dX8_way_79 rfl ?_
      refine j_istore_7 (n' := 82) F (by decide) jc_i dX8_way_80 rfl ?_
      refine j_iload_7 (n' := 84) F dX8_way_82 rfl ?_
      refine j_if_eq (t := 111) (n' := 87) F (by omega) dX8_way_84 (by decide) rfl (fun c84_6 => ?_) (fun c84_6 => ?_)
      · exact j_return F E dX8_way_111 (⟨by rw [if_neg (by simp only [mst]; omega)], by omega, by omega, fun i hi => ⟨rfl, rfl, rfl⟩, frC.rf⟩)
      · omega
    · refine j_iload_6 (n' := 44) F dX8_way_42 rfl ?_
      refine j_aload_0 (n' := 45) F dX8_way_44 rfl ?_
      refine j_getR (n' := 48) F fl_X8_25 kap_99 rfl dX8_way_45 rfl ?_
      refine j_iload_1 (n' := 49) F dX8_way_48 rfl ?_
      refine j_iald (n' := 50) F kap_105 (by decide) (by omega) dX8_way_49 rfl ?_
      refine j_icmp_lt (t := 75) (n' := 53) F (by omega) (by omega) dX8_way_50 (by decide) rfl (fun c50_7 => ?_) (fun c50_7 => ?_)
      · refine j_iconst (n' := 76) F dX8_way_75 rfl ?_
        refine j_goto (t := 80) F dX8_way_76 (by decide) ?_
        refine j_istore_7 (n' := 82) F (by decide) jc_i dX8_way_80 rfl ?_
        refine j_iload_7 (n' := 84) F dX8_way_82 rfl ?_
        refine j_if_eq (t := 111) (n' := 87) F (by omega) dX8_way_84 (by decide) rfl (fun c84_8 => ?_) (fun c84_8 => ?_)
        · omega
        · refine j_aload_0 (n' := 88) F dX8_way_87 rfl ?_
          refine j_getR (n' := 91) F fl_X8_22 kap_99 rfl dX8_way_88 rfl ?_
          refine j_iload_1 (n' := 92) F dX8_way_91 rfl ?_
          refine j_iload_5 (n' := 94) F dX8_way_92 rfl ?_
          refine j_iast (n' := 95) F kap_104 (by decide) (by omega) dX8_way_94 rfl (fun φ10 e10 => ?_)
          refine j_aload_0 (n' := 96) F dX8_way_95 rfl ?_
          refine j_getR (n' := 99) F fl_X8_25 kap_99 rfl dX8_way_96 rfl ?_
          refine j_iload_1 (n' := 100) F dX8_way_99 rfl ?_
          refine j_iload_6 (n' := 102) F dX8_way_100 rfl ?_
          refine j_iast (n' := 103) F kap_105 (by decide) (by omega) dX8_way_102 rfl (fun φ11 e11 => ?_)
          refine j_aload_0 (n' := 104) F dX8_way_103 rfl ?_
          refine j_getR (n' := 107) F fl_X8_28 kap_99 rfl dX8_way_104 rfl ?_
          refine j_iload_1 (n' := 108) F dX8_way_107 rfl ?_
          refine j_iload_4 (n' := 110) F dX8_way_108 rfl ?_
          refine j_iast (n' := 111) F kap_106 (by decide) (by omega) dX8_way_110 rfl (fun φ12 e12 => ?_)
          refine j_return F E dX8_way_111 ?_
          refine ⟨?_, ?_, ?_, fun i hi => ?_, ?_⟩
          · rw [if_pos (by simp only [mst]; omega)]
            unfold mst
            rw [e12, e11, e10]
            simp [zU]
            omega
          · rw [e12, e11, e10]
            simp [zU]
            omega
          · rw [e12, e11, e10]
            simp [zU]
            omega
          · rw [e12, e11, e10]
            simp [zU, hi]
          · rw [e12, e11, e10]
            repeat (first | exact frC.rf | refine frC.put ?_ (by omega))
      · refine j_iload_6 (n' := 55) F dX8_way_53 rfl ?_
        refine j_aload_0 (n' := 56) F dX8_way_55 rfl ?_
        refine j_getR (n' := 59) F fl_X8_25 kap_99 rfl dX8_way_56 rfl ?_
        refine j_iload_1 (n' := 60) F dX8_way_59 rfl ?_
        refine j_iald (n' := 61) F kap_105 (by decide) (by omega) dX8_way_60 rfl ?_
        refine j_icmp_ne (t := 79) (n' := 64) F (by omega) (by omega) dX8_way_61 (by decide) rfl (fun c61_12 => ?_) (fun c61_12 => ?_)
        · refine j_iconst (n' := 80) F dX8_way_79 rfl ?_
          refine j_istore_7 (n' := 82) F (by decide) jc_i dX8_way_80 rfl ?_
          refine j_iload_7 (n' := 84) F dX8_way_82 rfl ?_
          refine j_if_eq (t := 111) (n' := 87) F (by omega) dX8_way_84 (by decide) rfl (fun c84_13 => ?_) (fun c84_13 => ?_)
          · exact j_return F E dX8_way_111 (⟨by rw [if_neg (by simp only [mst]; omega)], by omega, by omega, fun i hi => ⟨rfl, rfl, rfl⟩, frC.rf⟩)
          · omega
        · refine j_iload_4 (n' := 66) F dX8_way_64 rfl ?_
          refine j_aload_0 (n' := 67) F dX8_way_66 rfl ?_
          refine j_getR (n' := 70) F fl_X8_28 kap_99 rfl dX8_way_67 rfl ?_
          refine j_iload_1 (n' := 71) F dX8_way_70 rfl ?_
          refine j_iald (n' := 72) F kap_106 (by decide) (by omega) dX8_way_71 rfl ?_
          refine j_icmp_ge (t := 79) (n' := 75) F (by omega) (by omega) dX8_way_72 (by decide) rfl (fun c72_14 => ?_) (fun c72_14 => ?_)
          · refine j_iconst (n' := 80) F dX8_way_79 rfl ?_
            refine j_istore_7 (n' := 82) F (by decide) jc_i dX8_way_80 rfl ?_
            refine j_iload_7 (n' := 84) F dX8_way_82 rfl ?_
            refine j_if_eq (t := 111) (n' := 87) F (by omega) dX8_way_84 (by decide) rfl (fun c84_15 => ?_) (fun c84_15 => ?_)
            · exact j_return F E dX8_way_111 (⟨by rw [if_neg (by simp only [mst]; omega)], by omega, by omega, fun i hi => ⟨rfl, rfl, rfl⟩, frC.rf⟩)
            · omega
          · refine j_iconst (n' := 76) F dX8_way_75 rfl ?_
            refine j_goto (t := 80) F dX8_way_76 (by decide) ?_
            refine j_istore_7 (n' := 82) F (by decide) jc_i dX8_way_80 rfl ?_
            refine j_iload_7 (n' := 84) F dX8_way_82 rfl ?_
            refine j_if_eq (t := 111) (n' := 87) F (by omega) dX8_way_84 (by decide) rfl (fun c84_16 => ?_) (fun c84_16 => ?_)
            · omega
            · refine j_aload_0 (n' := 88) F dX8_way_87 rfl ?_
              refine j_getR (n' := 91) F fl_X8_22 kap_99 rfl dX8_way_88 rfl ?_
              refine j_iload_1 (n' := 92) F dX8_way_91 rfl ?_
              refine j_iload_5 (n' := 94) F dX8_way_92 rfl ?_
              refine j_iast (n' := 95) F kap_104 (by decide) (by omega) dX8_way_94 rfl (fun φ18 e18 => ?_)
              refine j_aload_0 (n' := 96) F dX8_way_95 rfl ?_
              refine j_getR (n' := 99) F fl_X8_25 kap_99 rfl dX8_way_96 rfl ?_
              refine j_iload_1 (n' := 100) F dX8_way_99 rfl ?_
              refine j_iload_6 (n' := 102) F dX8_way_100 rfl ?_
              refine j_iast (n' := 103) F kap_105 (by decide) (by omega) dX8_way_102 rfl (fun φ19 e19 => ?_)
              refine j_aload_0 (n' := 104) F dX8_way_103 rfl ?_
              refine j_getR (n' := 107) F fl_X8_28 kap_99 rfl dX8_way_104 rfl ?_
              refine j_iload_1 (n' := 108) F dX8_way_107 rfl ?_
              refine j_iload_4 (n' := 110) F dX8_way_108 rfl ?_
              refine j_iast (n' := 111) F kap_106 (by decide) (by omega) dX8_way_110 rfl (fun φ20 e20 => ?_)
              refine j_return F E dX8_way_111 ?_
              refine ⟨?_, ?_, ?_, fun i hi => ?_, ?_⟩
              · rw [if_pos (by simp only [mst]; omega)]
                unfold mst
                rw [e20, e19, e18]
                simp [zU]
                omega
              · rw [e20, e19, e18]
                simp [zU]
                omega
              · rw [e20, e19, e18]
                simp [zU]
                omega
              · rw [e20, e19, e18]
                simp [zU, hi]
              · rw [e20, e19, e18]
                repeat (first | exact frC.rf | refine frC.put ?_ (by omega))
set_option maxRecDepth 20000 in
theorem c_Mod_layState {l : Launch} {G : jG} {B0 : Nat} {φ : jPhi} {fr pl la en : Int} (hc : miOk φ) (hp : 0 ≤ fr ∧ 0 ≤ pl ∧ fr + pl < en ∧ en ≤ φ 99 2) (hla : (la = 0 ∨ (1 ≤ la ∧ la < pl))) (hT : ∀ q d, fr + pl < q → q ≤ en → (d = 0 ∨ (1 ≤ d ∧ d < q - fr)) → mtOk φ (φ 102) (φ 101) fr en q d) (hL : ∀ d, 1 ≤ d → d ≤ pl → φ 107 (25 * pl + d) = (lik (φ 101) en 8 (fr + pl)) d) : jC l G B0 κF 113 yX8_layState cX8_layState 9 none 2 [rf B0 99, iv fr, iv pl, iv la] φ mkV (fun z φ' => mtOk φ' (φ 102) (φ 101) fr en (fr + pl) la ∧ (∀ i, i ≠ 25 * pl + la → φ' 104 i = φ 104 i ∧ φ' 105 i = φ 105 i ∧ φ' 106 i = φ 106 i) ∧ frC (fun a => a = 104 ∨ a = 105 ∨ a = 106) φ φ') := by
  refine jC_start RX8 [some (rf B0 99), some (iv fr), some (iv pl), some (iv la), none, none, none, none, none] (by decide) rfl (Nat.le_of_ble_eq_true rfl) rfl (fun X Q F E => ?_)
  have hc0 := hc
  obtain ⟨c1, c2, c3, c5, c6⟩ := hc0
  have hte : txOk (φ 101) en := fun k q1 q2 => c5 k q1 (by omega)
  have hct := hte (fr + pl) (by omega) (by omega)
  have hlb : ∀ d, 0 ≤ (lik (φ 101) en 8 (fr + pl)) d ∧ (lik (φ 101) en 8 (fr + pl)) d ≤ 8 ∧ fr + pl + (lik (φ 101) en 8 (fr + pl)) d ≤ en := fun d => by
    have := lik_bd (φ 101) en 8 (fr + pl) d
    exact ⟨this.1, this.2.1, this.2.2 (by omega)⟩
  have hnx : ∀ (q d : Int) (ψ : jPhi), fr + pl < q → q ≤ en → (d = 0 ∨ (1 ≤ d ∧ d < q - fr)) → (∀ i, i ≠ 25 * pl + la → ψ 104 i = φ 104 i ∧ ψ 105 i = φ 105 i ∧ ψ 106 i = φ 106 i) → (0 ≤ 25 * (q - fr) + d ∧ 25 * (q - fr) + d < 625) ∧ (0 ≤ ψ 104 (25 * (q - fr) + d) ∧ ψ 104 (25 * (q - fr) + d) ≤ 100000 ∧ 0 ≤ ψ 105 (25 * (q - fr) + d) ∧ ψ 105 (25 * (q - fr) + d) ≤ en - q) ∧ (mst ψ (25 * (q - fr) + d)).1 = (Tw (φ 102) (φ 101) fr en) q d := fun q d ψ q1 q2 q3 q4 => by
    obtain ⟨m1, m2, m3, m4, m5⟩ := hT q d q1 q2 q3
    obtain ⟨n1, n2, n3⟩ := q4 (25 * (q - fr) + d) (by omega)
    have hb := Tw_bd c6 hp.1 (by omega) hte (en - q).toNat q d (by omega) q2 rfl
    unfold mst
    rw [n1, n2]
    exact ⟨by omega, by omega, m1⟩
  have fin : ∀ ψ : jPhi, mst ψ (25 * pl + la) = cpF (φ 102) (Tw (φ 102) (φ 101) fr en) (lik (φ 101) en 8 (fr + pl)) (fr + pl) fr (agF (φ 102) (Tw (φ 102) (φ 101) fr en) (agM (lik (φ 101) en 8 (fr + pl)) la) (fr + pl) la (plB (φ 102) (Tw (φ 102) (φ 101) fr en) (φ 101) (fr + pl) la)) → 0 ≤ ψ 104 (25 * pl + la) ∧ ψ 104 (25 * pl + la) ≤ 268435456 ∧ 0 ≤ ψ 105 (25 * pl + la) ∧ ψ 105 (25 * pl + la) ≤ en - (fr + pl) → (∀ i, i ≠ 25 * pl + la → ψ 104 i = φ 104 i ∧ ψ 105 i = φ 105 i ∧ ψ 106 i = φ 106 i) → frC (fun a => a = 104 ∨ a = 105 ∨ a = 106) φ ψ → mtOk ψ (φ 102) (φ 101) fr en (fr + pl) la := by
    intro ψ h1 h2 h3 h4
    rw [stS_from (by omega), ← Tb_step (by omega)] at h1
    unfold mtOk
    rw [show 25 * (fr + pl - fr) + la = 25 * pl + la by omega]
    exact ⟨congrArg Prod.fst h1, congrArg Prod.snd h1, h2.1, h2.2.2.1, h2.2.2.2⟩
  have outC : ∀ (m : Nat) (d : Int) (ψ : jPhi), d + m = pl + 1 → 1 ≤ d → lpI (cpD (φ 102) (Tw (φ 102) (φ 101) fr en) (lik (φ 101) en 8 (fr + pl)) (fr + pl)) d (pl + 1) (mst ψ (25 * pl + la)) = cpF (φ 102) (Tw (φ 102) (φ 101) fr en) (lik (φ 101) en 8 (fr + pl)) (fr + pl) fr (agF (φ 102) (Tw (φ 102) (φ 101) fr en) (agM (lik (φ 101) en 8 (fr + pl)) la) (fr + pl) la (plB (φ 102) (Tw (φ 102) (φ 101) fr en) (φ 101) (fr + pl) la)) → -1 < ψ 106 (25 * pl + la) → ψ 106 (25 * pl + la) < 1000 + 10 * d → 0 ≤ ψ 104 (25 * pl + la) ∧ ψ 104 (25 * pl + la) ≤ 268435456 ∧ 0 ≤ ψ 105 (25 * pl + la) ∧ ψ 105 (25 * pl + la) ≤ en - (fr + pl) → (∀ i, i ≠ 25 * pl + la → ψ 104 i = φ 104 i ∧ ψ 105 i = φ 105 i ∧ ψ 106 i = φ 106 i) → frC (fun a => a = 104 ∨ a = 105 ∨ a = 106) φ ψ → jJ X G B0 κF 113 0 0 Q 9 ψ 128 [some (rf B0 99), some (iv fr), some (iv pl), some (iv la), some (iv (25 * pl + la)), none, none, some (iv d), none] [] := by
    intro m
    induction m with
    | zero =>
      intro d ψ h1 h2 h3 h4 h5 h6 h7 h8
      rw [lpI_end (by omega)] at h3
      refine j_iload_7 (n' := 130) F dX8_layState_128 rfl ?_
      refine j_iload_2 (n' := 131) F dX8_layState_130 rfl ?_
      refine j_icmp_gt (t := 202) (n' := 134) F (by omega) (by omega) dX8_layState_131 (by decide) rfl (fun c131_0 => ?_) (fun c131_0 => ?_)
      · exact j_return F E dX8_layState_202 (⟨fin ψ h3 h6 h7 h8, h7, h8⟩)
      · omega
    | succ m ih =>
      intro d ψ0 h1 h2 h3 h4 h5 h6 h7 h8
      have hld := hlb d
      rw [lpI_step (by omega)] at h3
      have inC : ∀ (j : Nat) (n : Int) (ψ : jPhi), n + j = max 2 ((lik (φ 101) en 8 (fr + pl)) d + 1) → 2 ≤ n → lpI (cpD (φ 102) (Tw (φ 102) (φ 101) fr en) (lik (φ 101) en 8 (fr + pl)) (fr + pl)) (d + 1) (pl + 1) (lpI (cpI (φ 102) (Tw (φ 102) (φ 101) fr en) (fr + pl) d) n ((lik (φ 101) en 8 (fr + pl)) d + 1) (mst ψ (25 * pl + la))) = cpF (φ 102) (Tw (φ 102) (φ 101) fr en) (lik (φ 101) en 8 (fr + pl)) (fr + pl) fr (agF (φ 102) (Tw (φ 102) (φ 101) fr en) (agM (lik (φ 101) en 8 (fr + pl)) la) (fr + pl) la (plB (φ 102) (Tw (φ 102) (φ 101) fr en) (φ 101) (fr + pl) la)) → -1 < ψ 106 (25 * pl + la) → ψ 106 (25 * pl + la) < 1000 + 10 * d + n → 0 ≤ ψ 104 (25 * pl + la) ∧ ψ 104 (25 * pl + la) ≤ 268435456 ∧ 0 ≤ ψ 105 (25 * pl + la) ∧ ψ 105 (25 * pl + la) ≤ en - (fr + pl) → (∀ i, i ≠ 25 * pl + la → ψ 104 i = φ 104 i ∧ ψ 105 i = φ 105 i ∧ ψ 106 i = φ 106 i) → frC (fun a => a = 104 ∨ a = 105 ∨ a = 106) φ ψ → jJ X G B0 κF 113 0 0 Q 9 ψ 137 [some (rf B0 99), some (iv fr), some (iv pl), some (iv la), some (iv (25 * pl + la)), none, none, some (iv d), some (iv n)] [] := by
        intro j
        induction j with
        | zero =>
          intro n ψ g1 g2 g3 g4 g5 g6 g7 g8
          have u107 : ψ 107 (25 * pl + d) = (lik (φ 101) en 8 (fr + pl)) d := (g8 107 _ (by omega)).trans (hL d (by omega) (by omega))
          rw [lpI_end (lo := n) (by omega)] at g3
          refine j_iload_8 (n' := 139) F dX8_layState_137 rfl ?_
          refine j_aload_0 (n' := 140) F dX8_layState_139 rfl ?_
          refine j_getR (n' := 143) F fl_X8_31 kap_99 rfl dX8_layState_140 rfl ?_
          refine j_bipush (n' := 145) F dX8_layState_143 (by decide) rfl ?_
          refine j_iload_2 (n' := 146) F dX8_layState_145 rfl ?_
          refine j_imul (n' := 147) F dX8_layState_146 rfl ?_
          refine j_iload_7 (n' := 149) F dX8_layState_147 rfl ?_
          refine j_iadd (n' := 150) F dX8_layState_149 rfl ?_
          refine j_iald (n' := 151) F kap_107 (by decide) (by omega) dX8_layState_150 rfl ?_
          refine j_icmp_gt (t := 196) (n' := 154) F (by omega) (by omega) dX8_layState_151 (by decide) rfl (fun c151_0 => ?_) (fun c151_0 => ?_)
          · refine j_iinc_7 (n' := 199) F (by decide) jc_n dX8_layState_196 rfl ?_
            refine j_goto (t := 128) F dX8_layState_199 (by decide) ?_
            exact j_weak (by exact ⟨rfl, rfl, rfl, rfl, rfl, rfl, trivial⟩) (ih (d + 1) ψ (by omega) (by omega) g3 g4 (by omega) g6 g7 g8)
          · omega
        | succ j ihj =>
          intro n ψ g1 g2 g3 g4 g5 g6 g7 g8
          have u107 : ψ 107 (25 * pl + d) = (lik (φ 101) en 8 (fr + pl)) d := (g8 107 _ (by omega)).trans (hL d (by omega) (by omega))
          have u102 : ψ 102 = φ 102 := funext fun b => g8 102 b (by omega)
          rw [lpI_step (lo := n) (by omega)] at g3
          obtain ⟨x1, x2, x3⟩ := hnx (fr + pl + n) d ψ (by omega) (by omega) (by omega) g7
          rw [show 25 * (fr + pl + n - fr) + d = 25 * (pl + n) + d by omega] at x1 x2 x3
          have hpb := tkPrice_bd c6 (1000 + 10 * d + n)
          refine j_iload_8 (n' := 139) F dX8_layState_137 rfl ?_
          refine j_aload_0 (n' := 140) F dX8_layState_139 rfl ?_
          refine j_getR (n' := 143) F fl_X8_31 kap_99 rfl dX8_layState_140 rfl ?_
          refine j_bipush (n' := 145) F dX8_layState_143 (by decide) rfl ?_
          refine j_iload_2 (n' := 146) F dX8_layState_145 rfl ?_
          refine j_imul (n' := 147) F dX8_layState_146 rfl ?_
          refine j_iload_7 (n' := 149) F dX8_layState_147 rfl ?_
          refine j_iadd (n' := 150) F dX8_layState_149 rfl ?_
          refine j_iald (n' := 151) F kap_107 (by decide) (by omega) dX8_layState_150 rfl ?_
          refine j_icmp_gt (t := 196) (n' := 154) F (by omega) (by omega) dX8_layState_151 (by decide) rfl (fun c151_0 => ?_) (fun c151_0 => ?_)
          · omega
          · refine j_aload_0 (n' := 155) F dX8_layState_154 rfl ?_
            refine j_iload_4 (n' := 157) F dX8_layState_155 rfl ?_
            refine j_bipush (n' := 159) F dX8_layState_157 (by decide) rfl ?_
            refine j_iload_2 (n' := 160) F dX8_layState_159 rfl ?_
            refine j_iload_8 (n' := 162) F dX8_layState_160 rfl ?_
            refine j_iadd (n' := 163) F dX8_layState_162 rfl ?_
            refine j_imul (n' := 164) F dX8_layState_163 rfl ?_
            refine j_iload_7 (n' := 166) F dX8_layState_164 rfl ?_
            refine j_iadd (n' := 167) F dX8_layState_166 rfl ?_
            refine j_aload_0 (n' := 168) F dX8_layState_167 rfl ?_
            refine j_iload_7 (n' := 170) F dX8_layState_168 rfl ?_
            refine j_iload_8 (n' := 172) F dX8_layState_170 rfl ?_
            refine j_cV2i (n' := 175) F kl_X8_81 (c_Mod_copyPrice (by omega) (by omega)) kap_99 rfl (by decide) (Nat.le_of_ble_eq_true rfl) dX8_layState_172 rfl (fun z2 φ2 h2 => ?_)
            obtain ⟨rfl, rfl⟩ := h2
            rw [u102]
            refine j_sipush (n' := 178) F dX8_layState_175 (by decide) rfl ?_
            refine j_bipush (n' := 180) F dX8_layState_178 (by decide) rfl ?_
            refine j_iload_7 (n' := 182) F dX8_layState_180 rfl ?_
            refine j_imul (n' := 183) F dX8_layState_182 rfl ?_
            refine j_iadd (n' := 184) F dX8_layState_183 rfl ?_
            refine j_iload_8 (n' := 186) F dX8_layState_184 rfl ?_
            refine j_iadd (n' := 187) F dX8_layState_186 rfl ?_
            refine j_cV4v (n' := 190) F kl_X8_122 (c_Mod_way (B := en - (fr + pl)) (by omega) (by omega) (by omega) g6 (by omega) (by omega) (by omega)) kap_99 rfl (by decide) (Nat.le_of_ble_eq_true rfl) dX8_layState_187 rfl (fun z3 φ3 h3 => ?_)
            obtain ⟨y1, y2, y3, y4, y5⟩ := h3
            rw [x3] at y1
            refine j_iinc_8 (n' := 193) F (by decide) jc_i dX8_layState_190 rfl ?_
            refine j_goto (t := 137) F dX8_layState_193 (by decide) ?_
            have y6 : mst φ3 (25 * pl + la) = cnd (mst ψ (25 * pl + la)) (32 * tkPrice (φ 102) (1000 + 10 * d + n) + 1 + (Tw (φ 102) (φ 101) fr en) (fr + pl + n) d) (1000 + 10 * d + n) := by
              rw [y1]
              unfold cnd
              have hne : (mst ψ (25 * pl + la)).2 ≠ -1 := by simp only [mst]; omega
              by_cases q : 32 * tkPrice (φ 102) (1000 + 10 * d + n) + 1 + (Tw (φ 102) (φ 101) fr en) (fr + pl + n) d < (mst ψ (25 * pl + la)).1
              · rw [if_pos q, if_neg (by omega)]
              · rw [if_neg q, if_pos ⟨hne, by omega⟩]
            have y7 : φ3 106 (25 * pl + la) = ψ 106 (25 * pl + la) ∨ φ3 106 (25 * pl + la) = 1000 + 10 * d + n := by
              have y8 := congrArg Prod.snd y1
              split at y8
              · exact Or.inr y8
              · exact Or.inl y8
            refine ihj (n + 1) φ3 (by omega) (by omega) ?_ (by omega) (by omega) ⟨y2.1, y2.2, y3.1, y3.2⟩ (fun i hi => ?_) (g8.tr y5)
            · rw [y6]
              exact g3
            · obtain ⟨a1, a2, a3⟩ := y4 i hi
              rw [a1, a2, a3]
              exact g7 i hi
      refine j_iload_7 (n' := 130) F dX8_layState_128 rfl ?_
      refine j_iload_2 (n' := 131) F dX8_layState_130 rfl ?_
      refine j_icmp_gt (t := 202) (n' := 134) F (by omega) (by omega) dX8_layState_131 (by decide) rfl (fun c131_0 => ?_) (fun c131_0 => ?_)
      · omega
      · refine j_iconst (n' := 135) F dX8_layState_134 rfl ?_
        refine j_istore_8 (n' := 137) F (by decide) jc_i dX8_layState_135 rfl ?_
        exact j_weak (by exact ⟨rfl, rfl, rfl, rfl, rfl, rfl, rfl, trivial⟩) (inC ((lik (φ 101) en 8 (fr + pl)) d + 1 - 2).toNat 2 ψ0 (by omega) (by omega) h3 h4 (by omega) h6 h7 h8)
  have hag : 0 ≤ agM (lik (φ 101) en 8 (fr + pl)) la ∧ agM (lik (φ 101) en 8 (fr + pl)) la ≤ 8 ∧ fr + pl + agM (lik (φ 101) en 8 (fr + pl)) la ≤ en ∧ (2 ≤ agM (lik (φ 101) en 8 (fr + pl)) la → la ≠ 0) := by
    have := hlb la
    unfold agM
    split <;> omega
  have loA : ∀ (j : Nat) (n : Int) (ψ : jPhi), n + j = max 2 (agM (lik (φ 101) en 8 (fr + pl)) la + 1) → 2 ≤ n → lpI (agI (φ 102) (Tw (φ 102) (φ 101) fr en) (fr + pl) la) n (agM (lik (φ 101) en 8 (fr + pl)) la + 1) (mst ψ (25 * pl + la)) = agF (φ 102) (Tw (φ 102) (φ 101) fr en) (agM (lik (φ 101) en 8 (fr + pl)) la) (fr + pl) la (plB (φ 102) (Tw (φ 102) (φ 101) fr en) (φ 101) (fr + pl) la) → -1 < ψ 106 (25 * pl + la) → ψ 106 (25 * pl + la) < 100 + n → 0 ≤ ψ 104 (25 * pl + la) ∧ ψ 104 (25 * pl + la) ≤ 268435456 ∧ 0 ≤ ψ 105 (25 * pl + la) ∧ ψ 105 (25 * pl + la) ≤ en - (fr + pl) → (∀ i, i ≠ 25 * pl + la → ψ 104 i = φ 104 i ∧ ψ 105 i = φ 105 i ∧ ψ 106 i = φ 106 i) → frC (fun a => a = 104 ∨ a = 105 ∨ a = 106) φ ψ → jJ X G B0 κF 113 0 0 Q 9 ψ 87 [some (rf B0 99), some (iv fr), some (iv pl), some (iv la), some (iv (25 * pl + la)), none, some (iv (agM (lik (φ 101) en 8 (fr + pl)) la)), some (iv n), none] [] := by
    intro j
    induction j with
    | zero =>
      intro n ψ g1 g2 g3 g4 g5 g6 g7 g8
      rw [lpI_end (by omega)] at g3
      refine j_iload_7 (n' := 89) F dX8_layState_87 rfl ?_
      refine j_iload_6 (n' := 91) F dX8_layState_89 rfl ?_
      refine j_icmp_gt (t := 125) (n' := 94) F (by omega) (by omega) dX8_layState_91 (by decide) rfl (fun c91_0 => ?_) (fun c91_0 => ?_)
      · refine j_iconst (n' := 126) F dX8_layState_125 rfl ?_
        refine j_istore_7 (n' := 128) F (by decide) jc_i dX8_layState_126 rfl ?_
        exact j_weak (by exact ⟨rfl, rfl, rfl, rfl, rfl, rfl, trivial⟩) (outC pl.toNat 1 ψ (by omega) (by omega) (by rw [g3]; unfold cpF; rw [show fr + pl - fr + 1 = pl + 1 by omega]) g4 (by omega) g6 g7 g8)
      · omega
    | succ j ihj =>
      intro n ψ g1 g2 g3 g4 g5 g6 g7 g8
      have u102 : ψ 102 = φ 102 := funext fun b => g8 102 b (by omega)
      rw [lpI_step (by omega)] at g3
      obtain ⟨x1, x2, x3⟩ := hnx (fr + pl + n) la ψ (by omega) (by omega) (by omega) g7
      rw [show 25 * (fr + pl + n - fr) + la = 25 * pl + la + 25 * n by omega] at x1 x2 x3
      have hpb := tkPrice_bd c6 (100 + n)
      refine j_iload_7 (n' := 89) F dX8_layState_87 rfl ?_
      refine j_iload_6 (n' := 91) F dX8_layState_89 rfl ?_
      refine j_icmp_gt (t := 125) (n' := 94) F (by omega) (by omega) dX8_layState_91 (by decide) rfl (fun c91_0 => ?_) (fun c91_0 => ?_)
      · omega
      · refine j_aload_0 (n' := 95) F dX8_layState_94 rfl ?_
        refine j_iload_4 (n' := 97) F dX8_layState_95 rfl ?_
        refine j_iload_4 (n' := 99) F dX8_layState_97 rfl ?_
        refine j_bipush (n' := 101) F dX8_layState_99 (by decide) rfl ?_
        refine j_iload_7 (n' := 103) F dX8_layState_101 rfl ?_
        refine j_imul (n' := 104) F dX8_layState_103 rfl ?_
        refine j_iadd (n' := 105) F dX8_layState_104 rfl ?_
        refine j_aload_0 (n' := 106) F dX8_layState_105 rfl ?_
        refine j_iload_7 (n' := 108) F dX8_layState_106 rfl ?_
        refine j_cV1i (n' := 111) F kl_X8_78 (c_Mod_againPrice (by omega)) kap_99 rfl (by decide) (Nat.le_of_ble_eq_true rfl) dX8_layState_108 rfl (fun z2 φ2 h2 => ?_)
        obtain ⟨rfl, rfl⟩ := h2
        rw [u102]
        refine j_bipush (n' := 113) F dX8_layState_111 (by decide) rfl ?_
        refine j_iload_7 (n' := 115) F dX8_layState_113 rfl ?_
        refine j_iadd (n' := 116) F dX8_layState_115 rfl ?_
        refine j_cV4v (n' := 119) F kl_X8_122 (c_Mod_way (B := en - (fr + pl)) (by omega) (by omega) (by omega) g6 (by omega) (by omega) (by omega)) kap_99 rfl (by decide) (Nat.le_of_ble_eq_true rfl) dX8_layState_116 rfl (fun z3 φ3 h3 => ?_)
        obtain ⟨y1, y2, y3, y4, y5⟩ := h3
        rw [x3] at y1
        refine j_iinc_7 (n' := 122) F (by decide) jc_i dX8_layState_119 rfl ?_
        refine j_goto (t := 87) F dX8_layState_122 (by decide) ?_
        have y6 : mst φ3 (25 * pl + la) = cnd (mst ψ (25 * pl + la)) (32 * tkPrice (φ 102) (100 + n) + 1 + (Tw (φ 102) (φ 101) fr en) (fr + pl + n) la) (100 + n) := by
          rw [y1]
          unfold cnd
          have hne : (mst ψ (25 * pl + la)).2 ≠ -1 := by simp only [mst]; omega
          by_cases q : 32 * tkPrice (φ 102) (100 + n) + 1 + (Tw (φ 102) (φ 101) fr en) (fr + pl + n) la < (mst ψ (25 * pl + la)).1
          · rw [if_pos q, if_neg (by omega)]
          · rw [if_neg q, if_pos ⟨hne, by omega⟩]
        have y7 : φ3 106 (25 * pl + la) = ψ 106 (25 * pl + la) ∨ φ3 106 (25 * pl + la) = 100 + n := by
          have y8 := congrArg Prod.snd y1
          split at y8
          · exact Or.inr y8
          · exact Or.inl y8
        refine ihj (n + 1) φ3 (by omega) (by omega) ?_ (by omega) (by omega) ⟨y2.1, y2.2, y3.1, y3.2⟩ (fun i hi => ?_) (g8.tr y5)
        · rw [y6]
          exact g3
        · obtain ⟨a1, a2, a3⟩ := y4 i hi
          rw [a1, a2, a3]
          exact g7 i hi
  refine j_bipush (n' := 2) F dX8_layState_0 (by decide) rfl ?_
  refine j_iload_2 (n' := 3) F dX8_layState_2 rfl ?_
  refine j_imul (n' := 4) F dX8_layState_3 rfl ?_
  refine j_iload_3 (n' := 5) F dX8_layState_4 rfl ?_
  refine j_iadd (n' := 6) F dX8_layState_5 rfl ?_
  refine j_istore_4 (n' := 8) F (by decide) jc_i dX8_layState_6 rfl ?_
  refine j_aload_0 (n' := 9) F dX8_layState_8 rfl ?_
  refine j_getR (n' := 12) F fl_X8_22 kap_99 rfl dX8_layState_9 rfl ?_
  refine j_iload_4 (n' := 14) F dX8_layState_12 rfl ?_
  refine j_ldc (n' := 16) F (z := 268435456) rfl q_780 dX8_layState_14 rfl ?_
  refine j_iast (n' := 17) F kap_104 (by decide) (by omega) dX8_layState_16 rfl (fun φ1 e1 => ?_)
  refine j_aload_0 (n' := 18) F dX8_layState_17 rfl ?_
  refine j_getR (n' := 21) F fl_X8_25 kap_99 rfl dX8_layState_18 rfl ?_
  refine j_iload_4 (n' := 23) F dX8_layState_21 rfl ?_
  refine j_iconst (n' := 24) F dX8_layState_23 rfl ?_
  refine j_iast (n' := 25) F kap_105 (by decide) (by omega) dX8_layState_24 rfl (fun φ2 e2 => ?_)
  refine j_aload_0 (n' := 26) F dX8_layState_25 rfl ?_
  refine j_getR (n' := 29) F fl_X8_28 kap_99 rfl dX8_layState_26 rfl ?_
  refine j_iload_4 (n' := 31) F dX8_layState_29 rfl ?_
  refine j_iconst (n' := 32) F dX8_layState_31 rfl ?_
  refine j_iast (n' := 33) F kap_106 (by decide) (by omega) dX8_layState_32 rfl (fun φ3 e3 => ?_)
  have i1 : φ3 104 (25 * pl + la) = 268435456 := by rw [e3, e2, e1]; simp [zU]
  have i2 : φ3 105 (25 * pl + la) = 0 := by rw [e3, e2, e1]; simp [zU]
  have i3 : φ3 106 (25 * pl + la) = -1 := by rw [e3, e2, e1]; simp [zU]
  have i4 : (∀ i, i ≠ 25 * pl + la → φ3 104 i = φ 104 i ∧ φ3 105 i = φ 105 i ∧ φ3 106 i = φ 106 i) := fun i hi => by rw [e3, e2, e1]; simp [zU, hi]
  have i5 : frC (fun a => a = 104 ∨ a = 105 ∨ a = 106) φ φ3 := by rw [e3, e2, e1]; repeat (first | exact frC.rf | refine frC.put ?_ (by omega))
  have i6 : φ3 101 = φ 101 := funext fun b => i5 101 b (by omega)
  have i7 : φ3 102 = φ 102 := funext fun b => i5 102 b (by omega)
  obtain ⟨x1, x2, x3⟩ := hnx (fr + pl + 1) la φ3 (by omega) (by omega) (by omega) i4
  rw [show 25 * (fr + pl + 1 - fr) + la = 25 * pl + la + 25 by omega] at x1 x2 x3
  have hpc := c6 (φ 101 (fr + pl)) (by omega) (by omega)
  refine j_aload_0 (n' := 34) F dX8_layState_33 rfl ?_
  refine j_getR (n' := 37) F fl_X8_13 kap_99 rfl dX8_layState_34 rfl ?_
  refine j_iload_1 (n' := 38) F dX8_layState_37 rfl ?_
  refine j_iload_2 (n' := 39) F dX8_layState_38 rfl ?_
  refine j_iadd (n' := 40) F dX8_layState_39 rfl ?_
  refine j_iald (n' := 41) F kap_101 (by decide) (by omega) dX8_layState_40 rfl ?_
  rw [i6]
  refine j_istore_5 (n' := 43) F (by decide) jc_i dX8_layState_41 rfl ?_
  refine j_aload_0 (n' := 44) F dX8_layState_43 rfl ?_
  refine j_iload_4 (n' := 46) F dX8_layState_44 rfl ?_
  refine j_iload_4 (n' := 48) F dX8_layState_46 rfl ?_
  refine j_bipush (n' := 50) F dX8_layState_48 (by decide) rfl ?_
  refine j_iadd (n' := 51) F dX8_layState_50 rfl ?_
  refine j_aload_0 (n' := 52) F dX8_layState_51 rfl ?_
  refine j_getR (n' := 55) F fl_X8_16 kap_99 rfl dX8_layState_52 rfl ?_
  refine j_iload_5 (n' := 57) F dX8_layState_55 rfl ?_
  refine j_iald (n' := 58) F kap_102 (by decide) (by omega) dX8_layState_57 rfl ?_
  rw [i7]
  refine j_iload_5 (n' := 60) F dX8_layState_58 rfl ?_
  refine j_cV4v (n' := 63) F kl_X8_122 (c_Mod_way (B := en - (fr + pl)) (by omega) (by omega) (by omega) (by omega) (by omega) (by omega) (by omega)) kap_99 rfl (by decide) (Nat.le_of_ble_eq_true rfl) dX8_layState_60 rfl (fun z4 φ4 h4 => ?_)
  obtain ⟨y1, y2, y3, y4, y5⟩ := h4
  rw [x3] at y1
  have hwb := Tw_bd c6 hp.1 (by omega) hte (en - (fr + pl + 1)).toNat (fr + pl + 1) la (by omega) (by omega) rfl
  have y6 : mst φ4 (25 * pl + la) = plB (φ 102) (Tw (φ 102) (φ 101) fr en) (φ 101) (fr + pl) la := by
    rw [y1, if_pos (by simp only [mst]; omega)]
    unfold plB
    rw [tkPrice_plain (by omega)]
  have y7 : φ4 106 (25 * pl + la) = φ 101 (fr + pl) := congrArg Prod.snd y6
  have y8 : (∀ i, i ≠ 25 * pl + la → φ4 104 i = φ 104 i ∧ φ4 105 i = φ 105 i ∧ φ4 106 i = φ 106 i) := fun i hi => by
    obtain ⟨a1, a2, a3⟩ := y4 i hi
    rw [a1, a2, a3]
    exact i4 i hi
  have y9 : frC (fun a => a = 104 ∨ a = 105 ∨ a = 106) φ φ4 := i5.tr y5
  refine j_iload_3 (n' := 64) F dX8_layState_63 rfl ?_
  refine j_if_ne (t := 71) (n' := 67) F (by omega) dX8_layState_64 (by decide) rfl (fun c64_4 => ?_) (fun c64_4 => ?_)
  · refine j_aload_0 (n' := 72) F dX8_layState_71 rfl ?_
    refine j_getR (n' := 75) F fl_X8_31 kap_99 rfl dX8_layState_72 rfl ?_
    refine j_bipush (n' := 77) F dX8_layState_75 (by decide) rfl ?_
    refine j_iload_2 (n' := 78) F dX8_layState_77 rfl ?_
    refine j_imul (n' := 79) F dX8_layState_78 rfl ?_
    refine j_iload_3 (n' := 80) F dX8_layState_79 rfl ?_
    refine j_iadd (n' := 81) F dX8_layState_80 rfl ?_
    refine j_iald (n' := 82) F kap_107 (by decide) (by omega) dX8_layState_81 rfl ?_
    refine j_top (w := iv (agM (lik (φ 101) en 8 (fr + pl)) la)) (by rw [y9 107 _ (by omega), hL la (by omega) (by omega)]; unfold agM; rw [if_neg (by omega)]) ?_
    refine j_istore_6 (n' := 84) F (by decide) jc_i dX8_layState_82 rfl ?_
    refine j_iconst (n' := 85) F dX8_layState_84 rfl ?_
    refine j_istore_7 (n' := 87) F (by decide) jc_i dX8_layState_85 rfl ?_
    exact j_weak (by exact ⟨rfl, rfl, rfl, rfl, rfl, rfl, rfl, trivial⟩) (loA (agM (lik (φ 101) en 8 (fr + pl)) la + 1 - 2).toNat 2 φ4 (by omega) (by omega) (by rw [y6]; rfl) (by omega) (by omega) ⟨y2.1, y2.2, y3.1, y3.2⟩ y8 y9)
  · refine j_iconst (n' := 68) F dX8_layState_67 rfl ?_
    refine j_goto (t := 82) F dX8_layState_68 (by decide) ?_
    refine j_top (show iv 0 = iv (agM (lik (φ 101) en 8 (fr + pl)) la) by unfold agM; rw [if_pos (by omega)]) ?_
    refine j_istore_6 (n' := 84) F (by decide) jc_i dX8_layState_82 rfl ?_
    refine j_iconst (n' := 85) F dX8_layState_84 rfl ?_
    refine j_istore_7 (n' := 87) F (by decide) jc_i dX8_layState_85 rfl ?_
    exact j_weak (by exact ⟨rfl, rfl, rfl, rfl, rfl, rfl, rfl, trivial⟩) (loA (agM (lik (φ 101) en 8 (fr + pl)) la + 1 - 2).toNat 2 φ4 (by omega) (by omega) (by rw [y6]; rfl) (by omega) (by omega) ⟨y2.1, y2.2, y3.1, y3.2⟩ y8 y9)
