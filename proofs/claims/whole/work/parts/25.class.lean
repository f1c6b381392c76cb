theorem j_tsIn {X : jX} {G : jG} {B0 : Nat} {κ : Int → Option jKd} {n kc ks : Nat} {Q : State → Prop} {nL : Nat} {φ : jPhi} {pc : Nat} {lv : List (Option Value)} {st : List Value} {cc : ByteArray} {own : String} {d : Nat} (F : jF X G cc nL own d kc ks) {z dflt lo hi off : Int} {offs : Array Int} {len t : Nat} (hz : -2147483648 ≤ z ∧ z ≤ 2147483647) (hd : decode cc pc = .ok (.tableswitch dflt lo hi offs, len)) (h1 : lo ≤ z) (h2 : z ≤ hi) (ho : offs[(z - lo).toNat]? = some off) (ht : (pc : Int) + off = (t : Int)) (k : jJ X G B0 κ n kc ks Q nL φ t lv st) : jJ X G B0 κ n kc ks Q nL φ pc lv (iv z :: st) := by
  intro H locs ls hP hS hl
  have e := zI_toInt hz
  exact lv_tableIn F.1 F.2.1 hd (by rw [e]; omega) (by rw [e]; omega) (by rw [e]; exact ho) ht (k H locs ls hP hS hl)
theorem j_tsOut {X : jX} {G : jG} {B0 : Nat} {κ : Int → Option jKd} {n kc ks : Nat} {Q : State → Prop} {nL : Nat} {φ : jPhi} {pc : Nat} {lv : List (Option Value)} {st : List Value} {cc : ByteArray} {own : String} {d : Nat} (F : jF X G cc nL own d kc ks) {z dflt lo hi : Int} {offs : Array Int} {len t : Nat} (hz : -2147483648 ≤ z ∧ z ≤ 2147483647) (hd : decode cc pc = .ok (.tableswitch dflt lo hi offs, len)) (h : z < lo ∨ hi < z) (ht : (pc : Int) + dflt = (t : Int)) (k : jJ X G B0 κ n kc ks Q nL φ t lv st) : jJ X G B0 κ n kc ks Q nL φ pc lv (iv z :: st) := by
  intro H locs ls hP hS hl
  have e := zI_toInt hz
  exact lv_tableOut F.1 F.2.1 hd (by rw [e]; exact h) ht (k H locs ls hP hS hl)
set_option maxRecDepth 20000 in
theorem c_Cla_findRest {l : Launch} {G : jG} {B0 : Nat} {φ : jPhi}  (hc : ciOk φ) : jC l G B0 κF 113 yX7_findRest cX7_findRest 2 none 4 [rf B0 0] φ mkV (fun z φ' => (φ' 0 11, φ' 0 12, φ' 0 13) = rstR (φ 35) (φ 8) (φ 7 2) ∧ ciOk φ' ∧ (∀ b, b ≠ 10 → b ≠ 11 → b ≠ 12 → b ≠ 13 → φ' 0 b = φ 0 b) ∧ frC (fun a => a = 0 ∨ a = 37 ∨ (39 ≤ a ∧ a < 64) ∨ (65 ≤ a ∧ a < 90) ∨ a = 95 ∨ a = 96 ∨ a = 97 ∨ a = 98) φ φ') := by
  refine jC_start RX7 [some (rf B0 0), none] (by decide) rfl (Nat.le_of_ble_eq_true rfl) rfl (fun X Q F E => ?_)
  have hc0 := hc
  obtain ⟨⟨c1, c2, c3, c4, c5, c6⟩, ch, rs⟩ := hc0
  have rs10 : 0 ≤ φ 0 10 ∧ φ 0 10 ≤ 1 := by rcases rs with g | g <;> omega
  have fin : ∀ (r : Int) (ψ : jPhi), 0 ≤ r → r ≤ 13 → (13 ≤ r ∨ ψ 0 11 ≠ -1) → -1 ≤ ψ 0 11 → ψ 0 11 ≤ 12 → (ψ 0 11, ψ 0 12, ψ 0 13) = rstR (φ 35) (φ 8) (φ 7 2) → (∀ b, b ≠ 11 → b ≠ 12 → b ≠ 13 → ψ 0 b = φ 0 b) → frC (fun a => a = 0 ∨ a = 37 ∨ (39 ≤ a ∧ a < 64) ∨ (65 ≤ a ∧ a < 90) ∨ a = 95 ∨ a = 96 ∨ a = 97 ∨ a = 98) φ ψ → jJ X G B0 κF 113 0 0 Q 2 ψ 26 [some (rf B0 0), some (iv r)] [] := by
    intro r ψ h1 h2 h3 h4 h5 h6 h7 h8
    refine j_iload_1 (n' := 27) F dX7_findRest_26 rfl ?_
    refine j_bipush (n' := 29) F dX7_findRest_27 (by decide) rfl ?_
    refine j_icmp_gt (t := 118) (n' := 32) F (by omega) (by omega) dX7_findRest_29 (by decide) rfl (fun c29_0 => ?_) (fun c29_0 => ?_)
    · refine j_aload_0 (n' := 119) F dX7_findRest_118 rfl ?_
      refine j_iconst (n' := 120) F dX7_findRest_119 rfl ?_
      refine j_putB (n' := 123) F 10 rfl (by omega) fp_X7_64 kap_0 rfl rfl dX7_findRest_120 rfl (fun φ2 e2 => ?_)
      refine j_return F E dX7_findRest_123 ?_
      have ra : ∀ a, a ≠ 0 → φ2 a = ψ a := fun a q => by rw [e2, zU_off q]
      have r10 : φ2 0 10 = 1 := by rw [e2, zU_self]
      have r0 : ∀ b, b ≠ 10 → φ2 0 b = ψ 0 b := fun b q => by rw [e2, zU_ne (by omega)]
      have q7 : φ2 7 2 = φ 7 2 := by rw [ra 7 (by omega)]; exact h8 7 2 (by omega)
      have q8 : φ2 8 = φ 8 := by rw [ra 8 (by omega)]; exact funext fun b => h8 8 b (by omega)
      have q35 : φ2 35 = φ 35 := by rw [ra 35 (by omega)]; exact funext fun b => h8 35 b (by omega)
      have hres : (φ2 0 11, φ2 0 12, φ2 0 13) = rstR (φ 35) (φ 8) (φ 7 2) := by rw [r0 11 (by omega), r0 12 (by omega), r0 13 (by omega)]; exact h6
      refine ⟨hres, ⟨(show cbOk φ from ⟨c1, c2, c3, c4, c5, c6⟩).fr (fun a ha b => by rw [ra a (by omega)]; exact h8 a b (by omega)), ?_, Or.inr ⟨r10, by rw [q7, q8, q35]; exact hres⟩⟩, fun b k1 k2 k3 k4 => by rw [r0 b k1]; exact h7 b k2 k3 k4, by rw [e2]; exact h8.put (by omega)⟩
      unfold chOk
      rw [q7, q8, q35, r0 9 (by omega), h7 9 (by omega) (by omega) (by omega)]
      rcases ch with g | g
      · exact Or.inl g
      · exact Or.inr ⟨g.1, g.2.fr (fun b => by rw [ra 90 (by omega)]; exact h8 90 b (by omega)) (fun b => by rw [ra 91 (by omega)]; exact h8 91 b (by omega))⟩
    · refine j_aload_0 (n' := 33) F dX7_findRest_32 rfl ?_
      refine j_getI (n' := 36) F 11 rfl fl_X7_67 kap_0 rfl dX7_findRest_33 rfl ?_
      refine j_iconst (n' := 37) F dX7_findRest_36 rfl ?_
      refine j_icmp_ne (t := 118) (n' := 40) F (by omega) (by omega) dX7_findRest_37 (by decide) rfl (fun c37_2 => ?_) (fun c37_2 => ?_)
      · refine j_aload_0 (n' := 119) F dX7_findRest_118 rfl ?_
        refine j_iconst (n' := 120) F dX7_findRest_119 rfl ?_
        refine j_putB (n' := 123) F 10 rfl (by omega) fp_X7_64 kap_0 rfl rfl dX7_findRest_120 rfl (fun φ4 e4 => ?_)
        refine j_return F E dX7_findRest_123 ?_
        have ra : ∀ a, a ≠ 0 → φ4 a = ψ a := fun a q => by rw [e4, zU_off q]
        have r10 : φ4 0 10 = 1 := by rw [e4, zU_self]
        have r0 : ∀ b, b ≠ 10 → φ4 0 b = ψ 0 b := fun b q => by rw [e4, zU_ne (by omega)]
        have q7 : φ4 7 2 = φ 7 2 := by rw [ra 7 (by omega)]; exact h8 7 2 (by omega)
        have q8 : φ4 8 = φ 8 := by rw [ra 8 (by omega)]; exact funext fun b => h8 8 b (by omega)
        have q35 : φ4 35 = φ 35 := by rw [ra 35 (by omega)]; exact funext fun b => h8 35 b (by omega)
        have hres : (φ4 0 11, φ4 0 12, φ4 0 13) = rstR (φ 35) (φ 8) (φ 7 2) := by rw [r0 11 (by omega), r0 12 (by omega), r0 13 (by omega)]; exact h6
        refine ⟨hres, ⟨(show cbOk φ from ⟨c1, c2, c3, c4, c5, c6⟩).fr (fun a ha b => by rw [ra a (by omega)]; exact h8 a b (by omega)), ?_, Or.inr ⟨r10, by rw [q7, q8, q35]; exact hres⟩⟩, fun b k1 k2 k3 k4 => by rw [r0 b k1]; exact h7 b k2 k3 k4, by rw [e4]; exact h8.put (by omega)⟩
        unfold chOk
        rw [q7, q8, q35, r0 9 (by omega), h7 9 (by omega) (by omega) (by omega)]
        rcases ch with g | g
        · exact Or.inl g
        · exact Or.inr ⟨g.1, g.2.fr (fun b => by rw [ra 90 (by omega)]; exact h8 90 b (by omega)) (fun b => by rw [ra 91 (by omega)]; exact h8 91 b (by omega))⟩
      · omega
  have main : ∀ (k : Nat) (r : Int) (ψ : jPhi), r + k = 12 → 0 ≤ r → prOk (ψ 95) → rsF (φ 8) (φ 7 2) k r (ψ 95) = rstR (φ 35) (φ 8) (φ 7 2) → ψ 0 11 = -1 → (∀ b, b ≠ 11 → b ≠ 12 → b ≠ 13 → ψ 0 b = φ 0 b) → frC (fun a => a = 0 ∨ a = 37 ∨ (39 ≤ a ∧ a < 64) ∨ (65 ≤ a ∧ a < 90) ∨ a = 95 ∨ a = 96 ∨ a = 97 ∨ a = 98) φ ψ → jJ X G B0 κF 113 0 0 Q 2 ψ 26 [some (rf B0 0), some (iv r)] [] := by
    intro k
    induction k with
    | zero =>
      intro r ψ h1 h2 h3 h4 h5 h6 h7
      have v7 : ψ 7 2 = φ 7 2 := h7 7 2 (by omega)
      have v8 : ψ 8 = φ 8 := funext fun b => h7 8 b (by omega)
      have hal2 : alOk ψ := c4.fr c3.2 (fun a ha b => h7 a b (by omega))
      have tkk := toks_ok (P := ψ 95) (t := φ 8) (f := 0) (e := φ 7 2) (by omega) (by omega) c5
      have tprb := rwSum_bd (f := tkPrice (ψ 95)) (B := 90) (ts := toks (ψ 95) (φ 8) 0 (φ 7 2)) (fun x _ => tkPrice_bd h3 x)
      have oth := othP_add (P := ψ 95) (P' := newP (toks (ψ 95) (φ 8) 0 (φ 7 2)) (ψ 95)) (lo := 0) (hi := 18) (a := 0) (by omega)
      rw [rsF] at h4
      refine j_iload_1 (n' := 27) F dX7_findRest_26 rfl ?_
      refine j_bipush (n' := 29) F dX7_findRest_27 (by decide) rfl ?_
      refine j_icmp_gt (t := 118) (n' := 32) F (by omega) (by omega) dX7_findRest_29 (by decide) rfl (fun c29_0 => ?_) (fun c29_0 => ?_)
      · omega
      · refine j_aload_0 (n' := 33) F dX7_findRest_32 rfl ?_
        refine j_getI (n' := 36) F 11 rfl fl_X7_67 kap_0 rfl dX7_findRest_33 rfl ?_
        refine j_iconst (n' := 37) F dX7_findRest_36 rfl ?_
        refine j_icmp_ne (t := 118) (n' := 40) F (by omega) (by omega) dX7_findRest_37 (by decide) rfl (fun c37_1 => ?_) (fun c37_1 => ?_)
        · omega
        · refine j_aload_0 (n' := 41) F dX7_findRest_40 rfl ?_
          refine j_getR (n' := 44) F fl_X7_40 kap_0 rfl dX7_findRest_41 rfl ?_
          refine j_aload_0 (n' := 45) F dX7_findRest_44 rfl ?_
          refine j_getR (n' := 48) F fl_X7_26 kap_0 rfl dX7_findRest_45 rfl ?_
          refine j_aload_0 (n' := 49) F dX7_findRest_48 rfl ?_
          refine j_getR (n' := 52) F fl_X7_54 kap_0 rfl dX7_findRest_49 rfl ?_
          refine j_iconst (n' := 53) F dX7_findRest_52 rfl ?_
          refine j_aload_0 (n' := 54) F dX7_findRest_53 rfl ?_
          refine j_getR (n' := 57) F fl_X7_26 kap_0 rfl dX7_findRest_54 rfl ?_
          refine j_cV0i (n' := 60) F kl_X7_123 (c_Txt_size) kap_7 rfl (by decide) (Nat.le_of_ble_eq_true rfl) dX7_findRest_57 rfl (fun z3 φ3 h3 => ?_)
          obtain ⟨rfl, rfl⟩ := h3
          refine j_aload_0 (n' := 61) F dX7_findRest_60 rfl ?_
          refine j_getR (n' := 64) F fl_X7_57 kap_0 rfl dX7_findRest_61 rfl ?_
          refine j_cV5v (n' := 67) F kl_X7_237 (c_Cho_choose (by omega) hal2 (by rw [v7, v8]; exact c5) kap_94 kap_95 (Or.inr rfl) h3 kap_97 kap_98 (Or.inr ⟨rfl, rfl⟩) (by omega)) kap_37 rfl (by decide) (Nat.le_of_ble_eq_true rfl) dX7_findRest_64 rfl (fun z4 φ4 h4 => ?_)
          obtain ⟨hr, hf⟩ := h4
          rw [v7, v8] at hr
          have p95 : φ4 95 = ψ 95 := funext fun b => hf 95 b (by omega)
          refine j_aload_0 (n' := 68) F dX7_findRest_67 rfl ?_
          refine j_aload_0 (n' := 69) F dX7_findRest_68 rfl ?_
          refine j_getR (n' := 72) F fl_X7_54 kap_0 rfl dX7_findRest_69 rfl ?_
          refine j_aload_0 (n' := 73) F dX7_findRest_72 rfl ?_
          refine j_getR (n' := 76) F fl_X7_57 kap_0 rfl dX7_findRest_73 rfl ?_
          refine j_cV1i (n' := 79) F kl_X7_137 (c_Pri_ofRow kap_94 kap_95 (by rw [p95]; exact h3) kap_97 kap_98 hr tkk.2 tkk.1) kap_94 rfl (by decide) (Nat.le_of_ble_eq_true rfl) dX7_findRest_76 rfl (fun z5 φ5 h5 => ?_)
          obtain ⟨rfl, rfl⟩ := h5
          refine j_putI (n' := 82) F 12 rfl fp_X7_71 kap_0 rfl rfl dX7_findRest_79 rfl (fun φ6 e6 => ?_)
          refine j_aload_0 (n' := 83) F dX7_findRest_82 rfl ?_
          refine j_aload_0 (n' := 84) F dX7_findRest_83 rfl ?_
          refine j_getR (n' := 87) F fl_X7_57 kap_0 rfl dX7_findRest_84 rfl ?_
          refine j_cV0i (n' := 90) F kl_X7_184 (c_Row_size kap_97) kap_97 rfl (by decide) (Nat.le_of_ble_eq_true rfl) dX7_findRest_87 rfl (fun z7 φ7 h7 => ?_)
          obtain ⟨rfl, rfl⟩ := h7
          refine j_putI (n' := 93) F 13 rfl fp_X7_74 kap_0 rfl rfl dX7_findRest_90 rfl (fun φ8 e8 => ?_)
          have s95 : φ8 95 = ψ 95 := by rw [e8, zU_off (by omega), e6, zU_off (by omega)]; exact p95
          have hr3 : rowIs φ8 97 98 (toks (ψ 95) (φ 8) 0 (φ 7 2)) := hr.fr (fun b => by rw [e8, zU_ne (by omega), e6, zU_ne (by omega)]) (fun b => by rw [e8, zU_ne (by omega), e6, zU_ne (by omega)])
          refine j_aload_0 (n' := 94) F dX7_findRest_93 rfl ?_
          refine j_getR (n' := 97) F fl_X7_54 kap_0 rfl dX7_findRest_94 rfl ?_
          refine j_aload_0 (n' := 98) F dX7_findRest_97 rfl ?_
          refine j_getR (n' := 101) F fl_X7_57 kap_0 rfl dX7_findRest_98 rfl ?_
          refine j_cV1i (n' := 104) F kl_X7_161 (c_Pri_follow kap_94 kap_95 kap_96 (by decide) kap_97 kap_98 (by decide) (by decide) (by decide) (by decide) hr3 tkk.2 tkk.1 (fun b q1 q2 => by rw [s95]; have := h3 b q1 q2; omega)) kap_94 rfl (by decide) (Nat.le_of_ble_eq_true rfl) dX7_findRest_101 rfl (fun z9 φ9 h9 => ?_)
          obtain ⟨fa, fb, rfl⟩ := h9
          rw [s95] at fa
          have kx : ∀ b, b ≠ 11 → b ≠ 12 → b ≠ 13 → φ9 0 b = φ 0 b := fun b k1 k2 k3 => by
            rw [fb 0 b (by omega), e8, zU_ne (by omega), e6, zU_ne (by omega), hf 0 b (by omega)]
            exact h6 b k1 k2 k3
          have ky : frC (fun a => a = 0 ∨ a = 37 ∨ (39 ≤ a ∧ a < 64) ∨ (65 ≤ a ∧ a < 90) ∨ a = 95 ∨ a = 96 ∨ a = 97 ∨ a = 98) φ φ9 := by
            refine frC.tr ?_ (fb.wk (fun a h => by omega))
            rw [e8, e6]
            exact (((h7.tr (hf.wk (fun a h => by omega))).put (by omega)).put (by omega))
          have k11 : φ9 0 11 = -1 := by
            rw [fb 0 11 (by omega), e8, zU_ne (by omega), e6, zU_ne (by omega), hf 0 11 (by omega)]
            exact h5
          have k12 : φ9 0 12 = rwSum (tkPrice (ψ 95)) (toks (ψ 95) (φ 8) 0 (φ 7 2)) := by
            rw [fb 0 12 (by omega), e8, zU_ne (by omega), e6, zU_self, p95]
          have k13 : φ9 0 13 = ((toks (ψ 95) (φ 8) 0 (φ 7 2)).length : Int) := by
            rw [fb 0 13 (by omega), e8, zU_self, e6, zU_ne (by omega)]
            exact hr.1
          have n95 : φ9 95 = newP (toks (ψ 95) (φ 8) 0 (φ 7 2)) (ψ 95) := funext fa
          rw [s95]
          refine j_if_ne (t := 112) (n' := 107) F (by omega) dX7_findRest_104 (by decide) rfl (fun c104_9 => ?_) (fun c104_9 => ?_)
          · refine j_iinc_1 (n' := 115) F (by decide) jc_r dX7_findRest_112 rfl ?_
            refine j_goto (t := 26) F dX7_findRest_115 (by decide) ?_
            rw [if_neg (by omega)] at h4
            exact fin (r + 1) φ9 (by omega) (by omega) (Or.inl (by omega)) (by omega) (by omega) (by rw [k11, k12, k13]; exact h4) kx ky
          · refine j_aload_0 (n' := 108) F dX7_findRest_107 rfl ?_
            refine j_iload_1 (n' := 109) F dX7_findRest_108 rfl ?_
            refine j_putI (n' := 112) F 11 rfl fp_X7_67 kap_0 rfl rfl dX7_findRest_109 rfl (fun φ11 e11 => ?_)
            refine j_iinc_1 (n' := 115) F (by decide) jc_r dX7_findRest_112 rfl ?_
            refine j_goto (t := 26) F dX7_findRest_115 (by decide) ?_
            rw [if_pos (by omega)] at h4
            exact fin (r + 1) φ11 (by omega) (by omega) (Or.inr (by rw [e11, zU_self]; omega)) (by rw [e11, zU_self]; omega) (by rw [e11, zU_self]; omega) (by rw [e11, zU_self, zU_ne (by omega), zU_ne (by omega), k12, k13]; exact h4) (fun b k1 k2 k3 => by rw [e11, zU_ne (by omega)]; exact kx b k1 k2 k3) (by rw [e11]; exact ky.put (by omega))
    | succ k ih =>
      intro r ψ h1 h2 h3 h4 h5 h6 h7
      have v7 : ψ 7 2 = φ 7 2 := h7 7 2 (by omega)
      have v8 : ψ 8 = φ 8 := funext fun b => h7 8 b (by omega)
      have hal2 : alOk ψ := c4.fr c3.2 (fun a ha b => h7 a b (by omega))
      have tkk := toks_ok (P := ψ 95) (t := φ 8) (f := 0) (e := φ 7 2) (by omega) (by omega) c5
      have tprb := rwSum_bd (f := tkPrice (ψ 95)) (B := 90) (ts := toks (ψ 95) (φ 8) 0 (φ 7 2)) (fun x _ => tkPrice_bd h3 x)
      have oth := othP_add (P := ψ 95) (P' := newP (toks (ψ 95) (φ 8) 0 (φ 7 2)) (ψ 95)) (lo := 0) (hi := 18) (a := 0) (by omega)
      rw [rsF] at h4
      refine j_iload_1 (n' := 27) F dX7_findRest_26 rfl ?_
      refine j_bipush (n' := 29) F dX7_findRest_27 (by decide) rfl ?_
      refine j_icmp_gt (t := 118) (n' := 32) F (by omega) (by omega) dX7_findRest_29 (by decide) rfl (fun c29_0 => ?_) (fun c29_0 => ?_)
      · omega
      · refine j_aload_0 (n' := 33) F dX7_findRest_32 rfl ?_
        refine j_getI (n' := 36) F 11 rfl fl_X7_67 kap_0 rfl dX7_findRest_33 rfl ?_
        refine j_iconst (n' := 37) F dX7_findRest_36 rfl ?_
        refine j_icmp_ne (t := 118) (n' := 40) F (by omega) (by omega) dX7_findRest_37 (by decide) rfl (fun c37_1 => ?_) (fun c37_1 => ?_)
        · omega
        · refine j_aload_0 (n' := 41) F dX7_findRest_40 rfl ?_
          refine j_getR (n' := 44) F fl_X7_40 kap_0 rfl dX7_findRest_41 rfl ?_
          refine j_aload_0 (n' := 45) F dX7_findRest_44 rfl ?_
          refine j_getR (n' := 48) F fl_X7_26 kap_0 rfl dX7_findRest_45 rfl ?_
          refine j_aload_0 (n' := 49) F dX7_findRest_48 rfl ?_
          refine j_getR (n' := 52) F fl_X7_54 kap_0 rfl dX7_findRest_49 rfl ?_
          refine j_iconst (n' := 53) F dX7_findRest_52 rfl ?_
          refine j_aload_0 (n' := 54) F dX7_findRest_53 rfl ?_
          refine j_getR (n' := 57) F fl_X7_26 kap_0 rfl dX7_findRest_54 rfl ?_
          refine j_cV0i (n' := 60) F kl_X7_123 (c_Txt_size) kap_7 rfl (by decide) (Nat.le_of_ble_eq_true rfl) dX7_findRest_57 rfl (fun z3 φ3 h3 => ?_)
          obtain ⟨rfl, rfl⟩ := h3
          refine j_aload_0 (n' := 61) F dX7_findRest_60 rfl ?_
          refine j_getR (n' := 64) F fl_X7_57 kap_0 rfl dX7_findRest_61 rfl ?_
          refine j_cV5v (n' := 67) F kl_X7_237 (c_Cho_choose (by omega) hal2 (by rw [v7, v8]; exact c5) kap_94 kap_95 (Or.inr rfl) h3 kap_97 kap_98 (Or.inr ⟨rfl, rfl⟩) (by omega)) kap_37 rfl (by decide) (Nat.le_of_ble_eq_true rfl) dX7_findRest_64 rfl (fun z4 φ4 h4 => ?_)
          obtain ⟨hr, hf⟩ := h4
          rw [v7, v8] at hr
          have p95 : φ4 95 = ψ 95 := funext fun b => hf 95 b (by omega)
          refine j_aload_0 (n' := 68) F dX7_findRest_67 rfl ?_
          refine j_aload_0 (n' := 69) F dX7_findRest_68 rfl ?_
          refine j_getR (n' := 72) F fl_X7_54 kap_0 rfl dX7_findRest_69 rfl ?_
          refine j_aload_0 (n' := 73) F dX7_findRest_72 rfl ?_
          refine j_getR (n' := 76) F fl_X7_57 kap_0 rfl dX7_findRest_73 rfl ?_
          refine j_cV1i (n' := 79) F kl_X7_137 (c_Pri_ofRow kap_94 kap_95 (by rw [p95]; exact h3) kap_97 kap_98 hr tkk.2 tkk.1) kap_94 rfl (by decide) (Nat.le_of_ble_eq_true rfl) dX7_findRest_76 rfl (fun z5 φ5 h5 => ?_)
          obtain ⟨rfl, rfl⟩ := h5
          refine j_putI (n' := 82) F 12 rfl fp_X7_71 kap_0 rfl rfl dX7_findRest_79 rfl (fun φ6 e6 => ?_)
          refine j_aload_0 (n' := 83) F dX7_findRest_82 rfl ?_
          refine j_aload_0 (n' := 84) F dX7_findRest_83 rfl ?_
          refine j_getR (n' := 87) F fl_X7_57 kap_0 rfl dX7_findRest_84 rfl ?_
          refine j_cV0i (n' := 90) F kl_X7_184 (c_Row_size kap_97) kap_97 rfl (by decide) (Nat.le_of_ble_eq_true rfl) dX7_findRest_87 rfl (fun z7 φ7 h7 => ?_)
          obtain ⟨rfl, rfl⟩ := h7
          refine j_putI (n' := 93) F 13 rfl fp_X7_74 kap_0 rfl rfl dX7_findRest_90 rfl (fun φ8 e8 => ?_)
          have s95 : φ8 95 = ψ 95 := by rw [e8, zU_off (by omega), e6, zU_off (by omega)]; exact p95
          have hr3 : rowIs φ8 97 98 (toks (ψ 95) (φ 8) 0 (φ 7 2)) := hr.fr (fun b => by rw [e8, zU_ne (by omega), e6, zU_ne (by omega)]) (fun b => by rw [e8, zU_ne (by omega), e6, zU_ne (by omega)])
          refine j_aload_0 (n' := 94) F dX7_findRest_93 rfl ?_
          refine j_getR (n' := 97) F fl_X7_54 kap_0 rfl dX7_findRest_94 rfl ?_
          refine j_aload_0 (n' := 98) F dX7_findRest_97 rfl ?_
          refine j_getR (n' := 101) F fl_X7_57 kap_0 rfl dX7_findRest_98 rfl ?_
          refine j_cV1i (n' := 104) F kl_X7_161 (c_Pri_follow kap_94 kap_95 kap_96 (by decide) kap_97 kap_98 (by decide) (by decide) (by decide) (by decide) hr3 tkk.2 tkk.1 (fun b q1 q2 => by rw [s95]; have := h3 b q1 q2; omega)) kap_94 rfl (by decide) (Nat.le_of_ble_eq_true rfl) dX7_findRest_101 rfl (fun z9 φ9 h9 => ?_)
          obtain ⟨fa, fb, rfl⟩ := h9
          rw [s95] at fa
          have kx : ∀ b, b ≠ 11 → b ≠ 12 → b ≠ 13 → φ9 0 b = φ 0 b := fun b k1 k2 k3 => by
            rw [fb 0 b (by omega), e8, zU_ne (by omega), e6, zU_ne (by omega), hf 0 b (by omega)]
            exact h6 b k1 k2 k3
          have ky : frC (fun a => a = 0 ∨ a = 37 ∨ (39 ≤ a ∧ a < 64) ∨ (65 ≤ a ∧ a < 90) ∨ a = 95 ∨ a = 96 ∨ a = 97 ∨ a = 98) φ φ9 := by
            refine frC.tr ?_ (fb.wk (fun a h => by omega))
            rw [e8, e6]
            exact (((h7.tr (hf.wk (fun a h => by omega))).put (by omega)).put (by omega))
          have k11 : φ9 0 11 = -1 := by
            rw [fb 0 11 (by omega), e8, zU_ne (by omega), e6, zU_ne (by omega), hf 0 11 (by omega)]
            exact h5
          have k12 : φ9 0 12 = rwSum (tkPrice (ψ 95)) (toks (ψ 95) (φ 8) 0 (φ 7 2)) := by
            rw [fb 0 12 (by omega), e8, zU_ne (by omega), e6, zU_self, p95]
          have k13 : φ9 0 13 = ((toks (ψ 95) (φ 8) 0 (φ 7 2)).length : Int) := by
            rw [fb 0 13 (by omega), e8, zU_self, e6, zU_ne (by omega)]
            exact hr.1
          have n95 : φ9 95 = newP (toks (ψ 95) (φ 8) 0 (φ 7 2)) (ψ 95) := funext fa
          rw [s95]
          refine j_if_ne (t := 112) (n' := 107) F (by omega) dX7_findRest_104 (by decide) rfl (fun c104_9 => ?_) (fun c104_9 => ?_)
          · refine j_iinc_1 (n' := 115) F (by decide) jc_r dX7_findRest_112 rfl ?_
            refine j_goto (t := 26) F dX7_findRest_115 (by decide) ?_
            rw [if_neg (by omega)] at h4
            exact ih (r + 1) φ9 (by omega) (by omega) (by rw [n95]; exact newP_ok) (by rw [n95]; exact h4) k11 kx ky
          · refine j_aload_0 (n' := 108) F dX7_findRest_107 rfl ?_
            refine j_iload_1 (n' := 109) F dX7_findRest_108 rfl ?_
            refine j_putI (n' := 112) F 11 rfl fp_X7_67 kap_0 rfl rfl dX7_findRest_109 rfl (fun φ11 e11 => ?_)
            refine j_iinc_1 (n' := 115) F (by decide) jc_r dX7_findRest_112 rfl ?_
            refine j_goto (t := 26) F dX7_findRest_115 (by decide) ?_
            rw [if_pos (by omega)] at h4
            exact fin (r + 1) φ11 (by omega) (by omega) (Or.inr (by rw [e11, zU_self]; omega)) (by rw [e11, zU_self]; omega) (by rw [e11, zU_self]; omega) (by rw [e11, zU_self, zU_ne (by omega), zU_ne (by omega), k12, k13]; exact h4) (fun b k1 k2 k3 => by rw [e11, zU_ne (by omega)]; exact kx b k1 k2 k3) (by rw [e11]; exact ky.put (by omega))
  refine j_aload_0 (n' := 1) F dX7_findRest_0 rfl ?_
  refine j_getI (n' := 4) F 10 rfl fl_X7_64 kap_0 rfl dX7_findRest_1 rfl ?_
  refine j_if_eq (t := 8) (n' := 7) F (by omega) dX7_findRest_4 (by decide) rfl (fun c4_0 => ?_) (fun c4_0 => ?_)
  · refine j_aload_0 (n' := 9) F dX7_findRest_8 rfl ?_
    refine j_iconst (n' := 10) F dX7_findRest_9 rfl ?_
    refine j_putI (n' := 13) F 11 rfl fp_X7_67 kap_0 rfl rfl dX7_findRest_10 rfl (fun φ2 e2 => ?_)
    refine j_aload_0 (n' := 14) F dX7_findRest_13 rfl ?_
    refine j_getR (n' := 17) F fl_X7_54 kap_0 rfl dX7_findRest_14 rfl ?_
    refine j_aload_0 (n' := 18) F dX7_findRest_17 rfl ?_
    refine j_getR (n' := 21) F fl_X7_33 kap_0 rfl dX7_findRest_18 rfl ?_
    refine j_cV1v (n' := 24) F kl_X7_259 (c_Pri_take kap_94 kap_95 kap_34 kap_35 (by decide)) kap_94 rfl (by decide) (Nat.le_of_ble_eq_true rfl) dX7_findRest_21 rfl (fun z3 φ3 h3 => ?_)
    have ht3 := h3
    refine j_iconst (n' := 25) F dX7_findRest_24 rfl ?_
    refine j_istore_1 (n' := 26) F (by decide) jc_r dX7_findRest_25 rfl ?_
    obtain ⟨ta, tb⟩ := ht3
    have m1 : ∀ b, φ2 35 b = φ 35 b := fun b => by rw [e2, zU_ne (by omega)]
    refine j_junk (φ' := fun a b => if a = 95 then φ 35 b else φ3 a b) kap_95 (fun a b q => ?_) ?_
    · by_cases qa : a = 95
      · subst qa
        try dsimp only
        rw [if_pos rfl, ta, if_pos (by omega), m1]
      · try dsimp only
        rw [if_neg qa]
    refine main 12 0 _ (by omega) (by omega) ?_ ?_ ?_ (fun b k1 k2 k3 => ?_) (fun a b q => ?_)
    · exact fun k k1 k2 => by
        try dsimp only
        rw [if_pos rfl]
        exact c6 k k1 k2
    · rfl
    · try dsimp only
      rw [if_neg (by omega), tb 0 11 (by omega), e2, zU_self]
    · try dsimp only
      rw [if_neg (by omega), tb 0 b (by omega), e2, zU_ne (by omega)]
    · try dsimp only
      rw [if_neg (by omega), tb a b (by omega), e2, zU_ne (by omega)]
  · refine j_return F E dX7_findRest_7 ?_
    rcases rs with g | g
    · omega
    · exact ⟨g.2, hc, fun _ _ _ _ _ => rfl, frC.rf⟩
set_option maxRecDepth 20000 in
theorem c_Cla_rest {l : Launch} {G : jG} {B0 : Nat} {φ : jPhi} {x : Int} (hc : ciOk φ) (hx : -2147483648 ≤ x ∧ x ≤ 2147483647) : jC l G B0 κF 113 yX7_rest cX7_rest 2 (some .int) 5 [rf B0 0, iv x] φ mkI (fun z φ' => (z, pubC φ') = spRest (pubC φ) x ∧ ciOk φ' ∧ frC (fun a => a < 99) φ φ') := by
  refine jC_start RX7 [some (rf B0 0), some (iv x)] (by decide) rfl (Nat.le_of_ble_eq_true rfl) rfl (fun X Q F E => ?_)
  have hc0 := hc
  obtain ⟨⟨c1, c2, c3, c4, c5, c6⟩, ch, rs⟩ := hc0
  refine j_aload_0 (n' := 1) F dX7_rest_0 rfl ?_
  refine j_cV0i (n' := 4) F kl_X7_155 (c_Cla_hasText c3) kap_0 rfl (by decide) (Nat.le_of_ble_eq_true rfl) dX7_rest_1 rfl (fun z1 φ1 h1 => ?_)
  obtain ⟨rfl, rfl⟩ := h1
  refine j_if_ne (t := 11) (n' := 7) F (by first | omega | (split <;> omega)) dX7_rest_4 (by decide) rfl (fun c4_1 => ?_) (fun c4_1 => ?_)
  · refine j_iload_1 (n' := 12) F dX7_rest_11 rfl ?_
    refine j_if_lt (t := 20) (n' := 15) F (by first | omega | (split <;> omega)) dX7_rest_12 (by decide) rfl (fun c12_2 => ?_) (fun c12_2 => ?_)
    · refine j_sipush (n' := 23) F dX7_rest_20 (by decide) rfl ?_
      exact j_ireturn F E dX7_rest_23 (⟨by unfold spRest pubC; dsimp only; rw [if_neg (by split at * <;> omega), if_pos (by omega)], hc, frC.rf⟩)
    · refine j_iload_1 (n' := 16) F dX7_rest_15 rfl ?_
      refine j_iconst (n' := 17) F dX7_rest_16 rfl ?_
      refine j_icmp_le (t := 24) (n' := 20) F (by first | omega | (split <;> omega)) (by first | omega | (split <;> omega)) dX7_rest_17 (by decide) rfl (fun c17_3 => ?_) (fun c17_3 => ?_)
      · refine j_aload_0 (n' := 25) F dX7_rest_24 rfl ?_
        refine j_cV0v (n' := 28) F kl_X7_164 (c_Cla_findRest hc) kap_0 rfl (by decide) (Nat.le_of_ble_eq_true rfl) dX7_rest_25 rfl (fun z5 φ5 h5 => ?_)
        obtain ⟨hres, hci, hz, hf⟩ := h5
        refine j_iload_1 (n' := 29) F dX7_rest_28 rfl ?_
        refine j_if_ne (t := 37) (n' := 32) F (by first | omega | (split <;> omega)) dX7_rest_29 (by decide) rfl (fun c29_5 => ?_) (fun c29_5 => ?_)
        · refine j_iload_1 (n' := 38) F dX7_rest_37 rfl ?_
          refine j_iconst (n' := 39) F dX7_rest_38 rfl ?_
          refine j_icmp_ne (t := 49) (n' := 42) F (by first | omega | (split <;> omega)) (by first | omega | (split <;> omega)) dX7_rest_39 (by decide) rfl (fun c39_6 => ?_) (fun c39_6 => ?_)
          · refine j_aload_0 (n' := 50) F dX7_rest_49 rfl ?_
            refine j_getI (n' := 53) F 13 rfl fl_X7_74 kap_0 rfl dX7_rest_50 rfl ?_
            refine j_ireturn F E dX7_rest_53 ?_
            have hn : 0 < φ 7 2 := by split at * <;> omega
            refine ⟨?_, hci, hf.wk (fun a h => by omega)⟩
            rw [pubC_fr (φ := φ) (fun a ha b => hf a b (by omega)) (fun b hb => hz b (by omega) (by omega) (by omega) (by omega))]
            unfold spRest pubC
            dsimp only
            rw [if_neg (by omega), if_neg (by omega), rstV, ← hres]
            first | (rw [if_neg (by omega), if_pos (by omega)]; done) | (rw [if_neg (by omega), if_neg (by omega)]; done)
          · refine j_aload_0 (n' := 43) F dX7_rest_42 rfl ?_
            refine j_getI (n' := 46) F 12 rfl fl_X7_71 kap_0 rfl dX7_rest_43 rfl ?_
            refine j_goto (t := 53) F dX7_rest_46 (by decide) ?_
            refine j_ireturn F E dX7_rest_53 ?_
            have hn : 0 < φ 7 2 := by split at * <;> omega
            refine ⟨?_, hci, hf.wk (fun a h => by omega)⟩
            rw [pubC_fr (φ := φ) (fun a ha b => hf a b (by omega)) (fun b hb => hz b (by omega) (by omega) (by omega) (by omega))]
            unfold spRest pubC
            dsimp only
            rw [if_neg (by omega), if_neg (by omega), rstV, ← hres]
            first | (rw [if_neg (by omega), if_pos (by omega)]; done) | (rw [if_neg (by omega), if_neg (by omega)]; done)
        · refine j_aload_0 (n' := 33) F dX7_rest_32 rfl ?_
          refine j_getI (n' := 36) F 11 rfl fl_X7_67 kap_0 rfl dX7_rest_33 rfl ?_
          refine j_ireturn F E dX7_rest_36 ?_
          have hn : 0 < φ 7 2 := by split at * <;> omega
          refine ⟨?_, hci, hf.wk (fun a h => by omega)⟩
          rw [pubC_fr (φ := φ) (fun a ha b => hf a b (by omega)) (fun b hb => hz b (by omega) (by omega) (by omega) (by omega))]
          unfold spRest pubC
          dsimp only
          rw [if_neg (by omega), if_neg (by omega), rstV, ← hres]
          rw [if_pos (by omega)]
      · refine j_sipush (n' := 23) F dX7_rest_20 (by decide) rfl ?_
        exact j_ireturn F E dX7_rest_23 (⟨by unfold spRest pubC; dsimp only; rw [if_neg (by split at * <;> omega), if_pos (by omega)], hc, frC.rf⟩)
  · refine j_sipush (n' := 10) F dX7_rest_7 (by decide) rfl ?_
    exact j_ireturn F E dX7_rest_10 (⟨by unfold spRest pubC; dsimp only; rw [if_pos (by split at * <;> omega)], hc, frC.rf⟩)
theorem grF_ok {t : Int → Int} {n : Int} (hn : n ≤ 24) (ht : txOk t n) : ∀ (k : Nat) (p la : Int), 0 ≤ p → rwOk (grF t n k p la) ∧ (grF t n k p la).length ≤ k
  | 0, p, la, _ => ⟨fun x hx => by simp [grF] at hx, by simp [grF]⟩
  | k + 1, p, la, h0 => by
    have hlb := lik_bd t n 8 p
    have hfb := far_bd (f := lik t n 8 p) (p := p) h0 (fun d => ⟨(hlb d).1, (hlb d).2.1⟩)
    rw [grF]
    by_cases h1 : p < n
    · rw [if_pos h1]
      by_cases h2 : (farOf' (lik t n 8 p) p).1 = 0
      · rw [if_pos h2]
        have ih := grF_ok hn ht k (p + 1) la (by omega)
        have hc := ht p h0 h1
        refine ⟨fun x hx => ?_, by simp; omega⟩
        rcases List.mem_cons.mp hx with h | h
        · rw [h]; unfold tkOk; omega
        · exact ih.1 x h
      · rw [if_neg h2]
        generalize (farOf' (lik t n 8 p) p).1 = f at *
        have hl := hlb f
        have ih := grF_ok hn ht k (p + lik t n 8 p f) f (by omega)
        refine ⟨fun x hx => ?_, by simp; omega⟩
        rcases List.mem_cons.mp hx with h | h
        · rw [h]
          split
          · exact (tk_again (j := lik t n 8 p f) (by omega) 0).1
          · exact (tk_copy (j := lik t n 8 p f) (d := f) (by omega) (by omega) 0).1
        · exact ih.1 x h
    · rw [if_neg h1]
      exact ⟨fun x hx => by simp at hx, by simp⟩
set_option maxRecDepth 20000 in
theorem c_Cla_chooseGreedy {l : Launch} {G : jG} {B0 : Nat} {φ : jPhi}  (hc : ciOk φ) : jC l G B0 κF 113 yX7_chooseGreedy cX7_chooseGreedy 5 none 2 [rf B0 0] φ mkV (fun z φ' => rowIs φ' 92 93 (grR (φ 8) (φ 7 2)) ∧ frC (fun a => a = 92 ∨ a = 93) φ φ') := by
  refine jC_start RX7 [some (rf B0 0), none, none, none, none] (by decide) rfl (Nat.le_of_ble_eq_true rfl) rfl (fun X Q F E => ?_)
  have hc0 := hc
  obtain ⟨⟨c1, c2, c3, c4, c5, c6⟩, ch, rs⟩ := hc0
  have loop : ∀ (k : Nat) (p la : Int) (ac : List Int) (ψ : jPhi), φ 7 2 - p ≤ k → 0 ≤ p → p ≤ 24 → 0 ≤ la → la ≤ 24 → ac.length + k ≤ 24 → rowIs ψ 92 93 ac → ac ++ grF (φ 8) (φ 7 2) k p la = grR (φ 8) (φ 7 2) → frC (fun a => a = 92 ∨ a = 93) φ ψ → jJ X G B0 κF 113 0 0 Q 5 ψ 11 [some (rf B0 0), some (iv la), some (iv p), none, none] [] := by
    intro k
    induction k with
    | zero =>
      intro p la ac ψ h1 h2 h3 h4 h5 h6 h7 h8 h9
      have v7 : ψ 7 2 = φ 7 2 := h9 7 2 (by omega)
      rw [grF, List.append_nil] at h8
      refine j_iload_2 (n' := 12) F dX7_chooseGreedy_11 rfl ?_
      refine j_aload_0 (n' := 13) F dX7_chooseGreedy_12 rfl ?_
      refine j_getR (n' := 16) F fl_X7_26 kap_0 rfl dX7_chooseGreedy_13 rfl ?_
      refine j_cV0i (n' := 19) F kl_X7_123 (c_Txt_size) kap_7 rfl (by decide) (Nat.le_of_ble_eq_true rfl) dX7_chooseGreedy_16 rfl (fun z1 φ1 h1 => ?_)
      obtain ⟨rfl, rfl⟩ := h1
      refine j_icmp_ge (t := 107) (n' := 22) F (by omega) (by omega) dX7_chooseGreedy_19 (by decide) rfl (fun c19_1 => ?_) (fun c19_1 => ?_)
      · exact j_return F E dX7_chooseGreedy_107 (⟨h8 ▸ h7, h9⟩)
      · omega
    | succ k ih =>
      intro p la ac ψ h1 h2 h3 h4 h5 h6 h7 h8 h9
      have v7 : ψ 7 2 = φ 7 2 := h9 7 2 (by omega)
      have v8 : ψ 8 = φ 8 := funext fun b => h9 8 b (by omega)
      have hal2 : alOk ψ := c4.fr c3.2 (fun a ha b => h9 a b (by omega))
      rw [grF] at h8
      by_cases hpn : p < φ 7 2
      · rw [if_pos hpn] at h8
        have hcp := c5 p h2 hpn
        have hlb := lik_bd (φ 8) (φ 7 2) 8 p
        have hfb := far_bd (f := lik (φ 8) (φ 7 2) 8 p) (p := p) h2 (fun d => ⟨(hlb d).1, (hlb d).2.1⟩)
        have hlk : ∀ d, 1 ≤ d → d ≤ p → (if p < ψ 7 2 ∧ 1 ≤ d ∧ d ≤ p then ψ (10 + p) d else 0) = lik (φ 8) (φ 7 2) 8 p d := fun d q1 q2 => by
          rw [if_pos (by omega), hal2 p d q1 q2 (by omega), v7, v8]
        have hfl := hlb (farOf' (lik (φ 8) (φ 7 2) 8 p) p).1
        have hfe := hfl.2.2 (by omega)
        refine j_iload_2 (n' := 12) F dX7_chooseGreedy_11 rfl ?_
        refine j_aload_0 (n' := 13) F dX7_chooseGreedy_12 rfl ?_
        refine j_getR (n' := 16) F fl_X7_26 kap_0 rfl dX7_chooseGreedy_13 rfl ?_
        refine j_cV0i (n' := 19) F kl_X7_123 (c_Txt_size) kap_7 rfl (by decide) (Nat.le_of_ble_eq_true rfl) dX7_chooseGreedy_16 rfl (fun z1 φ1 h1 => ?_)
        obtain ⟨rfl, rfl⟩ := h1
        refine j_icmp_ge (t := 107) (n' := 22) F (by omega) (by omega) dX7_chooseGreedy_19 (by decide) rfl (fun c19_1 => ?_) (fun c19_1 => ?_)
        · omega
        · refine j_aload_0 (n' := 23) F dX7_chooseGreedy_22 rfl ?_
          refine j_getR (n' := 26) F fl_X7_26 kap_0 rfl dX7_chooseGreedy_23 rfl ?_
          refine j_iload_2 (n' := 27) F dX7_chooseGreedy_26 rfl ?_
          refine j_cV1i (n' := 30) F kl_X7_173 (c_Txt_longestDistance (by omega) hal2 (by omega)) kap_7 rfl (by decide) (Nat.le_of_ble_eq_true rfl) dX7_chooseGreedy_27 rfl (fun z3 φ3 h3 => ?_)
          obtain ⟨rfl, rfl⟩ := h3
          rw [v7, v8]
          refine j_istore_3 (n' := 31) F (by decide) jc_i dX7_chooseGreedy_30 rfl ?_
          refine j_iload_3 (n' := 32) F dX7_chooseGreedy_31 rfl ?_
          refine j_if_ne (t := 56) (n' := 35) F (by omega) dX7_chooseGreedy_32 (by decide) rfl (fun c32_3 => ?_) (fun c32_3 => ?_)
          · refine j_aload_0 (n' := 57) F dX7_chooseGreedy_56 rfl ?_
            refine j_getR (n' := 60) F fl_X7_26 kap_0 rfl dX7_chooseGreedy_57 rfl ?_
            refine j_iload_2 (n' := 61) F dX7_chooseGreedy_60 rfl ?_
            refine j_iload_3 (n' := 62) F dX7_chooseGreedy_61 rfl ?_
            refine j_cV2i (n' := 65) F kl_X7_176 (c_Txt_likeness (by omega) (by omega) (by omega)) kap_7 rfl (by decide) (Nat.le_of_ble_eq_true rfl) dX7_chooseGreedy_62 rfl (fun z5 φ5 h5 => ?_)
            obtain ⟨rfl, rfl⟩ := h5
            rw [hlk _ (by omega) (by omega)]
            refine j_istore_4 (n' := 67) F (by decide) jc_i dX7_chooseGreedy_65 rfl ?_
            refine j_aload_0 (n' := 68) F dX7_chooseGreedy_67 rfl ?_
            refine j_getR (n' := 71) F fl_X7_51 kap_0 rfl dX7_chooseGreedy_68 rfl ?_
            refine j_iload_3 (n' := 72) F dX7_chooseGreedy_71 rfl ?_
            refine j_iload_1 (n' := 73) F dX7_chooseGreedy_72 rfl ?_
            refine j_icmp_ne (t := 84) (n' := 76) F (by omega) (by omega) dX7_chooseGreedy_73 (by decide) rfl (fun c73_5 => ?_) (fun c73_5 => ?_)
            · refine j_iload_3 (n' := 85) F dX7_chooseGreedy_84 rfl ?_
              refine j_iload_4 (n' := 87) F dX7_chooseGreedy_85 rfl ?_
              refine j_cS2i (n' := 90) F kl_X7_248 (c_Tok_copy) (by decide) (Nat.le_of_ble_eq_true rfl) dX7_chooseGreedy_87 rfl (fun z7 φ7 h7 => ?_)
              obtain ⟨rfl, rfl⟩ := h7
              refine j_cV1v (n' := 93) F kl_X7_242 (c_Row_add kap_92 kap_93 (by decide) h7 (by omega) (by omega)) kap_92 rfl (by decide) (Nat.le_of_ble_eq_true rfl) dX7_chooseGreedy_90 rfl (fun z8 φ8 h8 => ?_)
              obtain ⟨hr8, hf8⟩ := h8
              refine j_iload_3 (n' := 94) F dX7_chooseGreedy_93 rfl ?_
              refine j_istore_1 (n' := 95) F (by decide) jc_r dX7_chooseGreedy_94 rfl ?_
              refine j_iload_2 (n' := 96) F dX7_chooseGreedy_95 rfl ?_
              refine j_iconst (n' := 97) F dX7_chooseGreedy_96 rfl ?_
              refine j_iload_4 (n' := 99) F dX7_chooseGreedy_97 rfl ?_
              refine j_max (n' := 102) F q_558 (by decide) (Nat.le_of_ble_eq_true rfl) (by omega) (by omega) dX7_chooseGreedy_99 rfl ?_
              rw [show max 2 (lik (φ 8) (φ 7 2) 8 p (farOf' (lik (φ 8) (φ 7 2) 8 p) p).1) = lik (φ 8) (φ 7 2) 8 p (farOf' (lik (φ 8) (φ 7 2) 8 p) p).1 by omega]
              refine j_iadd (n' := 103) F dX7_chooseGreedy_102 rfl ?_
              refine j_istore_2 (n' := 104) F (by decide) jc_i dX7_chooseGreedy_103 rfl ?_
              refine j_goto (t := 11) F dX7_chooseGreedy_104 (by decide) ?_
              first
                | (rw [if_pos (by omega)] at h8
                   exact j_weak (by exact ⟨rfl, rfl, rfl, trivial⟩) (ih (p + 1) la (ac ++ [φ 8 p]) φ8 (by omega) (by omega) (by omega) (by omega) (by omega) (by simp; omega) hr8 (by rw [List.append_assoc]; exact h8) (h9.tr (hf8.wk (fun a h => by omega)))))
                | (rw [if_neg (by omega), if_pos (by omega)] at h8
                   exact j_weak (by exact ⟨rfl, rfl, rfl, trivial⟩) (ih (p + lik (φ 8) (φ 7 2) 8 p (farOf' (lik (φ 8) (φ 7 2) 8 p) p).1) (farOf' (lik (φ 8) (φ 7 2) 8 p) p).1 (ac ++ [100 + lik (φ 8) (φ 7 2) 8 p (farOf' (lik (φ 8) (φ 7 2) 8 p) p).1]) φ8 (by omega) (by omega) (by omega) (by omega) (by omega) (by simp; omega) hr8 (by rw [List.append_assoc]; exact h8) (h9.tr (hf8.wk (fun a h => by omega)))))
                | (rw [if_neg (by omega), if_neg (by omega)] at h8
                   exact j_weak (by exact ⟨rfl, rfl, rfl, trivial⟩) (ih (p + lik (φ 8) (φ 7 2) 8 p (farOf' (lik (φ 8) (φ 7 2) 8 p) p).1) (farOf' (lik (φ 8) (φ 7 2) 8 p) p).1 (ac ++ [1000 + 10 * (farOf' (lik (φ 8) (φ 7 2) 8 p) p).1 + lik (φ 8) (φ 7 2) 8 p (farOf' (lik (φ 8) (φ 7 2) 8 p) p).1]) φ8 (by omega) (by omega) (by omega) (by omega) (by omega) (by simp; omega) hr8 (by rw [List.append_assoc]; exact h8) (h9.tr (hf8.wk (fun a h => by omega)))))
            · refine j_iload_4 (n' := 78) F dX7_chooseGreedy_76 rfl ?_
              refine j_cS1i (n' := 81) F kl_X7_243 (c_Tok_again) (by decide) (Nat.le_of_ble_eq_true rfl) dX7_chooseGreedy_78 rfl (fun z9 φ9 h9 => ?_)
              obtain ⟨rfl, rfl⟩ := h9
              refine j_goto (t := 90) F dX7_chooseGreedy_81 (by decide) ?_
              refine j_cV1v (n' := 93) F kl_X7_242 (c_Row_add kap_92 kap_93 (by decide) h7 (by omega) (by omega)) kap_92 rfl (by decide) (Nat.le_of_ble_eq_true rfl) dX7_chooseGreedy_90 rfl (fun z10 φ10 h10 => ?_)
              obtain ⟨hr10, hf10⟩ := h10
              refine j_iload_3 (n' := 94) F dX7_chooseGreedy_93 rfl ?_
              refine j_istore_1 (n' := 95) F (by decide) jc_r dX7_chooseGreedy_94 rfl ?_
              refine j_iload_2 (n' := 96) F dX7_chooseGreedy_95 rfl ?_
              refine j_iconst (n' := 97) F dX7_chooseGreedy_96 rfl ?_
              refine j_iload_4 (n' := 99) F dX7_chooseGreedy_97 rfl ?_
              refine j_max (n' := 102) F q_558 (by decide) (Nat.le_of_ble_eq_true rfl) (by omega) (by omega) dX7_chooseGreedy_99 rfl ?_
              rw [show max 2 (lik (φ 8) (φ 7 2) 8 p (farOf' (lik (φ 8) (φ 7 2) 8 p) p).1) = lik (φ 8) (φ 7 2) 8 p (farOf' (lik (φ 8) (φ 7 2) 8 p) p).1 by omega]
              refine j_iadd (n' := 103) F dX7_chooseGreedy_102 rfl ?_
              refine j_istore_2 (n' := 104) F (by decide) jc_i dX7_chooseGreedy_103 rfl ?_
              refine j_goto (t := 11) F dX7_chooseGreedy_104 (by decide) ?_
              first
                | (rw [if_pos (by omega)] at h8
                   exact j_weak (by exact ⟨rfl, rfl, rfl, trivial⟩) (ih (p + 1) la (ac ++ [φ 8 p]) φ10 (by omega) (by omega) (by omega) (by omega) (by omega) (by simp; omega) hr10 (by rw [List.append_assoc]; exact h8) (h9.tr (hf10.wk (fun a h => by omega)))))
                | (rw [if_neg (by omega), if_pos (by omega)] at h8
                   exact j_weak (by exact ⟨rfl, rfl, rfl, trivial⟩) (ih (p + lik (φ 8) (φ 7 2) 8 p (farOf' (lik (φ 8) (φ 7 2) 8 p) p).1) (farOf' (lik (φ 8) (φ 7 2) 8 p) p).1 (ac ++ [100 + lik (φ 8) (φ 7 2) 8 p (farOf' (lik (φ 8) (φ 7 2) 8 p) p).1]) φ10 (by omega) (by omega) (by omega) (by omega) (by omega) (by simp; omega) hr10 (by rw [List.append_assoc]; exact h8) (h9.tr (hf10.wk (fun a h => by omega)))))
                | (rw [if_neg (by omega), if_neg (by omega)] at h8
                   exact j_weak (by exact ⟨rfl, rfl, rfl, trivial⟩) (ih (p + lik (φ 8) (φ 7 2) 8 p (farOf' (lik (φ 8) (φ 7 2) 8 p) p).1) (farOf' (lik (φ 8) (φ 7 2) 8 p) p).1 (ac ++ [1000 + 10 * (farOf' (lik (φ 8) (φ 7 2) 8 p) p).1 + lik (φ 8) (φ 7 2) 8 p (farOf' (lik (φ 8) (φ 7 2) 8 p) p).1]) φ10 (by omega) (by omega) (by omega) (by omega) (by omega) (by simp; omega) hr10 (by rw [List.append_assoc]; exact h8) (h9.tr (hf10.wk (fun a h => by omega)))))
          · refine j_aload_0 (n' := 36) F dX7_chooseGreedy_35 rfl ?_
            refine j_getR (n' := 39) F fl_X7_51 kap_0 rfl dX7_chooseGreedy_36 rfl ?_
            refine j_aload_0 (n' := 40) F dX7_chooseGreedy_39 rfl ?_
            refine j_getR (n' := 43) F fl_X7_26 kap_0 rfl dX7_chooseGreedy_40 rfl ?_
            refine j_iload_2 (n' := 44) F dX7_chooseGreedy_43 rfl ?_
            refine j_cV1i (n' := 47) F kl_X7_170 (c_Txt_letterAt (by omega) (by omega)) kap_7 rfl (by decide) (Nat.le_of_ble_eq_true rfl) dX7_chooseGreedy_44 rfl (fun z11 φ11 h11 => ?_)
            obtain ⟨rfl, rfl⟩ := h11
            rw [if_pos (by omega), v8]
            refine j_cV1v (n' := 50) F kl_X7_242 (c_Row_add kap_92 kap_93 (by decide) h7 (by omega) (by omega)) kap_92 rfl (by decide) (Nat.le_of_ble_eq_true rfl) dX7_chooseGreedy_47 rfl (fun z12 φ12 h12 => ?_)
            obtain ⟨hr12, hf12⟩ := h12
            refine j_iinc_2 (n' := 53) F (by decide) jc_i dX7_chooseGreedy_50 rfl ?_
            refine j_goto (t := 104) F dX7_chooseGreedy_53 (by decide) ?_
            refine j_goto (t := 11) F dX7_chooseGreedy_104 (by decide) ?_
            first
              | (rw [if_pos (by omega)] at h8
                 exact j_weak (by exact ⟨rfl, rfl, rfl, trivial⟩) (ih (p + 1) la (ac ++ [φ 8 p]) φ12 (by omega) (by omega) (by omega) (by omega) (by omega) (by simp; omega) hr12 (by rw [List.append_assoc]; exact h8) (h9.tr (hf12.wk (fun a h => by omega)))))
              | (rw [if_neg (by omega), if_pos (by omega)] at h8
                 exact j_weak (by exact ⟨rfl, rfl, rfl, trivial⟩) (ih (p + lik (φ 8) (φ 7 2) 8 p (farOf' (lik (φ 8) (φ 7 2) 8 p) p).1) (farOf' (lik (φ 8) (φ 7 2) 8 p) p).1 (ac ++ [100 + lik (φ 8) (φ 7 2) 8 p (farOf' (lik (φ 8) (φ 7 2) 8 p) p).1]) φ12 (by omega) (by omega) (by omega) (by omega) (by omega) (by simp; omega) hr12 (by rw [List.append_assoc]; exact h8) (h9.tr (hf12.wk (fun a h => by omega)))))
              | (rw [if_neg (by omega), if_neg (by omega)] at h8
                 exact j_weak (by exact ⟨rfl, rfl, rfl, trivial⟩) (ih (p + lik (φ 8) (φ 7 2) 8 p (farOf' (lik (φ 8) (φ 7 2) 8 p) p).1) (farOf' (lik (φ 8) (φ 7 2) 8 p) p).1 (ac ++ [1000 + 10 * (farOf' (lik (φ 8) (φ 7 2) 8 p) p).1 + lik (φ 8) (φ 7 2) 8 p (farOf' (lik (φ 8) (φ 7 2) 8 p) p).1]) φ12 (by omega) (by omega) (by omega) (by omega) (by omega) (by simp; omega) hr12 (by rw [List.append_assoc]; exact h8) (h9.tr (hf12.wk (fun a h => by omega)))))
      · rw [if_neg hpn, List.append_nil] at h8
        refine j_iload_2 (n' := 12) F dX7_chooseGreedy_11 rfl ?_
        refine j_aload_0 (n' := 13) F dX7_chooseGreedy_12 rfl ?_
        refine j_getR (n' := 16) F fl_X7_26 kap_0 rfl dX7_chooseGreedy_13 rfl ?_
        refine j_cV0i (n' := 19) F kl_X7_123 (c_Txt_size) kap_7 rfl (by decide) (Nat.le_of_ble_eq_true rfl) dX7_chooseGreedy_16 rfl (fun z1 φ1 h1 => ?_)
        obtain ⟨rfl, rfl⟩ := h1
        refine j_icmp_ge (t := 107) (n' := 22) F (by omega) (by omega) dX7_chooseGreedy_19 (by decide) rfl (fun c19_1 => ?_) (fun c19_1 => ?_)
        · exact j_return F E dX7_chooseGreedy_107 (⟨h8 ▸ h7, h9⟩)
        · omega
  refine j_aload_0 (n' := 1) F dX7_chooseGreedy_0 rfl ?_
  refine j_getR (n' := 4) F fl_X7_51 kap_0 rfl dX7_chooseGreedy_1 rfl ?_
  refine j_cV0v (n' := 7) F kl_X7_241 (c_Row_clear kap_92 (r := 93)) kap_92 rfl (by decide) (Nat.le_of_ble_eq_true rfl) dX7_chooseGreedy_4 rfl (fun z1 φ1 h1 => ?_)
  obtain ⟨hr0, hf0⟩ := h1
  refine j_iconst (n' := 8) F dX7_chooseGreedy_7 rfl ?_
  refine j_istore_1 (n' := 9) F (by decide) jc_r dX7_chooseGreedy_8 rfl ?_
  refine j_iconst (n' := 10) F dX7_chooseGreedy_9 rfl ?_
  refine j_istore_2 (n' := 11) F (by decide) jc_i dX7_chooseGreedy_10 rfl ?_
  exact loop 24 0 0 [] φ1 (by omega) (by omega) (by omega) (by omega) (by omega) (by simp) hr0 rfl (hf0.wk (fun a h => by omega))
set_option maxRecDepth 20000 in
theorem c_Cla_greedy {l : Launch} {G : jG} {B0 : Nat} {φ : jPhi} {x : Int} (hc : ciOk φ) (hx : -2147483648 ≤ x ∧ x ≤ 2147483647) : jC l G B0 κF 113 yX7_greedy cX7_greedy 2 (some .int) 3 [rf B0 0, iv x] φ mkI (fun z φ' => (z, pubC φ') = spGre (pubC φ) x ∧ ciOk φ' ∧ frC (fun a => a < 99) φ φ') := by
  refine jC_start RX7 [some (rf B0 0), some (iv x)] (by decide) rfl (Nat.le_of_ble_eq_true rfl) rfl (fun X Q F E => ?_)
  have hc0 := hc
  obtain ⟨⟨c1, c2, c3, c4, c5, c6⟩, ch, rs⟩ := hc0
  have gk := grF_ok c3.2 c5 24 0 0 (by omega)
  refine j_aload_0 (n' := 1) F dX7_greedy_0 rfl ?_
  refine j_cV0i (n' := 4) F kl_X7_155 (c_Cla_hasText c3) kap_0 rfl (by decide) (Nat.le_of_ble_eq_true rfl) dX7_greedy_1 rfl (fun z1 φ1 h1 => ?_)
  obtain ⟨rfl, rfl⟩ := h1
  refine j_if_ne (t := 11) (n' := 7) F (by first | omega | (split <;> omega)) dX7_greedy_4 (by decide) rfl (fun c4_1 => ?_) (fun c4_1 => ?_)
  · refine j_iload_1 (n' := 12) F dX7_greedy_11 rfl ?_
    refine j_if_lt (t := 20) (n' := 15) F (by first | omega | (split <;> omega)) dX7_greedy_12 (by decide) rfl (fun c12_2 => ?_) (fun c12_2 => ?_)
    · refine j_sipush (n' := 23) F dX7_greedy_20 (by decide) rfl ?_
      exact j_ireturn F E dX7_greedy_23 (⟨by unfold spGre pubC; dsimp only; rw [if_neg (by split at * <;> omega), if_pos (by omega)], hc, frC.rf⟩)
    · refine j_iload_1 (n' := 16) F dX7_greedy_15 rfl ?_
      refine j_iconst (n' := 17) F dX7_greedy_16 rfl ?_
      refine j_icmp_le (t := 24) (n' := 20) F (by first | omega | (split <;> omega)) (by first | omega | (split <;> omega)) dX7_greedy_17 (by decide) rfl (fun c17_3 => ?_) (fun c17_3 => ?_)
      · refine j_aload_0 (n' := 25) F dX7_greedy_24 rfl ?_
        refine j_cV0v (n' := 28) F kl_X7_189 (c_Cla_chooseGreedy hc) kap_0 rfl (by decide) (Nat.le_of_ble_eq_true rfl) dX7_greedy_25 rfl (fun z5 φ5 h5 => ?_)
        obtain ⟨hrow, hf⟩ := h5
        have q35 : φ5 35 = φ 35 := funext fun b => hf 35 b (by omega)
        refine j_iload_1 (n' := 29) F dX7_greedy_28 rfl ?_
        refine j_if_ne (t := 46) (n' := 32) F (by first | omega | (split <;> omega)) dX7_greedy_29 (by decide) rfl (fun c29_5 => ?_) (fun c29_5 => ?_)
        · refine j_aload_0 (n' := 47) F dX7_greedy_46 rfl ?_
          refine j_getR (n' := 50) F fl_X7_51 kap_0 rfl dX7_greedy_47 rfl ?_
          refine j_cV0i (n' := 53) F kl_X7_184 (c_Row_size kap_92) kap_92 rfl (by decide) (Nat.le_of_ble_eq_true rfl) dX7_greedy_50 rfl (fun z7 φ7 h7 => ?_)
          obtain ⟨rfl, rfl⟩ := h7
          refine j_ireturn F E dX7_greedy_53 ?_
          have hn : 0 < φ 7 2 := by split at * <;> omega
          refine ⟨?_, hc.fr (fun a ha b => hf a b (by omega)), hf.wk (fun a h => by omega)⟩
          rw [pubC_fr (φ := φ) (fun a ha b => hf a b (by omega)) (fun b hb => hf 0 b (by omega))]
          unfold spGre pubC
          dsimp only
          rw [if_neg (by omega), if_neg (by omega), greV]
          first | (rw [if_pos (by omega), q35]; done) | (rw [if_neg (by omega), hrow.1]; done)
        · refine j_aload_0 (n' := 33) F dX7_greedy_32 rfl ?_
          refine j_getR (n' := 36) F fl_X7_33 kap_0 rfl dX7_greedy_33 rfl ?_
          refine j_aload_0 (n' := 37) F dX7_greedy_36 rfl ?_
          refine j_getR (n' := 40) F fl_X7_51 kap_0 rfl dX7_greedy_37 rfl ?_
          refine j_cV1i (n' := 43) F kl_X7_137 (c_Pri_ofRow kap_34 kap_35 (by rw [q35]; exact c6) kap_92 kap_93 hrow gk.2 gk.1) kap_34 rfl (by decide) (Nat.le_of_ble_eq_true rfl) dX7_greedy_40 rfl (fun z8 φ8 h8 => ?_)
          obtain ⟨rfl, rfl⟩ := h8
          refine j_goto (t := 53) F dX7_greedy_43 (by decide) ?_
          refine j_ireturn F E dX7_greedy_53 ?_
          have hn : 0 < φ 7 2 := by split at * <;> omega
          refine ⟨?_, hc.fr (fun a ha b => hf a b (by omega)), hf.wk (fun a h => by omega)⟩
          rw [pubC_fr (φ := φ) (fun a ha b => hf a b (by omega)) (fun b hb => hf 0 b (by omega))]
          unfold spGre pubC
          dsimp only
          rw [if_neg (by omega), if_neg (by omega), greV]
          first | (rw [if_pos (by omega), q35]; done) | (rw [if_neg (by omega), hrow.1]; done)
      · refine j_sipush (n' := 23) F dX7_greedy_20 (by decide) rfl ?_
        exact j_ireturn F E dX7_greedy_23 (⟨by unfold spGre pubC; dsimp only; rw [if_neg (by split at * <;> omega), if_pos (by omega)], hc, frC.rf⟩)
  · refine j_sipush (n' := 10) F dX7_greedy_7 (by decide) rfl ?_
    exact j_ireturn F E dX7_greedy_10 (⟨by unfold spGre pubC; dsimp only; rw [if_pos (by split at * <;> omega)], hc, frC.rf⟩)
set_option maxRecDepth 20000 in
theorem c_Cla_priceOfParts {l : Launch} {G : jG} {B0 : Nat} {φ : jPhi} {x : Int} (hc : ciOk φ) (hx : 1 ≤ x ∧ x ≤ 24) : jC l G B0 κF 113 yX7_priceOfParts cX7_priceOfParts 5 (some .int) 4 [rf B0 0, iv x] φ mkI (fun z φ' => frC (fun a => a = 37 ∨ (39 ≤ a ∧ a < 64) ∨ (65 ≤ a ∧ a < 90) ∨ a = 97 ∨ a = 98) φ φ' ∧ z = ptR (φ 35) (φ 8) (φ 7 2) x) := by
  refine jC_start RX7 [some (rf B0 0), some (iv x), none, none, none] (by decide) rfl (Nat.le_of_ble_eq_true rfl) rfl (fun X Q F E => ?_)
  have hc0 := hc
  obtain ⟨⟨c1, c2, c3, c4, c5, c6⟩, ch, rs⟩ := hc0
  have loop : ∀ (k : Nat) (f a : Int) (ψ : jPhi), φ 7 2 - f ≤ k → 0 ≤ f → f ≤ 48 → ptF (φ 35) (φ 8) (φ 7 2) x k f a = ptR (φ 35) (φ 8) (φ 7 2) x → frC (fun a => a = 37 ∨ (39 ≤ a ∧ a < 64) ∨ (65 ≤ a ∧ a < 90) ∨ a = 97 ∨ a = 98) φ ψ → jJ X G B0 κF 113 0 0 Q 5 ψ 11 [some (rf B0 0), some (iv x), some (iv a), some (iv x), some (iv f)] [] := by
    intro k
    induction k with
    | zero =>
      intro f a ψ h1 h2 h3 h4 h5
      have v7 : ψ 7 2 = φ 7 2 := h5 7 2 (by omega)
      rw [ptF] at h4
      refine j_iload_4 (n' := 13) F dX7_priceOfParts_11 rfl ?_
      refine j_aload_0 (n' := 14) F dX7_priceOfParts_13 rfl ?_
      refine j_getR (n' := 17) F fl_X7_26 kap_0 rfl dX7_priceOfParts_14 rfl ?_
      refine j_cV0i (n' := 20) F kl_X7_123 (c_Txt_size) kap_7 rfl (by decide) (Nat.le_of_ble_eq_true rfl) dX7_priceOfParts_17 rfl (fun z1 φ1 h1 => ?_)
      obtain ⟨rfl, rfl⟩ := h1
      refine j_icmp_ge (t := 81) (n' := 23) F (by omega) (by omega) dX7_priceOfParts_20 (by decide) rfl (fun c20_1 => ?_) (fun c20_1 => ?_)
      · refine j_iload_2 (n' := 82) F dX7_priceOfParts_81 rfl ?_
        exact j_ireturn F E dX7_priceOfParts_82 (⟨h5, h4⟩)
      · omega
    | succ k ih =>
      intro f a ψ h1 h2 h3 h4 h5
      have v7 : ψ 7 2 = φ 7 2 := h5 7 2 (by omega)
      have v8 : ψ 8 = φ 8 := funext fun b => h5 8 b (by omega)
      have v35 : ψ 35 = φ 35 := funext fun b => h5 35 b (by omega)
      have hal2 : alOk ψ := c4.fr c3.2 (fun a ha b => h5 a b (by omega))
      rw [ptF] at h4
      by_cases hfn : f < φ 7 2
      · rw [if_pos hfn] at h4
        have tkk := toks_ok (P := φ 35) (t := φ 8) (f := f) (e := min (f + x) (φ 7 2)) (by omega) (by omega) (fun k k1 k2 => c5 k k1 (by omega))
        refine j_iload_4 (n' := 13) F dX7_priceOfParts_11 rfl ?_
        refine j_aload_0 (n' := 14) F dX7_priceOfParts_13 rfl ?_
        refine j_getR (n' := 17) F fl_X7_26 kap_0 rfl dX7_priceOfParts_14 rfl ?_
        refine j_cV0i (n' := 20) F kl_X7_123 (c_Txt_size) kap_7 rfl (by decide) (Nat.le_of_ble_eq_true rfl) dX7_priceOfParts_17 rfl (fun z1 φ1 h1 => ?_)
        obtain ⟨rfl, rfl⟩ := h1
        refine j_icmp_ge (t := 81) (n' := 23) F (by omega) (by omega) dX7_priceOfParts_20 (by decide) rfl (fun c20_1 => ?_) (fun c20_1 => ?_)
        · omega
        · refine j_aload_0 (n' := 24) F dX7_priceOfParts_23 rfl ?_
          refine j_getR (n' := 27) F fl_X7_40 kap_0 rfl dX7_priceOfParts_24 rfl ?_
          refine j_aload_0 (n' := 28) F dX7_priceOfParts_27 rfl ?_
          refine j_getR (n' := 31) F fl_X7_26 kap_0 rfl dX7_priceOfParts_28 rfl ?_
          refine j_aload_0 (n' := 32) F dX7_priceOfParts_31 rfl ?_
          refine j_getR (n' := 35) F fl_X7_33 kap_0 rfl dX7_priceOfParts_32 rfl ?_
          refine j_iload_4 (n' := 37) F dX7_priceOfParts_35 rfl ?_
          refine j_iload_4 (n' := 39) F dX7_priceOfParts_37 rfl ?_
          refine j_iload_3 (n' := 40) F dX7_priceOfParts_39 rfl ?_
          refine j_iadd (n' := 41) F dX7_priceOfParts_40 rfl ?_
          refine j_aload_0 (n' := 42) F dX7_priceOfParts_41 rfl ?_
          refine j_getR (n' := 45) F fl_X7_26 kap_0 rfl dX7_priceOfParts_42 rfl ?_
          refine j_cV0i (n' := 48) F kl_X7_123 (c_Txt_size) kap_7 rfl (by decide) (Nat.le_of_ble_eq_true rfl) dX7_priceOfParts_45 rfl (fun z3 φ3 h3 => ?_)
          obtain ⟨rfl, rfl⟩ := h3
          refine j_min (n' := 51) F q_567 (by decide) (Nat.le_of_ble_eq_true rfl) (by omega) (by omega) dX7_priceOfParts_48 rfl ?_
          rw [v7]
          refine j_aload_0 (n' := 52) F dX7_priceOfParts_51 rfl ?_
          refine j_getR (n' := 55) F fl_X7_57 kap_0 rfl dX7_priceOfParts_52 rfl ?_
          refine j_cV5v (n' := 58) F kl_X7_237 (c_Cho_choose (by omega) hal2 (by rw [v7, v8]; exact c5) kap_34 kap_35 (Or.inl rfl) (by rw [v35]; exact c6) kap_97 kap_98 (Or.inr ⟨rfl, rfl⟩) (by omega)) kap_37 rfl (by decide) (Nat.le_of_ble_eq_true rfl) dX7_priceOfParts_55 rfl (fun z4 φ4 h4 => ?_)
          obtain ⟨hr, hf⟩ := h4
          rw [v35, v8] at hr
          have w35 : φ4 35 = φ 35 := (funext fun b => hf 35 b (by omega)).trans v35
          refine j_iload_2 (n' := 59) F dX7_priceOfParts_58 rfl ?_
          refine j_aload_0 (n' := 60) F dX7_priceOfParts_59 rfl ?_
          refine j_getR (n' := 63) F fl_X7_33 kap_0 rfl dX7_priceOfParts_60 rfl ?_
          refine j_aload_0 (n' := 64) F dX7_priceOfParts_63 rfl ?_
          refine j_getR (n' := 67) F fl_X7_57 kap_0 rfl dX7_priceOfParts_64 rfl ?_
          refine j_cV1i (n' := 70) F kl_X7_137 (c_Pri_ofRow kap_34 kap_35 (by rw [w35]; exact c6) kap_97 kap_98 hr tkk.2 tkk.1) kap_34 rfl (by decide) (Nat.le_of_ble_eq_true rfl) dX7_priceOfParts_67 rfl (fun z5 φ5 h5 => ?_)
          obtain ⟨rfl, rfl⟩ := h5
          rw [w35]
          refine j_iadd (n' := 71) F dX7_priceOfParts_70 rfl ?_
          refine j_istore_2 (n' := 72) F (by decide) jc_i dX7_priceOfParts_71 rfl ?_
          refine j_iload_4 (n' := 74) F dX7_priceOfParts_72 rfl ?_
          refine j_iload_3 (n' := 75) F dX7_priceOfParts_74 rfl ?_
          refine j_iadd (n' := 76) F dX7_priceOfParts_75 rfl ?_
          refine j_istore_4 (n' := 78) F (by decide) jc_i dX7_priceOfParts_76 rfl ?_
          refine j_goto (t := 11) F dX7_priceOfParts_78 (by decide) ?_
          exact ih (f + x) _ φ4 (by omega) (by omega) (by omega) h4 (h5.tr (hf.wk (fun a h => by omega)))
      · rw [if_neg hfn] at h4
        refine j_iload_4 (n' := 13) F dX7_priceOfParts_11 rfl ?_
        refine j_aload_0 (n' := 14) F dX7_priceOfParts_13 rfl ?_
        refine j_getR (n' := 17) F fl_X7_26 kap_0 rfl dX7_priceOfParts_14 rfl ?_
        refine j_cV0i (n' := 20) F kl_X7_123 (c_Txt_size) kap_7 rfl (by decide) (Nat.le_of_ble_eq_true rfl) dX7_priceOfParts_17 rfl (fun z1 φ1 h1 => ?_)
        obtain ⟨rfl, rfl⟩ := h1
        refine j_icmp_ge (t := 81) (n' := 23) F (by omega) (by omega) dX7_priceOfParts_20 (by decide) rfl (fun c20_1 => ?_) (fun c20_1 => ?_)
        · refine j_iload_2 (n' := 82) F dX7_priceOfParts_81 rfl ?_
          exact j_ireturn F E dX7_priceOfParts_82 (⟨h5, h4⟩)
        · omega
  refine j_iconst (n' := 1) F dX7_priceOfParts_0 rfl ?_
  refine j_istore_2 (n' := 2) F (by decide) jc_i dX7_priceOfParts_1 rfl ?_
  refine j_iconst (n' := 3) F dX7_priceOfParts_2 rfl ?_
  refine j_iload_1 (n' := 4) F dX7_priceOfParts_3 rfl ?_
  refine j_max (n' := 7) F q_558 (by decide) (Nat.le_of_ble_eq_true rfl) (by omega) (by omega) dX7_priceOfParts_4 rfl ?_
  refine j_istore_3 (n' := 8) F (by decide) jc_i dX7_priceOfParts_7 rfl ?_
  refine j_iconst (n' := 9) F dX7_priceOfParts_8 rfl ?_
  refine j_istore_4 (n' := 11) F (by decide) jc_i dX7_priceOfParts_9 rfl ?_
  rw [show max 1 x = x by omega]
  exact loop 24 0 0 φ (by omega) (by omega) (by omega) rfl frC.rf
set_option maxRecDepth 20000 in
theorem c_Cla_parts {l : Launch} {G : jG} {B0 : Nat} {φ : jPhi} {x y : Int} (hc : ciOk φ) (hx : -2147483648 ≤ x ∧ x ≤ 2147483647) (hy : -2147483648 ≤ y ∧ y ≤ 2147483647) : jC l G B0 κF 113 yX7_parts cX7_parts 4 (some .int) 5 [rf B0 0, iv x, iv y] φ mkI (fun z φ' => (z, pubC φ') = spPar (pubC φ) x y ∧ ciOk φ' ∧ frC (fun a => a < 99) φ φ') := by
  refine jC_start RX7 [some (rf B0 0), some (iv x), some (iv y), none] (by decide) rfl (Nat.le_of_ble_eq_true rfl) rfl (fun X Q F E => ?_)
  have hc0 := hc
  obtain ⟨⟨c1, c2, c3, c4, c5, c6⟩, ch, rs⟩ := hc0
  have tkk := toks_ok (P := φ 35) (t := φ 8) (f := 0) (e := φ 7 2) (by omega) (by omega) c5
  refine j_aload_0 (n' := 1) F dX7_parts_0 rfl ?_
  refine j_cV0i (n' := 4) F kl_X7_155 (c_Cla_hasText c3) kap_0 rfl (by decide) (Nat.le_of_ble_eq_true rfl) dX7_parts_1 rfl (fun z1 φ1 h1 => ?_)
  obtain ⟨rfl, rfl⟩ := h1
  refine j_if_ne (t := 11) (n' := 7) F (by first | omega | (split <;> omega)) dX7_parts_4 (by decide) rfl (fun c4_1 => ?_) (fun c4_1 => ?_)
  · refine j_iload_1 (n' := 12) F dX7_parts_11 rfl ?_
    refine j_iconst (n' := 13) F dX7_parts_12 rfl ?_
    refine j_icmp_lt (t := 31) (n' := 16) F (by first | omega | (split <;> omega)) (by first | omega | (split <;> omega)) dX7_parts_13 (by decide) rfl (fun c13_2 => ?_) (fun c13_2 => ?_)
    · refine j_sipush (n' := 34) F dX7_parts_31 (by decide) rfl ?_
      exact j_ireturn F E dX7_parts_34 (⟨by unfold spPar pubC; dsimp only; rw [if_neg (by split at * <;> omega), if_pos (by omega)], hc, frC.rf⟩)
    · refine j_iload_1 (n' := 17) F dX7_parts_16 rfl ?_
      refine j_bipush (n' := 19) F dX7_parts_17 (by decide) rfl ?_
      refine j_icmp_gt (t := 31) (n' := 22) F (by first | omega | (split <;> omega)) (by first | omega | (split <;> omega)) dX7_parts_19 (by decide) rfl (fun c19_3 => ?_) (fun c19_3 => ?_)
      · refine j_sipush (n' := 34) F dX7_parts_31 (by decide) rfl ?_
        exact j_ireturn F E dX7_parts_34 (⟨by unfold spPar pubC; dsimp only; rw [if_neg (by split at * <;> omega), if_pos (by omega)], hc, frC.rf⟩)
      · refine j_iload_2 (n' := 23) F dX7_parts_22 rfl ?_
        refine j_if_lt (t := 31) (n' := 26) F (by first | omega | (split <;> omega)) dX7_parts_23 (by decide) rfl (fun c23_4 => ?_) (fun c23_4 => ?_)
        · refine j_sipush (n' := 34) F dX7_parts_31 (by decide) rfl ?_
          exact j_ireturn F E dX7_parts_34 (⟨by unfold spPar pubC; dsimp only; rw [if_neg (by split at * <;> omega), if_pos (by omega)], hc, frC.rf⟩)
        · refine j_iload_2 (n' := 27) F dX7_parts_26 rfl ?_
          refine j_iconst (n' := 28) F dX7_parts_27 rfl ?_
          refine j_icmp_le (t := 35) (n' := 31) F (by first | omega | (split <;> omega)) (by first | omega | (split <;> omega)) dX7_parts_28 (by decide) rfl (fun c28_5 => ?_) (fun c28_5 => ?_)
          · refine j_iload_2 (n' := 36) F dX7_parts_35 rfl ?_
            refine j_iconst (n' := 37) F dX7_parts_36 rfl ?_
            refine j_icmp_ne (t := 54) (n' := 40) F (by first | omega | (split <;> omega)) (by first | omega | (split <;> omega)) dX7_parts_37 (by decide) rfl (fun c37_6 => ?_) (fun c37_6 => ?_)
            · refine j_aload_0 (n' := 55) F dX7_parts_54 rfl ?_
              refine j_iload_1 (n' := 56) F dX7_parts_55 rfl ?_
              refine j_cV1i (n' := 59) F kl_X7_192 (c_Cla_priceOfParts hc (by omega)) kap_0 rfl (by decide) (Nat.le_of_ble_eq_true rfl) dX7_parts_56 rfl (fun z8 φ8 h8 => ?_)
              obtain ⟨hp, rfl⟩ := h8
              have p7 : φ8 7 2 = φ 7 2 := hp 7 2 (by omega)
              have p8 : φ8 8 = φ 8 := funext fun b => hp 8 b (by omega)
              have p35 : φ8 35 = φ 35 := funext fun b => hp 35 b (by omega)
              refine j_istore_3 (n' := 60) F (by decide) jc_i dX7_parts_59 rfl ?_
              refine j_iload_2 (n' := 61) F dX7_parts_60 rfl ?_
              refine j_if_ne (t := 66) (n' := 64) F (by first | omega | (split <;> omega)) dX7_parts_61 (by decide) rfl (fun c61_8 => ?_) (fun c61_8 => ?_)
              · refine j_aload_0 (n' := 67) F dX7_parts_66 rfl ?_
                refine j_cV0v (n' := 70) F kl_X7_158 (c_Cla_chooseCheapest (hc.fr (fun a ha b => hp a b (by omega)))) kap_0 rfl (by decide) (Nat.le_of_ble_eq_true rfl) dX7_parts_67 rfl (fun z10 φ10 h10 => ?_)
                obtain ⟨hrow, r9, hci, hz, hf⟩ := h10
                rw [p35, p8, p7] at hrow
                have q35 : φ10 35 = φ 35 := (funext fun b => hf 35 b (by omega)).trans p35
                refine j_iload_3 (n' := 71) F dX7_parts_70 rfl ?_
                refine j_aload_0 (n' := 72) F dX7_parts_71 rfl ?_
                refine j_getR (n' := 75) F fl_X7_33 kap_0 rfl dX7_parts_72 rfl ?_
                refine j_aload_0 (n' := 76) F dX7_parts_75 rfl ?_
                refine j_getR (n' := 79) F fl_X7_47 kap_0 rfl dX7_parts_76 rfl ?_
                refine j_cV1i (n' := 82) F kl_X7_137 (c_Pri_ofRow kap_34 kap_35 (by rw [q35]; exact c6) kap_90 kap_91 hrow tkk.2 tkk.1) kap_34 rfl (by decide) (Nat.le_of_ble_eq_true rfl) dX7_parts_79 rfl (fun z11 φ11 h11 => ?_)
                obtain ⟨rfl, rfl⟩ := h11
                refine j_isub (n' := 83) F dX7_parts_82 rfl ?_
                refine j_ireturn F E dX7_parts_83 ?_
                have hn : 0 < φ 7 2 := by split at * <;> omega
                refine ⟨?_, hci, (hp.wk (fun a h => by omega)).tr (hf.wk (fun a h => by omega))⟩
                rw [chC_pub hz hf, pubC_fr (φ := φ) (fun a ha b => hp a b (by omega)) (fun b hb => hp 0 b (by omega))]
                unfold spPar pubC
                dsimp only
                rw [if_neg (c := ¬ 0 < φ 7 2) (by omega), if_neg (c := ¬ ((1 ≤ x ∧ x ≤ 24) ∧ (0 ≤ y ∧ y ≤ 2))) (by omega), parV]
                rw [if_neg (by omega), if_neg (by omega), q35]
              · refine j_iload_3 (n' := 65) F dX7_parts_64 rfl ?_
                refine j_ireturn F E dX7_parts_65 ?_
                have hn : 0 < φ 7 2 := by split at * <;> omega
                refine ⟨?_, hc.fr (fun a ha b => hp a b (by omega)), hp.wk (fun a h => by omega)⟩
                rw [pubC_fr (φ := φ) (fun a ha b => hp a b (by omega)) (fun b hb => hp 0 b (by omega))]
                unfold spPar pubC
                dsimp only
                rw [if_neg (c := ¬ 0 < φ 7 2) (by omega), if_neg (c := ¬ ((1 ≤ x ∧ x ≤ 24) ∧ (0 ≤ y ∧ y ≤ 2))) (by omega), parV]
                rw [if_neg (by omega), if_pos (by omega)]
            · refine j_aload_0 (n' := 41) F dX7_parts_40 rfl ?_
              refine j_getR (n' := 44) F fl_X7_26 kap_0 rfl dX7_parts_41 rfl ?_
              refine j_cV0i (n' := 47) F kl_X7_123 (c_Txt_size) kap_7 rfl (by decide) (Nat.le_of_ble_eq_true rfl) dX7_parts_44 rfl (fun z12 φ12 h12 => ?_)
              obtain ⟨rfl, rfl⟩ := h12
              refine j_iload_1 (n' := 48) F dX7_parts_47 rfl ?_
              refine j_iadd (n' := 49) F dX7_parts_48 rfl ?_
              refine j_iconst (n' := 50) F dX7_parts_49 rfl ?_
              refine j_isub (n' := 51) F dX7_parts_50 rfl ?_
              refine j_iload_1 (n' := 52) F dX7_parts_51 rfl ?_
              refine j_idiv (n' := 53) F (by first | omega | (split <;> omega)) (by first | omega | (split <;> omega)) dX7_parts_52 rfl ?_
              refine j_ireturn F E dX7_parts_53 ?_
              have hn : 0 < φ 7 2 := by split at * <;> omega
              refine ⟨?_, hc, frC.rf⟩
              unfold spPar pubC
              dsimp only
              rw [if_neg (c := ¬ 0 < φ 7 2) (by omega), if_neg (c := ¬ ((1 ≤ x ∧ x ≤ 24) ∧ (0 ≤ y ∧ y ≤ 2))) (by omega), parV]
              rw [if_pos (by omega)]
          · refine j_sipush (n' := 34) F dX7_parts_31 (by decide) rfl ?_
            exact j_ireturn F E dX7_parts_34 (⟨by unfold spPar pubC; dsimp only; rw [if_neg (by split at * <;> omega), if_pos (by omega)], hc, frC.rf⟩)
  · refine j_sipush (n' := 10) F dX7_parts_7 (by decide) rfl ?_
    exact j_ireturn F E dX7_parts_10 (⟨by unfold spPar pubC; dsimp only; rw [if_pos (by split at * <;> omega)], hc, frC.rf⟩)
set_option maxRecDepth 20000 in
theorem c_Cla_count {l : Launch} {G : jG} {B0 : Nat} {φ : jPhi} {x : Int} (hc : ciOk φ) (hx : -2147483648 ≤ x ∧ x ≤ 2147483647) : jC l G B0 κF 113 yX7_count cX7_count 2 (some .int) 5 [rf B0 0, iv x] φ mkI (fun z φ' => (z, pubC φ') = spCou (pubC φ) x ∧ ciOk φ' ∧ frC (fun a => a < 99) φ φ') := by
  refine jC_start RX7 [some (rf B0 0), some (iv x)] (by decide) rfl (Nat.le_of_ble_eq_true rfl) rfl (fun X Q F E => ?_)
  have hc0 := hc
  obtain ⟨⟨c1, c2, c3, c4, c5, c6⟩, ch, rs⟩ := hc0
  refine j_iload_1 (n' := 1) F dX7_count_0 rfl ?_
  refine j_if_lt (t := 10) (n' := 4) F (by omega) dX7_count_1 (by decide) rfl (fun c1_0 => ?_) (fun c1_0 => ?_)
  · refine j_sipush (n' := 13) F dX7_count_10 (by decide) rfl ?_
    exact j_ireturn F E dX7_count_13 (⟨by unfold spCou couV pubC; dsimp only; rw [if_neg (by omega), if_neg (by omega), if_neg (by omega), if_neg (by omega), if_neg (by omega), if_neg (by omega), if_neg (by omega), if_neg (by omega)], hc, frC.rf⟩)
  · refine j_iload_1 (n' := 5) F dX7_count_4 rfl ?_
    refine j_bipush (n' := 7) F dX7_count_5 (by decide) rfl ?_
    refine j_icmp_lt (t := 14) (n' := 10) F (by omega) (by omega) dX7_count_7 (by decide) rfl (fun c7_1 => ?_) (fun c7_1 => ?_)
    · refine j_iload_1 (n' := 15) F dX7_count_14 rfl ?_
      refine j_iconst (n' := 16) F dX7_count_15 rfl ?_
      refine j_icmp_lt (t := 28) (n' := 19) F (by omega) (by omega) dX7_count_16 (by decide) rfl (fun c16_2 => ?_) (fun c16_2 => ?_)
      · refine j_iload_1 (n' := 29) F dX7_count_28 rfl ?_
        rcases (show x = 0 ∨ x = 1 ∨ x = 5 ∨ x = 6 ∨ x = 7 by omega) with rfl | rfl | rfl | rfl | rfl
        · refine j_tsIn (t := 72) F (by omega) dX7_count_29 (by omega) (by omega) rfl (by decide) ?_
          refine j_aload_0 (n' := 73) F dX7_count_72 rfl ?_
          refine j_getR (n' := 76) F fl_X7_10 kap_0 rfl dX7_count_73 rfl ?_
          refine j_cV0i (n' := 79) F kl_X7_94 (c_Pag_size) kap_1 rfl (by decide) (Nat.le_of_ble_eq_true rfl) dX7_count_76 rfl (fun z4 φ4 h4 => ?_)
          obtain ⟨rfl, rfl⟩ := h4
          exact j_ireturn F E dX7_count_79 (⟨by unfold spCou couV pubC; simp, hc, frC.rf⟩)
        · refine j_tsIn (t := 80) F (by omega) dX7_count_29 (by omega) (by omega) rfl (by decide) ?_
          refine j_aload_0 (n' := 81) F dX7_count_80 rfl ?_
          refine j_getR (n' := 84) F fl_X7_26 kap_0 rfl dX7_count_81 rfl ?_
          refine j_cV0i (n' := 87) F kl_X7_123 (c_Txt_size) kap_7 rfl (by decide) (Nat.le_of_ble_eq_true rfl) dX7_count_84 rfl (fun z5 φ5 h5 => ?_)
          obtain ⟨rfl, rfl⟩ := h5
          exact j_ireturn F E dX7_count_87 (⟨by unfold spCou couV pubC; simp, hc, frC.rf⟩)
        · refine j_tsIn (t := 112) F (by omega) dX7_count_29 (by omega) (by omega) rfl (by decide) ?_
          refine j_aload_0 (n' := 113) F dX7_count_112 rfl ?_
          refine j_getI (n' := 116) F 14 rfl fl_X7_77 kap_0 rfl dX7_count_113 rfl ?_
          exact j_ireturn F E dX7_count_116 (⟨by unfold spCou couV pubC; simp, hc, frC.rf⟩)
        · refine j_tsIn (t := 117) F (by omega) dX7_count_29 (by omega) (by omega) rfl (by decide) ?_
          refine j_aload_0 (n' := 118) F dX7_count_117 rfl ?_
          refine j_getI (n' := 121) F 15 rfl fl_X7_80 kap_0 rfl dX7_count_118 rfl ?_
          exact j_ireturn F E dX7_count_121 (⟨by unfold spCou couV pubC; simp, hc, frC.rf⟩)
        · refine j_tsOut (t := 122) F (by omega) dX7_count_29 (by omega) (by decide) ?_
          refine j_aload_0 (n' := 123) F dX7_count_122 rfl ?_
          refine j_getI (n' := 126) F 16 rfl fl_X7_83 kap_0 rfl dX7_count_123 rfl ?_
          exact j_ireturn F E dX7_count_126 (⟨by unfold spCou couV pubC; simp, hc, frC.rf⟩)
      · refine j_iload_1 (n' := 20) F dX7_count_19 rfl ?_
        refine j_iconst (n' := 21) F dX7_count_20 rfl ?_
        refine j_icmp_gt (t := 28) (n' := 24) F (by omega) (by omega) dX7_count_21 (by decide) rfl (fun c21_5 => ?_) (fun c21_5 => ?_)
        · refine j_iload_1 (n' := 29) F dX7_count_28 rfl ?_
          rcases (show x = 0 ∨ x = 1 ∨ x = 5 ∨ x = 6 ∨ x = 7 by omega) with rfl | rfl | rfl | rfl | rfl
          · refine j_tsIn (t := 72) F (by omega) dX7_count_29 (by omega) (by omega) rfl (by decide) ?_
            refine j_aload_0 (n' := 73) F dX7_count_72 rfl ?_
            refine j_getR (n' := 76) F fl_X7_10 kap_0 rfl dX7_count_73 rfl ?_
            refine j_cV0i (n' := 79) F kl_X7_94 (c_Pag_size) kap_1 rfl (by decide) (Nat.le_of_ble_eq_true rfl) dX7_count_76 rfl (fun z7 φ7 h7 => ?_)
            obtain ⟨rfl, rfl⟩ := h7
            exact j_ireturn F E dX7_count_79 (⟨by unfold spCou couV pubC; simp, hc, frC.rf⟩)
          · refine j_tsIn (t := 80) F (by omega) dX7_count_29 (by omega) (by omega) rfl (by decide) ?_
            refine j_aload_0 (n' := 81) F dX7_count_80 rfl ?_
            refine j_getR (n' := 84) F fl_X7_26 kap_0 rfl dX7_count_81 rfl ?_
            refine j_cV0i (n' := 87) F kl_X7_123 (c_Txt_size) kap_7 rfl (by decide) (Nat.le_of_ble_eq_true rfl) dX7_count_84 rfl (fun z8 φ8 h8 => ?_)
            obtain ⟨rfl, rfl⟩ := h8
            exact j_ireturn F E dX7_count_87 (⟨by unfold spCou couV pubC; simp, hc, frC.rf⟩)
          · refine j_tsIn (t := 112) F (by omega) dX7_count_29 (by omega) (by omega) rfl (by decide) ?_
            refine j_aload_0 (n' := 113) F dX7_count_112 rfl ?_
            refine j_getI (n' := 116) F 14 rfl fl_X7_77 kap_0 rfl dX7_count_113 rfl ?_
            exact j_ireturn F E dX7_count_116 (⟨by unfold spCou couV pubC; simp, hc, frC.rf⟩)
          · refine j_tsIn (t := 117) F (by omega) dX7_count_29 (by omega) (by omega) rfl (by decide) ?_
            refine j_aload_0 (n' := 118) F dX7_count_117 rfl ?_
            refine j_getI (n' := 121) F 15 rfl fl_X7_80 kap_0 rfl dX7_count_118 rfl ?_
            exact j_ireturn F E dX7_count_121 (⟨by unfold spCou couV pubC; simp, hc, frC.rf⟩)
          · refine j_tsOut (t := 122) F (by omega) dX7_count_29 (by omega) (by decide) ?_
            refine j_aload_0 (n' := 123) F dX7_count_122 rfl ?_
            refine j_getI (n' := 126) F 16 rfl fl_X7_83 kap_0 rfl dX7_count_123 rfl ?_
            exact j_ireturn F E dX7_count_126 (⟨by unfold spCou couV pubC; simp, hc, frC.rf⟩)
        · refine j_aload_0 (n' := 25) F dX7_count_24 rfl ?_
          refine j_cV0v (n' := 28) F kl_X7_158 (c_Cla_chooseCheapest hc) kap_0 rfl (by decide) (Nat.le_of_ble_eq_true rfl) dX7_count_25 rfl (fun z9 φ9 h9 => ?_)
          obtain ⟨hrow, r9, hci, hz, hf⟩ := h9
          refine j_iload_1 (n' := 29) F dX7_count_28 rfl ?_
          rcases (show x = 2 ∨ x = 3 ∨ x = 4 by omega) with rfl | rfl | rfl
          · refine j_tsIn (t := 88) F (by omega) dX7_count_29 (by omega) (by omega) rfl (by decide) ?_
            refine j_aload_0 (n' := 89) F dX7_count_88 rfl ?_
            refine j_getR (n' := 92) F fl_X7_47 kap_0 rfl dX7_count_89 rfl ?_
            refine j_cV0i (n' := 95) F kl_X7_195 (c_Row_plains kap_90) kap_90 rfl (by decide) (Nat.le_of_ble_eq_true rfl) dX7_count_92 rfl (fun z10 φ10 h10 => ?_)
            obtain ⟨rfl, rfl⟩ := h10
            refine j_ireturn F E dX7_count_95 ?_
            refine ⟨?_, hci, hf.wk (fun a h => by omega)⟩
            rw [chC_pub hz hf]
            unfold spCou couV pubC
            simp only [show ¬ (2 : Int) = 0 by omega, show ¬ (2 : Int) = 1 by omega, show ¬ (3 : Int) = 0 by omega, show ¬ (3 : Int) = 1 by omega, show ¬ (3 : Int) = 2 by omega, show ¬ (4 : Int) = 0 by omega, show ¬ (4 : Int) = 1 by omega, show ¬ (4 : Int) = 2 by omega, show ¬ (4 : Int) = 3 by omega, if_true, if_false]
            rw [hrow.2.1]
            rfl
          · refine j_tsIn (t := 96) F (by omega) dX7_count_29 (by omega) (by omega) rfl (by decide) ?_
            refine j_aload_0 (n' := 97) F dX7_count_96 rfl ?_
            refine j_getR (n' := 100) F fl_X7_47 kap_0 rfl dX7_count_97 rfl ?_
            refine j_cV0i (n' := 103) F kl_X7_198 (c_Row_agains kap_90) kap_90 rfl (by decide) (Nat.le_of_ble_eq_true rfl) dX7_count_100 rfl (fun z11 φ11 h11 => ?_)
            obtain ⟨rfl, rfl⟩ := h11
            refine j_ireturn F E dX7_count_103 ?_
            refine ⟨?_, hci, hf.wk (fun a h => by omega)⟩
            rw [chC_pub hz hf]
            unfold spCou couV pubC
            simp only [show ¬ (2 : Int) = 0 by omega, show ¬ (2 : Int) = 1 by omega, show ¬ (3 : Int) = 0 by omega, show ¬ (3 : Int) = 1 by omega, show ¬ (3 : Int) = 2 by omega, show ¬ (4 : Int) = 0 by omega, show ¬ (4 : Int) = 1 by omega, show ¬ (4 : Int) = 2 by omega, show ¬ (4 : Int) = 3 by omega, if_true, if_false]
            rw [hrow.1, hrow.2.1, hrow.2.2.1]
            rfl
          · refine j_tsIn (t := 104) F (by omega) dX7_count_29 (by omega) (by omega) rfl (by decide) ?_
            refine j_aload_0 (n' := 105) F dX7_count_104 rfl ?_
            refine j_getR (n' := 108) F fl_X7_47 kap_0 rfl dX7_count_105 rfl ?_
            refine j_cV0i (n' := 111) F kl_X7_201 (c_Row_copies kap_90) kap_90 rfl (by decide) (Nat.le_of_ble_eq_true rfl) dX7_count_108 rfl (fun z12 φ12 h12 => ?_)
            obtain ⟨rfl, rfl⟩ := h12
            refine j_ireturn F E dX7_count_111 ?_
            refine ⟨?_, hci, hf.wk (fun a h => by omega)⟩
            rw [chC_pub hz hf]
            unfold spCou couV pubC
            simp only [show ¬ (2 : Int) = 0 by omega, show ¬ (2 : Int) = 1 by omega, show ¬ (3 : Int) = 0 by omega, show ¬ (3 : Int) = 1 by omega, show ¬ (3 : Int) = 2 by omega, show ¬ (4 : Int) = 0 by omega, show ¬ (4 : Int) = 1 by omega, show ¬ (4 : Int) = 2 by omega, show ¬ (4 : Int) = 3 by omega, if_true, if_false]
            rw [hrow.2.2.1]
            rfl
    · refine j_sipush (n' := 13) F dX7_count_10 (by decide) rfl ?_
      exact j_ireturn F E dX7_count_13 (⟨by unfold spCou couV pubC; dsimp only; rw [if_neg (by omega), if_neg (by omega), if_neg (by omega), if_neg (by omega), if_neg (by omega), if_neg (by omega), if_neg (by omega), if_neg (by omega)], hc, frC.rf⟩)
