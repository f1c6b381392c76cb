/-- a token of the kind x -/
def tkK (x t : Int) : Int := if t < 100 then (if 0 = x then 1 else 0) else if t < 1000 then (if 1 = x then 1 else 0) else (if 2 = x then 1 else 0)
theorem tkK_sum {ts : List Int} : rwSum (tkK 0) ts = rwP ts ∧ rwSum (tkK 1) ts = ts.length - rwP ts - rwC ts ∧ rwSum (tkK 2) ts = rwC ts := by
  induction ts with
  | nil => simp [rwP, rwC, rwSum]
  | cons x r ih =>
    have e1 : rwP (x :: r) = (if x < 100 then 1 else 0) + rwP r := rwSum_cons _ _ _
    have e2 : rwC (x :: r) = (if 1000 ≤ x then 1 else 0) + rwC r := rwSum_cons _ _ _
    have e3 : ((x :: r).length : Int) = r.length + 1 := by simp
    have k0 : tkK 0 x = if x < 100 then 1 else if x < 1000 then 0 else 0 := rfl
    have k1 : tkK 1 x = if x < 100 then 0 else if x < 1000 then 1 else 0 := rfl
    have k2 : tkK 2 x = if x < 100 then 0 else if x < 1000 then 0 else 1 := rfl
    rw [rwSum_cons, rwSum_cons, rwSum_cons, e1, e2, e3, k0, k1, k2]
    by_cases q : x < 100
    · simp only [if_pos q, if_neg (show ¬ 1000 ≤ x by omega)]
      omega
    · by_cases q2 : x < 1000
      · simp only [if_neg q, if_pos q2, if_neg (show ¬ 1000 ≤ x by omega)]
        omega
      · simp only [if_neg q, if_neg q2, if_pos (show 1000 ≤ x by omega)]
        omega
theorem toks_nil (P t : Int → Int) {n : Int} (h : n ≤ 0) : toks P t 0 n = [] := by
  unfold toks
  rw [wlk, if_neg (by omega)]
set_option maxRecDepth 20000 in
theorem c_Mod_tokensOf {l : Launch} {G : jG} {B0 : Nat} {φ : jPhi} {x : Int} (hc : miOk φ) (hx : 0 ≤ x ∧ x ≤ 2) : jC l G B0 κF 113 yX8_tokensOf cX8_tokensOf 5 (some .int) 5 [rf B0 99, iv x] φ mkI (fun z φ' => z = rwSum (tkK x) (toks (φ 102) (φ 101) 0 (φ 99 2)) ∧ (∀ b, b ≠ 18 → φ' 99 b = φ 99 b) ∧ frC (fun a => a = 99 ∨ (104 ≤ a ∧ a ≤ 108)) φ φ') := by
  refine jC_start RX8 [some (rf B0 99), some (iv x), none, none, none] (by decide) rfl (Nat.le_of_ble_eq_true rfl) rfl (fun X Q F E => ?_)
  have hc0 := hc
  obtain ⟨c1, c2, c3, c5, c6⟩ := hc0
  have tkk := toks_ok (P := φ 102) (t := φ 101) (f := 0) (e := φ 99 2) (by omega) (by omega) c5
  have loop : ∀ (m : Nat) (i a : Int) (ψ : jPhi), i + m = (toks (φ 102) (φ 101) 0 (φ 99 2)).length → 0 ≤ i → a + rwSum (tkK x) ((toks (φ 102) (φ 101) 0 (φ 99 2)).drop i.toNat) = rwSum (tkK x) (toks (φ 102) (φ 101) 0 (φ 99 2)) → mdIs ψ 99 108 18 (toks (φ 102) (φ 101) 0 (φ 99 2)) → (∀ b, b ≠ 18 → ψ 99 b = φ 99 b) → frC (fun a => a = 99 ∨ (104 ≤ a ∧ a ≤ 108)) φ ψ → jJ X G B0 κF 113 0 0 Q 5 ψ 17 [some (rf B0 99), some (iv x), some (iv a), some (iv i), none] [] := by
    intro m
    induction m with
    | zero =>
      intro i a ψ h1 h2 hQ hm k1 k2
      have v1 := hm.1
      rw [List.drop_eq_nil_of_le (by omega)] at hQ
      have h4 : rwSum (tkK x) [] = 0 := rfl
      refine j_iload_3 (n' := 18) F dX8_tokensOf_17 rfl ?_
      refine j_aload_0 (n' := 19) F dX8_tokensOf_18 rfl ?_
      refine j_getI (n' := 22) F 18 rfl fl_X8_133 kap_99 rfl dX8_tokensOf_19 rfl ?_
      refine j_icmp_ge (t := 79) (n' := 25) F (by omega) (by omega) dX8_tokensOf_22 (by decide) rfl (fun c22_0 => ?_) (fun c22_0 => ?_)
      · refine j_iload_2 (n' := 80) F dX8_tokensOf_79 rfl ?_
        exact j_ireturn F E dX8_tokensOf_80 (⟨by omega, k1, k2⟩)
      · omega
    | succ m ih =>
      intro i a ψ h1 h2 hQ hm k1 k2
      have hl2 := tkk.2
      have v1 := hm.1
      have ati := hm.at (k := i) (by omega) (by omega)
      have oki := tkk.1 _ (rw_mem (ts := (toks (φ 102) (φ 101) 0 (φ 99 2))) (k := i.toNat) (by omega))
      have tsi : (i + 1).toNat = i.toNat + 1 := by omega
      have tki : 0 ≤ ψ 108 i ∧ ψ 108 i ≤ 1248 := by rw [ati]; unfold tkOk at oki; omega
      rw [rwSum_drop (by omega), ← ati] at hQ
      have hs : tkK x (ψ 108 i) = if ψ 108 i < 100 then (if 0 = x then 1 else 0) else if ψ 108 i < 1000 then (if 1 = x then 1 else 0) else (if 2 = x then 1 else 0) := rfl
      refine j_iload_3 (n' := 18) F dX8_tokensOf_17 rfl ?_
      refine j_aload_0 (n' := 19) F dX8_tokensOf_18 rfl ?_
      refine j_getI (n' := 22) F 18 rfl fl_X8_133 kap_99 rfl dX8_tokensOf_19 rfl ?_
      refine j_icmp_ge (t := 79) (n' := 25) F (by omega) (by omega) dX8_tokensOf_22 (by decide) rfl (fun c22_0 => ?_) (fun c22_0 => ?_)
      · omega
      · refine j_aload_0 (n' := 26) F dX8_tokensOf_25 rfl ?_
        refine j_getR (n' := 29) F fl_X8_34 kap_99 rfl dX8_tokensOf_26 rfl ?_
        refine j_iload_3 (n' := 30) F dX8_tokensOf_29 rfl ?_
        refine j_iald (n' := 31) F kap_108 (by decide) (by omega) dX8_tokensOf_30 rfl ?_
        refine j_bipush (n' := 33) F dX8_tokensOf_31 (by decide) rfl ?_
        refine j_icmp_ge (t := 40) (n' := 36) F (by omega) (by omega) dX8_tokensOf_33 (by decide) rfl (fun c33_1 => ?_) (fun c33_1 => ?_)
        · refine j_aload_0 (n' := 41) F dX8_tokensOf_40 rfl ?_
          refine j_getR (n' := 44) F fl_X8_34 kap_99 rfl dX8_tokensOf_41 rfl ?_
          refine j_iload_3 (n' := 45) F dX8_tokensOf_44 rfl ?_
          refine j_iald (n' := 46) F kap_108 (by decide) (by omega) dX8_tokensOf_45 rfl ?_
          refine j_sipush (n' := 49) F dX8_tokensOf_46 (by decide) rfl ?_
          refine j_icmp_ge (t := 56) (n' := 52) F (by omega) (by omega) dX8_tokensOf_49 (by decide) rfl (fun c49_2 => ?_) (fun c49_2 => ?_)
          · refine j_iconst (n' := 57) F dX8_tokensOf_56 rfl ?_
            refine j_istore_4 (n' := 59) F (by decide) jc_i dX8_tokensOf_57 rfl ?_
            refine j_iload_2 (n' := 60) F dX8_tokensOf_59 rfl ?_
            refine j_iload_4 (n' := 62) F dX8_tokensOf_60 rfl ?_
            refine j_iload_1 (n' := 63) F dX8_tokensOf_62 rfl ?_
            refine j_icmp_ne (t := 70) (n' := 66) F (by omega) (by omega) dX8_tokensOf_63 (by decide) rfl (fun c63_3 => ?_) (fun c63_3 => ?_)
            · refine j_iconst (n' := 71) F dX8_tokensOf_70 rfl ?_
              refine j_iadd (n' := 72) F dX8_tokensOf_71 rfl ?_
              refine j_istore_2 (n' := 73) F (by decide) jc_i dX8_tokensOf_72 rfl ?_
              refine j_iinc_3 (n' := 76) F (by decide) jc_i dX8_tokensOf_73 rfl ?_
              refine j_goto (t := 17) F dX8_tokensOf_76 (by decide) ?_
              exact j_weak (by exact ⟨rfl, rfl, rfl, rfl, trivial⟩) (ih (i + 1) _ ψ (by omega) (by omega) (by rw [tsi]; repeat (first | omega | split at hs)) hm k1 k2)
            · refine j_iconst (n' := 67) F dX8_tokensOf_66 rfl ?_
              refine j_goto (t := 71) F dX8_tokensOf_67 (by decide) ?_
              refine j_iadd (n' := 72) F dX8_tokensOf_71 rfl ?_
              refine j_istore_2 (n' := 73) F (by decide) jc_i dX8_tokensOf_72 rfl ?_
              refine j_iinc_3 (n' := 76) F (by decide) jc_i dX8_tokensOf_73 rfl ?_
              refine j_goto (t := 17) F dX8_tokensOf_76 (by decide) ?_
              exact j_weak (by exact ⟨rfl, rfl, rfl, rfl, trivial⟩) (ih (i + 1) _ ψ (by omega) (by omega) (by rw [tsi]; repeat (first | omega | split at hs)) hm k1 k2)
          · refine j_iconst (n' := 53) F dX8_tokensOf_52 rfl ?_
            refine j_goto (t := 57) F dX8_tokensOf_53 (by decide) ?_
            refine j_istore_4 (n' := 59) F (by decide) jc_i dX8_tokensOf_57 rfl ?_
            refine j_iload_2 (n' := 60) F dX8_tokensOf_59 rfl ?_
            refine j_iload_4 (n' := 62) F dX8_tokensOf_60 rfl ?_
            refine j_iload_1 (n' := 63) F dX8_tokensOf_62 rfl ?_
            refine j_icmp_ne (t := 70) (n' := 66) F (by omega) (by omega) dX8_tokensOf_63 (by decide) rfl (fun c63_4 => ?_) (fun c63_4 => ?_)
            · refine j_iconst (n' := 71) F dX8_tokensOf_70 rfl ?_
              refine j_iadd (n' := 72) F dX8_tokensOf_71 rfl ?_
              refine j_istore_2 (n' := 73) F (by decide) jc_i dX8_tokensOf_72 rfl ?_
              refine j_iinc_3 (n' := 76) F (by decide) jc_i dX8_tokensOf_73 rfl ?_
              refine j_goto (t := 17) F dX8_tokensOf_76 (by decide) ?_
              exact j_weak (by exact ⟨rfl, rfl, rfl, rfl, trivial⟩) (ih (i + 1) _ ψ (by omega) (by omega) (by rw [tsi]; repeat (first | omega | split at hs)) hm k1 k2)
            · refine j_iconst (n' := 67) F dX8_tokensOf_66 rfl ?_
              refine j_goto (t := 71) F dX8_tokensOf_67 (by decide) ?_
              refine j_iadd (n' := 72) F dX8_tokensOf_71 rfl ?_
              refine j_istore_2 (n' := 73) F (by decide) jc_i dX8_tokensOf_72 rfl ?_
              refine j_iinc_3 (n' := 76) F (by decide) jc_i dX8_tokensOf_73 rfl ?_
              refine j_goto (t := 17) F dX8_tokensOf_76 (by decide) ?_
              exact j_weak (by exact ⟨rfl, rfl, rfl, rfl, trivial⟩) (ih (i + 1) _ ψ (by omega) (by omega) (by rw [tsi]; repeat (first | omega | split at hs)) hm k1 k2)
        · refine j_iconst (n' := 37) F dX8_tokensOf_36 rfl ?_
          refine j_goto (t := 57) F dX8_tokensOf_37 (by decide) ?_
          refine j_istore_4 (n' := 59) F (by decide) jc_i dX8_tokensOf_57 rfl ?_
          refine j_iload_2 (n' := 60) F dX8_tokensOf_59 rfl ?_
          refine j_iload_4 (n' := 62) F dX8_tokensOf_60 rfl ?_
          refine j_iload_1 (n' := 63) F dX8_tokensOf_62 rfl ?_
          refine j_icmp_ne (t := 70) (n' := 66) F (by omega) (by omega) dX8_tokensOf_63 (by decide) rfl (fun c63_5 => ?_) (fun c63_5 => ?_)
          · refine j_iconst (n' := 71) F dX8_tokensOf_70 rfl ?_
            refine j_iadd (n' := 72) F dX8_tokensOf_71 rfl ?_
            refine j_istore_2 (n' := 73) F (by decide) jc_i dX8_tokensOf_72 rfl ?_
            refine j_iinc_3 (n' := 76) F (by decide) jc_i dX8_tokensOf_73 rfl ?_
            refine j_goto (t := 17) F dX8_tokensOf_76 (by decide) ?_
            exact j_weak (by exact ⟨rfl, rfl, rfl, rfl, trivial⟩) (ih (i + 1) _ ψ (by omega) (by omega) (by rw [tsi]; repeat (first | omega | split at hs)) hm k1 k2)
          · refine j_iconst (n' := 67) F dX8_tokensOf_66 rfl ?_
            refine j_goto (t := 71) F dX8_tokensOf_67 (by decide) ?_
            refine j_iadd (n' := 72) F dX8_tokensOf_71 rfl ?_
            refine j_istore_2 (n' := 73) F (by decide) jc_i dX8_tokensOf_72 rfl ?_
            refine j_iinc_3 (n' := 76) F (by decide) jc_i dX8_tokensOf_73 rfl ?_
            refine j_goto (t := 17) F dX8_tokensOf_76 (by decide) ?_
            exact j_weak (by exact ⟨rfl, rfl, rfl, rfl, trivial⟩) (ih (i + 1) _ ψ (by omega) (by omega) (by rw [tsi]; repeat (first | omega | split at hs)) hm k1 k2)
  refine j_aload_0 (n' := 1) F dX8_tokensOf_0 rfl ?_
  refine j_getI (n' := 4) F 2 rfl fl_X8_92 kap_99 rfl dX8_tokensOf_1 rfl ?_
  refine j_if_ne (t := 9) (n' := 7) F (by omega) dX8_tokensOf_4 (by decide) rfl (fun c4_0 => ?_) (fun c4_0 => ?_)
  · refine j_aload_0 (n' := 10) F dX8_tokensOf_9 rfl ?_
    refine j_cV0v (n' := 13) F kl_X8_142 (c_Mod_layTokens hc (by omega)) kap_99 rfl (by decide) (Nat.le_of_ble_eq_true rfl) dX8_tokensOf_10 rfl (fun z2 φ2 h2 => ?_)
    obtain ⟨hm, hpr, hz, hf⟩ := h2
    refine j_iconst (n' := 14) F dX8_tokensOf_13 rfl ?_
    refine j_istore_2 (n' := 15) F (by decide) jc_i dX8_tokensOf_14 rfl ?_
    refine j_iconst (n' := 16) F dX8_tokensOf_15 rfl ?_
    refine j_istore_3 (n' := 17) F (by decide) jc_i dX8_tokensOf_16 rfl ?_
    exact loop (toks (φ 102) (φ 101) 0 (φ 99 2)).length 0 0 φ2 (by omega) (by omega) (by simp) hm hz hf
  · refine j_iconst (n' := 8) F dX8_tokensOf_7 rfl ?_
    exact j_ireturn F E dX8_tokensOf_8 (⟨by rw [toks_nil _ _ (by omega)]; rfl, fun _ _ => rfl, frC.rf⟩)
set_option maxRecDepth 20000 in
theorem c_Mod_howMany {l : Launch} {G : jG} {B0 : Nat} {φ : jPhi} {x : Int} (hc : miOk φ) (hx : -2147483648 ≤ x ∧ x ≤ 2147483647) : jC l G B0 κF 113 yX8_howMany cX8_howMany 2 (some .int) 6 [rf B0 99, iv x] φ mkI (fun z φ' => (z, pubM φ') = spCou (pubM φ) x ∧ miOk φ' ∧ frC (fun a => 99 ≤ a) φ φ' ∧ φ' 99 23 = φ 99 23) := by
  refine jC_start RX8 [some (rf B0 99), some (iv x)] (by decide) rfl (Nat.le_of_ble_eq_true rfl) rfl (fun X Q F E => ?_)
  have hc0 := hc
  obtain ⟨c1, c2, c3, c5, c6⟩ := hc0
  refine j_iload_1 (n' := 1) F dX8_howMany_0 rfl ?_
  by_cases hx8 : 0 ≤ x ∧ x ≤ 7
  · rcases (show x = 0 ∨ x = 1 ∨ x = 2 ∨ x = 3 ∨ x = 4 ∨ x = 5 ∨ x = 6 ∨ x = 7 by omega) with rfl | rfl | rfl | rfl | rfl | rfl | rfl | rfl
    · refine j_tsIn (t := 48) F (by omega) dX8_howMany_1 (by omega) (by omega) rfl (by decide) ?_
      refine j_aload_0 (n' := 49) F dX8_howMany_48 rfl ?_
      refine j_getI (n' := 52) F 0 rfl fl_X8_53 kap_99 rfl dX8_howMany_49 rfl ?_
      exact j_ireturn F E dX8_howMany_52 (⟨by unfold spCou couV pubM; simp, hc, frC.rf, rfl⟩)
    · refine j_tsIn (t := 53) F (by omega) dX8_howMany_1 (by omega) (by omega) rfl (by decide) ?_
      refine j_aload_0 (n' := 54) F dX8_howMany_53 rfl ?_
      refine j_getI (n' := 57) F 2 rfl fl_X8_92 kap_99 rfl dX8_howMany_54 rfl ?_
      exact j_ireturn F E dX8_howMany_57 (⟨by unfold spCou couV pubM; simp, hc, frC.rf, rfl⟩)
    · refine j_tsIn (t := 58) F (by omega) dX8_howMany_1 (by omega) (by omega) rfl (by decide) ?_
      refine j_aload_0 (n' := 59) F dX8_howMany_58 rfl ?_
      refine j_iload_1 (n' := 60) F dX8_howMany_59 rfl ?_
      refine j_iconst (n' := 61) F dX8_howMany_60 rfl ?_
      refine j_isub (n' := 62) F dX8_howMany_61 rfl ?_
      refine j_cV1i (n' := 65) F kl_X8_184 (c_Mod_tokensOf hc (by omega)) kap_99 rfl (by decide) (Nat.le_of_ble_eq_true rfl) dX8_howMany_62 rfl (fun z1 φ1 h1 => ?_)
      obtain ⟨rfl, hz, hf⟩ := h1
      refine j_ireturn F E dX8_howMany_65 ?_
      refine ⟨?_, hc.fr (hz 0 (by omega)) (hz 2 (by omega)) (fun a ha b => hf a b (by omega)), hf.wk (fun a h => by omega), hz 23 (by omega)⟩
      rw [pubM_fr (φ := φ) (fun a ha b => hf a b (by omega)) (fun b hb => hz b (by omega)), spCou]
      have hv : couV (pubM φ) 2 = rwP (toks (φ 102) (φ 101) 0 (φ 99 2)) ∧ couV (pubM φ) 3 = ((toks (φ 102) (φ 101) 0 (φ 99 2)).length : Int) - rwP (toks (φ 102) (φ 101) 0 (φ 99 2)) - rwC (toks (φ 102) (φ 101) 0 (φ 99 2)) ∧ couV (pubM φ) 4 = rwC (toks (φ 102) (φ 101) 0 (φ 99 2)) := by
        unfold couV pubM
        exact ⟨rfl, rfl, rfl⟩
      have hq := tkK_sum (ts := (toks (φ 102) (φ 101) 0 (φ 99 2)))
      first
        | (rw [hv.1]; rw [show (2 : Int) - 2 = 0 by omega, hq.1]; done)
        | (rw [hv.2.1]; rw [show (3 : Int) - 2 = 1 by omega, hq.2.1]; done)
        | (rw [hv.2.2]; rw [show (4 : Int) - 2 = 2 by omega, hq.2.2]; done)
    · refine j_tsIn (t := 58) F (by omega) dX8_howMany_1 (by omega) (by omega) rfl (by decide) ?_
      refine j_aload_0 (n' := 59) F dX8_howMany_58 rfl ?_
      refine j_iload_1 (n' := 60) F dX8_howMany_59 rfl ?_
      refine j_iconst (n' := 61) F dX8_howMany_60 rfl ?_
      refine j_isub (n' := 62) F dX8_howMany_61 rfl ?_
      refine j_cV1i (n' := 65) F kl_X8_184 (c_Mod_tokensOf hc (by omega)) kap_99 rfl (by decide) (Nat.le_of_ble_eq_true rfl) dX8_howMany_62 rfl (fun z2 φ2 h2 => ?_)
      obtain ⟨rfl, hz, hf⟩ := h2
      refine j_ireturn F E dX8_howMany_65 ?_
      refine ⟨?_, hc.fr (hz 0 (by omega)) (hz 2 (by omega)) (fun a ha b => hf a b (by omega)), hf.wk (fun a h => by omega), hz 23 (by omega)⟩
      rw [pubM_fr (φ := φ) (fun a ha b => hf a b (by omega)) (fun b hb => hz b (by omega)), spCou]
      have hv : couV (pubM φ) 2 = rwP (toks (φ 102) (φ 101) 0 (φ 99 2)) ∧ couV (pubM φ) 3 = ((toks (φ 102) (φ 101) 0 (φ 99 2)).length : Int) - rwP (toks (φ 102) (φ 101) 0 (φ 99 2)) - rwC (toks (φ 102) (φ 101) 0 (φ 99 2)) ∧ couV (pubM φ) 4 = rwC (toks (φ 102) (φ 101) 0 (φ 99 2)) := by
        unfold couV pubM
        exact ⟨rfl, rfl, rfl⟩
      have hq := tkK_sum (ts := (toks (φ 102) (φ 101) 0 (φ 99 2)))
      first
        | (rw [hv.1]; rw [show (2 : Int) - 2 = 0 by omega, hq.1]; done)
        | (rw [hv.2.1]; rw [show (3 : Int) - 2 = 1 by omega, hq.2.1]; done)
        | (rw [hv.2.2]; rw [show (4 : Int) - 2 = 2 by omega, hq.2.2]; done)
    · refine j_tsIn (t := 58) F (by omega) dX8_howMany_1 (by omega) (by omega) rfl (by decide) ?_
      refine j_aload_0 (n' := 59) F dX8_howMany_58 rfl ?_
      refine j_iload_1 (n' := 60) F dX8_howMany_59 rfl ?_
      refine j_iconst (n' := 61) F dX8_howMany_60 rfl ?_
      refine j_isub (n' := 62) F dX8_howMany_61 rfl ?_
      refine j_cV1i (n' := 65) F kl_X8_184 (c_Mod_tokensOf hc (by omega)) kap_99 rfl (by decide) (Nat.le_of_ble_eq_true rfl) dX8_howMany_62 rfl (fun z3 φ3 h3 => ?_)
      obtain ⟨rfl, hz, hf⟩ := h3
      refine j_ireturn F E dX8_howMany_65 ?_
      refine ⟨?_, hc.fr (hz 0 (by omega)) (hz 2 (by omega)) (fun a ha b => hf a b (by omega)), hf.wk (fun a h => by omega), hz 23 (by omega)⟩
      rw [pubM_fr (φ := φ) (fun a ha b => hf a b (by omega)) (fun b hb => hz b (by omega)), spCou]
      have hv : couV (pubM φ) 2 = rwP (toks (φ 102) (φ 101) 0 (φ 99 2)) ∧ couV (pubM φ) 3 = ((toks (φ 102) (φ 101) 0 (φ 99 2)).length : Int) - rwP (toks (φ 102) (φ 101) 0 (φ 99 2)) - rwC (toks (φ 102) (φ 101) 0 (φ 99 2)) ∧ couV (pubM φ) 4 = rwC (toks (φ 102) (φ 101) 0 (φ 99 2)) := by
        unfold couV pubM
        exact ⟨rfl, rfl, rfl⟩
      have hq := tkK_sum (ts := (toks (φ 102) (φ 101) 0 (φ 99 2)))
      first
        | (rw [hv.1]; rw [show (2 : Int) - 2 = 0 by omega, hq.1]; done)
        | (rw [hv.2.1]; rw [show (3 : Int) - 2 = 1 by omega, hq.2.1]; done)
        | (rw [hv.2.2]; rw [show (4 : Int) - 2 = 2 by omega, hq.2.2]; done)
    · refine j_tsIn (t := 66) F (by omega) dX8_howMany_1 (by omega) (by omega) rfl (by decide) ?_
      refine j_aload_0 (n' := 67) F dX8_howMany_66 rfl ?_
      refine j_getI (n' := 70) F 5 rfl fl_X8_175 kap_99 rfl dX8_howMany_67 rfl ?_
      exact j_ireturn F E dX8_howMany_70 (⟨by unfold spCou couV pubM; simp, hc, frC.rf, rfl⟩)
    · refine j_tsIn (t := 71) F (by omega) dX8_howMany_1 (by omega) (by omega) rfl (by decide) ?_
      refine j_aload_0 (n' := 72) F dX8_howMany_71 rfl ?_
      refine j_getI (n' := 75) F 6 rfl fl_X8_95 kap_99 rfl dX8_howMany_72 rfl ?_
      exact j_ireturn F E dX8_howMany_75 (⟨by unfold spCou couV pubM; simp, hc, frC.rf, rfl⟩)
    · refine j_tsIn (t := 76) F (by omega) dX8_howMany_1 (by omega) (by omega) rfl (by decide) ?_
      refine j_aload_0 (n' := 77) F dX8_howMany_76 rfl ?_
      refine j_getI (n' := 80) F 7 rfl fl_X8_98 kap_99 rfl dX8_howMany_77 rfl ?_
      exact j_ireturn F E dX8_howMany_80 (⟨by unfold spCou couV pubM; simp, hc, frC.rf, rfl⟩)
  · refine j_tsOut (t := 81) F (by omega) dX8_howMany_1 (by omega) (by decide) ?_
    refine j_sipush (n' := 84) F dX8_howMany_81 (by decide) rfl ?_
    exact j_ireturn F E dX8_howMany_84 (⟨by unfold spCou couV pubM; dsimp only; rw [if_neg (by omega), if_neg (by omega), if_neg (by omega), if_neg (by omega), if_neg (by omega), if_neg (by omega), if_neg (by omega), if_neg (by omega)], hc, frC.rf, rfl⟩)
set_option maxRecDepth 20000 in
theorem c_Mod_count {l : Launch} {G : jG} {B0 : Nat} {φ : jPhi} {x : Int} (hc : miOk φ) (hx : -2147483648 ≤ x ∧ x ≤ 2147483647) : jC l G B0 κF 113 yX8_count cX8_count 2 (some .int) 7 [rf B0 99, iv x] φ mkI (fun z φ' => (z, pubM φ') = spCou (pubM φ) x ∧ miOk φ' ∧ frC (fun a => 99 ≤ a) φ φ') := by
  refine jC_start RX8 [some (rf B0 99), some (iv x)] (by decide) rfl (Nat.le_of_ble_eq_true rfl) rfl (fun X Q F E => ?_)
  refine j_aload_0 (n' := 1) F dX8_count_0 rfl ?_
  refine j_iload_1 (n' := 2) F dX8_count_1 rfl ?_
  refine j_cV1i (n' := 5) F kl_X8_187 (c_Mod_howMany hc hx) kap_99 rfl (by decide) (Nat.le_of_ble_eq_true rfl) dX8_count_2 rfl (fun z1 φ1 h1 => ?_)
  skip
  exact j_ireturn F E dX8_count_5 (⟨h1.1, h1.2.1, h1.2.2.1⟩)
set_option maxRecDepth 20000 in
theorem c_Mod_mix {l : Launch} {G : jG} {B0 : Nat} {φ : jPhi} {v : Int}  : jC l G B0 κF 113 yX8_mix cX8_mix 3 none 0 [rf B0 99, lvv v] φ mkV (fun z φ' => φ' = zU φ 99 23 (31 * φ 99 23 + v)) := by
  refine jC_start RX8 [some (rf B0 99), some (lvv v), none] (by decide) rfl (Nat.le_of_ble_eq_true rfl) rfl (fun X Q F E => ?_)
  refine j_aload_0 (n' := 1) F dX8_mix_0 rfl ?_
  refine j_ldc2 (n' := 4) F (z := 31) rfl q_880 dX8_mix_1 rfl ?_
  refine j_aload_0 (n' := 5) F dX8_mix_4 rfl ?_
  refine j_getL (n' := 8) F 23 rfl fl_X8_192 kap_99 rfl dX8_mix_5 rfl ?_
  refine j_lmul (n' := 9) F dX8_mix_8 rfl ?_
  refine j_lload_n (n' := 10) F (i := 1) rfl dX8_mix_9 rfl ?_
  refine j_ladd (n' := 11) F dX8_mix_10 rfl ?_
  refine j_putL (n' := 14) F 23 rfl fp_X8_192 kap_99 rfl rfl dX8_mix_11 rfl (fun φ1 e1 => ?_)
  exact j_return F E dX8_mix_14 (e1)
theorem zU_at {φ φ' : jPhi} {i k v : Int} (e : φ' = zU φ i k v) : φ' i k = v := by rw [e, zU_self]
/-- the digest's state: the same to the outside -/
def dgS (φ ψ : jPhi) : Prop := miOk ψ ∧ pubM ψ = pubM φ ∧ frC (fun a => 99 ≤ a) φ ψ
theorem dgS.st {φ ψ φ' : jPhi} (h : dgS φ ψ) (hz : ∀ b, b ≠ 18 → b ≠ 23 → φ' 99 b = ψ 99 b) (hf : ∀ a, (a = 100 ∨ a = 101 ∨ a = 102) → ∀ b, φ' a b = ψ a b) (hg : frC (fun a => 99 ≤ a) ψ φ') : dgS φ φ' :=
  ⟨h.1.fr (hz 0 (by omega) (by omega)) (hz 2 (by omega) (by omega)) hf, (pubM_fr hf (fun b hb => hz b (by omega) (by omega))).trans h.2.1, h.2.2.tr hg⟩
theorem dgS.mix {φ ψ φ' : jPhi} {v : Int} (h : dgS φ ψ) (e : φ' = zU ψ 99 23 v) : dgS φ φ' :=
  h.st (fun b _ q => by rw [e, zU_ne (by omega)]) (fun a ha b => by rw [e, zU_ne (by omega)]) (by rw [e]; exact frC.put frC.rf (by omega))
set_option maxRecDepth 20000 in
theorem c_Mod_mixText {l : Launch} {G : jG} {B0 : Nat} {φ : jPhi}  (hc : miOk φ) (hn : 0 < φ 99 2) : jC l G B0 κF 113 yX8_mixText cX8_mixText 2 none 7 [rf B0 99] φ mkV (fun z φ' => dgS φ φ' ∧ tl7 (pubM φ) 0 (φ' 99 23) = tl2 (pubM φ) 0 (φ 99 23)) := by
  refine jC_start RX8 [some (rf B0 99), none] (by decide) rfl (Nat.le_of_ble_eq_true rfl) rfl (fun X Q F E => ?_)
  have hc0 := hc
  obtain ⟨c1, c2, c3, c5, c6⟩ := hc0
  have tkk := toks_ok (P := φ 102) (t := φ 101) (f := 0) (e := φ 99 2) (by omega) (by omega) c5
  generalize hV : tl2 (pubM φ) 0 (φ 99 23) = V
  have l6 : ∀ ψ : jPhi, dgS φ ψ → tl6 (pubM φ) (ψ 99 23) = V → jJ X G B0 κF 113 0 0 Q 2 ψ 102 [some (rf B0 99), none] [] := by
    intro ψ hS hQ
    have hci := hS.1
    have hs := hS.2.1
    have v1 : ψ 99 0 = φ 99 0 := congrArg sPn hs
    have v2 : ψ 100 = φ 100 := congrArg sPg hs
    have v7 : ψ 99 2 = φ 99 2 := congrArg sN hs
    have v8 : ψ 101 = φ 101 := congrArg sT hs
    have v35 : ψ 102 = φ 102 := congrArg sP hs
    unfold tl6 at hQ
    have q2_a : ψ 99 2 = φ 99 2 := congrArg sN hS.2.1
    have q101_a : ψ 101 = φ 101 := congrArg sT hS.2.1
    have q102_a : ψ 102 = φ 102 := congrArg sP hS.2.1
    refine j_aload_0 (n' := 103) F dX8_mixText_102 rfl ?_
    refine j_aload_0 (n' := 104) F dX8_mixText_103 rfl ?_
    refine j_iconst (n' := 105) F dX8_mixText_104 rfl ?_
    refine j_iconst (n' := 106) F dX8_mixText_105 rfl ?_
    refine j_cV2i (n' := 109) F kl_X8_157 (c_Mod_partsNow hS.1 (by omega) (by omega) (by rw [q2_a]; exact hn)) kap_99 rfl (by decide) (Nat.le_of_ble_eq_true rfl) dX8_mixText_106 rfl (fun z1 φ1 h1 => ?_)
    obtain ⟨g1, hz1⟩ := h1
    rw [q102_a, q101_a, q2_a] at hz1
    subst hz1
    have hS1 : dgS φ φ1 := hS.st (fun b _ _ => g1 99 b (by omega)) (fun a ha b => g1 a b (by omega)) (g1.wk (fun a h => by omega))
    have r1 : φ1 99 23 = ψ 99 23 := g1 99 23 (by omega)
    refine j_i2lW (n' := 110) F dX8_mixText_109 rfl ?_
    refine j_cV1v (n' := 113) F kl_X8_196 (c_Mod_mix) kap_99 rfl (by decide) (Nat.le_of_ble_eq_true rfl) dX8_mixText_110 rfl (fun z2 φ2 h2 => ?_)
    have hS2 := hS1.mix h2
    have m2 := zU_at h2
    have q2_b : φ2 99 2 = φ 99 2 := congrArg sN hS2.2.1
    have q101_b : φ2 101 = φ 101 := congrArg sT hS2.2.1
    have q102_b : φ2 102 = φ 102 := congrArg sP hS2.2.1
    refine j_aload_0 (n' := 114) F dX8_mixText_113 rfl ?_
    refine j_aload_0 (n' := 115) F dX8_mixText_114 rfl ?_
    refine j_bipush (n' := 117) F dX8_mixText_115 (by decide) rfl ?_
    refine j_iconst (n' := 118) F dX8_mixText_117 rfl ?_
    refine j_cV2i (n' := 121) F kl_X8_157 (c_Mod_partsNow hS2.1 (by omega) (by omega) (by rw [q2_b]; exact hn)) kap_99 rfl (by decide) (Nat.le_of_ble_eq_true rfl) dX8_mixText_118 rfl (fun z3 φ3 h3 => ?_)
    obtain ⟨g3, hz3⟩ := h3
    rw [q102_b, q101_b, q2_b] at hz3
    subst hz3
    have hS3 : dgS φ φ3 := hS2.st (fun b _ _ => g3 99 b (by omega)) (fun a ha b => g3 a b (by omega)) (g3.wk (fun a h => by omega))
    have r3 : φ3 99 23 = φ2 99 23 := g3 99 23 (by omega)
    refine j_i2lW (n' := 122) F dX8_mixText_121 rfl ?_
    refine j_cV1v (n' := 125) F kl_X8_196 (c_Mod_mix) kap_99 rfl (by decide) (Nat.le_of_ble_eq_true rfl) dX8_mixText_122 rfl (fun z4 φ4 h4 => ?_)
    have hS4 := hS3.mix h4
    have m4 := zU_at h4
    exact j_return F E dX8_mixText_125 (⟨hS4, by rw [m4, r3, m2, r1, hV]; exact hQ⟩)
  have l5 : ∀ (m : Nat) (w : Int) (ψ : jPhi), w + m = 3 → 0 ≤ w → (ψ 112 0, ψ 112 1, ψ 112 2) = rstR (φ 102) (φ 101) (φ 99 2) → dgS φ ψ → tl5 (pubM φ) w (ψ 99 23) = V → jJ X G B0 κF 113 0 0 Q 2 ψ 80 [some (rf B0 99), some (iv w)] [] := by
    intro m
    induction m with
    | zero =>
      intro w ψ h1 h2 hr hS hQ
      unfold tl5 at hQ
      rw [lpI_end (by omega)] at hQ
      refine j_iload_1 (n' := 81) F dX8_mixText_80 rfl ?_
      refine j_iconst (n' := 82) F dX8_mixText_81 rfl ?_
      refine j_icmp_ge (t := 102) (n' := 85) F (by omega) (by omega) dX8_mixText_82 (by decide) rfl (fun c82_0 => ?_) (fun c82_0 => ?_)
      · exact j_weak (by exact ⟨rfl, trivial⟩) (l6 ψ hS hQ)
      · omega
    | succ m ih =>
      intro w ψ h1 h2 hr hS hQ
      unfold tl5 at hQ
      rw [lpI_step (by omega)] at hQ
      have hrv : rstV (φ 102) (φ 101) (φ 99 2) w = ψ 112 w := by
        rw [rstV, ← hr]
        rcases (show w = 0 ∨ w = 1 ∨ w = 2 by omega) with q | q | q <;> rw [q] <;> rfl
      have hQ : tl6 (pubM φ) (lpI (fun w h => mxH h (rstV (φ 102) (φ 101) (φ 99 2) w)) (w + 1) 3 (mxH (ψ 99 23) (rstV (φ 102) (φ 101) (φ 99 2) w))) = V := hQ
      rw [hrv] at hQ
      refine j_iload_1 (n' := 81) F dX8_mixText_80 rfl ?_
      refine j_iconst (n' := 82) F dX8_mixText_81 rfl ?_
      refine j_icmp_ge (t := 102) (n' := 85) F (by omega) (by omega) dX8_mixText_82 (by decide) rfl (fun c82_0 => ?_) (fun c82_0 => ?_)
      · omega
      · refine j_aload_0 (n' := 86) F dX8_mixText_85 rfl ?_
        refine j_aload_0 (n' := 87) F dX8_mixText_86 rfl ?_
        refine j_getR (n' := 90) F fl_X8_46 kap_99 rfl dX8_mixText_87 rfl ?_
        refine j_iload_1 (n' := 91) F dX8_mixText_90 rfl ?_
        refine j_iald (n' := 92) F kap_112 (by decide) (by omega) dX8_mixText_91 rfl ?_
        refine j_i2lW (n' := 93) F dX8_mixText_92 rfl ?_
        refine j_cV1v (n' := 96) F kl_X8_196 (c_Mod_mix) kap_99 rfl (by decide) (Nat.le_of_ble_eq_true rfl) dX8_mixText_93 rfl (fun z2 φ2 h2 => ?_)
        have hS2 := hS.mix h2
        have m2 := zU_at h2
        refine j_iinc_1 (n' := 99) F (by decide) jc_r dX8_mixText_96 rfl ?_
        refine j_goto (t := 80) F dX8_mixText_99 (by decide) ?_
        exact ih (w + 1) φ2 (by omega) (by omega) (by rw [h2, zU_ne (by omega), zU_ne (by omega), zU_ne (by omega)]; exact hr) hS2 (by unfold tl5; rw [m2]; exact hQ)
  have l4 : ∀ ψ : jPhi, dgS φ ψ → tl4 (pubM φ) 0 (ψ 99 23) = V → jJ X G B0 κF 113 0 0 Q 2 ψ 54 [some (rf B0 99), none] [] := by
    intro ψ hS hQ
    unfold tl4 at hQ
    rw [lpI_2] at hQ
    have hQ : tl5 (pubM φ) 0 (mxH (mxH (ψ 99 23) (greV (φ 102) (φ 101) (φ 99 2) 0)) (greV (φ 102) (φ 101) (φ 99 2) 1)) = V := hQ
    have q2_a : ψ 99 2 = φ 99 2 := congrArg sN hS.2.1
    have q101_a : ψ 101 = φ 101 := congrArg sT hS.2.1
    have q102_a : ψ 102 = φ 102 := congrArg sP hS.2.1
    refine j_aload_0 (n' := 55) F dX8_mixText_54 rfl ?_
    refine j_aload_0 (n' := 56) F dX8_mixText_55 rfl ?_
    refine j_iconst (n' := 57) F dX8_mixText_56 rfl ?_
    refine j_cV1i (n' := 60) F kl_X8_151 (c_Mod_greedyNow hS.1 (by omega)) kap_99 rfl (by decide) (Nat.le_of_ble_eq_true rfl) dX8_mixText_57 rfl (fun z1 φ1 h1 => ?_)
    obtain ⟨rfl, rfl⟩ := h1
    rw [q102_a, q101_a, q2_a]
    refine j_i2lW (n' := 61) F dX8_mixText_60 rfl ?_
    refine j_cV1v (n' := 64) F kl_X8_196 (c_Mod_mix) kap_99 rfl (by decide) (Nat.le_of_ble_eq_true rfl) dX8_mixText_61 rfl (fun z2 φ2 h2 => ?_)
    have hS2 := hS.mix h2
    have m2 := zU_at h2
    have q2_b : φ2 99 2 = φ 99 2 := congrArg sN hS2.2.1
    have q101_b : φ2 101 = φ 101 := congrArg sT hS2.2.1
    have q102_b : φ2 102 = φ 102 := congrArg sP hS2.2.1
    refine j_aload_0 (n' := 65) F dX8_mixText_64 rfl ?_
    refine j_aload_0 (n' := 66) F dX8_mixText_65 rfl ?_
    refine j_iconst (n' := 67) F dX8_mixText_66 rfl ?_
    refine j_cV1i (n' := 70) F kl_X8_151 (c_Mod_greedyNow hS2.1 (by omega)) kap_99 rfl (by decide) (Nat.le_of_ble_eq_true rfl) dX8_mixText_67 rfl (fun z3 φ3 h3 => ?_)
    obtain ⟨rfl, rfl⟩ := h3
    rw [q102_b, q101_b, q2_b]
    refine j_i2lW (n' := 71) F dX8_mixText_70 rfl ?_
    refine j_cV1v (n' := 74) F kl_X8_196 (c_Mod_mix) kap_99 rfl (by decide) (Nat.le_of_ble_eq_true rfl) dX8_mixText_71 rfl (fun z4 φ4 h4 => ?_)
    have hS4 := hS2.mix h4
    have m4 := zU_at h4
    have q2_c : φ4 99 2 = φ 99 2 := congrArg sN hS4.2.1
    have q101_c : φ4 101 = φ 101 := congrArg sT hS4.2.1
    have q102_c : φ4 102 = φ 102 := congrArg sP hS4.2.1
    refine j_aload_0 (n' := 75) F dX8_mixText_74 rfl ?_
    refine j_cV0v (n' := 78) F kl_X8_181 (c_Mod_layRest hS4.1 (by rw [q2_c]; exact hn)) kap_99 rfl (by decide) (Nat.le_of_ble_eq_true rfl) dX8_mixText_75 rfl (fun z5 φ5 h5 => ?_)
    obtain ⟨hres, y102, hz, hf⟩ := h5
    rw [q102_c, q101_c, q2_c] at hres
    have hS5 : dgS φ φ5 := hS4.st (fun b q1 _ => hz b q1) (fun a ha b => by rcases ha with q | q | q; rw [q]; exact hf 100 b (by omega); rw [q]; exact hf 101 b (by omega); rw [q, y102]) (hf.wk (fun a h => by omega))
    have r5 : φ5 99 23 = φ4 99 23 := hz 23 (by omega)
    refine j_iconst (n' := 79) F dX8_mixText_78 rfl ?_
    refine j_istore_1 (n' := 80) F (by decide) jc_r dX8_mixText_79 rfl ?_
    exact l5 3 0 φ5 (by omega) (by omega) hres hS5 (by rw [r5, m4, m2]; exact hQ)
  have l3 : ∀ (m k : Nat) (ψ : jPhi), k + m = (toks (φ 102) (φ 101) 0 (φ 99 2)).length → mdIs ψ 99 108 18 (toks (φ 102) (φ 101) 0 (φ 99 2)) → dgS φ ψ → tl3 (pubM φ) ((toks (φ 102) (φ 101) 0 (φ 99 2)).drop k) (ψ 99 23) = V → jJ X G B0 κF 113 0 0 Q 2 ψ 29 [some (rf B0 99), some (iv (k : Int))] [] := by
    intro m
    induction m with
    | zero =>
      intro k ψ h1 hm hS hQ
      have hr1 := hm.1
      rw [List.drop_eq_nil_of_le (by omega)] at hQ
      have hl2 := tkk.2
      refine j_iload_1 (n' := 30) F dX8_mixText_29 rfl ?_
      refine j_aload_0 (n' := 31) F dX8_mixText_30 rfl ?_
      refine j_getI (n' := 34) F 18 rfl fl_X8_133 kap_99 rfl dX8_mixText_31 rfl ?_
      refine j_icmp_ge (t := 54) (n' := 37) F (by omega) (by omega) dX8_mixText_34 (by decide) rfl (fun c34_0 => ?_) (fun c34_0 => ?_)
      · exact j_weak (by exact ⟨rfl, trivial⟩) (l4 ψ hS hQ)
      · omega
    | succ m ih =>
      intro k ψ h1 hm hS hQ
      have hr1 := hm.1
      have hl2 := tkk.2
      have hak := hm.2 k (by omega)
      rw [List.drop_eq_getElem_cons (by omega)] at hQ
      have hgd : (toks (φ 102) (φ 101) 0 (φ 99 2))[k]'(by omega) = (toks (φ 102) (φ 101) 0 (φ 99 2)).getD k 0 := by simp [show k < (toks (φ 102) (φ 101) 0 (φ 99 2)).length by omega]
      rw [hgd, ← hak] at hQ
      refine j_iload_1 (n' := 30) F dX8_mixText_29 rfl ?_
      refine j_aload_0 (n' := 31) F dX8_mixText_30 rfl ?_
      refine j_getI (n' := 34) F 18 rfl fl_X8_133 kap_99 rfl dX8_mixText_31 rfl ?_
      refine j_icmp_ge (t := 54) (n' := 37) F (by omega) (by omega) dX8_mixText_34 (by decide) rfl (fun c34_0 => ?_) (fun c34_0 => ?_)
      · omega
      · refine j_aload_0 (n' := 38) F dX8_mixText_37 rfl ?_
        refine j_aload_0 (n' := 39) F dX8_mixText_38 rfl ?_
        refine j_getR (n' := 42) F fl_X8_34 kap_99 rfl dX8_mixText_39 rfl ?_
        refine j_iload_1 (n' := 43) F dX8_mixText_42 rfl ?_
        refine j_iald (n' := 44) F kap_108 (by decide) (by omega) dX8_mixText_43 rfl ?_
        refine j_i2lW (n' := 45) F dX8_mixText_44 rfl ?_
        refine j_cV1v (n' := 48) F kl_X8_196 (c_Mod_mix) kap_99 rfl (by decide) (Nat.le_of_ble_eq_true rfl) dX8_mixText_45 rfl (fun z2 φ2 h2 => ?_)
        have hS2 := hS.mix h2
        have m2 := zU_at h2
        refine j_iinc_1 (n' := 51) F (by decide) jc_r dX8_mixText_48 rfl ?_
        refine j_goto (t := 29) F dX8_mixText_51 (by decide) ?_
        exact ih (k + 1) φ2 (by omega) (hm.fr (by rw [h2, zU_ne (by omega)]) (fun b => by rw [h2, zU_ne (by omega)])) hS2 (by rw [m2]; exact hQ)
  have l2 : ∀ (m : Nat) (w : Int) (ψ : jPhi), w + m = 3 → 0 ≤ w → mdIs ψ 99 108 18 (toks (φ 102) (φ 101) 0 (φ 99 2)) → ψ 104 0 = rwSum (tkPrice (φ 102)) (toks (φ 102) (φ 101) 0 (φ 99 2)) → dgS φ ψ → tl2 (pubM φ) w (ψ 99 23) = V → jJ X G B0 κF 113 0 0 Q 2 ψ 6 [some (rf B0 99), some (iv w)] [] := by
    intro m
    induction m with
    | zero =>
      intro w ψ h1 h2 hm hpr hS hQ
      unfold tl2 at hQ
      rw [lpI_end (by omega)] at hQ
      refine j_iload_1 (n' := 7) F dX8_mixText_6 rfl ?_
      refine j_iconst (n' := 8) F dX8_mixText_7 rfl ?_
      refine j_icmp_ge (t := 27) (n' := 11) F (by omega) (by omega) dX8_mixText_8 (by decide) rfl (fun c8_0 => ?_) (fun c8_0 => ?_)
      · refine j_iconst (n' := 28) F dX8_mixText_27 rfl ?_
        refine j_istore_1 (n' := 29) F (by decide) jc_r dX8_mixText_28 rfl ?_
        exact l3 (toks (φ 102) (φ 101) 0 (φ 99 2)).length 0 ψ (by omega) hm hS hQ
      · omega
    | succ m ih =>
      intro w ψ h1 h2 hm hpr hS hQ
      unfold tl2 at hQ
      rw [lpI_step (by omega)] at hQ
      have hQ : tl3 (pubM φ) (toks (φ 102) (φ 101) 0 (φ 99 2)) (lpI (fun w h => mxH h (cheV (φ 102) (φ 101) (φ 99 2) w)) (w + 1) 3 (mxH (ψ 99 23) (cheV (φ 102) (φ 101) (φ 99 2) w))) = V := hQ
      have hcv : cheV (φ 102) (φ 101) (φ 99 2) w = (if w = 0 then ψ 104 0 else if w = 1 then ((toks (φ 102) (φ 101) 0 (φ 99 2)).length : Int) else if w = 2 then rwSum tkSigns (toks (φ 102) (φ 101) 0 (φ 99 2)) else if w - 10 < ((toks (φ 102) (φ 101) 0 (φ 99 2)).length : Int) then (toks (φ 102) (φ 101) 0 (φ 99 2)).getD (w - 10).toNat 0 else -1) := by rw [hpr]; rfl
      rw [hcv] at hQ
      refine j_iload_1 (n' := 7) F dX8_mixText_6 rfl ?_
      refine j_iconst (n' := 8) F dX8_mixText_7 rfl ?_
      refine j_icmp_ge (t := 27) (n' := 11) F (by omega) (by omega) dX8_mixText_8 (by decide) rfl (fun c8_0 => ?_) (fun c8_0 => ?_)
      · omega
      · refine j_aload_0 (n' := 12) F dX8_mixText_11 rfl ?_
        refine j_aload_0 (n' := 13) F dX8_mixText_12 rfl ?_
        refine j_iload_1 (n' := 14) F dX8_mixText_13 rfl ?_
        refine j_cV1i (n' := 17) F kl_X8_145 (c_Mod_cheapestTold hm tkk.2 tkk.1 (by omega)) kap_99 rfl (by decide) (Nat.le_of_ble_eq_true rfl) dX8_mixText_14 rfl (fun z2 φ2 h2 => ?_)
        obtain ⟨rfl, rfl⟩ := h2
        refine j_i2lW (n' := 18) F dX8_mixText_17 rfl ?_
        refine j_cV1v (n' := 21) F kl_X8_196 (c_Mod_mix) kap_99 rfl (by decide) (Nat.le_of_ble_eq_true rfl) dX8_mixText_18 rfl (fun z3 φ3 h3 => ?_)
        have hS3 := hS.mix h3
        have m3 := zU_at h3
        refine j_iinc_1 (n' := 24) F (by decide) jc_r dX8_mixText_21 rfl ?_
        refine j_goto (t := 6) F dX8_mixText_24 (by decide) ?_
        exact ih (w + 1) φ3 (by omega) (by omega) (hm.fr (by rw [h3, zU_ne (by omega)]) (fun b => by rw [h3, zU_ne (by omega)])) (by rw [h3, zU_ne (by omega)]; exact hpr) hS3 (by unfold tl2; rw [m3]; exact hQ)
  refine j_aload_0 (n' := 1) F dX8_mixText_0 rfl ?_
  refine j_cV0v (n' := 4) F kl_X8_142 (c_Mod_layTokens hc hn) kap_99 rfl (by decide) (Nat.le_of_ble_eq_true rfl) dX8_mixText_1 rfl (fun z1 φ1 h1 => ?_)
  obtain ⟨hm, hpr, hz, hf⟩ := h1
  refine j_iconst (n' := 5) F dX8_mixText_4 rfl ?_
  refine j_istore_1 (n' := 6) F (by decide) jc_r dX8_mixText_5 rfl ?_
  exact l2 3 0 φ1 (by omega) (by omega) hm hpr ((show dgS φ φ from ⟨hc, rfl, frC.rf⟩).st (fun b q _ => hz b q) (fun a ha b => hf a b (by omega)) (hf.wk (fun a h => by omega))) (by rw [hz 23 (by omega)]; exact hV)
set_option maxRecDepth 20000 in
theorem c_Mod_digest {l : Launch} {G : jG} {B0 : Nat} {φ : jPhi}  (hc : miOk φ) : jC l G B0 κF 113 yX8_digest cX8_digest 2 (some .long) 8 [rf B0 99] φ mkL (fun z φ' => (z, pubM φ') = spDig (pubM φ) ∧ miOk φ' ∧ frC (fun a => 99 ≤ a) φ φ') := by
  refine jC_start RX8 [some (rf B0 99), none] (by decide) rfl (Nat.le_of_ble_eq_true rfl) rfl (fun X Q F E => ?_)
  have hc0 := hc
  obtain ⟨c1, c2, c3, c5, c6⟩ := hc0
  generalize hV : digV (pubM φ) = V
  have l8 : ∀ (m : Nat) (w : Int) (ψ : jPhi), w + m = 8 → 0 ≤ w → dgS φ ψ → tl8 (pubM φ) w (ψ 99 23) = V → jJ X G B0 κF 113 0 0 Q 2 ψ 143 [some (rf B0 99), some (iv w)] [] := by
    intro m
    induction m with
    | zero =>
      intro w ψ h1 h2 hS hQ
      unfold tl8 at hQ
      rw [lpI_end (by omega)] at hQ
      refine j_iload_1 (n' := 144) F dX8_digest_143 rfl ?_
      refine j_bipush (n' := 146) F dX8_digest_144 (by decide) rfl ?_
      refine j_icmp_ge (t := 165) (n' := 149) F (by omega) (by omega) dX8_digest_146 (by decide) rfl (fun c146_0 => ?_) (fun c146_0 => ?_)
      · refine j_aload_0 (n' := 166) F dX8_digest_165 rfl ?_
        refine j_getL (n' := 169) F 23 rfl fl_X8_192 kap_99 rfl dX8_digest_166 rfl ?_
        exact j_lreturn F E dX8_digest_169 (⟨by rw [hS.2.1, hQ, ← hV]; rfl, hS.1, hS.2.2⟩)
      · omega
    | succ m ih =>
      intro w ψ h1 h2 hS hQ
      unfold tl8 at hQ
      rw [lpI_step (by omega)] at hQ
      refine j_iload_1 (n' := 144) F dX8_digest_143 rfl ?_
      refine j_bipush (n' := 146) F dX8_digest_144 (by decide) rfl ?_
      refine j_icmp_ge (t := 165) (n' := 149) F (by omega) (by omega) dX8_digest_146 (by decide) rfl (fun c146_0 => ?_) (fun c146_0 => ?_)
      · omega
      · refine j_aload_0 (n' := 150) F dX8_digest_149 rfl ?_
        refine j_aload_0 (n' := 151) F dX8_digest_150 rfl ?_
        refine j_iload_1 (n' := 152) F dX8_digest_151 rfl ?_
        refine j_cV1i (n' := 155) F kl_X8_187 (c_Mod_howMany hS.1 (by omega)) kap_99 rfl (by decide) (Nat.le_of_ble_eq_true rfl) dX8_digest_152 rfl (fun z2 φ2 h2 => ?_)
        obtain ⟨hv2, hi2, hg2, r2⟩ := h2
        rw [hS.2.1] at hv2
        have hz2 : z2 = couV (pubM φ) w := congrArg Prod.fst hv2
        have hS2 : dgS φ φ2 := ⟨hi2, congrArg Prod.snd hv2, hS.2.2.tr hg2⟩
        subst hz2
        refine j_i2lW (n' := 156) F dX8_digest_155 rfl ?_
        refine j_cV1v (n' := 159) F kl_X8_196 (c_Mod_mix) kap_99 rfl (by decide) (Nat.le_of_ble_eq_true rfl) dX8_digest_156 rfl (fun z3 φ3 h3 => ?_)
        have hS3 := hS2.mix h3
        have m3 := zU_at h3
        refine j_iinc_1 (n' := 162) F (by decide) jc_r dX8_digest_159 rfl ?_
        refine j_goto (t := 143) F dX8_digest_162 (by decide) ?_
        exact ih (w + 1) φ3 (by omega) (by omega) hS3 (by unfold tl8; rw [m3, r2]; exact hQ)
  have l7 : ∀ (m : Nat) (k : Int) (ψ : jPhi), k + m = φ 99 0 → 0 ≤ k → dgS φ ψ → tl7 (pubM φ) k (ψ 99 23) = V → jJ X G B0 κF 113 0 0 Q 2 ψ 116 [some (rf B0 99), some (iv k)] [] := by
    intro m
    induction m with
    | zero =>
      intro k ψ h1 h2 hS hQ
      have hci := hS.1
      have hs := hS.2.1
      have v1 : ψ 99 0 = φ 99 0 := congrArg sPn hs
      have v2 : ψ 100 = φ 100 := congrArg sPg hs
      have v7 : ψ 99 2 = φ 99 2 := congrArg sN hs
      have v8 : ψ 101 = φ 101 := congrArg sT hs
      have v35 : ψ 102 = φ 102 := congrArg sP hs
      unfold tl7 at hQ
      rw [lpI_end (show sPn (pubM φ) ≤ k by show φ 99 0 ≤ k; omega)] at hQ
      refine j_iload_1 (n' := 117) F dX8_digest_116 rfl ?_
      refine j_aload_0 (n' := 118) F dX8_digest_117 rfl ?_
      refine j_getI (n' := 121) F 0 rfl fl_X8_53 kap_99 rfl dX8_digest_118 rfl ?_
      refine j_icmp_ge (t := 141) (n' := 124) F (by omega) (by omega) dX8_digest_121 (by decide) rfl (fun c121_0 => ?_) (fun c121_0 => ?_)
      · refine j_iconst (n' := 142) F dX8_digest_141 rfl ?_
        refine j_istore_1 (n' := 143) F (by decide) jc_r dX8_digest_142 rfl ?_
        exact l8 8 0 ψ (by omega) (by omega) hS hQ
      · omega
    | succ m ih =>
      intro k ψ h1 h2 hS hQ
      have hci := hS.1
      have hs := hS.2.1
      have v1 : ψ 99 0 = φ 99 0 := congrArg sPn hs
      have v2 : ψ 100 = φ 100 := congrArg sPg hs
      have v7 : ψ 99 2 = φ 99 2 := congrArg sN hs
      have v8 : ψ 101 = φ 101 := congrArg sT hs
      have v35 : ψ 102 = φ 102 := congrArg sP hs
      unfold tl7 at hQ
      rw [lpI_step (show k < sPn (pubM φ) by show k < φ 99 0; omega)] at hQ
      have hQ : tl8 (pubM φ) 0 (lpI (fun k h => mxH h (sPg (pubM φ) k)) (k + 1) (sPn (pubM φ)) (mxH (ψ 99 23) (φ 100 k))) = V := hQ
      have v2k : φ 100 k = ψ 100 k := by rw [v2]
      rw [v2k] at hQ
      refine j_iload_1 (n' := 117) F dX8_digest_116 rfl ?_
      refine j_aload_0 (n' := 118) F dX8_digest_117 rfl ?_
      refine j_getI (n' := 121) F 0 rfl fl_X8_53 kap_99 rfl dX8_digest_118 rfl ?_
      refine j_icmp_ge (t := 141) (n' := 124) F (by omega) (by omega) dX8_digest_121 (by decide) rfl (fun c121_0 => ?_) (fun c121_0 => ?_)
      · omega
      · refine j_aload_0 (n' := 125) F dX8_digest_124 rfl ?_
        refine j_aload_0 (n' := 126) F dX8_digest_125 rfl ?_
        refine j_getR (n' := 129) F fl_X8_7 kap_99 rfl dX8_digest_126 rfl ?_
        refine j_iload_1 (n' := 130) F dX8_digest_129 rfl ?_
        refine j_iald (n' := 131) F kap_100 (by decide) (by omega) dX8_digest_130 rfl ?_
        refine j_i2lW (n' := 132) F dX8_digest_131 rfl ?_
        refine j_cV1v (n' := 135) F kl_X8_196 (c_Mod_mix) kap_99 rfl (by decide) (Nat.le_of_ble_eq_true rfl) dX8_digest_132 rfl (fun z2 φ2 h2 => ?_)
        have hS2 := hS.mix h2
        have m2 := zU_at h2
        refine j_iinc_1 (n' := 138) F (by decide) jc_r dX8_digest_135 rfl ?_
        refine j_goto (t := 116) F dX8_digest_138 (by decide) ?_
        exact ih (k + 1) φ2 (by omega) (by omega) hS2 (by unfold tl7; rw [m2]; exact hQ)
  have l1 : ∀ ψ : jPhi, dgS φ ψ → tl1 (pubM φ) (ψ 99 23) = V → jJ X G B0 κF 113 0 0 Q 2 ψ 103 [some (rf B0 99), none] [] := by
    intro ψ hS hQ
    have hci := hS.1
    have hs := hS.2.1
    have v1 : ψ 99 0 = φ 99 0 := congrArg sPn hs
    have v2 : ψ 100 = φ 100 := congrArg sPg hs
    have v7 : ψ 99 2 = φ 99 2 := congrArg sN hs
    have v8 : ψ 101 = φ 101 := congrArg sT hs
    have v35 : ψ 102 = φ 102 := congrArg sP hs
    unfold tl1 at hQ
    refine j_aload_0 (n' := 104) F dX8_digest_103 rfl ?_
    refine j_getI (n' := 107) F 2 rfl fl_X8_92 kap_99 rfl dX8_digest_104 rfl ?_
    refine j_if_le (t := 114) (n' := 110) F (by omega) dX8_digest_107 (by decide) rfl (fun c107_0 => ?_) (fun c107_0 => ?_)
    · refine j_iconst (n' := 115) F dX8_digest_114 rfl ?_
      refine j_istore_1 (n' := 116) F (by decide) jc_r dX8_digest_115 rfl ?_
      exact l7 (φ 99 0).toNat 0 ψ (by omega) (by omega) hS (by rw [if_neg (show ¬ 0 < sN (pubM φ) by show ¬ 0 < φ 99 2; omega)] at hQ; exact hQ)
    · refine j_aload_0 (n' := 111) F dX8_digest_110 rfl ?_
      refine j_cV0v (n' := 114) F kl_X8_202 (c_Mod_mixText hS.1 (by omega)) kap_99 rfl (by decide) (Nat.le_of_ble_eq_true rfl) dX8_digest_111 rfl (fun z2 φ2 h2 => ?_)
      obtain ⟨s2, t2⟩ := h2
      rw [hs] at t2
      have hS2 : dgS φ φ2 := ⟨s2.1, s2.2.1.trans hs, hS.2.2.tr s2.2.2⟩
      rw [if_pos (show 0 < sN (pubM φ) by show 0 < φ 99 2; omega), ← t2] at hQ
      refine j_iconst (n' := 115) F dX8_digest_114 rfl ?_
      refine j_istore_1 (n' := 116) F (by decide) jc_r dX8_digest_115 rfl ?_
      exact l7 (φ 99 0).toNat 0 φ2 (by omega) (by omega) hS2 hQ
  have l0 : ∀ (m : Nat) (p : Int) (ψ : jPhi), p + m = φ 99 2 → 0 ≤ p → dgS φ ψ → tl0 (pubM φ) p (ψ 99 23) = V → jJ X G B0 κF 113 0 0 Q 2 ψ 34 [some (rf B0 99), some (iv p)] [] := by
    intro m
    induction m with
    | zero =>
      intro p ψ h1 h2 hS hQ
      have hci := hS.1
      have hs := hS.2.1
      have v1 : ψ 99 0 = φ 99 0 := congrArg sPn hs
      have v2 : ψ 100 = φ 100 := congrArg sPg hs
      have v7 : ψ 99 2 = φ 99 2 := congrArg sN hs
      have v8 : ψ 101 = φ 101 := congrArg sT hs
      have v35 : ψ 102 = φ 102 := congrArg sP hs
      unfold tl0 at hQ
      rw [lpI_end (show sN (pubM φ) ≤ p by show φ 99 2 ≤ p; omega)] at hQ
      refine j_iload_1 (n' := 35) F dX8_digest_34 rfl ?_
      refine j_aload_0 (n' := 36) F dX8_digest_35 rfl ?_
      refine j_getI (n' := 39) F 2 rfl fl_X8_92 kap_99 rfl dX8_digest_36 rfl ?_
      refine j_icmp_ge (t := 103) (n' := 42) F (by omega) (by omega) dX8_digest_39 (by decide) rfl (fun c39_0 => ?_) (fun c39_0 => ?_)
      · exact j_weak (by exact ⟨rfl, trivial⟩) (l1 ψ hS hQ)
      · omega
    | succ m ih =>
      intro p ψ h1 h2 hS hQ
      have hci := hS.1
      have hs := hS.2.1
      have v1 : ψ 99 0 = φ 99 0 := congrArg sPn hs
      have v2 : ψ 100 = φ 100 := congrArg sPg hs
      have v7 : ψ 99 2 = φ 99 2 := congrArg sN hs
      have v8 : ψ 101 = φ 101 := congrArg sT hs
      have v35 : ψ 102 = φ 102 := congrArg sP hs
      unfold tl0 at hQ
      rw [lpI_step (show p < sN (pubM φ) by show p < φ 99 2; omega)] at hQ
      have hQ : tl1 (pubM φ) (lpI (fun p h => dgL (sT (pubM φ)) (sN (pubM φ)) p h) (p + 1) (sN (pubM φ)) (mxH (mxH (mxH (mxH (mxH (ψ 99 23) (φ 101 p)) (lonV (φ 101) (φ 99 2) p 0)) (lonV (φ 101) (φ 99 2) p 1)) (chnV (φ 101) (φ 99 2) p 0)) (chnV (φ 101) (φ 99 2) p 1))) = V := hQ
      have v8p : φ 101 p = ψ 101 p := by rw [v8]
      rw [v8p] at hQ
      refine j_iload_1 (n' := 35) F dX8_digest_34 rfl ?_
      refine j_aload_0 (n' := 36) F dX8_digest_35 rfl ?_
      refine j_getI (n' := 39) F 2 rfl fl_X8_92 kap_99 rfl dX8_digest_36 rfl ?_
      refine j_icmp_ge (t := 103) (n' := 42) F (by omega) (by omega) dX8_digest_39 (by decide) rfl (fun c39_0 => ?_) (fun c39_0 => ?_)
      · omega
      · refine j_aload_0 (n' := 43) F dX8_digest_42 rfl ?_
        refine j_aload_0 (n' := 44) F dX8_digest_43 rfl ?_
        refine j_getR (n' := 47) F fl_X8_13 kap_99 rfl dX8_digest_44 rfl ?_
        refine j_iload_1 (n' := 48) F dX8_digest_47 rfl ?_
        refine j_iald (n' := 49) F kap_101 (by decide) (by omega) dX8_digest_48 rfl ?_
        refine j_i2lW (n' := 50) F dX8_digest_49 rfl ?_
        refine j_cV1v (n' := 53) F kl_X8_196 (c_Mod_mix) kap_99 rfl (by decide) (Nat.le_of_ble_eq_true rfl) dX8_digest_50 rfl (fun z2 φ2 h2 => ?_)
        have hS2 := hS.mix h2
        have m2 := zU_at h2
        have q2_a : φ2 99 2 = φ 99 2 := congrArg sN hS2.2.1
        have q101_a : φ2 101 = φ 101 := congrArg sT hS2.2.1
        have q102_a : φ2 102 = φ 102 := congrArg sP hS2.2.1
        refine j_aload_0 (n' := 54) F dX8_digest_53 rfl ?_
        refine j_aload_0 (n' := 55) F dX8_digest_54 rfl ?_
        refine j_iload_1 (n' := 56) F dX8_digest_55 rfl ?_
        refine j_iconst (n' := 57) F dX8_digest_56 rfl ?_
        refine j_cV2i (n' := 60) F kl_X8_115 (c_Mod_longestNow hS2.1 (by omega) (by omega)) kap_99 rfl (by decide) (Nat.le_of_ble_eq_true rfl) dX8_digest_57 rfl (fun z3 φ3 h3 => ?_)
        obtain ⟨rfl, rfl⟩ := h3
        rw [q101_a, q2_a]
        refine j_i2lW (n' := 61) F dX8_digest_60 rfl ?_
        refine j_cV1v (n' := 64) F kl_X8_196 (c_Mod_mix) kap_99 rfl (by decide) (Nat.le_of_ble_eq_true rfl) dX8_digest_61 rfl (fun z4 φ4 h4 => ?_)
        have hS4 := hS2.mix h4
        have m4 := zU_at h4
        have q2_b : φ4 99 2 = φ 99 2 := congrArg sN hS4.2.1
        have q101_b : φ4 101 = φ 101 := congrArg sT hS4.2.1
        have q102_b : φ4 102 = φ 102 := congrArg sP hS4.2.1
        refine j_aload_0 (n' := 65) F dX8_digest_64 rfl ?_
        refine j_aload_0 (n' := 66) F dX8_digest_65 rfl ?_
        refine j_iload_1 (n' := 67) F dX8_digest_66 rfl ?_
        refine j_iconst (n' := 68) F dX8_digest_67 rfl ?_
        refine j_cV2i (n' := 71) F kl_X8_115 (c_Mod_longestNow hS4.1 (by omega) (by omega)) kap_99 rfl (by decide) (Nat.le_of_ble_eq_true rfl) dX8_digest_68 rfl (fun z5 φ5 h5 => ?_)
        obtain ⟨rfl, rfl⟩ := h5
        rw [q101_b, q2_b]
        refine j_i2lW (n' := 72) F dX8_digest_71 rfl ?_
        refine j_cV1v (n' := 75) F kl_X8_196 (c_Mod_mix) kap_99 rfl (by decide) (Nat.le_of_ble_eq_true rfl) dX8_digest_72 rfl (fun z6 φ6 h6 => ?_)
        have hS6 := hS4.mix h6
        have m6 := zU_at h6
        have q2_c : φ6 99 2 = φ 99 2 := congrArg sN hS6.2.1
        have q101_c : φ6 101 = φ 101 := congrArg sT hS6.2.1
        have q102_c : φ6 102 = φ 102 := congrArg sP hS6.2.1
        refine j_aload_0 (n' := 76) F dX8_digest_75 rfl ?_
        refine j_aload_0 (n' := 77) F dX8_digest_76 rfl ?_
        refine j_iload_1 (n' := 78) F dX8_digest_77 rfl ?_
        refine j_iconst (n' := 79) F dX8_digest_78 rfl ?_
        refine j_cV2i (n' := 82) F kl_X8_118 (c_Mod_chainNow hS6.1 (by omega) (by omega)) kap_99 rfl (by decide) (Nat.le_of_ble_eq_true rfl) dX8_digest_79 rfl (fun z7 φ7 h7 => ?_)
        obtain ⟨rfl, rfl⟩ := h7
        rw [q101_c, q2_c]
        refine j_i2lW (n' := 83) F dX8_digest_82 rfl ?_
        refine j_cV1v (n' := 86) F kl_X8_196 (c_Mod_mix) kap_99 rfl (by decide) (Nat.le_of_ble_eq_true rfl) dX8_digest_83 rfl (fun z8 φ8 h8 => ?_)
        have hS8 := hS6.mix h8
        have m8 := zU_at h8
        have q2_d : φ8 99 2 = φ 99 2 := congrArg sN hS8.2.1
        have q101_d : φ8 101 = φ 101 := congrArg sT hS8.2.1
        have q102_d : φ8 102 = φ 102 := congrArg sP hS8.2.1
        refine j_aload_0 (n' := 87) F dX8_digest_86 rfl ?_
        refine j_aload_0 (n' := 88) F dX8_digest_87 rfl ?_
        refine j_iload_1 (n' := 89) F dX8_digest_88 rfl ?_
        refine j_iconst (n' := 90) F dX8_digest_89 rfl ?_
        refine j_cV2i (n' := 93) F kl_X8_118 (c_Mod_chainNow hS8.1 (by omega) (by omega)) kap_99 rfl (by decide) (Nat.le_of_ble_eq_true rfl) dX8_digest_90 rfl (fun z9 φ9 h9 => ?_)
        obtain ⟨rfl, rfl⟩ := h9
        rw [q101_d, q2_d]
        refine j_i2lW (n' := 94) F dX8_digest_93 rfl ?_
        refine j_cV1v (n' := 97) F kl_X8_196 (c_Mod_mix) kap_99 rfl (by decide) (Nat.le_of_ble_eq_true rfl) dX8_digest_94 rfl (fun z10 φ10 h10 => ?_)
        have hS10 := hS8.mix h10
        have m10 := zU_at h10
        refine j_iinc_1 (n' := 100) F (by decide) jc_r dX8_digest_97 rfl ?_
        refine j_goto (t := 34) F dX8_digest_100 (by decide) ?_
        exact ih (p + 1) φ10 (by omega) (by omega) hS10 (by unfold tl0; rw [m10, m8, m6, m4, m2]; exact hQ)
  have lA : ∀ (m : Nat) (k : Int) (ψ : jPhi), k + m = 18 → 0 ≤ k → dgS φ ψ → tlA (pubM φ) k (ψ 99 23) = V → jJ X G B0 κF 113 0 0 Q 2 ψ 9 [some (rf B0 99), some (iv k)] [] := by
    intro m
    induction m with
    | zero =>
      intro k ψ h1 h2 hS hQ
      unfold tlA at hQ
      rw [lpI_end (by omega)] at hQ
      refine j_iload_1 (n' := 10) F dX8_digest_9 rfl ?_
      refine j_bipush (n' := 12) F dX8_digest_10 (by decide) rfl ?_
      refine j_icmp_ge (t := 32) (n' := 15) F (by omega) (by omega) dX8_digest_12 (by decide) rfl (fun c12_0 => ?_) (fun c12_0 => ?_)
      · refine j_iconst (n' := 33) F dX8_digest_32 rfl ?_
        refine j_istore_1 (n' := 34) F (by decide) jc_r dX8_digest_33 rfl ?_
        exact l0 (φ 99 2).toNat 0 ψ (by omega) (by omega) hS hQ
      · omega
    | succ m ih =>
      intro k ψ h1 h2 hS hQ
      have hci := hS.1
      have hs := hS.2.1
      have v1 : ψ 99 0 = φ 99 0 := congrArg sPn hs
      have v2 : ψ 100 = φ 100 := congrArg sPg hs
      have v7 : ψ 99 2 = φ 99 2 := congrArg sN hs
      have v8 : ψ 101 = φ 101 := congrArg sT hs
      have v35 : ψ 102 = φ 102 := congrArg sP hs
      unfold tlA at hQ
      rw [lpI_step (by omega)] at hQ
      have hQ : tl0 (pubM φ) 0 (lpI (fun k h => mxH h (sP (pubM φ) k)) (k + 1) 18 (mxH (ψ 99 23) (φ 102 k))) = V := hQ
      have v35k : φ 102 k = ψ 102 k := by rw [v35]
      rw [v35k] at hQ
      refine j_iload_1 (n' := 10) F dX8_digest_9 rfl ?_
      refine j_bipush (n' := 12) F dX8_digest_10 (by decide) rfl ?_
      refine j_icmp_ge (t := 32) (n' := 15) F (by omega) (by omega) dX8_digest_12 (by decide) rfl (fun c12_0 => ?_) (fun c12_0 => ?_)
      · omega
      · refine j_aload_0 (n' := 16) F dX8_digest_15 rfl ?_
        refine j_aload_0 (n' := 17) F dX8_digest_16 rfl ?_
        refine j_getR (n' := 20) F fl_X8_16 kap_99 rfl dX8_digest_17 rfl ?_
        refine j_iload_1 (n' := 21) F dX8_digest_20 rfl ?_
        refine j_iald (n' := 22) F kap_102 (by decide) (by omega) dX8_digest_21 rfl ?_
        refine j_i2lW (n' := 23) F dX8_digest_22 rfl ?_
        refine j_cV1v (n' := 26) F kl_X8_196 (c_Mod_mix) kap_99 rfl (by decide) (Nat.le_of_ble_eq_true rfl) dX8_digest_23 rfl (fun z2 φ2 h2 => ?_)
        have hS2 := hS.mix h2
        have m2 := zU_at h2
        refine j_iinc_1 (n' := 29) F (by decide) jc_r dX8_digest_26 rfl ?_
        refine j_goto (t := 9) F dX8_digest_29 (by decide) ?_
        exact ih (k + 1) φ2 (by omega) (by omega) hS2 (by unfold tlA; rw [m2]; exact hQ)
  refine j_aload_0 (n' := 1) F dX8_digest_0 rfl ?_
  refine j_ldc2 (n' := 4) F (z := 1747) rfl q_875 dX8_digest_1 rfl ?_
  refine j_putL (n' := 7) F 23 rfl fp_X8_192 kap_99 rfl rfl dX8_digest_4 rfl (fun φ1 e1 => ?_)
  refine j_iconst (n' := 8) F dX8_digest_7 rfl ?_
  refine j_istore_1 (n' := 9) F (by decide) jc_r dX8_digest_8 rfl ?_
  exact lA 18 0 φ1 (by omega) (by omega) ((show dgS φ φ from ⟨hc, rfl, frC.rf⟩).mix e1) (by rw [e1, zU_self, ← hV]; exact (digV_tl _).symm)
