theorem zU_inc (φ : jPhi) (w x b : Int) : zU φ w x (φ w x + 1) w b = φ w b + if b = x then 1 else 0 := by
  unfold zU
  by_cases h : b = x
  · subst h; simp
  · simp [h]
set_option maxRecDepth 20000 in
theorem c_Pri_take {l : Launch} {G : jG} {B0 : Nat} {φ : jPhi} {o v w : Int} {o2 v2 w2 : Int} (hk : κF o = some (.inl (3, [.inl v, .inl w]))) (hv : κF v = some (.inr (.inl 18))) (hk2 : κF o2 = some (.inl (3, [.inl v2, .inl w2]))) (hv2 : κF v2 = some (.inr (.inl 18))) (hne : v2 ≠ v) : jC l G B0 κF 113 yX3_take cX3_take 3 none 1 [rf B0 o, rf B0 o2] φ mkV (fun z φ' => (∀ b, φ' v b = if 0 ≤ b ∧ b < 18 then φ v2 b else φ v b) ∧ frC (fun a => a = v) φ φ') := by
  refine jC_start RX3 [some (rf B0 o), some (rf B0 o2), none] (by decide) rfl (Nat.le_of_ble_eq_true rfl) rfl (fun X Q F E => ?_)
  have loop : ∀ (m : Nat) (i : Int) (ψ : jPhi), i + m = 18 → 0 ≤ i → (∀ b, ψ v b = if 0 ≤ b ∧ b < i then φ v2 b else φ v b) → frC (fun a => a = v) φ ψ → jJ X G B0 κF 113 0 0 Q 3 ψ 2 [some (rf B0 o), some (rf B0 o2), some (iv i)] [] := by
    intro m
    induction m with
    | zero =>
      intro i ψ h1 h2 h3 h4
      refine j_iload_2 (n' := 3) F dX3_take_2 rfl ?_
      refine j_bipush (n' := 5) F dX3_take_3 (by decide) rfl ?_
      refine j_icmp_ge (t := 25) (n' := 8) F (by omega) (by omega) dX3_take_5 (by decide) rfl (fun c5_0 => ?_) (fun c5_0 => ?_)
      · exact j_return F E dX3_take_25 (⟨fun b => by rw [h3, show i = 18 by omega], h4⟩)
      · omega
    | succ m ih =>
      intro i ψ h1 h2 h3 h4
      refine j_iload_2 (n' := 3) F dX3_take_2 rfl ?_
      refine j_bipush (n' := 5) F dX3_take_3 (by decide) rfl ?_
      refine j_icmp_ge (t := 25) (n' := 8) F (by omega) (by omega) dX3_take_5 (by decide) rfl (fun c5_0 => ?_) (fun c5_0 => ?_)
      · omega
      · refine j_aload_0 (n' := 9) F dX3_take_8 rfl ?_
        refine j_getR (n' := 12) F fl_X3_18 hk rfl dX3_take_9 rfl ?_
        refine j_iload_2 (n' := 13) F dX3_take_12 rfl ?_
        refine j_aload_1 (n' := 14) F dX3_take_13 rfl ?_
        refine j_iload_2 (n' := 15) F dX3_take_14 rfl ?_
        refine j_cV1i (n' := 18) F kl_X3_30 (c_Pri_get hk2 hv2 (by omega)) hk2 rfl (by decide) (Nat.le_of_ble_eq_true rfl) dX3_take_15 rfl (fun z2 φ2 h2 => ?_)
        obtain ⟨rfl, rfl⟩ := h2
        refine j_iast (n' := 19) F hv (by decide) (by omega) dX3_take_18 rfl (fun φ3 e3 => ?_)
        refine j_iinc_2 (n' := 22) F (by decide) jc_r dX3_take_19 rfl ?_
        refine j_goto (t := 2) F dX3_take_22 (by decide) ?_
        refine ih (i + 1) φ3 (by omega) (by omega) (fun b => ?_) (by rw [e3]; exact h4.put rfl)
        by_cases q : b = i
        · subst q
          rw [e3, zU_self, if_pos (by omega), pget, if_pos (by omega)]
          exact h4 v2 b hne
        · rw [e3, zU_ne (by omega), h3]
          by_cases q2 : 0 ≤ b ∧ b < i
          · rw [if_pos q2, if_pos (by omega)]
          · rw [if_neg q2, if_neg (by omega)]
  refine j_iconst (n' := 1) F dX3_take_0 rfl ?_
  refine j_istore_2 (n' := 2) F (by decide) jc_r dX3_take_1 rfl ?_
  exact loop 18 0 φ (by omega) (by omega) (fun b => by rw [if_neg (by omega)]) frC.rf
set_option maxRecDepth 20000 in
theorem c_Pri_countOne {l : Launch} {G : jG} {B0 : Nat} {φ : jPhi} {o v w : Int} {x : Int} (hk : κF o = some (.inl (3, [.inl v, .inl w]))) (hw : κF w = some (.inr (.inl 18))) (hx : 0 ≤ x ∧ x < 18) : jC l G B0 κF 113 yX3_countOne cX3_countOne 2 none 1 [rf B0 o, iv x] φ mkV (fun z φ' => φ' = zU φ w x (φ w x + 1)) := by
  refine jC_start RX3 [some (rf B0 o), some (iv x)] (by decide) rfl (Nat.le_of_ble_eq_true rfl) rfl (fun X Q F E => ?_)
  refine j_iload_1 (n' := 1) F dX3_countOne_0 rfl ?_
  refine j_cN1i (n' := 4) F kl_X3_26 (c_Cla_isPrice (by omega)) (by decide) (Nat.le_of_ble_eq_true rfl) dX3_countOne_1 rfl (fun z1 φ1 h1 => ?_)
  obtain ⟨rfl, rfl⟩ := h1
  refine j_if_eq (t := 17) (n' := 7) F (by first | omega | (split <;> omega)) dX3_countOne_4 (by decide) rfl (fun c4_1 => ?_) (fun c4_1 => ?_)
  · exact j_return F E dX3_countOne_17 (by rw [if_pos (by omega)] at *; omega)
  · refine j_aload_0 (n' := 8) F dX3_countOne_7 rfl ?_
    refine j_getR (n' := 11) F fl_X3_23 hk rfl dX3_countOne_8 rfl ?_
    refine j_iload_1 (n' := 12) F dX3_countOne_11 rfl ?_
    refine j_dup2 (n' := 13) F rfl rfl dX3_countOne_12 rfl ?_
    refine j_iald (n' := 14) F hw (by decide) (by first | omega | (split <;> omega)) dX3_countOne_13 rfl ?_
    refine j_iconst (n' := 15) F dX3_countOne_14 rfl ?_
    refine j_iadd (n' := 16) F dX3_countOne_15 rfl ?_
    refine j_iast (n' := 17) F hw (by decide) (by first | omega | (split <;> omega)) dX3_countOne_16 rfl (fun φ3 e3 => ?_)
    exact j_return F E dX3_countOne_17 (e3)
set_option maxRecDepth 20000 in
theorem c_Pri_countTaken {l : Launch} {G : jG} {B0 : Nat} {φ : jPhi} {o v w : Int} {o2 r2 : Int} {ts : List Int} (hk : κF o = some (.inl (3, [.inl v, .inl w]))) (hw : κF w = some (.inr (.inl 18))) (hk2 : κF o2 = some (.inl (5, [.inl r2, .inr 0, .inr 0, .inr 0]))) (hr2 : κF r2 = some (.inr (.inl 24))) (ho : o2 ≠ w) (hr : r2 ≠ w) (ht : rowIs φ o2 r2 ts) (hl : ts.length ≤ 24) (hok : rwOk ts) : jC l G B0 κF 113 yX3_countTaken cX3_countTaken 4 none 2 [rf B0 o, rf B0 o2] φ mkV (fun z φ' => (∀ b, φ' w b = if 0 ≤ b ∧ b < 18 then tak ts b else φ w b) ∧ frC (fun a => a = w) φ φ') := by
  refine jC_start RX3 [some (rf B0 o), some (rf B0 o2), none, none] (by decide) rfl (Nat.le_of_ble_eq_true rfl) rfl (fun X Q F E => ?_)
  have l2 : ∀ (m k : Nat) (ψ : jPhi), k + m = ts.length → (∀ b, 0 ≤ b → b < 18 → ψ w b + rwSum (fun x => tkTk x b) (ts.drop k) = tak ts b) → (∀ b, ¬ (0 ≤ b ∧ b < 18) → ψ w b = φ w b) → frC (fun a => a = w) φ ψ → jJ X G B0 κF 113 0 0 Q 4 ψ 23 [some (rf B0 o), some (rf B0 o2), some (iv (k : Int)), none] [] := by
    intro m
    induction m with
    | zero =>
      intro k ψ h1 h2 h3 h4
      have u1 : ψ o2 1 = ts.length := (h4 o2 1 ho).trans ht.1
      rw [List.drop_eq_nil_of_le (by omega)] at h2
      refine j_iload_2 (n' := 24) F dX3_countTaken_23 rfl ?_
      refine j_aload_1 (n' := 25) F dX3_countTaken_24 rfl ?_
      refine j_cV0i (n' := 28) F kl_X3_51 (c_Row_size hk2) hk2 rfl (by decide) (Nat.le_of_ble_eq_true rfl) dX3_countTaken_25 rfl (fun z1 φ1 h1 => ?_)
      obtain ⟨rfl, rfl⟩ := h1
      refine j_icmp_ge (t := 108) (n' := 31) F (by omega) (by omega) dX3_countTaken_28 (by decide) rfl (fun c28_1 => ?_) (fun c28_1 => ?_)
      · refine j_return F E dX3_countTaken_108 ?_
        refine ⟨fun b => ?_, h4⟩
        split
        · rename_i q
          have := h2 b q.1 q.2
          simpa [rwSum] using this
        · rename_i q
          exact h3 b q
      · omega
    | succ m ih =>
      intro k ψ h1 h2 h3 h4
      have u1 : ψ o2 1 = ts.length := (h4 o2 1 ho).trans ht.1
      have u2 : ψ r2 k = ts.getD k 0 := (h4 r2 k hr).trans (ht.2.2.2 k (by omega))
      have hx := hok _ (rw_mem (ts := ts) (k := k) (by omega))
      have hlg := zlog_bd 7 (tkDist (ts.getD k 0))
      have h2 : ∀ b, 0 ≤ b → b < 18 → ψ w b + (tkTk (ts.getD k 0) b + rwSum (fun x => tkTk x b) (ts.drop (k + 1))) = tak ts b := fun b q1 q2 => by
        have := h2 b q1 q2
        rw [rwSum_drop (by omega)] at this
        exact this
      generalize ts.getD k 0 = x at *
      unfold tkOk at hx
      have hlen : (100 ≤ x → 2 ≤ tkLen x ∧ tkLen x ≤ 8) ∧ 0 ≤ tkLen x ∧ tkLen x ≤ 9 := by unfold tkLen; split <;> omega
      have hdi : 0 ≤ tkDist x ∧ tkDist x ≤ 24 ∧ (1000 ≤ x → 1 ≤ tkDist x) := by unfold tkDist; split <;> omega
      have hlg2 : zlog 7 (tkDist x) ≤ 7 := hlg.2
      refine j_iload_2 (n' := 24) F dX3_countTaken_23 rfl ?_
      refine j_aload_1 (n' := 25) F dX3_countTaken_24 rfl ?_
      refine j_cV0i (n' := 28) F kl_X3_51 (c_Row_size hk2) hk2 rfl (by decide) (Nat.le_of_ble_eq_true rfl) dX3_countTaken_25 rfl (fun z1 φ1 h1 => ?_)
      obtain ⟨rfl, rfl⟩ := h1
      refine j_icmp_ge (t := 108) (n' := 31) F (by first | omega | (split <;> omega)) (by first | omega | (split <;> omega)) dX3_countTaken_28 (by decide) rfl (fun c28_1 => ?_) (fun c28_1 => ?_)
      · omega
      · refine j_aload_1 (n' := 32) F dX3_countTaken_31 rfl ?_
        refine j_iload_2 (n' := 33) F dX3_countTaken_32 rfl ?_
        refine j_cV1i (n' := 36) F kl_X3_57 (c_Row_get hk2 hr2 (by omega) (by omega)) hk2 rfl (by decide) (Nat.le_of_ble_eq_true rfl) dX3_countTaken_33 rfl (fun z3 φ3 h3 => ?_)
        obtain ⟨rfl, rfl⟩ := h3
        rw [if_pos (by omega), u2]
        refine j_istore_3 (n' := 37) F (by decide) jc_i dX3_countTaken_36 rfl ?_
        refine j_iload_3 (n' := 38) F dX3_countTaken_37 rfl ?_
        refine j_cS1i (n' := 41) F kl_X3_34 (c_Tok_isPlain (by omega)) (by decide) (Nat.le_of_ble_eq_true rfl) dX3_countTaken_38 rfl (fun z4 φ4 h4 => ?_)
        obtain ⟨rfl, rfl⟩ := h4
        refine j_if_eq (t := 52) (n' := 44) F (by first | omega | (split <;> omega)) dX3_countTaken_41 (by decide) rfl (fun c41_4 => ?_) (fun c41_4 => ?_)
        · refine j_aload_0 (n' := 53) F dX3_countTaken_52 rfl ?_
          refine j_bipush (n' := 55) F dX3_countTaken_53 (by decide) rfl ?_
          refine j_iload_3 (n' := 56) F dX3_countTaken_55 rfl ?_
          refine j_cS1i (n' := 59) F kl_X3_39 (c_Tok_lengthOf (by omega)) (by decide) (Nat.le_of_ble_eq_true rfl) dX3_countTaken_56 rfl (fun z6 φ6 h6 => ?_)
          obtain ⟨rfl, rfl⟩ := h6
          refine j_iadd (n' := 60) F dX3_countTaken_59 rfl ?_
          refine j_iconst (n' := 61) F dX3_countTaken_60 rfl ?_
          refine j_isub (n' := 62) F dX3_countTaken_61 rfl ?_
          refine j_cV1v (n' := 65) F kl_X3_84 (c_Pri_countOne hk hw (by first | omega | (split <;> omega))) hk rfl (by decide) (Nat.le_of_ble_eq_true rfl) dX3_countTaken_62 rfl (fun z7 φ7 h7 => ?_)
          skip
          refine j_aload_0 (n' := 66) F dX3_countTaken_65 rfl ?_
          refine j_iload_3 (n' := 67) F dX3_countTaken_66 rfl ?_
          refine j_cS1i (n' := 70) F kl_X3_42 (c_Tok_isCopy (by omega)) (by decide) (Nat.le_of_ble_eq_true rfl) dX3_countTaken_67 rfl (fun z8 φ8 h8 => ?_)
          obtain ⟨rfl, rfl⟩ := h8
          refine j_if_eq (t := 77) (n' := 73) F (by first | omega | (split <;> omega)) dX3_countTaken_70 (by decide) rfl (fun c70_8 => ?_) (fun c70_8 => ?_)
          · refine j_bipush (n' := 79) F dX3_countTaken_77 (by decide) rfl ?_
            refine j_cV1v (n' := 82) F kl_X3_84 (c_Pri_countOne hk hw (by first | omega | (split <;> omega))) hk rfl (by decide) (Nat.le_of_ble_eq_true rfl) dX3_countTaken_79 rfl (fun z10 φ10 h10 => ?_)
            skip
            refine j_iload_3 (n' := 83) F dX3_countTaken_82 rfl ?_
            refine j_cS1i (n' := 86) F kl_X3_42 (c_Tok_isCopy (by omega)) (by decide) (Nat.le_of_ble_eq_true rfl) dX3_countTaken_83 rfl (fun z11 φ11 h11 => ?_)
            obtain ⟨rfl, rfl⟩ := h11
            refine j_if_eq (t := 102) (n' := 89) F (by first | omega | (split <;> omega)) dX3_countTaken_86 (by decide) rfl (fun c86_11 => ?_) (fun c86_11 => ?_)
            · refine j_iinc_2 (n' := 105) F (by decide) jc_r dX3_countTaken_102 rfl ?_
              refine j_goto (t := 23) F dX3_countTaken_105 (by decide) ?_
              refine j_weak (by exact ⟨rfl, rfl, rfl, trivial⟩) (ih (k + 1) φ10 (by omega) (fun b q1 q2 => ?_) (fun b q => ?_) ?_)
              · have g := h2 b q1 q2
                generalize rwSum (fun x => tkTk x b) (ts.drop (k + 1)) = sm at g ⊢
                unfold tkTk at g
                rw [h10, zU_inc, h7, zU_inc]
                repeat (first | omega | split at g | split)
              · rw [h10, zU_inc, h7, zU_inc]
                have g := h3 b q
                repeat (first | omega | split)
              · rw [h10, h7]
                exact ((h4.put rfl).put rfl)
            · refine j_aload_0 (n' := 90) F dX3_countTaken_89 rfl ?_
              refine j_iconst (n' := 91) F dX3_countTaken_90 rfl ?_
              refine j_iload_3 (n' := 92) F dX3_countTaken_91 rfl ?_
              refine j_cS1i (n' := 95) F kl_X3_45 (c_Tok_distanceOf (by omega)) (by decide) (Nat.le_of_ble_eq_true rfl) dX3_countTaken_92 rfl (fun z13 φ13 h13 => ?_)
              obtain ⟨rfl, rfl⟩ := h13
              refine j_cN1i (n' := 98) F kl_X3_48 (c_Cla_log (by omega)) (by decide) (Nat.le_of_ble_eq_true rfl) dX3_countTaken_95 rfl (fun z14 φ14 h14 => ?_)
              obtain ⟨rfl, rfl⟩ := h14
              refine j_iadd (n' := 99) F dX3_countTaken_98 rfl ?_
              refine j_cV1v (n' := 102) F kl_X3_84 (c_Pri_countOne hk hw (by first | omega | (split <;> omega))) hk rfl (by decide) (Nat.le_of_ble_eq_true rfl) dX3_countTaken_99 rfl (fun z15 φ15 h15 => ?_)
              skip
              refine j_iinc_2 (n' := 105) F (by decide) jc_r dX3_countTaken_102 rfl ?_
              refine j_goto (t := 23) F dX3_countTaken_105 (by decide) ?_
              refine j_weak (by exact ⟨rfl, rfl, rfl, trivial⟩) (ih (k + 1) φ15 (by omega) (fun b q1 q2 => ?_) (fun b q => ?_) ?_)
              · have g := h2 b q1 q2
                generalize rwSum (fun x => tkTk x b) (ts.drop (k + 1)) = sm at g ⊢
                unfold tkTk at g
                rw [h15, zU_inc, h10, zU_inc, h7, zU_inc]
                repeat (first | omega | split at g | split)
              · rw [h15, zU_inc, h10, zU_inc, h7, zU_inc]
                have g := h3 b q
                repeat (first | omega | split)
              · rw [h15, h10, h7]
                exact (((h4.put rfl).put rfl).put rfl)
          · refine j_iconst (n' := 74) F dX3_countTaken_73 rfl ?_
            refine j_goto (t := 79) F dX3_countTaken_74 (by decide) ?_
            refine j_cV1v (n' := 82) F kl_X3_84 (c_Pri_countOne hk hw (by first | omega | (split <;> omega))) hk rfl (by decide) (Nat.le_of_ble_eq_true rfl) dX3_countTaken_79 rfl (fun z16 φ16 h16 => ?_)
            skip
            refine j_iload_3 (n' := 83) F dX3_countTaken_82 rfl ?_
            refine j_cS1i (n' := 86) F kl_X3_42 (c_Tok_isCopy (by omega)) (by decide) (Nat.le_of_ble_eq_true rfl) dX3_countTaken_83 rfl (fun z17 φ17 h17 => ?_)
            obtain ⟨rfl, rfl⟩ := h17
            refine j_if_eq (t := 102) (n' := 89) F (by first | omega | (split <;> omega)) dX3_countTaken_86 (by decide) rfl (fun c86_17 => ?_) (fun c86_17 => ?_)
            · refine j_iinc_2 (n' := 105) F (by decide) jc_r dX3_countTaken_102 rfl ?_
              refine j_goto (t := 23) F dX3_countTaken_105 (by decide) ?_
              refine j_weak (by exact ⟨rfl, rfl, rfl, trivial⟩) (ih (k + 1) φ16 (by omega) (fun b q1 q2 => ?_) (fun b q => ?_) ?_)
              · have g := h2 b q1 q2
                generalize rwSum (fun x => tkTk x b) (ts.drop (k + 1)) = sm at g ⊢
                unfold tkTk at g
                rw [h16, zU_inc, h7, zU_inc]
                repeat (first | omega | split at g | split)
              · rw [h16, zU_inc, h7, zU_inc]
                have g := h3 b q
                repeat (first | omega | split)
              · rw [h16, h7]
                exact ((h4.put rfl).put rfl)
            · refine j_aload_0 (n' := 90) F dX3_countTaken_89 rfl ?_
              refine j_iconst (n' := 91) F dX3_countTaken_90 rfl ?_
              refine j_iload_3 (n' := 92) F dX3_countTaken_91 rfl ?_
              refine j_cS1i (n' := 95) F kl_X3_45 (c_Tok_distanceOf (by omega)) (by decide) (Nat.le_of_ble_eq_true rfl) dX3_countTaken_92 rfl (fun z19 φ19 h19 => ?_)
              obtain ⟨rfl, rfl⟩ := h19
              refine j_cN1i (n' := 98) F kl_X3_48 (c_Cla_log (by omega)) (by decide) (Nat.le_of_ble_eq_true rfl) dX3_countTaken_95 rfl (fun z20 φ20 h20 => ?_)
              obtain ⟨rfl, rfl⟩ := h20
              refine j_iadd (n' := 99) F dX3_countTaken_98 rfl ?_
              refine j_cV1v (n' := 102) F kl_X3_84 (c_Pri_countOne hk hw (by first | omega | (split <;> omega))) hk rfl (by decide) (Nat.le_of_ble_eq_true rfl) dX3_countTaken_99 rfl (fun z21 φ21 h21 => ?_)
              skip
              refine j_iinc_2 (n' := 105) F (by decide) jc_r dX3_countTaken_102 rfl ?_
              refine j_goto (t := 23) F dX3_countTaken_105 (by decide) ?_
              refine j_weak (by exact ⟨rfl, rfl, rfl, trivial⟩) (ih (k + 1) φ21 (by omega) (fun b q1 q2 => ?_) (fun b q => ?_) ?_)
              · have g := h2 b q1 q2
                generalize rwSum (fun x => tkTk x b) (ts.drop (k + 1)) = sm at g ⊢
                unfold tkTk at g
                rw [h21, zU_inc, h16, zU_inc, h7, zU_inc]
                repeat (first | omega | split at g | split)
              · rw [h21, zU_inc, h16, zU_inc, h7, zU_inc]
                have g := h3 b q
                repeat (first | omega | split)
              · rw [h21, h16, h7]
                exact (((h4.put rfl).put rfl).put rfl)
        · refine j_aload_0 (n' := 45) F dX3_countTaken_44 rfl ?_
          refine j_iload_3 (n' := 46) F dX3_countTaken_45 rfl ?_
          refine j_cV1v (n' := 49) F kl_X3_84 (c_Pri_countOne hk hw (by first | omega | (split <;> omega))) hk rfl (by decide) (Nat.le_of_ble_eq_true rfl) dX3_countTaken_46 rfl (fun z22 φ22 h22 => ?_)
          skip
          refine j_goto (t := 102) F dX3_countTaken_49 (by decide) ?_
          refine j_iinc_2 (n' := 105) F (by decide) jc_r dX3_countTaken_102 rfl ?_
          refine j_goto (t := 23) F dX3_countTaken_105 (by decide) ?_
          refine j_weak (by exact ⟨rfl, rfl, rfl, trivial⟩) (ih (k + 1) φ22 (by omega) (fun b q1 q2 => ?_) (fun b q => ?_) ?_)
          · have g := h2 b q1 q2
            generalize rwSum (fun x => tkTk x b) (ts.drop (k + 1)) = sm at g ⊢
            unfold tkTk at g
            rw [h22, zU_inc]
            repeat (first | omega | split at g | split)
          · rw [h22, zU_inc]
            have g := h3 b q
            repeat (first | omega | split)
          · rw [h22]
            exact (h4.put rfl)
  have l1 : ∀ (m : Nat) (i : Int) (ψ : jPhi), i + m = 18 → 0 ≤ i → (∀ b, 0 ≤ b → b < i → ψ w b = 0) → (∀ b, ¬ (0 ≤ b ∧ b < 18) → ψ w b = φ w b) → frC (fun a => a = w) φ ψ → jJ X G B0 κF 113 0 0 Q 4 ψ 2 [some (rf B0 o), some (rf B0 o2), some (iv i), none] [] := by
    intro m
    induction m with
    | zero =>
      intro i ψ h1 h2 h3 h4 h5
      refine j_iload_2 (n' := 3) F dX3_countTaken_2 rfl ?_
      refine j_bipush (n' := 5) F dX3_countTaken_3 (by decide) rfl ?_
      refine j_icmp_ge (t := 21) (n' := 8) F (by omega) (by omega) dX3_countTaken_5 (by decide) rfl (fun c5_0 => ?_) (fun c5_0 => ?_)
      · refine j_iconst (n' := 22) F dX3_countTaken_21 rfl ?_
        refine j_istore_2 (n' := 23) F (by decide) jc_r dX3_countTaken_22 rfl ?_
        exact l2 ts.length 0 ψ (by omega) (fun b q1 q2 => by rw [h3 b q1 (by omega)]; simp [tak]) h4 h5
      · omega
    | succ m ih =>
      intro i ψ h1 h2 h3 h4 h5
      refine j_iload_2 (n' := 3) F dX3_countTaken_2 rfl ?_
      refine j_bipush (n' := 5) F dX3_countTaken_3 (by decide) rfl ?_
      refine j_icmp_ge (t := 21) (n' := 8) F (by omega) (by omega) dX3_countTaken_5 (by decide) rfl (fun c5_0 => ?_) (fun c5_0 => ?_)
      · omega
      · refine j_aload_0 (n' := 9) F dX3_countTaken_8 rfl ?_
        refine j_getR (n' := 12) F fl_X3_23 hk rfl dX3_countTaken_9 rfl ?_
        refine j_iload_2 (n' := 13) F dX3_countTaken_12 rfl ?_
        refine j_iconst (n' := 14) F dX3_countTaken_13 rfl ?_
        refine j_iast (n' := 15) F hw (by decide) (by omega) dX3_countTaken_14 rfl (fun φ2 e2 => ?_)
        refine j_iinc_2 (n' := 18) F (by decide) jc_r dX3_countTaken_15 rfl ?_
        refine j_goto (t := 2) F dX3_countTaken_18 (by decide) ?_
        refine ih (i + 1) φ2 (by omega) (by omega) (fun b q1 q2 => ?_) (fun b q => ?_) (by rw [e2]; exact h5.put rfl)
        · by_cases q : b = i
          · rw [e2, q, zU_self]
          · rw [e2, zU_ne (by omega)]
            exact h3 b q1 (by omega)
        · rw [e2, zU_ne (by omega)]
          exact h4 b q
  refine j_iconst (n' := 1) F dX3_countTaken_0 rfl ?_
  refine j_istore_2 (n' := 2) F (by decide) jc_r dX3_countTaken_1 rfl ?_
  exact l1 18 0 φ (by omega) (by omega) (fun b q1 q2 => by omega) (fun b q => rfl) frC.rf
set_option maxRecDepth 20000 in
theorem c_Pri_reprice {l : Launch} {G : jG} {B0 : Nat} {φ : jPhi} {o v w : Int} {fr to al : Int} (hk : κF o = some (.inl (3, [.inl v, .inl w]))) (hv : κF v = some (.inr (.inl 18))) (hw : κF w = some (.inr (.inl 18))) (hvw : v ≠ w) (hf : 0 ≤ fr ∧ fr ≤ to ∧ to ≤ 18) (ha : 1 ≤ al ∧ al ≤ 100) (htk : ∀ b, 0 ≤ b → b < 18 → 0 ≤ φ w b ∧ φ w b ≤ 72) (hpv : ∀ b, 0 ≤ b → b < 18 → 0 ≤ φ v b ∧ φ v b ≤ 30) : jC l G B0 κF 113 yX3_reprice cX3_reprice 7 (some .int) 1 [rf B0 o, iv fr, iv to, iv al] φ mkI (fun z φ' => (∀ b, φ' v b = if fr ≤ b ∧ b < to then rpr al (φ w b) else φ v b) ∧ frC (fun a => a = v) φ φ' ∧ z = othP (φ v) (fun b => rpr al (φ w b)) fr to 0) := by
  refine jC_start RX3 [some (rf B0 o), some (iv fr), some (iv to), some (iv al), none, none, none] (by decide) rfl (Nat.le_of_ble_eq_true rfl) rfl (fun X Q F E => ?_)
  have loop : ∀ (m : Nat) (i c : Int) (ψ : jPhi), i + m = to → fr ≤ i → 0 ≤ c → c ≤ i → (∀ b, ψ v b = if fr ≤ b ∧ b < i then rpr al (φ w b) else φ v b) → frC (fun a => a = v) φ ψ → othP (φ v) (fun b => rpr al (φ w b)) i to c = othP (φ v) (fun b => rpr al (φ w b)) fr to 0 → jJ X G B0 κF 113 0 0 Q 7 ψ 10 [some (rf B0 o), some (iv fr), some (iv to), some (iv al), some (iv c), some (iv i), none] [] := by
    intro m
    induction m with
    | zero =>
      intro i c ψ h1 h2 h3 h4 h5 h6 h7
      refine j_iload_5 (n' := 12) F dX3_reprice_10 rfl ?_
      refine j_iload_2 (n' := 13) F dX3_reprice_12 rfl ?_
      refine j_icmp_ge (t := 77) (n' := 16) F (by omega) (by omega) dX3_reprice_13 (by decide) rfl (fun c13_0 => ?_) (fun c13_0 => ?_)
      · refine j_iload_4 (n' := 79) F dX3_reprice_77 rfl ?_
        exact j_ireturn F E dX3_reprice_79 (⟨fun b => by rw [h5, show i = to by omega], h6, by rw [← h7]; unfold othP; rw [lpI_end (by omega)]⟩)
      · omega
    | succ m ih =>
      intro i c ψ h1 h2 h3 h4 h5 h6 h7
      have g1 := htk i (by omega) (by omega)
      have g2 := hpv i (by omega) (by omega)
      have u1 : ψ w i = φ w i := h6 w i (Ne.symm hvw)
      have u2 : ψ v i = φ v i := by rw [h5, if_neg (by omega)]
      have hd1 : 0 ≤ al / (1 + φ w i) ∧ al / (1 + φ w i) ≤ 100 := by
        constructor
        · exact Int.ediv_nonneg (by omega) (by omega)
        · exact Int.le_trans (Int.ediv_le_self _ (by omega)) (by omega)
      have hlg := zlog_bd 7 (al / (1 + φ w i))
      have hm : max 1 (1 + ψ w i) = 1 + φ w i := by omega
      unfold othP at h7
      rw [lpI_step (by omega)] at h7
      refine j_iload_5 (n' := 12) F dX3_reprice_10 rfl ?_
      refine j_iload_2 (n' := 13) F dX3_reprice_12 rfl ?_
      refine j_icmp_ge (t := 77) (n' := 16) F (by omega) (by omega) dX3_reprice_13 (by decide) rfl (fun c13_0 => ?_) (fun c13_0 => ?_)
      · omega
      · refine j_iload_5 (n' := 18) F dX3_reprice_16 rfl ?_
        refine j_bipush (n' := 20) F dX3_reprice_18 (by decide) rfl ?_
        refine j_icmp_ge (t := 77) (n' := 23) F (by omega) (by omega) dX3_reprice_20 (by decide) rfl (fun c20_1 => ?_) (fun c20_1 => ?_)
        · omega
        · refine j_iconst (n' := 24) F dX3_reprice_23 rfl ?_
          refine j_iconst (n' := 25) F dX3_reprice_24 rfl ?_
          refine j_iload_3 (n' := 26) F dX3_reprice_25 rfl ?_
          refine j_iconst (n' := 27) F dX3_reprice_26 rfl ?_
          refine j_iconst (n' := 28) F dX3_reprice_27 rfl ?_
          refine j_aload_0 (n' := 29) F dX3_reprice_28 rfl ?_
          refine j_getR (n' := 32) F fl_X3_23 hk rfl dX3_reprice_29 rfl ?_
          refine j_iload_5 (n' := 34) F dX3_reprice_32 rfl ?_
          refine j_iald (n' := 35) F hw (by decide) (by omega) dX3_reprice_34 rfl ?_
          refine j_iadd (n' := 36) F dX3_reprice_35 rfl ?_
          refine j_max (n' := 39) F q_473 (by decide) (Nat.le_of_ble_eq_true rfl) (by omega) (by omega) dX3_reprice_36 rfl ?_
          rw [hm]
          refine j_idiv (n' := 40) F (by omega) (by omega) dX3_reprice_39 rfl ?_
          refine j_cN1i (n' := 43) F kl_X3_48 (c_Cla_log (by omega)) (by decide) (Nat.le_of_ble_eq_true rfl) dX3_reprice_40 rfl (fun z51 φ51 h51 => ?_)
          obtain ⟨rfl, rfl⟩ := h51
          refine j_imul (n' := 44) F dX3_reprice_43 rfl ?_
          refine j_iadd (n' := 45) F dX3_reprice_44 rfl ?_
          refine j_istore_6 (n' := 47) F (by decide) jc_i dX3_reprice_45 rfl ?_
          refine j_iload_6 (n' := 49) F dX3_reprice_47 rfl ?_
          refine j_aload_0 (n' := 50) F dX3_reprice_49 rfl ?_
          refine j_getR (n' := 53) F fl_X3_18 hk rfl dX3_reprice_50 rfl ?_
          refine j_iload_5 (n' := 55) F dX3_reprice_53 rfl ?_
          refine j_iald (n' := 56) F hv (by decide) (by omega) dX3_reprice_55 rfl ?_
          refine j_icmp_eq (t := 62) (n' := 59) F (by omega) (by omega) dX3_reprice_56 (by decide) rfl (fun c56_51 => ?_) (fun c56_51 => ?_)
          · refine j_aload_0 (n' := 63) F dX3_reprice_62 rfl ?_
            refine j_getR (n' := 66) F fl_X3_18 hk rfl dX3_reprice_63 rfl ?_
            refine j_iload_5 (n' := 68) F dX3_reprice_66 rfl ?_
            refine j_iload_6 (n' := 70) F dX3_reprice_68 rfl ?_
            refine j_iast (n' := 71) F hv (by decide) (by omega) dX3_reprice_70 rfl (fun φ53 e53 => ?_)
            refine j_iinc_5 (n' := 74) F (by decide) jc_i dX3_reprice_71 rfl ?_
            refine j_goto (t := 10) F dX3_reprice_74 (by decide) ?_
            refine j_weak (by exact ⟨rfl, rfl, rfl, rfl, rfl, rfl, trivial⟩) (ih (i + 1) _ φ53 (by omega) (by omega) (by omega) (by omega) (fun b => ?_) (by rw [e53]; exact h6.put rfl) ?_)
            · by_cases q : b = i
              · rw [e53, q, zU_self, if_pos (by omega)]
                rfl
              · rw [e53, zU_ne (by omega), h5]
                by_cases q2 : fr ≤ b ∧ b < i
                · rw [if_pos q2, if_pos (by omega)]
                · rw [if_neg q2, if_neg (by omega)]
            · unfold othP
              rw [← h7]
              congr 1
              show _ = c + if rpr al (φ w i) = φ v i then 0 else 1
              unfold rpr
              first | (rw [if_neg (by omega)]; done) | (rw [if_pos (by omega)]; omega)
          · refine j_iinc_4 (n' := 62) F (by decide) jc_i dX3_reprice_59 rfl ?_
            refine j_aload_0 (n' := 63) F dX3_reprice_62 rfl ?_
            refine j_getR (n' := 66) F fl_X3_18 hk rfl dX3_reprice_63 rfl ?_
            refine j_iload_5 (n' := 68) F dX3_reprice_66 rfl ?_
            refine j_iload_6 (n' := 70) F dX3_reprice_68 rfl ?_
            refine j_iast (n' := 71) F hv (by decide) (by omega) dX3_reprice_70 rfl (fun φ54 e54 => ?_)
            refine j_iinc_5 (n' := 74) F (by decide) jc_i dX3_reprice_71 rfl ?_
            refine j_goto (t := 10) F dX3_reprice_74 (by decide) ?_
            refine j_weak (by exact ⟨rfl, rfl, rfl, rfl, rfl, rfl, trivial⟩) (ih (i + 1) _ φ54 (by omega) (by omega) (by omega) (by omega) (fun b => ?_) (by rw [e54]; exact h6.put rfl) ?_)
            · by_cases q : b = i
              · rw [e54, q, zU_self, if_pos (by omega)]
                rfl
              · rw [e54, zU_ne (by omega), h5]
                by_cases q2 : fr ≤ b ∧ b < i
                · rw [if_pos q2, if_pos (by omega)]
                · rw [if_neg q2, if_neg (by omega)]
            · unfold othP
              rw [← h7]
              congr 1
              show _ = c + if rpr al (φ w i) = φ v i then 0 else 1
              unfold rpr
              first | (rw [if_neg (by omega)]; done) | (rw [if_pos (by omega)]; omega)
  refine j_iconst (n' := 1) F dX3_reprice_0 rfl ?_
  refine j_istore_4 (n' := 3) F (by decide) jc_i dX3_reprice_1 rfl ?_
  refine j_iconst (n' := 4) F dX3_reprice_3 rfl ?_
  refine j_iload_1 (n' := 5) F dX3_reprice_4 rfl ?_
  refine j_max (n' := 8) F q_473 (by decide) (Nat.le_of_ble_eq_true rfl) (by omega) (by omega) dX3_reprice_5 rfl ?_
  refine j_istore_5 (n' := 10) F (by decide) jc_i dX3_reprice_8 rfl ?_
  rw [show max 0 fr = fr by omega]
  exact loop (to - fr).toNat fr 0 φ (by omega) (by omega) (by omega) (by omega) (fun b => by rw [if_neg (by omega)]) frC.rf rfl
