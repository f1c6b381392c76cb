theorem tak_cons (x : Int) (r : List Int) (k : Int) : tak (x :: r) k = tkTk x k + tak r k := rwSum_cons _ _ _
theorem tak_sums {ts : List Int} (h : rwOk ts) : tak ts 0 + tak ts 1 + tak ts 2 + tak ts 3 = rwP ts ∧ tak ts 4 = rwC ts ∧ tak ts 17 = ts.length - rwP ts - rwC ts := by
  induction ts with
  | nil => simp [tak, rwP, rwC, rwSum]
  | cons x r ih =>
    have e1 : rwP (x :: r) = (if x < 100 then 1 else 0) + rwP r := rwSum_cons _ _ _
    have e2 : rwC (x :: r) = (if 1000 ≤ x then 1 else 0) + rwC r := rwSum_cons _ _ _
    have e3 : ((x :: r).length : Int) = r.length + 1 := by simp
    have i1 := ih (fun y hy => h y (List.mem_cons_of_mem _ hy))
    have hx := h x List.mem_cons_self
    have hz := zlog_bd 7 (tkDist x)
    have hz2 : zlog 7 (tkDist x) ≤ 7 := hz.2
    have hl : tkLen x = if x < 100 then 1 else x % 10 := rfl
    unfold tkOk at hx
    rw [e1, e2, e3]
    simp only [tak_cons]
    have t0 : tkTk x 0 + tkTk x 1 + tkTk x 2 + tkTk x 3 = (if x < 100 then 1 else 0) := by
      unfold tkTk
      rcases hx with q | q | q
      · simp only [if_pos (show x < 100 by omega)]
        rcases (show x = 0 ∨ x = 1 ∨ x = 2 ∨ x = 3 by omega) with q2 | q2 | q2 | q2 <;> rw [q2] <;> decide
      · rw [if_neg (c := x < 100) (by omega)] at hl
        simp only [if_neg (show ¬ x < 100 by omega), if_neg (show ¬ 1000 ≤ x by omega), if_neg (show ¬ (0 : Int) = 10 + tkLen x - 2 by omega), if_neg (show ¬ (1 : Int) = 10 + tkLen x - 2 by omega), if_neg (show ¬ (2 : Int) = 10 + tkLen x - 2 by omega), if_neg (show ¬ (3 : Int) = 10 + tkLen x - 2 by omega)]
        simp
        omega
      · rw [if_neg (c := x < 100) (by omega)] at hl
        simp only [if_neg (show ¬ x < 100 by omega), if_pos (show 1000 ≤ x by omega), if_neg (show ¬ (0 : Int) = 10 + tkLen x - 2 by omega), if_neg (show ¬ (1 : Int) = 10 + tkLen x - 2 by omega), if_neg (show ¬ (2 : Int) = 10 + tkLen x - 2 by omega), if_neg (show ¬ (3 : Int) = 10 + tkLen x - 2 by omega)]
        simp
        omega
    have t4 : tkTk x 4 = (if 1000 ≤ x then 1 else 0) := by
      unfold tkTk
      repeat (first | omega | split)
    have t17 : tkTk x 17 = (if x < 100 then 0 else if 1000 ≤ x then 0 else 1) := by
      unfold tkTk
      repeat (first | omega | split)
    repeat (first | omega | split at *)
set_option maxRecDepth 20000 in
theorem c_Mod_layTaken {l : Launch} {G : jG} {B0 : Nat} {φ : jPhi} {ts : List Int} (hm : mdIs φ 99 108 18 ts) (hl : ts.length ≤ 24) (hk : rwOk ts) : jC l G B0 κF 113 yX8_layTaken cX8_layTaken 3 none 1 [rf B0 99] φ mkV (fun z φ' => (∀ b, 0 ≤ b → b < 18 → φ' 109 b = tak ts b) ∧ frC (fun a => a = 109) φ φ') := by
  refine jC_start RX8 [some (rf B0 99), none, none] (by decide) rfl (Nat.le_of_ble_eq_true rfl) rfl (fun X Q F E => ?_)
  have l2 : ∀ (m k : Nat) (ψ : jPhi), k + m = ts.length → (∀ b, 0 ≤ b → b < 18 → ψ 109 b + rwSum (fun x => tkTk x b) (ts.drop k) = tak ts b) → frC (fun a => a = 109) φ ψ → jJ X G B0 κF 113 0 0 Q 3 ψ 23 [some (rf B0 99), some (iv (k : Int)), none] [] := by
    intro m
    induction m with
    | zero =>
      intro k ψ h1 h2 h4
      have u1 : ψ 99 18 = ts.length := (h4 99 18 (by omega)).trans hm.1
      rw [List.drop_eq_nil_of_le (by omega)] at h2
      refine j_iload_1 (n' := 24) F dX8_layTaken_23 rfl ?_
      refine j_aload_0 (n' := 25) F dX8_layTaken_24 rfl ?_
      refine j_getI (n' := 28) F 18 rfl fl_X8_133 kap_99 rfl dX8_layTaken_25 rfl ?_
      refine j_icmp_ge (t := 132) (n' := 31) F (by omega) (by omega) dX8_layTaken_28 (by decide) rfl (fun c28_0 => ?_) (fun c28_0 => ?_)
      · refine j_return F E dX8_layTaken_132 ?_
        refine ⟨fun b q1 q2 => ?_, h4⟩
        have := h2 b q1 q2
        simpa [rwSum] using this
      · omega
    | succ m ih =>
      intro k ψ h1 h2 h4
      have u1 : ψ 99 18 = ts.length := (h4 99 18 (by omega)).trans hm.1
      have u2 : ψ 108 k = ts.getD k 0 := (h4 108 k (by omega)).trans (hm.2 k (by omega))
      have hx := hk _ (rw_mem (ts := ts) (k := k) (by omega))
      have hlg := zlog_bd 7 (tkDist (ts.getD k 0))
      have h2 : ∀ b, 0 ≤ b → b < 18 → ψ 109 b + (tkTk (ts.getD k 0) b + rwSum (fun x => tkTk x b) (ts.drop (k + 1))) = tak ts b := fun b q1 q2 => by
        have := h2 b q1 q2
        rw [rwSum_drop (by omega)] at this
        exact this
      generalize ts.getD k 0 = x at *
      unfold tkOk at hx
      have hln : tkLen x = if x < 100 then 1 else x % 10 := rfl
      have hdx : 1000 ≤ x → tkDist x = (x - 1000) / 10 := fun q => by unfold tkDist; rw [if_neg (by omega)]
      have hlg2 : zlog 7 (tkDist x) ≤ 7 := hlg.2
      refine j_iload_1 (n' := 24) F dX8_layTaken_23 rfl ?_
      refine j_aload_0 (n' := 25) F dX8_layTaken_24 rfl ?_
      refine j_getI (n' := 28) F 18 rfl fl_X8_133 kap_99 rfl dX8_layTaken_25 rfl ?_
      refine j_icmp_ge (t := 132) (n' := 31) F (by omega) (by omega) dX8_layTaken_28 (by decide) rfl (fun c28_0 => ?_) (fun c28_0 => ?_)
      · omega
      · refine j_aload_0 (n' := 32) F dX8_layTaken_31 rfl ?_
        refine j_getR (n' := 35) F fl_X8_34 kap_99 rfl dX8_layTaken_32 rfl ?_
        refine j_iload_1 (n' := 36) F dX8_layTaken_35 rfl ?_
        refine j_iald (n' := 37) F kap_108 (by decide) (by omega) dX8_layTaken_36 rfl ?_
        rw [u2]
        refine j_istore_2 (n' := 38) F (by decide) jc_i dX8_layTaken_37 rfl ?_
        refine j_iload_2 (n' := 39) F dX8_layTaken_38 rfl ?_
        refine j_bipush (n' := 41) F dX8_layTaken_39 (by decide) rfl ?_
        refine j_icmp_ge (t := 57) (n' := 44) F (by omega) (by omega) dX8_layTaken_41 (by decide) rfl (fun c41_1 => ?_) (fun c41_1 => ?_)
        · refine j_aload_0 (n' := 58) F dX8_layTaken_57 rfl ?_
          refine j_getR (n' := 61) F fl_X8_37 kap_99 rfl dX8_layTaken_58 rfl ?_
          refine j_bipush (n' := 63) F dX8_layTaken_61 (by decide) rfl ?_
          refine j_iload_2 (n' := 64) F dX8_layTaken_63 rfl ?_
          refine j_bipush (n' := 66) F dX8_layTaken_64 (by decide) rfl ?_
          refine j_irem (n' := 67) F (by omega) (by omega) dX8_layTaken_66 rfl ?_
          refine j_iadd (n' := 68) F dX8_layTaken_67 rfl ?_
          refine j_iconst (n' := 69) F dX8_layTaken_68 rfl ?_
          refine j_isub (n' := 70) F dX8_layTaken_69 rfl ?_
          refine j_dup2 (n' := 71) F rfl rfl dX8_layTaken_70 rfl ?_
          refine j_iald (n' := 72) F kap_109 (by decide) (by omega) dX8_layTaken_71 rfl ?_
          refine j_iconst (n' := 73) F dX8_layTaken_72 rfl ?_
          refine j_iadd (n' := 74) F dX8_layTaken_73 rfl ?_
          refine j_iast (n' := 75) F kap_109 (by decide) (by omega) dX8_layTaken_74 rfl (fun φ3 e3 => ?_)
          refine j_aload_0 (n' := 76) F dX8_layTaken_75 rfl ?_
          refine j_getR (n' := 79) F fl_X8_37 kap_99 rfl dX8_layTaken_76 rfl ?_
          refine j_iload_2 (n' := 80) F dX8_layTaken_79 rfl ?_
          refine j_sipush (n' := 83) F dX8_layTaken_80 (by decide) rfl ?_
          refine j_icmp_ge (t := 91) (n' := 86) F (by omega) (by omega) dX8_layTaken_83 (by decide) rfl (fun c83_3 => ?_) (fun c83_3 => ?_)
          · refine j_iconst (n' := 92) F dX8_layTaken_91 rfl ?_
            refine j_dup2 (n' := 93) F rfl rfl dX8_layTaken_92 rfl ?_
            refine j_iald (n' := 94) F kap_109 (by decide) (by omega) dX8_layTaken_93 rfl ?_
            refine j_iconst (n' := 95) F dX8_layTaken_94 rfl ?_
            refine j_iadd (n' := 96) F dX8_layTaken_95 rfl ?_
            refine j_iast (n' := 97) F kap_109 (by decide) (by omega) dX8_layTaken_96 rfl (fun φ5 e5 => ?_)
            refine j_iload_2 (n' := 98) F dX8_layTaken_97 rfl ?_
            refine j_sipush (n' := 101) F dX8_layTaken_98 (by decide) rfl ?_
            refine j_icmp_lt (t := 126) (n' := 104) F (by omega) (by omega) dX8_layTaken_101 (by decide) rfl (fun c101_5 => ?_) (fun c101_5 => ?_)
            · refine j_iinc_1 (n' := 129) F (by decide) jc_r dX8_layTaken_126 rfl ?_
              refine j_goto (t := 23) F dX8_layTaken_129 (by decide) ?_
              refine j_weak (by exact ⟨rfl, rfl, trivial⟩) (ih (k + 1) φ5 (by omega) (fun b q1 q2 => ?_) ?_)
              · have g := h2 b q1 q2
                generalize rwSum (fun x => tkTk x b) (ts.drop (k + 1)) = sm at g ⊢
                unfold tkTk at g
                rw [e5, zU_inc, e3, zU_inc]
                split at hln <;> repeat (first | omega | split at g | split)
              · rw [e5, e3]
                exact ((h4.put rfl).put rfl)
            · refine j_aload_0 (n' := 105) F dX8_layTaken_104 rfl ?_
              refine j_getR (n' := 108) F fl_X8_37 kap_99 rfl dX8_layTaken_105 rfl ?_
              refine j_iconst (n' := 109) F dX8_layTaken_108 rfl ?_
              refine j_iload_2 (n' := 110) F dX8_layTaken_109 rfl ?_
              refine j_sipush (n' := 113) F dX8_layTaken_110 (by decide) rfl ?_
              refine j_isub (n' := 114) F dX8_layTaken_113 rfl ?_
              refine j_bipush (n' := 116) F dX8_layTaken_114 (by decide) rfl ?_
              refine j_idiv (n' := 117) F (by omega) (by omega) dX8_layTaken_116 rfl ?_
              refine j_cS1i (n' := 120) F kl_X8_57 (c_Mod_farOf (by omega)) (by decide) (Nat.le_of_ble_eq_true rfl) dX8_layTaken_117 rfl (fun z7 φ7 h7 => ?_)
              obtain ⟨rfl, rfl⟩ := h7
              rw [← hdx (by omega)]
              refine j_iadd (n' := 121) F dX8_layTaken_120 rfl ?_
              refine j_dup2 (n' := 122) F rfl rfl dX8_layTaken_121 rfl ?_
              refine j_iald (n' := 123) F kap_109 (by decide) (by omega) dX8_layTaken_122 rfl ?_
              refine j_iconst (n' := 124) F dX8_layTaken_123 rfl ?_
              refine j_iadd (n' := 125) F dX8_layTaken_124 rfl ?_
              refine j_iast (n' := 126) F kap_109 (by decide) (by omega) dX8_layTaken_125 rfl (fun φ8 e8 => ?_)
              refine j_iinc_1 (n' := 129) F (by decide) jc_r dX8_layTaken_126 rfl ?_
              refine j_goto (t := 23) F dX8_layTaken_129 (by decide) ?_
              refine j_weak (by exact ⟨rfl, rfl, trivial⟩) (ih (k + 1) φ8 (by omega) (fun b q1 q2 => ?_) ?_)
              · have g := h2 b q1 q2
                generalize rwSum (fun x => tkTk x b) (ts.drop (k + 1)) = sm at g ⊢
                unfold tkTk at g
                rw [e8, zU_inc, e5, zU_inc, e3, zU_inc]
                split at hln <;> repeat (first | omega | split at g | split)
              · rw [e8, e5, e3]
                exact (((h4.put rfl).put rfl).put rfl)
          · refine j_bipush (n' := 88) F dX8_layTaken_86 (by decide) rfl ?_
            refine j_goto (t := 92) F dX8_layTaken_88 (by decide) ?_
            refine j_dup2 (n' := 93) F rfl rfl dX8_layTaken_92 rfl ?_
            refine j_iald (n' := 94) F kap_109 (by decide) (by omega) dX8_layTaken_93 rfl ?_
            refine j_iconst (n' := 95) F dX8_layTaken_94 rfl ?_
            refine j_iadd (n' := 96) F dX8_layTaken_95 rfl ?_
            refine j_iast (n' := 97) F kap_109 (by decide) (by omega) dX8_layTaken_96 rfl (fun φ9 e9 => ?_)
            refine j_iload_2 (n' := 98) F dX8_layTaken_97 rfl ?_
            refine j_sipush (n' := 101) F dX8_layTaken_98 (by decide) rfl ?_
            refine j_icmp_lt (t := 126) (n' := 104) F (by omega) (by omega) dX8_layTaken_101 (by decide) rfl (fun c101_9 => ?_) (fun c101_9 => ?_)
            · refine j_iinc_1 (n' := 129) F (by decide) jc_r dX8_layTaken_126 rfl ?_
              refine j_goto (t := 23) F dX8_layTaken_129 (by decide) ?_
              refine j_weak (by exact ⟨rfl, rfl, trivial⟩) (ih (k + 1) φ9 (by omega) (fun b q1 q2 => ?_) ?_)
              · have g := h2 b q1 q2
                generalize rwSum (fun x => tkTk x b) (ts.drop (k + 1)) = sm at g ⊢
                unfold tkTk at g
                rw [e9, zU_inc, e3, zU_inc]
                split at hln <;> repeat (first | omega | split at g | split)
              · rw [e9, e3]
                exact ((h4.put rfl).put rfl)
            · refine j_aload_0 (n' := 105) F dX8_layTaken_104 rfl ?_
              refine j_getR (n' := 108) F fl_X8_37 kap_99 rfl dX8_layTaken_105 rfl ?_
              refine j_iconst (n' := 109) F dX8_layTaken_108 rfl ?_
              refine j_iload_2 (n' := 110) F dX8_layTaken_109 rfl ?_
              refine j_sipush (n' := 113) F dX8_layTaken_110 (by decide) rfl ?_
              refine j_isub (n' := 114) F dX8_layTaken_113 rfl ?_
              refine j_bipush (n' := 116) F dX8_layTaken_114 (by decide) rfl ?_
              refine j_idiv (n' := 117) F (by omega) (by omega) dX8_layTaken_116 rfl ?_
              refine j_cS1i (n' := 120) F kl_X8_57 (c_Mod_farOf (by omega)) (by decide) (Nat.le_of_ble_eq_true rfl) dX8_layTaken_117 rfl (fun z11 φ11 h11 => ?_)
              obtain ⟨rfl, rfl⟩ := h11
              rw [← hdx (by omega)]
              refine j_iadd (n' := 121) F dX8_layTaken_120 rfl ?_
              refine j_dup2 (n' := 122) F rfl rfl dX8_layTaken_121 rfl ?_
              refine j_iald (n' := 123) F kap_109 (by decide) (by omega) dX8_layTaken_122 rfl ?_
              refine j_iconst (n' := 124) F dX8_layTaken_123 rfl ?_
              refine j_iadd (n' := 125) F dX8_layTaken_124 rfl ?_
              refine j_iast (n' := 126) F kap_109 (by decide) (by omega) dX8_layTaken_125 rfl (fun φ12 e12 => ?_)
              refine j_iinc_1 (n' := 129) F (by decide) jc_r dX8_layTaken_126 rfl ?_
              refine j_goto (t := 23) F dX8_layTaken_129 (by decide) ?_
              refine j_weak (by exact ⟨rfl, rfl, trivial⟩) (ih (k + 1) φ12 (by omega) (fun b q1 q2 => ?_) ?_)
              · have g := h2 b q1 q2
                generalize rwSum (fun x => tkTk x b) (ts.drop (k + 1)) = sm at g ⊢
                unfold tkTk at g
                rw [e12, zU_inc, e9, zU_inc, e3, zU_inc]
                split at hln <;> repeat (first | omega | split at g | split)
              · rw [e12, e9, e3]
                exact (((h4.put rfl).put rfl).put rfl)
        · refine j_aload_0 (n' := 45) F dX8_layTaken_44 rfl ?_
          refine j_getR (n' := 48) F fl_X8_37 kap_99 rfl dX8_layTaken_45 rfl ?_
          refine j_iload_2 (n' := 49) F dX8_layTaken_48 rfl ?_
          refine j_dup2 (n' := 50) F rfl rfl dX8_layTaken_49 rfl ?_
          refine j_iald (n' := 51) F kap_109 (by decide) (by omega) dX8_layTaken_50 rfl ?_
          refine j_iconst (n' := 52) F dX8_layTaken_51 rfl ?_
          refine j_iadd (n' := 53) F dX8_layTaken_52 rfl ?_
          refine j_iast (n' := 54) F kap_109 (by decide) (by omega) dX8_layTaken_53 rfl (fun φ13 e13 => ?_)
          refine j_goto (t := 97) F dX8_layTaken_54 (by decide) ?_
          refine j_iload_2 (n' := 98) F dX8_layTaken_97 rfl ?_
          refine j_sipush (n' := 101) F dX8_layTaken_98 (by decide) rfl ?_
          refine j_icmp_lt (t := 126) (n' := 104) F (by omega) (by omega) dX8_layTaken_101 (by decide) rfl (fun c101_13 => ?_) (fun c101_13 => ?_)
          · refine j_iinc_1 (n' := 129) F (by decide) jc_r dX8_layTaken_126 rfl ?_
            refine j_goto (t := 23) F dX8_layTaken_129 (by decide) ?_
            refine j_weak (by exact ⟨rfl, rfl, trivial⟩) (ih (k + 1) φ13 (by omega) (fun b q1 q2 => ?_) ?_)
            · have g := h2 b q1 q2
              generalize rwSum (fun x => tkTk x b) (ts.drop (k + 1)) = sm at g ⊢
              unfold tkTk at g
              rw [e13, zU_inc]
              split at hln <;> repeat (first | omega | split at g | split)
            · rw [e13]
              exact (h4.put rfl)
          · refine j_aload_0 (n' := 105) F dX8_layTaken_104 rfl ?_
            refine j_getR (n' := 108) F fl_X8_37 kap_99 rfl dX8_layTaken_105 rfl ?_
            refine j_iconst (n' := 109) F dX8_layTaken_108 rfl ?_
            refine j_iload_2 (n' := 110) F dX8_layTaken_109 rfl ?_
            refine j_sipush (n' := 113) F dX8_layTaken_110 (by decide) rfl ?_
            refine j_isub (n' := 114) F dX8_layTaken_113 rfl ?_
            refine j_bipush (n' := 116) F dX8_layTaken_114 (by decide) rfl ?_
            refine j_idiv (n' := 117) F (by omega) (by omega) dX8_layTaken_116 rfl ?_
            refine j_cS1i (n' := 120) F kl_X8_57 (c_Mod_farOf (by omega)) (by decide) (Nat.le_of_ble_eq_true rfl) dX8_layTaken_117 rfl (fun z15 φ15 h15 => ?_)
            obtain ⟨rfl, rfl⟩ := h15
            rw [← hdx (by omega)]
            refine j_iadd (n' := 121) F dX8_layTaken_120 rfl ?_
            refine j_dup2 (n' := 122) F rfl rfl dX8_layTaken_121 rfl ?_
            refine j_iald (n' := 123) F kap_109 (by decide) (by omega) dX8_layTaken_122 rfl ?_
            refine j_iconst (n' := 124) F dX8_layTaken_123 rfl ?_
            refine j_iadd (n' := 125) F dX8_layTaken_124 rfl ?_
            refine j_iast (n' := 126) F kap_109 (by decide) (by omega) dX8_layTaken_125 rfl (fun φ16 e16 => ?_)
            refine j_iinc_1 (n' := 129) F (by decide) jc_r dX8_layTaken_126 rfl ?_
            refine j_goto (t := 23) F dX8_layTaken_129 (by decide) ?_
            refine j_weak (by exact ⟨rfl, rfl, trivial⟩) (ih (k + 1) φ16 (by omega) (fun b q1 q2 => ?_) ?_)
            · have g := h2 b q1 q2
              generalize rwSum (fun x => tkTk x b) (ts.drop (k + 1)) = sm at g ⊢
              unfold tkTk at g
              rw [e16, zU_inc, e13, zU_inc]
              split at hln <;> repeat (first | omega | split at g | split)
            · rw [e16, e13]
              exact ((h4.put rfl).put rfl)
  have l1 : ∀ (m : Nat) (i : Int) (ψ : jPhi), i + m = 18 → 0 ≤ i → (∀ b, 0 ≤ b → b < i → ψ 109 b = 0) → frC (fun a => a = 109) φ ψ → jJ X G B0 κF 113 0 0 Q 3 ψ 2 [some (rf B0 99), some (iv i), none] [] := by
    intro m
    induction m with
    | zero =>
      intro i ψ h1 h2 h3 h5
      refine j_iload_1 (n' := 3) F dX8_layTaken_2 rfl ?_
      refine j_bipush (n' := 5) F dX8_layTaken_3 (by decide) rfl ?_
      refine j_icmp_ge (t := 21) (n' := 8) F (by omega) (by omega) dX8_layTaken_5 (by decide) rfl (fun c5_0 => ?_) (fun c5_0 => ?_)
      · refine j_iconst (n' := 22) F dX8_layTaken_21 rfl ?_
        refine j_istore_1 (n' := 23) F (by decide) jc_r dX8_layTaken_22 rfl ?_
        exact l2 ts.length 0 ψ (by omega) (fun b q1 q2 => by rw [h3 b q1 (by omega)]; simp [tak]) h5
      · omega
    | succ m ih =>
      intro i ψ h1 h2 h3 h5
      refine j_iload_1 (n' := 3) F dX8_layTaken_2 rfl ?_
      refine j_bipush (n' := 5) F dX8_layTaken_3 (by decide) rfl ?_
      refine j_icmp_ge (t := 21) (n' := 8) F (by omega) (by omega) dX8_layTaken_5 (by decide) rfl (fun c5_0 => ?_) (fun c5_0 => ?_)
      · omega
      · refine j_aload_0 (n' := 9) F dX8_layTaken_8 rfl ?_
        refine j_getR (n' := 12) F fl_X8_37 kap_99 rfl dX8_layTaken_9 rfl ?_
        refine j_iload_1 (n' := 13) F dX8_layTaken_12 rfl ?_
        refine j_iconst (n' := 14) F dX8_layTaken_13 rfl ?_
        refine j_iast (n' := 15) F kap_109 (by decide) (by omega) dX8_layTaken_14 rfl (fun φ2 e2 => ?_)
        refine j_iinc_1 (n' := 18) F (by decide) jc_r dX8_layTaken_15 rfl ?_
        refine j_goto (t := 2) F dX8_layTaken_18 (by decide) ?_
        refine ih (i + 1) φ2 (by omega) (by omega) (fun b q1 q2 => ?_) (by rw [e2]; exact h5.put rfl)
        by_cases q : b = i
        · rw [e2, q, zU_self]
        · rw [e2, zU_ne (by omega)]
          exact h3 b q1 (by omega)
  refine j_iconst (n' := 1) F dX8_layTaken_0 rfl ?_
  refine j_istore_1 (n' := 2) F (by decide) jc_r dX8_layTaken_1 rfl ?_
  exact l1 18 0 φ (by omega) (by omega) (fun b q1 q2 => by omega) frC.rf
set_option maxRecDepth 20000 in
theorem c_Mod_sum {l : Launch} {G : jG} {B0 : Nat} {φ : jPhi} {x y : Int} (hx : 0 ≤ x ∧ x ≤ y ∧ y ≤ 18) : jC l G B0 κF 113 yX8_sum cX8_sum 5 (some .int) 0 [rf B0 99, iv x, iv y] φ mkI (fun z φ' => φ = φ' ∧ z = lpI (fun i a => a + φ 109 i) x y 0) := by
  refine jC_start RX8 [some (rf B0 99), some (iv x), some (iv y), none, none] (by decide) rfl (Nat.le_of_ble_eq_true rfl) rfl (fun X Q F E => ?_)
  have loop : ∀ (m : Nat) (i a : Int), i + m = y → 0 ≤ i → lpI (fun i a => a + φ 109 i) i y a = lpI (fun i a => a + φ 109 i) x y 0 → jJ X G B0 κF 113 0 0 Q 5 φ 5 [some (rf B0 99), some (iv x), some (iv y), some (iv a), some (iv i)] [] := by
    intro m
    induction m with
    | zero =>
      intro i a h1 h2 h3
      rw [lpI_end (by omega)] at h3
      refine j_iload_4 (n' := 7) F dX8_sum_5 rfl ?_
      refine j_iload_2 (n' := 8) F dX8_sum_7 rfl ?_
      refine j_icmp_ge (t := 27) (n' := 11) F (by omega) (by omega) dX8_sum_8 (by decide) rfl (fun c8_0 => ?_) (fun c8_0 => ?_)
      · refine j_iload_3 (n' := 28) F dX8_sum_27 rfl ?_
        exact j_ireturn F E dX8_sum_28 (⟨rfl, h3⟩)
      · omega
    | succ m ih =>
      intro i a h1 h2 h3
      rw [lpI_step (by omega)] at h3
      refine j_iload_4 (n' := 7) F dX8_sum_5 rfl ?_
      refine j_iload_2 (n' := 8) F dX8_sum_7 rfl ?_
      refine j_icmp_ge (t := 27) (n' := 11) F (by omega) (by omega) dX8_sum_8 (by decide) rfl (fun c8_0 => ?_) (fun c8_0 => ?_)
      · omega
      · refine j_iload_3 (n' := 12) F dX8_sum_11 rfl ?_
        refine j_aload_0 (n' := 13) F dX8_sum_12 rfl ?_
        refine j_getR (n' := 16) F fl_X8_37 kap_99 rfl dX8_sum_13 rfl ?_
        refine j_iload_4 (n' := 18) F dX8_sum_16 rfl ?_
        refine j_iald (n' := 19) F kap_109 (by decide) (by omega) dX8_sum_18 rfl ?_
        refine j_iadd (n' := 20) F dX8_sum_19 rfl ?_
        refine j_istore_3 (n' := 21) F (by decide) jc_i dX8_sum_20 rfl ?_
        refine j_iinc_4 (n' := 24) F (by decide) jc_i dX8_sum_21 rfl ?_
        refine j_goto (t := 5) F dX8_sum_24 (by decide) ?_
        exact ih (i + 1) _ (by omega) (by omega) h3
  refine j_iconst (n' := 1) F dX8_sum_0 rfl ?_
  refine j_istore_3 (n' := 2) F (by decide) jc_i dX8_sum_1 rfl ?_
  refine j_iload_1 (n' := 3) F dX8_sum_2 rfl ?_
  refine j_istore_4 (n' := 5) F (by decide) jc_i dX8_sum_3 rfl ?_
  exact loop (y - x).toNat x 0 (by omega) (by omega) rfl
set_option maxRecDepth 20000 in
theorem c_Mod_layThen {l : Launch} {G : jG} {B0 : Nat} {φ : jPhi}  (hc : miOk φ) (hn : 0 < φ 99 2) : jC l G B0 κF 113 yX8_layThen cX8_layThen 4 (some .int) 5 [rf B0 99] φ mkI (fun z φ' => (∀ b, 0 ≤ b → b < 18 → φ' 110 b = newP (toks (φ 102) (φ 101) 0 (φ 99 2)) (φ 102) b) ∧ z = othP (φ 102) (newP (toks (φ 102) (φ 101) 0 (φ 99 2)) (φ 102)) 0 18 0 ∧ mdIs φ' 99 108 18 (toks (φ 102) (φ 101) 0 (φ 99 2)) ∧ φ' 104 0 = rwSum (tkPrice (φ 102)) (toks (φ 102) (φ 101) 0 (φ 99 2)) ∧ (∀ b, b ≠ 18 → φ' 99 b = φ 99 b) ∧ frC (fun a => a = 99 ∨ (104 ≤ a ∧ a ≤ 110)) φ φ') := by
  refine jC_start RX8 [some (rf B0 99), none, none, none] (by decide) rfl (Nat.le_of_ble_eq_true rfl) rfl (fun X Q F E => ?_)
  have hc0 := hc
  obtain ⟨c1, c2, c3, c5, c6⟩ := hc0
  have tkk := toks_ok (P := φ 102) (t := φ 101) (f := 0) (e := φ 99 2) (by omega) (by omega) c5
  have hts := tak_sums tkk.1
  have hpc := rwPC_bd (ts := (toks (φ 102) (φ 101) 0 (φ 99 2)))
  have hlen := tkk.2
  have loop : ∀ (m : Nat) (k c : Int) (ψ : jPhi), k + m = 18 → 0 ≤ k → (∀ b, 0 ≤ b → b < k → ψ 110 b = newP (toks (φ 102) (φ 101) 0 (φ 99 2)) (φ 102) b) → (∀ b, 0 ≤ b → b < 18 → ψ 109 b = tak (toks (φ 102) (φ 101) 0 (φ 99 2)) b) → othP (φ 102) (newP (toks (φ 102) (φ 101) 0 (φ 99 2)) (φ 102)) k 18 c = othP (φ 102) (newP (toks (φ 102) (φ 101) 0 (φ 99 2)) (φ 102)) 0 18 0 → (mdIs ψ 99 108 18 (toks (φ 102) (φ 101) 0 (φ 99 2)) ∧ ψ 104 0 = rwSum (tkPrice (φ 102)) (toks (φ 102) (φ 101) 0 (φ 99 2)) ∧ (∀ b, b ≠ 18 → ψ 99 b = φ 99 b) ∧ frC (fun a => a = 99 ∨ (104 ≤ a ∧ a ≤ 110)) φ ψ) → jJ X G B0 κF 113 0 0 Q 4 ψ 12 [some (rf B0 99), some (iv c), some (iv k), none] [] := by
    intro m
    induction m with
    | zero =>
      intro k c ψ h1 h2 h3 h4 h5 h6
      unfold othP at h5
      rw [lpI_end (by omega)] at h5
      refine j_iload_2 (n' := 13) F dX8_layThen_12 rfl ?_
      refine j_bipush (n' := 15) F dX8_layThen_13 (by decide) rfl ?_
      refine j_icmp_ge (t := 141) (n' := 18) F (by omega) (by omega) dX8_layThen_15 (by decide) rfl (fun c15_0 => ?_) (fun c15_0 => ?_)
      · refine j_iload_1 (n' := 142) F dX8_layThen_141 rfl ?_
        exact j_ireturn F E dX8_layThen_142 (⟨fun b q1 q2 => h3 b q1 (by omega), h5, h6⟩)
      · omega
    | succ m ih =>
      intro k c ψ h1 h2 h3 h4 h5 h6
      obtain ⟨g1, g2, g3, g4⟩ := h6
      have v18 := g1.1
      have v102 : ψ 102 k = φ 102 k := g4 102 k (by omega)
      have u1 : ψ 109 k = tak (toks (φ 102) (φ 101) 0 (φ 99 2)) k := h4 k h2 (by omega)
      have a0 := h4 0 (by omega) (by omega)
      have a1 := h4 1 (by omega) (by omega)
      have a2 := h4 2 (by omega) (by omega)
      have a3 := h4 3 (by omega) (by omega)
      have a4 := h4 4 (by omega) (by omega)
      have a17 := h4 17 (by omega) (by omega)
      have htb := tak_bd tkk.2 k
      have hpb := c6 k h2 (by omega)
      have hall : 1 ≤ allOf (toks (φ 102) (φ 101) 0 (φ 99 2)) k ∧ allOf (toks (φ 102) (φ 101) 0 (φ 99 2)) k ≤ 100 := by
        unfold allOf
        repeat (first | omega | split)
      have hd1 : 0 ≤ allOf (toks (φ 102) (φ 101) 0 (φ 99 2)) k / (1 + tak (toks (φ 102) (φ 101) 0 (φ 99 2)) k) ∧ allOf (toks (φ 102) (φ 101) 0 (φ 99 2)) k / (1 + tak (toks (φ 102) (φ 101) 0 (φ 99 2)) k) ≤ 100 := by
        constructor
        · exact Int.ediv_nonneg (by omega) (by omega)
        · exact Int.le_trans (Int.ediv_le_self _ (by omega)) (by omega)
      have hrb := rpr_bd (allOf (toks (φ 102) (φ 101) 0 (φ 99 2)) k) (tak (toks (φ 102) (φ 101) 0 (φ 99 2)) k)
      have hnp : newP (toks (φ 102) (φ 101) 0 (φ 99 2)) (φ 102) k = rpr (allOf (toks (φ 102) (φ 101) 0 (φ 99 2)) k) (tak (toks (φ 102) (φ 101) 0 (φ 99 2)) k) := by rw [newP, if_pos (by omega)]
      have hsum : lpI (fun i a => a + ψ 109 i) 0 4 0 = ψ 109 0 + ψ 109 1 + ψ 109 2 + ψ 109 3 := by
        rw [lpI_step (by omega), lpI_step (by omega), lpI_step (by omega), lpI_step (by omega), lpI_end (by omega)]
        show 0 + ψ 109 0 + ψ 109 1 + ψ 109 2 + ψ 109 3 = _
        omega
      unfold othP at h5
      rw [lpI_step (by omega), hnp] at h5
      refine j_iload_2 (n' := 13) F dX8_layThen_12 rfl ?_
      refine j_bipush (n' := 15) F dX8_layThen_13 (by decide) rfl ?_
      refine j_icmp_ge (t := 141) (n' := 18) F (by omega) (by omega) dX8_layThen_15 (by decide) rfl (fun c15_0 => ?_) (fun c15_0 => ?_)
      · omega
      · refine j_iload_2 (n' := 19) F dX8_layThen_18 rfl ?_
        refine j_iconst (n' := 20) F dX8_layThen_19 rfl ?_
        refine j_icmp_ge (t := 34) (n' := 23) F (by omega) (by omega) dX8_layThen_20 (by decide) rfl (fun c20_1 => ?_) (fun c20_1 => ?_)
        · refine j_iload_2 (n' := 35) F dX8_layThen_34 rfl ?_
          refine j_iconst (n' := 36) F dX8_layThen_35 rfl ?_
          refine j_icmp_eq (t := 45) (n' := 39) F (by omega) (by omega) dX8_layThen_36 (by decide) rfl (fun c36_2 => ?_) (fun c36_2 => ?_)
          · refine j_aload_0 (n' := 46) F dX8_layThen_45 rfl ?_
            refine j_getI (n' := 49) F 18 rfl fl_X8_133 kap_99 rfl dX8_layThen_46 rfl ?_
            refine j_iconst (n' := 50) F dX8_layThen_49 rfl ?_
            refine j_iadd (n' := 51) F dX8_layThen_50 rfl ?_
            refine j_goto (t := 88) F dX8_layThen_51 (by decide) ?_
            refine j_top (w := iv (allOf (toks (φ 102) (φ 101) 0 (φ 99 2)) k)) (congrArg iv (by unfold allOf; first | (rw [if_pos (by omega)]; omega) | (rw [if_neg (by omega), if_pos (by omega)]; omega) | (rw [if_neg (by omega), if_neg (by omega), if_pos (by omega)]; omega) | (rw [if_neg (by omega), if_neg (by omega), if_neg (by omega)]; omega))) ?_
            refine j_istore_3 (n' := 89) F (by decide) jc_i dX8_layThen_88 rfl ?_
            refine j_aload_0 (n' := 90) F dX8_layThen_89 rfl ?_
            refine j_getR (n' := 93) F fl_X8_40 kap_99 rfl dX8_layThen_90 rfl ?_
            refine j_iload_2 (n' := 94) F dX8_layThen_93 rfl ?_
            refine j_iconst (n' := 95) F dX8_layThen_94 rfl ?_
            refine j_iconst (n' := 96) F dX8_layThen_95 rfl ?_
            refine j_iload_3 (n' := 97) F dX8_layThen_96 rfl ?_
            refine j_iconst (n' := 98) F dX8_layThen_97 rfl ?_
            refine j_aload_0 (n' := 99) F dX8_layThen_98 rfl ?_
            refine j_getR (n' := 102) F fl_X8_37 kap_99 rfl dX8_layThen_99 rfl ?_
            refine j_iload_2 (n' := 103) F dX8_layThen_102 rfl ?_
            refine j_iald (n' := 104) F kap_109 (by decide) (by omega) dX8_layThen_103 rfl ?_
            rw [u1]
            refine j_iadd (n' := 105) F dX8_layThen_104 rfl ?_
            refine j_idiv (n' := 106) F (by omega) (by omega) dX8_layThen_105 rfl ?_
            refine j_cS1i (n' := 109) F kl_X8_166 (c_Mod_log (by omega)) (by decide) (Nat.le_of_ble_eq_true rfl) dX8_layThen_106 rfl (fun z4 φ4 h4 => ?_)
            obtain ⟨rfl, rfl⟩ := h4
            refine j_imul (n' := 110) F dX8_layThen_109 rfl ?_
            refine j_iadd (n' := 111) F dX8_layThen_110 rfl ?_
            refine j_iast (n' := 112) F kap_110 (by decide) (by omega) dX8_layThen_111 rfl (fun φ5 e5 => ?_)
            have v110 : φ5 110 k = rpr (allOf (toks (φ 102) (φ 101) 0 (φ 99 2)) k) (tak (toks (φ 102) (φ 101) 0 (φ 99 2)) k) := by rw [e5, zU_self]; rfl
            have w102 : φ5 102 k = φ 102 k := by rw [e5, zU_ne (by omega)]; exact v102
            refine j_iload_1 (n' := 113) F dX8_layThen_112 rfl ?_
            refine j_aload_0 (n' := 114) F dX8_layThen_113 rfl ?_
            refine j_getR (n' := 117) F fl_X8_40 kap_99 rfl dX8_layThen_114 rfl ?_
            refine j_iload_2 (n' := 118) F dX8_layThen_117 rfl ?_
            refine j_iald (n' := 119) F kap_110 (by decide) (by omega) dX8_layThen_118 rfl ?_
            refine j_aload_0 (n' := 120) F dX8_layThen_119 rfl ?_
            refine j_getR (n' := 123) F fl_X8_16 kap_99 rfl dX8_layThen_120 rfl ?_
            refine j_iload_2 (n' := 124) F dX8_layThen_123 rfl ?_
            refine j_iald (n' := 125) F kap_102 (by decide) (by omega) dX8_layThen_124 rfl ?_
            refine j_icmp_ne (t := 132) (n' := 128) F (by omega) (by omega) dX8_layThen_125 (by decide) rfl (fun c125_5 => ?_) (fun c125_5 => ?_)
            · refine j_iconst (n' := 133) F dX8_layThen_132 rfl ?_
              refine j_iadd (n' := 134) F dX8_layThen_133 rfl ?_
              refine j_istore_1 (n' := 135) F (by decide) jc_r dX8_layThen_134 rfl ?_
              refine j_iinc_2 (n' := 138) F (by decide) jc_i dX8_layThen_135 rfl ?_
              refine j_goto (t := 12) F dX8_layThen_138 (by decide) ?_
              refine j_weak (by exact ⟨rfl, rfl, rfl, trivial⟩) (ih (k + 1) _ φ5 (by omega) (by omega) (fun b q1 q2 => ?_) (fun b q1 q2 => by rw [e5, zU_ne (by omega)]; exact h4 b q1 q2) ?_ ⟨g1.fr (by rw [e5, zU_ne (by omega)]) (fun b => by rw [e5, zU_ne (by omega)]), by rw [e5, zU_ne (by omega)]; exact g2, fun b hb => by rw [e5, zU_ne (by omega)]; exact g3 b hb, by rw [e5]; exact g4.put (by omega)⟩)
              · by_cases q : b = k
                · rw [q, v110, hnp]
                · rw [e5, zU_ne (by omega)]
                  exact h3 b q1 (by omega)
              · unfold othP
                rw [← h5]
                congr 1
                first | (rw [if_neg (by omega)]; done) | (rw [if_pos (by omega)]; done) | (rw [if_pos (by omega)]; omega)
            · refine j_iconst (n' := 129) F dX8_layThen_128 rfl ?_
              refine j_goto (t := 133) F dX8_layThen_129 (by decide) ?_
              refine j_iadd (n' := 134) F dX8_layThen_133 rfl ?_
              refine j_istore_1 (n' := 135) F (by decide) jc_r dX8_layThen_134 rfl ?_
              refine j_iinc_2 (n' := 138) F (by decide) jc_i dX8_layThen_135 rfl ?_
              refine j_goto (t := 12) F dX8_layThen_138 (by decide) ?_
              refine j_weak (by exact ⟨rfl, rfl, rfl, trivial⟩) (ih (k + 1) _ φ5 (by omega) (by omega) (fun b q1 q2 => ?_) (fun b q1 q2 => by rw [e5, zU_ne (by omega)]; exact h4 b q1 q2) ?_ ⟨g1.fr (by rw [e5, zU_ne (by omega)]) (fun b => by rw [e5, zU_ne (by omega)]), by rw [e5, zU_ne (by omega)]; exact g2, fun b hb => by rw [e5, zU_ne (by omega)]; exact g3 b hb, by rw [e5]; exact g4.put (by omega)⟩)
              · by_cases q : b = k
                · rw [q, v110, hnp]
                · rw [e5, zU_ne (by omega)]
                  exact h3 b q1 (by omega)
              · unfold othP
                rw [← h5]
                congr 1
                first | (rw [if_neg (by omega)]; done) | (rw [if_pos (by omega)]; done) | (rw [if_pos (by omega)]; omega)
          · refine j_iload_2 (n' := 40) F dX8_layThen_39 rfl ?_
            refine j_bipush (n' := 42) F dX8_layThen_40 (by decide) rfl ?_
            refine j_icmp_ne (t := 54) (n' := 45) F (by omega) (by omega) dX8_layThen_42 (by decide) rfl (fun c42_6 => ?_) (fun c42_6 => ?_)
            · refine j_iload_2 (n' := 55) F dX8_layThen_54 rfl ?_
              refine j_bipush (n' := 57) F dX8_layThen_55 (by decide) rfl ?_
              refine j_icmp_ge (t := 71) (n' := 60) F (by omega) (by omega) dX8_layThen_57 (by decide) rfl (fun c57_7 => ?_) (fun c57_7 => ?_)
              · refine j_aload_0 (n' := 72) F dX8_layThen_71 rfl ?_
                refine j_getR (n' := 75) F fl_X8_37 kap_99 rfl dX8_layThen_72 rfl ?_
                refine j_iconst (n' := 76) F dX8_layThen_75 rfl ?_
                refine j_iald (n' := 77) F kap_109 (by decide) (by omega) dX8_layThen_76 rfl ?_
                refine j_aload_0 (n' := 78) F dX8_layThen_77 rfl ?_
                refine j_getR (n' := 81) F fl_X8_37 kap_99 rfl dX8_layThen_78 rfl ?_
                refine j_bipush (n' := 83) F dX8_layThen_81 (by decide) rfl ?_
                refine j_iald (n' := 84) F kap_109 (by decide) (by omega) dX8_layThen_83 rfl ?_
                refine j_iadd (n' := 85) F dX8_layThen_84 rfl ?_
                refine j_bipush (n' := 87) F dX8_layThen_85 (by decide) rfl ?_
                refine j_iadd (n' := 88) F dX8_layThen_87 rfl ?_
                refine j_top (w := iv (allOf (toks (φ 102) (φ 101) 0 (φ 99 2)) k)) (congrArg iv (by unfold allOf; first | (rw [if_pos (by omega)]; omega) | (rw [if_neg (by omega), if_pos (by omega)]; omega) | (rw [if_neg (by omega), if_neg (by omega), if_pos (by omega)]; omega) | (rw [if_neg (by omega), if_neg (by omega), if_neg (by omega)]; omega))) ?_
                refine j_istore_3 (n' := 89) F (by decide) jc_i dX8_layThen_88 rfl ?_
                refine j_aload_0 (n' := 90) F dX8_layThen_89 rfl ?_
                refine j_getR (n' := 93) F fl_X8_40 kap_99 rfl dX8_layThen_90 rfl ?_
                refine j_iload_2 (n' := 94) F dX8_layThen_93 rfl ?_
                refine j_iconst (n' := 95) F dX8_layThen_94 rfl ?_
                refine j_iconst (n' := 96) F dX8_layThen_95 rfl ?_
                refine j_iload_3 (n' := 97) F dX8_layThen_96 rfl ?_
                refine j_iconst (n' := 98) F dX8_layThen_97 rfl ?_
                refine j_aload_0 (n' := 99) F dX8_layThen_98 rfl ?_
                refine j_getR (n' := 102) F fl_X8_37 kap_99 rfl dX8_layThen_99 rfl ?_
                refine j_iload_2 (n' := 103) F dX8_layThen_102 rfl ?_
                refine j_iald (n' := 104) F kap_109 (by decide) (by omega) dX8_layThen_103 rfl ?_
                rw [u1]
                refine j_iadd (n' := 105) F dX8_layThen_104 rfl ?_
                refine j_idiv (n' := 106) F (by omega) (by omega) dX8_layThen_105 rfl ?_
                refine j_cS1i (n' := 109) F kl_X8_166 (c_Mod_log (by omega)) (by decide) (Nat.le_of_ble_eq_true rfl) dX8_layThen_106 rfl (fun z9 φ9 h9 => ?_)
                obtain ⟨rfl, rfl⟩ := h9
                refine j_imul (n' := 110) F dX8_layThen_109 rfl ?_
                refine j_iadd (n' := 111) F dX8_layThen_110 rfl ?_
                refine j_iast (n' := 112) F kap_110 (by decide) (by omega) dX8_layThen_111 rfl (fun φ10 e10 => ?_)
                have v110 : φ10 110 k = rpr (allOf (toks (φ 102) (φ 101) 0 (φ 99 2)) k) (tak (toks (φ 102) (φ 101) 0 (φ 99 2)) k) := by rw [e10, zU_self]; rfl
                have w102 : φ10 102 k = φ 102 k := by rw [e10, zU_ne (by omega)]; exact v102
                refine j_iload_1 (n' := 113) F dX8_layThen_112 rfl ?_
                refine j_aload_0 (n' := 114) F dX8_layThen_113 rfl ?_
                refine j_getR (n' := 117) F fl_X8_40 kap_99 rfl dX8_layThen_114 rfl ?_
                refine j_iload_2 (n' := 118) F dX8_layThen_117 rfl ?_
                refine j_iald (n' := 119) F kap_110 (by decide) (by omega) dX8_layThen_118 rfl ?_
                refine j_aload_0 (n' := 120) F dX8_layThen_119 rfl ?_
                refine j_getR (n' := 123) F fl_X8_16 kap_99 rfl dX8_layThen_120 rfl ?_
                refine j_iload_2 (n' := 124) F dX8_layThen_123 rfl ?_
                refine j_iald (n' := 125) F kap_102 (by decide) (by omega) dX8_layThen_124 rfl ?_
                refine j_icmp_ne (t := 132) (n' := 128) F (by omega) (by omega) dX8_layThen_125 (by decide) rfl (fun c125_10 => ?_) (fun c125_10 => ?_)
                · refine j_iconst (n' := 133) F dX8_layThen_132 rfl ?_
                  refine j_iadd (n' := 134) F dX8_layThen_133 rfl ?_
                  refine j_istore_1 (n' := 135) F (by decide) jc_r dX8_layThen_134 rfl ?_
                  refine j_iinc_2 (n' := 138) F (by decide) jc_i dX8_layThen_135 rfl ?_
                  refine j_goto (t := 12) F dX8_layThen_138 (by decide) ?_
                  refine j_weak (by exact ⟨rfl, rfl, rfl, trivial⟩) (ih (k + 1) _ φ10 (by omega) (by omega) (fun b q1 q2 => ?_) (fun b q1 q2 => by rw [e10, zU_ne (by omega)]; exact h4 b q1 q2) ?_ ⟨g1.fr (by rw [e10, zU_ne (by omega)]) (fun b => by rw [e10, zU_ne (by omega)]), by rw [e10, zU_ne (by omega)]; exact g2, fun b hb => by rw [e10, zU_ne (by omega)]; exact g3 b hb, by rw [e10]; exact g4.put (by omega)⟩)
                  · by_cases q : b = k
                    · rw [q, v110, hnp]
                    · rw [e10, zU_ne (by omega)]
                      exact h3 b q1 (by omega)
                  · unfold othP
                    rw [← h5]
                    congr 1
                    first | (rw [if_neg (by omega)]; done) | (rw [if_pos (by omega)]; done) | (rw [if_pos (by omega)]; omega)
                · refine j_iconst (n' := 129) F dX8_layThen_128 rfl ?_
                  refine j_goto (t := 133) F dX8_layThen_129 (by decide) ?_
                  refine j_iadd (n' := 134) F dX8_layThen_133 rfl ?_
                  refine j_istore_1 (n' := 135) F (by decide) jc_r dX8_layThen_134 rfl ?_
                  refine j_iinc_2 (n' := 138) F (by decide) jc_i dX8_layThen_135 rfl ?_
                  refine j_goto (t := 12) F dX8_layThen_138 (by decide) ?_
                  refine j_weak (by exact ⟨rfl, rfl, rfl, trivial⟩) (ih (k + 1) _ φ10 (by omega) (by omega) (fun b q1 q2 => ?_) (fun b q1 q2 => by rw [e10, zU_ne (by omega)]; exact h4 b q1 q2) ?_ ⟨g1.fr (by rw [e10, zU_ne (by omega)]) (fun b => by rw [e10, zU_ne (by omega)]), by rw [e10, zU_ne (by omega)]; exact g2, fun b hb => by rw [e10, zU_ne (by omega)]; exact g3 b hb, by rw [e10]; exact g4.put (by omega)⟩)
                  · by_cases q : b = k
                    · rw [q, v110, hnp]
                    · rw [e10, zU_ne (by omega)]
                      exact h3 b q1 (by omega)
                  · unfold othP
                    rw [← h5]
                    congr 1
                    first | (rw [if_neg (by omega)]; done) | (rw [if_pos (by omega)]; done) | (rw [if_pos (by omega)]; omega)
              · refine j_aload_0 (n' := 61) F dX8_layThen_60 rfl ?_
                refine j_getR (n' := 64) F fl_X8_37 kap_99 rfl dX8_layThen_61 rfl ?_
                refine j_iconst (n' := 65) F dX8_layThen_64 rfl ?_
                refine j_iald (n' := 66) F kap_109 (by decide) (by omega) dX8_layThen_65 rfl ?_
                refine j_iconst (n' := 67) F dX8_layThen_66 rfl ?_
                refine j_iadd (n' := 68) F dX8_layThen_67 rfl ?_
                refine j_goto (t := 88) F dX8_layThen_68 (by decide) ?_
                refine j_top (w := iv (allOf (toks (φ 102) (φ 101) 0 (φ 99 2)) k)) (congrArg iv (by unfold allOf; first | (rw [if_pos (by omega)]; omega) | (rw [if_neg (by omega), if_pos (by omega)]; omega) | (rw [if_neg (by omega), if_neg (by omega), if_pos (by omega)]; omega) | (rw [if_neg (by omega), if_neg (by omega), if_neg (by omega)]; omega))) ?_
                refine j_istore_3 (n' := 89) F (by decide) jc_i dX8_layThen_88 rfl ?_
                refine j_aload_0 (n' := 90) F dX8_layThen_89 rfl ?_
                refine j_getR (n' := 93) F fl_X8_40 kap_99 rfl dX8_layThen_90 rfl ?_
                refine j_iload_2 (n' := 94) F dX8_layThen_93 rfl ?_
                refine j_iconst (n' := 95) F dX8_layThen_94 rfl ?_
                refine j_iconst (n' := 96) F dX8_layThen_95 rfl ?_
                refine j_iload_3 (n' := 97) F dX8_layThen_96 rfl ?_
                refine j_iconst (n' := 98) F dX8_layThen_97 rfl ?_
                refine j_aload_0 (n' := 99) F dX8_layThen_98 rfl ?_
                refine j_getR (n' := 102) F fl_X8_37 kap_99 rfl dX8_layThen_99 rfl ?_
                refine j_iload_2 (n' := 103) F dX8_layThen_102 rfl ?_
                refine j_iald (n' := 104) F kap_109 (by decide) (by omega) dX8_layThen_103 rfl ?_
                rw [u1]
                refine j_iadd (n' := 105) F dX8_layThen_104 rfl ?_
                refine j_idiv (n' := 106) F (by omega) (by omega) dX8_layThen_105 rfl ?_
                refine j_cS1i (n' := 109) F kl_X8_166 (c_Mod_log (by omega)) (by decide) (Nat.le_of_ble_eq_true rfl) dX8_layThen_106 rfl (fun z12 φ12 h12 => ?_)
                obtain ⟨rfl, rfl⟩ := h12
                refine j_imul (n' := 110) F dX8_layThen_109 rfl ?_
                refine j_iadd (n' := 111) F dX8_layThen_110 rfl ?_
                refine j_iast (n' := 112) F kap_110 (by decide) (by omega) dX8_layThen_111 rfl (fun φ13 e13 => ?_)
                have v110 : φ13 110 k = rpr (allOf (toks (φ 102) (φ 101) 0 (φ 99 2)) k) (tak (toks (φ 102) (φ 101) 0 (φ 99 2)) k) := by rw [e13, zU_self]; rfl
                have w102 : φ13 102 k = φ 102 k := by rw [e13, zU_ne (by omega)]; exact v102
                refine j_iload_1 (n' := 113) F dX8_layThen_112 rfl ?_
                refine j_aload_0 (n' := 114) F dX8_layThen_113 rfl ?_
                refine j_getR (n' := 117) F fl_X8_40 kap_99 rfl dX8_layThen_114 rfl ?_
                refine j_iload_2 (n' := 118) F dX8_layThen_117 rfl ?_
                refine j_iald (n' := 119) F kap_110 (by decide) (by omega) dX8_layThen_118 rfl ?_
                refine j_aload_0 (n' := 120) F dX8_layThen_119 rfl ?_
                refine j_getR (n' := 123) F fl_X8_16 kap_99 rfl dX8_layThen_120 rfl ?_
                refine j_iload_2 (n' := 124) F dX8_layThen_123 rfl ?_
                refine j_iald (n' := 125) F kap_102 (by decide) (by omega) dX8_layThen_124 rfl ?_
                refine j_icmp_ne (t := 132) (n' := 128) F (by omega) (by omega) dX8_layThen_125 (by decide) rfl (fun c125_13 => ?_) (fun c125_13 => ?_)
                · refine j_iconst (n' := 133) F dX8_layThen_132 rfl ?_
                  refine j_iadd (n' := 134) F dX8_layThen_133 rfl ?_
                  refine j_istore_1 (n' := 135) F (by decide) jc_r dX8_layThen_134 rfl ?_
                  refine j_iinc_2 (n' := 138) F (by decide) jc_i dX8_layThen_135 rfl ?_
                  refine j_goto (t := 12) F dX8_layThen_138 (by decide) ?_
                  refine j_weak (by exact ⟨rfl, rfl, rfl, trivial⟩) (ih (k + 1) _ φ13 (by omega) (by omega) (fun b q1 q2 => ?_) (fun b q1 q2 => by rw [e13, zU_ne (by omega)]; exact h4 b q1 q2) ?_ ⟨g1.fr (by rw [e13, zU_ne (by omega)]) (fun b => by rw [e13, zU_ne (by omega)]), by rw [e13, zU_ne (by omega)]; exact g2, fun b hb => by rw [e13, zU_ne (by omega)]; exact g3 b hb, by rw [e13]; exact g4.put (by omega)⟩)
                  · by_cases q : b = k
                    · rw [q, v110, hnp]
                    · rw [e13, zU_ne (by omega)]
                      exact h3 b q1 (by omega)
                  · unfold othP
                    rw [← h5]
                    congr 1
                    first | (rw [if_neg (by omega)]; done) | (rw [if_pos (by omega)]; done) | (rw [if_pos (by omega)]; omega)
                · refine j_iconst (n' := 129) F dX8_layThen_128 rfl ?_
                  refine j_goto (t := 133) F dX8_layThen_129 (by decide) ?_
                  refine j_iadd (n' := 134) F dX8_layThen_133 rfl ?_
                  refine j_istore_1 (n' := 135) F (by decide) jc_r dX8_layThen_134 rfl ?_
                  refine j_iinc_2 (n' := 138) F (by decide) jc_i dX8_layThen_135 rfl ?_
                  refine j_goto (t := 12) F dX8_layThen_138 (by decide) ?_
                  refine j_weak (by exact ⟨rfl, rfl, rfl, trivial⟩) (ih (k + 1) _ φ13 (by omega) (by omega) (fun b q1 q2 => ?_) (fun b q1 q2 => by rw [e13, zU_ne (by omega)]; exact h4 b q1 q2) ?_ ⟨g1.fr (by rw [e13, zU_ne (by omega)]) (fun b => by rw [e13, zU_ne (by omega)]), by rw [e13, zU_ne (by omega)]; exact g2, fun b hb => by rw [e13, zU_ne (by omega)]; exact g3 b hb, by rw [e13]; exact g4.put (by omega)⟩)
                  · by_cases q : b = k
                    · rw [q, v110, hnp]
                    · rw [e13, zU_ne (by omega)]
                      exact h3 b q1 (by omega)
                  · unfold othP
                    rw [← h5]
                    congr 1
                    first | (rw [if_neg (by omega)]; done) | (rw [if_pos (by omega)]; done) | (rw [if_pos (by omega)]; omega)
            · refine j_aload_0 (n' := 46) F dX8_layThen_45 rfl ?_
              refine j_getI (n' := 49) F 18 rfl fl_X8_133 kap_99 rfl dX8_layThen_46 rfl ?_
              refine j_iconst (n' := 50) F dX8_layThen_49 rfl ?_
              refine j_iadd (n' := 51) F dX8_layThen_50 rfl ?_
              refine j_goto (t := 88) F dX8_layThen_51 (by decide) ?_
              refine j_top (w := iv (allOf (toks (φ 102) (φ 101) 0 (φ 99 2)) k)) (congrArg iv (by unfold allOf; first | (rw [if_pos (by omega)]; omega) | (rw [if_neg (by omega), if_pos (by omega)]; omega) | (rw [if_neg (by omega), if_neg (by omega), if_pos (by omega)]; omega) | (rw [if_neg (by omega), if_neg (by omega), if_neg (by omega)]; omega))) ?_
              refine j_istore_3 (n' := 89) F (by decide) jc_i dX8_layThen_88 rfl ?_
              refine j_aload_0 (n' := 90) F dX8_layThen_89 rfl ?_
              refine j_getR (n' := 93) F fl_X8_40 kap_99 rfl dX8_layThen_90 rfl ?_
              refine j_iload_2 (n' := 94) F dX8_layThen_93 rfl ?_
              refine j_iconst (n' := 95) F dX8_layThen_94 rfl ?_
              refine j_iconst (n' := 96) F dX8_layThen_95 rfl ?_
              refine j_iload_3 (n' := 97) F dX8_layThen_96 rfl ?_
              refine j_iconst (n' := 98) F dX8_layThen_97 rfl ?_
              refine j_aload_0 (n' := 99) F dX8_layThen_98 rfl ?_
              refine j_getR (n' := 102) F fl_X8_37 kap_99 rfl dX8_layThen_99 rfl ?_
              refine j_iload_2 (n' := 103) F dX8_layThen_102 rfl ?_
              refine j_iald (n' := 104) F kap_109 (by decide) (by omega) dX8_layThen_103 rfl ?_
              rw [u1]
              refine j_iadd (n' := 105) F dX8_layThen_104 rfl ?_
              refine j_idiv (n' := 106) F (by omega) (by omega) dX8_layThen_105 rfl ?_
              refine j_cS1i (n' := 109) F kl_X8_166 (c_Mod_log (by omega)) (by decide) (Nat.le_of_ble_eq_true rfl) dX8_layThen_106 rfl (fun z15 φ15 h15 => ?_)
              obtain ⟨rfl, rfl⟩ := h15
              refine j_imul (n' := 110) F dX8_layThen_109 rfl ?_
              refine j_iadd (n' := 111) F dX8_layThen_110 rfl ?_
              refine j_iast (n' := 112) F kap_110 (by decide) (by omega) dX8_layThen_111 rfl (fun φ16 e16 => ?_)
              have v110 : φ16 110 k = rpr (allOf (toks (φ 102) (φ 101) 0 (φ 99 2)) k) (tak (toks (φ 102) (φ 101) 0 (φ 99 2)) k) := by rw [e16, zU_self]; rfl
              have w102 : φ16 102 k = φ 102 k := by rw [e16, zU_ne (by omega)]; exact v102
              refine j_iload_1 (n' := 113) F dX8_layThen_112 rfl ?_
              refine j_aload_0 (n' := 114) F dX8_layThen_113 rfl ?_
              refine j_getR (n' := 117) F fl_X8_40 kap_99 rfl dX8_layThen_114 rfl ?_
              refine j_iload_2 (n' := 118) F dX8_layThen_117 rfl ?_
              refine j_iald (n' := 119) F kap_110 (by decide) (by omega) dX8_layThen_118 rfl ?_
              refine j_aload_0 (n' := 120) F dX8_layThen_119 rfl ?_
              refine j_getR (n' := 123) F fl_X8_16 kap_99 rfl dX8_layThen_120 rfl ?_
              refine j_iload_2 (n' := 124) F dX8_layThen_123 rfl ?_
              refine j_iald (n' := 125) F kap_102 (by decide) (by omega) dX8_layThen_124 rfl ?_
              refine j_icmp_ne (t := 132) (n' := 128) F (by omega) (by omega) dX8_layThen_125 (by decide) rfl (fun c125_16 => ?_) (fun c125_16 => ?_)
              · refine j_iconst (n' := 133) F dX8_layThen_132 rfl ?_
                refine j_iadd (n' := 134) F dX8_layThen_133 rfl ?_
                refine j_istore_1 (n' := 135) F (by decide) jc_r dX8_layThen_134 rfl ?_
                refine j_iinc_2 (n' := 138) F (by decide) jc_i dX8_layThen_135 rfl ?_
                refine j_goto (t := 12) F dX8_layThen_138 (by decide) ?_
                refine j_weak (by exact ⟨rfl, rfl, rfl, trivial⟩) (ih (k + 1) _ φ16 (by omega) (by omega) (fun b q1 q2 => ?_) (fun b q1 q2 => by rw [e16, zU_ne (by omega)]; exact h4 b q1 q2) ?_ ⟨g1.fr (by rw [e16, zU_ne (by omega)]) (fun b => by rw [e16, zU_ne (by omega)]), by rw [e16, zU_ne (by omega)]; exact g2, fun b hb => by rw [e16, zU_ne (by omega)]; exact g3 b hb, by rw [e16]; exact g4.put (by omega)⟩)
                · by_cases q : b = k
                  · rw [q, v110, hnp]
                  · rw [e16, zU_ne (by omega)]
                    exact h3 b q1 (by omega)
                · unfold othP
                  rw [← h5]
                  congr 1
                  first | (rw [if_neg (by omega)]; done) | (rw [if_pos (by omega)]; done) | (rw [if_pos (by omega)]; omega)
              · refine j_iconst (n' := 129) F dX8_layThen_128 rfl ?_
                refine j_goto (t := 133) F dX8_layThen_129 (by decide) ?_
                refine j_iadd (n' := 134) F dX8_layThen_133 rfl ?_
                refine j_istore_1 (n' := 135) F (by decide) jc_r dX8_layThen_134 rfl ?_
                refine j_iinc_2 (n' := 138) F (by decide) jc_i dX8_layThen_135 rfl ?_
                refine j_goto (t := 12) F dX8_layThen_138 (by decide) ?_
                refine j_weak (by exact ⟨rfl, rfl, rfl, trivial⟩) (ih (k + 1) _ φ16 (by omega) (by omega) (fun b q1 q2 => ?_) (fun b q1 q2 => by rw [e16, zU_ne (by omega)]; exact h4 b q1 q2) ?_ ⟨g1.fr (by rw [e16, zU_ne (by omega)]) (fun b => by rw [e16, zU_ne (by omega)]), by rw [e16, zU_ne (by omega)]; exact g2, fun b hb => by rw [e16, zU_ne (by omega)]; exact g3 b hb, by rw [e16]; exact g4.put (by omega)⟩)
                · by_cases q : b = k
                  · rw [q, v110, hnp]
                  · rw [e16, zU_ne (by omega)]
                    exact h3 b q1 (by omega)
                · unfold othP
                  rw [← h5]
                  congr 1
                  first | (rw [if_neg (by omega)]; done) | (rw [if_pos (by omega)]; done) | (rw [if_pos (by omega)]; omega)
        · refine j_aload_0 (n' := 24) F dX8_layThen_23 rfl ?_
          refine j_iconst (n' := 25) F dX8_layThen_24 rfl ?_
          refine j_iconst (n' := 26) F dX8_layThen_25 rfl ?_
          refine j_cV2i (n' := 29) F kl_X8_163 (c_Mod_sum (by omega)) kap_99 rfl (by decide) (Nat.le_of_ble_eq_true rfl) dX8_layThen_26 rfl (fun z18 φ18 h18 => ?_)
          obtain ⟨rfl, rfl⟩ := h18
          refine j_iconst (n' := 30) F dX8_layThen_29 rfl ?_
          refine j_iadd (n' := 31) F dX8_layThen_30 rfl ?_
          refine j_goto (t := 88) F dX8_layThen_31 (by decide) ?_
          refine j_top (w := iv (allOf (toks (φ 102) (φ 101) 0 (φ 99 2)) k)) (congrArg iv (by unfold allOf; first | (rw [if_pos (by omega)]; omega) | (rw [if_neg (by omega), if_pos (by omega)]; omega) | (rw [if_neg (by omega), if_neg (by omega), if_pos (by omega)]; omega) | (rw [if_neg (by omega), if_neg (by omega), if_neg (by omega)]; omega))) ?_
          refine j_istore_3 (n' := 89) F (by decide) jc_i dX8_layThen_88 rfl ?_
          refine j_aload_0 (n' := 90) F dX8_layThen_89 rfl ?_
          refine j_getR (n' := 93) F fl_X8_40 kap_99 rfl dX8_layThen_90 rfl ?_
          refine j_iload_2 (n' := 94) F dX8_layThen_93 rfl ?_
          refine j_iconst (n' := 95) F dX8_layThen_94 rfl ?_
          refine j_iconst (n' := 96) F dX8_layThen_95 rfl ?_
          refine j_iload_3 (n' := 97) F dX8_layThen_96 rfl ?_
          refine j_iconst (n' := 98) F dX8_layThen_97 rfl ?_
          refine j_aload_0 (n' := 99) F dX8_layThen_98 rfl ?_
          refine j_getR (n' := 102) F fl_X8_37 kap_99 rfl dX8_layThen_99 rfl ?_
          refine j_iload_2 (n' := 103) F dX8_layThen_102 rfl ?_
          refine j_iald (n' := 104) F kap_109 (by decide) (by omega) dX8_layThen_103 rfl ?_
          rw [u1]
          refine j_iadd (n' := 105) F dX8_layThen_104 rfl ?_
          refine j_idiv (n' := 106) F (by omega) (by omega) dX8_layThen_105 rfl ?_
          refine j_cS1i (n' := 109) F kl_X8_166 (c_Mod_log (by omega)) (by decide) (Nat.le_of_ble_eq_true rfl) dX8_layThen_106 rfl (fun z19 φ19 h19 => ?_)
          obtain ⟨rfl, rfl⟩ := h19
          refine j_imul (n' := 110) F dX8_layThen_109 rfl ?_
          refine j_iadd (n' := 111) F dX8_layThen_110 rfl ?_
          refine j_iast (n' := 112) F kap_110 (by decide) (by omega) dX8_layThen_111 rfl (fun φ20 e20 => ?_)
          have v110 : φ20 110 k = rpr (allOf (toks (φ 102) (φ 101) 0 (φ 99 2)) k) (tak (toks (φ 102) (φ 101) 0 (φ 99 2)) k) := by rw [e20, zU_self]; rfl
          have w102 : φ20 102 k = φ 102 k := by rw [e20, zU_ne (by omega)]; exact v102
          refine j_iload_1 (n' := 113) F dX8_layThen_112 rfl ?_
          refine j_aload_0 (n' := 114) F dX8_layThen_113 rfl ?_
          refine j_getR (n' := 117) F fl_X8_40 kap_99 rfl dX8_layThen_114 rfl ?_
          refine j_iload_2 (n' := 118) F dX8_layThen_117 rfl ?_
          refine j_iald (n' := 119) F kap_110 (by decide) (by omega) dX8_layThen_118 rfl ?_
          refine j_aload_0 (n' := 120) F dX8_layThen_119 rfl ?_
          refine j_getR (n' := 123) F fl_X8_16 kap_99 rfl dX8_layThen_120 rfl ?_
          refine j_iload_2 (n' := 124) F dX8_layThen_123 rfl ?_
          refine j_iald (n' := 125) F kap_102 (by decide) (by omega) dX8_layThen_124 rfl ?_
          refine j_icmp_ne (t := 132) (n' := 128) F (by omega) (by omega) dX8_layThen_125 (by decide) rfl (fun c125_20 => ?_) (fun c125_20 => ?_)
          · refine j_iconst (n' := 133) F dX8_layThen_132 rfl ?_
            refine j_iadd (n' := 134) F dX8_layThen_133 rfl ?_
            refine j_istore_1 (n' := 135) F (by decide) jc_r dX8_layThen_134 rfl ?_
            refine j_iinc_2 (n' := 138) F (by decide) jc_i dX8_layThen_135 rfl ?_
            refine j_goto (t := 12) F dX8_layThen_138 (by decide) ?_
            refine j_weak (by exact ⟨rfl, rfl, rfl, trivial⟩) (ih (k + 1) _ φ20 (by omega) (by omega) (fun b q1 q2 => ?_) (fun b q1 q2 => by rw [e20, zU_ne (by omega)]; exact h4 b q1 q2) ?_ ⟨g1.fr (by rw [e20, zU_ne (by omega)]) (fun b => by rw [e20, zU_ne (by omega)]), by rw [e20, zU_ne (by omega)]; exact g2, fun b hb => by rw [e20, zU_ne (by omega)]; exact g3 b hb, by rw [e20]; exact g4.put (by omega)⟩)
            · by_cases q : b = k
              · rw [q, v110, hnp]
              · rw [e20, zU_ne (by omega)]
                exact h3 b q1 (by omega)
            · unfold othP
              rw [← h5]
              congr 1
              first | (rw [if_neg (by omega)]; done) | (rw [if_pos (by omega)]; done) | (rw [if_pos (by omega)]; omega)
          · refine j_iconst (n' := 129) F dX8_layThen_128 rfl ?_
            refine j_goto (t := 133) F dX8_layThen_129 (by decide) ?_
            refine j_iadd (n' := 134) F dX8_layThen_133 rfl ?_
            refine j_istore_1 (n' := 135) F (by decide) jc_r dX8_layThen_134 rfl ?_
            refine j_iinc_2 (n' := 138) F (by decide) jc_i dX8_layThen_135 rfl ?_
            refine j_goto (t := 12) F dX8_layThen_138 (by decide) ?_
            refine j_weak (by exact ⟨rfl, rfl, rfl, trivial⟩) (ih (k + 1) _ φ20 (by omega) (by omega) (fun b q1 q2 => ?_) (fun b q1 q2 => by rw [e20, zU_ne (by omega)]; exact h4 b q1 q2) ?_ ⟨g1.fr (by rw [e20, zU_ne (by omega)]) (fun b => by rw [e20, zU_ne (by omega)]), by rw [e20, zU_ne (by omega)]; exact g2, fun b hb => by rw [e20, zU_ne (by omega)]; exact g3 b hb, by rw [e20]; exact g4.put (by omega)⟩)
            · by_cases q : b = k
              · rw [q, v110, hnp]
              · rw [e20, zU_ne (by omega)]
                exact h3 b q1 (by omega)
            · unfold othP
              rw [← h5]
              congr 1
              first | (rw [if_neg (by omega)]; done) | (rw [if_pos (by omega)]; done) | (rw [if_pos (by omega)]; omega)
  refine j_aload_0 (n' := 1) F dX8_layThen_0 rfl ?_
  refine j_cV0v (n' := 4) F kl_X8_142 (c_Mod_layTokens hc hn) kap_99 rfl (by decide) (Nat.le_of_ble_eq_true rfl) dX8_layThen_1 rfl (fun z1 φ1 h1 => ?_)
  obtain ⟨hm, hpr, hz, hf⟩ := h1
  refine j_aload_0 (n' := 5) F dX8_layThen_4 rfl ?_
  refine j_cV0v (n' := 8) F kl_X8_160 (c_Mod_layTaken hm tkk.2 tkk.1) kap_99 rfl (by decide) (Nat.le_of_ble_eq_true rfl) dX8_layThen_5 rfl (fun z2 φ2 h2 => ?_)
  obtain ⟨d1, d2⟩ := h2
  refine j_iconst (n' := 9) F dX8_layThen_8 rfl ?_
  refine j_istore_1 (n' := 10) F (by decide) jc_r dX8_layThen_9 rfl ?_
  refine j_iconst (n' := 11) F dX8_layThen_10 rfl ?_
  refine j_istore_2 (n' := 12) F (by decide) jc_i dX8_layThen_11 rfl ?_
  exact loop 18 0 0 φ2 (by omega) (by omega) (fun b q1 q2 => by omega) d1 rfl ⟨hm.fr (d2 99 18 (by omega)) (fun b => d2 108 b (by omega)), (d2 104 0 (by omega)).trans hpr, fun b hb => (d2 99 b (by omega)).trans (hz b hb), (hf.wk (fun a h => by omega)).tr (d2.wk (fun a h => by omega))⟩
set_option maxRecDepth 20000 in
theorem c_Mod_become {l : Launch} {G : jG} {B0 : Nat} {φ : jPhi}   : jC l G B0 κF 113 yX8_become cX8_become 2 none 0 [rf B0 99] φ mkV (fun z φ' => (∀ b, φ' 102 b = if 0 ≤ b ∧ b < 18 then φ 110 b else φ 102 b) ∧ frC (fun a => a = 102) φ φ') := by
  refine jC_start RX8 [some (rf B0 99), none] (by decide) rfl (Nat.le_of_ble_eq_true rfl) rfl (fun X Q F E => ?_)
  have loop : ∀ (m : Nat) (i : Int) (ψ : jPhi), i + m = 18 → 0 ≤ i → (∀ b, ψ 102 b = if 0 ≤ b ∧ b < i then φ 110 b else φ 102 b) → frC (fun a => a = 102) φ ψ → jJ X G B0 κF 113 0 0 Q 2 ψ 2 [some (rf B0 99), some (iv i)] [] := by
    intro m
    induction m with
    | zero =>
      intro i ψ h1 h2 h3 h4
      refine j_iload_1 (n' := 3) F dX8_become_2 rfl ?_
      refine j_bipush (n' := 5) F dX8_become_3 (by decide) rfl ?_
      refine j_icmp_ge (t := 26) (n' := 8) F (by omega) (by omega) dX8_become_5 (by decide) rfl (fun c5_0 => ?_) (fun c5_0 => ?_)
      · exact j_return F E dX8_become_26 (⟨fun b => by rw [h3, show i = 18 by omega], h4⟩)
      · omega
    | succ m ih =>
      intro i ψ h1 h2 h3 h4
      refine j_iload_1 (n' := 3) F dX8_become_2 rfl ?_
      refine j_bipush (n' := 5) F dX8_become_3 (by decide) rfl ?_
      refine j_icmp_ge (t := 26) (n' := 8) F (by omega) (by omega) dX8_become_5 (by decide) rfl (fun c5_0 => ?_) (fun c5_0 => ?_)
      · omega
      · refine j_aload_0 (n' := 9) F dX8_become_8 rfl ?_
        refine j_getR (n' := 12) F fl_X8_16 kap_99 rfl dX8_become_9 rfl ?_
        refine j_iload_1 (n' := 13) F dX8_become_12 rfl ?_
        refine j_aload_0 (n' := 14) F dX8_become_13 rfl ?_
        refine j_getR (n' := 17) F fl_X8_40 kap_99 rfl dX8_become_14 rfl ?_
        refine j_iload_1 (n' := 18) F dX8_become_17 rfl ?_
        refine j_iald (n' := 19) F kap_110 (by decide) (by omega) dX8_become_18 rfl ?_
        refine j_iast (n' := 20) F kap_102 (by decide) (by omega) dX8_become_19 rfl (fun φ2 e2 => ?_)
        refine j_iinc_1 (n' := 23) F (by decide) jc_r dX8_become_20 rfl ?_
        refine j_goto (t := 2) F dX8_become_23 (by decide) ?_
        refine ih (i + 1) φ2 (by omega) (by omega) (fun b => ?_) (by rw [e2]; exact h4.put rfl)
        by_cases q : b = i
        · subst q
          rw [e2, zU_self, if_pos (by omega)]
          exact h4 110 b (by omega)
        · rw [e2, zU_ne (by omega), h3]
          by_cases q2 : 0 ≤ b ∧ b < i
          · rw [if_pos q2, if_pos (by omega)]
          · rw [if_neg q2, if_neg (by omega)]
  refine j_iconst (n' := 1) F dX8_become_0 rfl ?_
  refine j_istore_1 (n' := 2) F (by decide) jc_r dX8_become_1 rfl ?_
  exact loop 18 0 φ (by omega) (by omega) (fun b => by rw [if_neg (by omega)]) frC.rf
set_option maxRecDepth 20000 in
theorem c_Mod_roundNow {l : Launch} {G : jG} {B0 : Nat} {φ : jPhi}  (hc : miOk φ) (hn : 0 < φ 99 2) : jC l G B0 κF 113 yX8_roundNow cX8_roundNow 2 (some .int) 6 [rf B0 99] φ mkI (fun z φ' => (z, pubM φ') = spRound (pubM φ) ∧ miOk φ' ∧ frC (fun a => 99 ≤ a) φ φ') := by
  refine jC_start RX8 [some (rf B0 99), none] (by decide) rfl (Nat.le_of_ble_eq_true rfl) rfl (fun X Q F E => ?_)
  have hc0 := hc
  obtain ⟨c1, c2, c3, c5, c6⟩ := hc0
  refine j_aload_0 (n' := 1) F dX8_roundNow_0 rfl ?_
  refine j_cV0i (n' := 4) F kl_X8_169 (c_Mod_layThen hc hn) kap_99 rfl (by decide) (Nat.le_of_ble_eq_true rfl) dX8_roundNow_1 rfl (fun z1 φ1 h1 => ?_)
  obtain ⟨n1, rfl, hm, hpr, hz, hf⟩ := h1
  refine j_istore_1 (n' := 5) F (by decide) jc_r dX8_roundNow_4 rfl ?_
  refine j_aload_0 (n' := 6) F dX8_roundNow_5 rfl ?_
  refine j_cV0v (n' := 9) F kl_X8_172 (c_Mod_become) kap_99 rfl (by decide) (Nat.le_of_ble_eq_true rfl) dX8_roundNow_6 rfl (fun z2 φ2 h2 => ?_)
  obtain ⟨b1, b2⟩ := h2
  have w102 : φ2 102 = newP (toks (φ 102) (φ 101) 0 (φ 99 2)) (φ 102) := funext fun b => by
    rw [b1 b]
    by_cases q : 0 ≤ b ∧ b < 18
    · rw [if_pos q, n1 b q.1 q.2]
    · rw [if_neg q, newP, if_neg q]
      exact hf 102 b (by omega)
  refine j_aload_0 (n' := 10) F dX8_roundNow_9 rfl ?_
  refine j_dup (n' := 11) F rfl dX8_roundNow_10 rfl ?_
  refine j_getI (n' := 14) F 5 rfl fl_X8_175 kap_99 rfl dX8_roundNow_11 rfl ?_
  refine j_iconst (n' := 15) F dX8_roundNow_14 rfl ?_
  refine j_iadd (n' := 16) F dX8_roundNow_15 rfl ?_
  refine j_putI (n' := 19) F 5 rfl fp_X8_175 kap_99 rfl rfl dX8_roundNow_16 rfl (fun φ3 e3 => ?_)
  refine j_iload_1 (n' := 20) F dX8_roundNow_19 rfl ?_
  refine j_ireturn F E dX8_roundNow_20 ?_
  have ra : ∀ a, a ≠ 99 → φ3 a = φ2 a := fun a q => by rw [e3, zU_off q]
  have r5 : φ3 99 5 = φ 99 5 + 1 := by rw [e3, zU_self, b2 99 5 (by omega), hz 5 (by omega)]
  have rb : ∀ b, b ≠ 5 → b ≠ 18 → φ3 99 b = φ 99 b := fun b k1 k2 => by
    rw [e3, zU_ne (by omega), b2 99 b (by omega)]
    exact hz b k2
  have x102 : φ3 102 = newP (toks (φ 102) (φ 101) 0 (φ 99 2)) (φ 102) := by rw [ra 102 (by omega)]; exact w102
  have rc : ∀ a, a = 100 ∨ a = 101 → φ3 a = φ a := fun a k0 => by
    rw [ra a (by omega)]
    funext b
    rw [b2 a b (by omega)]
    exact hf a b (by omega)
  refine ⟨?_, ⟨by rw [rb 0 (by omega) (by omega)]; exact c1, by rw [rb 0 (by omega) (by omega), rc 100 (by omega)]; exact c2, by rw [rb 2 (by omega) (by omega)]; exact c3, by rw [rc 101 (by omega), rb 2 (by omega) (by omega)]; exact c5, by rw [x102]; exact newP_ok⟩, ?_⟩
  · unfold spRound pubM
    dsimp only
    rw [if_neg (by omega), x102, rc 100 (by omega), rc 101 (by omega), rb 0 (by omega) (by omega), rb 2 (by omega) (by omega), r5, rb 6 (by omega) (by omega), rb 7 (by omega) (by omega)]
  · rw [e3]
    exact ((hf.wk (fun a h => by omega)).tr (b2.wk (fun a h => by omega))).put (by omega)
set_option maxRecDepth 20000 in
theorem c_Mod_round {l : Launch} {G : jG} {B0 : Nat} {φ : jPhi}  (hc : miOk φ) : jC l G B0 κF 113 yX8_round cX8_round 1 (some .int) 7 [rf B0 99] φ mkI (fun z φ' => (z, pubM φ') = spRound (pubM φ) ∧ miOk φ' ∧ frC (fun a => 99 ≤ a) φ φ') := by
  refine jC_start RX8 [some (rf B0 99)] (by decide) rfl (Nat.le_of_ble_eq_true rfl) rfl (fun X Q F E => ?_)
  have hc0 := hc
  obtain ⟨c1, c2, c3, c5, c6⟩ := hc0
  refine j_aload_0 (n' := 1) F dX8_round_0 rfl ?_
  refine j_getI (n' := 4) F 2 rfl fl_X8_92 kap_99 rfl dX8_round_1 rfl ?_
  refine j_if_ne (t := 13) (n' := 7) F (by omega) dX8_round_4 (by decide) rfl (fun c4_0 => ?_) (fun c4_0 => ?_)
  · refine j_aload_0 (n' := 14) F dX8_round_13 rfl ?_
    refine j_cV0i (n' := 17) F kl_X8_178 (c_Mod_roundNow hc (by omega)) kap_99 rfl (by decide) (Nat.le_of_ble_eq_true rfl) dX8_round_14 rfl (fun z2 φ2 h2 => ?_)
    skip
    exact j_ireturn F E dX8_round_17 (h2)
  · refine j_sipush (n' := 10) F dX8_round_7 (by decide) rfl ?_
    refine j_goto (t := 17) F dX8_round_10 (by decide) ?_
    exact j_ireturn F E dX8_round_17 (⟨by unfold spRound pubM; dsimp only; rw [if_pos (by omega)], hc, frC.rf⟩)
set_option maxRecDepth 20000 in
theorem c_Mod_layRest {l : Launch} {G : jG} {B0 : Nat} {φ : jPhi}  (hc : miOk φ) (hn : 0 < φ 99 2) : jC l G B0 κF 113 yX8_layRest cX8_layRest 4 none 6 [rf B0 99] φ mkV (fun z φ' => (φ' 112 0, φ' 112 1, φ' 112 2) = rstR (φ 102) (φ 101) (φ 99 2) ∧ φ' 102 = φ 102 ∧ (∀ b, b ≠ 18 → φ' 99 b = φ 99 b) ∧ frC (fun a => a = 99 ∨ a = 102 ∨ (104 ≤ a ∧ a ≤ 112)) φ φ') := by
  refine jC_start RX8 [some (rf B0 99), none, none, none] (by decide) rfl (Nat.le_of_ble_eq_true rfl) rfl (fun X Q F E => ?_)
  have hc0 := hc
  obtain ⟨c1, c2, c3, c5, c6⟩ := hc0
  have back : ∀ (m : Nat) (i : Int) (ψ : jPhi), i + m = 18 → 0 ≤ i → (∀ b, 0 ≤ b → b < i → ψ 102 b = φ 102 b) → (ψ 112 0, ψ 112 1, ψ 112 2) = rstR (φ 102) (φ 101) (φ 99 2) → (∀ b, 0 ≤ b → b < 18 → ψ 111 b = φ 102 b) → (∀ b, ¬ (0 ≤ b ∧ b < 18) → ψ 102 b = φ 102 b) → (∀ b, b ≠ 18 → ψ 99 b = φ 99 b) → frC (fun a => a = 99 ∨ a = 102 ∨ (104 ≤ a ∧ a ≤ 112)) φ ψ → jJ X G B0 κF 113 0 0 Q 4 ψ 97 [some (rf B0 99), none, none, some (iv i)] [] := by
    intro m
    induction m with
    | zero =>
      intro i ψ h1 h2 h3 h4 k1 k2 k3 k4
      refine j_iload_3 (n' := 98) F dX8_layRest_97 rfl ?_
      refine j_bipush (n' := 100) F dX8_layRest_98 (by decide) rfl ?_
      refine j_icmp_ge (t := 121) (n' := 103) F (by omega) (by omega) dX8_layRest_100 (by decide) rfl (fun c100_0 => ?_) (fun c100_0 => ?_)
      · refine j_return F E dX8_layRest_121 ?_
        refine ⟨h4, funext fun b => ?_, k3, k4⟩
        by_cases q : 0 ≤ b ∧ b < 18
        · exact h3 b q.1 (by omega)
        · exact k2 b q
      · omega
    | succ m ih =>
      intro i ψ h1 h2 h3 h4 k1 k2 k3 k4
      refine j_iload_3 (n' := 98) F dX8_layRest_97 rfl ?_
      refine j_bipush (n' := 100) F dX8_layRest_98 (by decide) rfl ?_
      refine j_icmp_ge (t := 121) (n' := 103) F (by omega) (by omega) dX8_layRest_100 (by decide) rfl (fun c100_0 => ?_) (fun c100_0 => ?_)
      · omega
      · refine j_aload_0 (n' := 104) F dX8_layRest_103 rfl ?_
        refine j_getR (n' := 107) F fl_X8_16 kap_99 rfl dX8_layRest_104 rfl ?_
        refine j_iload_3 (n' := 108) F dX8_layRest_107 rfl ?_
        refine j_aload_0 (n' := 109) F dX8_layRest_108 rfl ?_
        refine j_getR (n' := 112) F fl_X8_43 kap_99 rfl dX8_layRest_109 rfl ?_
        refine j_iload_3 (n' := 113) F dX8_layRest_112 rfl ?_
        refine j_iald (n' := 114) F kap_111 (by decide) (by omega) dX8_layRest_113 rfl ?_
        refine j_iast (n' := 115) F kap_102 (by decide) (by omega) dX8_layRest_114 rfl (fun φ2 e2 => ?_)
        refine j_iinc_3 (n' := 118) F (by decide) jc_n dX8_layRest_115 rfl ?_
        refine j_goto (t := 97) F dX8_layRest_118 (by decide) ?_
        refine ih (i + 1) φ2 (by omega) (by omega) (fun b q1 q2 => ?_) (by rw [e2, zU_ne (by omega), zU_ne (by omega), zU_ne (by omega)]; exact h4) (fun b q1 q2 => by rw [e2, zU_ne (by omega)]; exact k1 b q1 q2) (fun b q => by rw [e2, zU_ne (by omega)]; exact k2 b q) (fun b q => by rw [e2, zU_ne (by omega)]; exact k3 b q) (by rw [e2]; exact k4.put (by omega))
        by_cases q : b = i
        · rw [e2, q, zU_self]
          exact k1 i (by omega) (by omega)
        · rw [e2, zU_ne (by omega)]
          exact h3 b q1 (by omega)
  have fin : ∀ (r z : Int) (ψ : jPhi), 0 ≤ z → z ≤ 18 → ((if 0 < z then -1 else r), ψ 104 0, ψ 99 18) = rstR (φ 102) (φ 101) (φ 99 2) → (∀ b, 0 ≤ b → b < 18 → ψ 111 b = φ 102 b) → (∀ b, ¬ (0 ≤ b ∧ b < 18) → ψ 102 b = φ 102 b) → (∀ b, b ≠ 18 → ψ 99 b = φ 99 b) → frC (fun a => a = 99 ∨ a = 102 ∨ (104 ≤ a ∧ a ≤ 112)) φ ψ → jJ X G B0 κF 113 0 0 Q 4 ψ 58 [some (rf B0 99), some (iv r), some (iv z), none] [] := by
    intro r z ψ h1 h2 h4 k1 k2 k3 k4
    refine j_aload_0 (n' := 59) F dX8_layRest_58 rfl ?_
    refine j_getR (n' := 62) F fl_X8_46 kap_99 rfl dX8_layRest_59 rfl ?_
    refine j_iconst (n' := 63) F dX8_layRest_62 rfl ?_
    refine j_iload_2 (n' := 64) F dX8_layRest_63 rfl ?_
    refine j_if_le (t := 71) (n' := 67) F (by omega) dX8_layRest_64 (by decide) rfl (fun c64_0 => ?_) (fun c64_0 => ?_)
    · refine j_iload_1 (n' := 72) F dX8_layRest_71 rfl ?_
      refine j_iast (n' := 73) F kap_112 (by decide) (by omega) dX8_layRest_72 rfl (fun φ2 e2 => ?_)
      have x104 : φ2 104 0 = ψ 104 0 := by rw [e2, zU_ne (by omega)]
      refine j_aload_0 (n' := 74) F dX8_layRest_73 rfl ?_
      refine j_getR (n' := 77) F fl_X8_46 kap_99 rfl dX8_layRest_74 rfl ?_
      refine j_iconst (n' := 78) F dX8_layRest_77 rfl ?_
      refine j_aload_0 (n' := 79) F dX8_layRest_78 rfl ?_
      refine j_getR (n' := 82) F fl_X8_22 kap_99 rfl dX8_layRest_79 rfl ?_
      refine j_iconst (n' := 83) F dX8_layRest_82 rfl ?_
      refine j_iald (n' := 84) F kap_104 (by decide) (by omega) dX8_layRest_83 rfl ?_
      refine j_iast (n' := 85) F kap_112 (by decide) (by omega) dX8_layRest_84 rfl (fun φ3 e3 => ?_)
      have x18 : φ3 99 18 = ψ 99 18 := by rw [e3, zU_ne (by omega), e2, zU_ne (by omega)]
      refine j_aload_0 (n' := 86) F dX8_layRest_85 rfl ?_
      refine j_getR (n' := 89) F fl_X8_46 kap_99 rfl dX8_layRest_86 rfl ?_
      refine j_iconst (n' := 90) F dX8_layRest_89 rfl ?_
      refine j_aload_0 (n' := 91) F dX8_layRest_90 rfl ?_
      refine j_getI (n' := 94) F 18 rfl fl_X8_133 kap_99 rfl dX8_layRest_91 rfl ?_
      refine j_iast (n' := 95) F kap_112 (by decide) (by omega) dX8_layRest_94 rfl (fun φ4 e4 => ?_)
      refine j_iconst (n' := 96) F dX8_layRest_95 rfl ?_
      refine j_istore_3 (n' := 97) F (by decide) jc_i dX8_layRest_96 rfl ?_
      refine j_weak (by exact ⟨rfl, rfl, trivial⟩) (back 18 0 φ4 (by omega) (by omega) (fun b q1 q2 => by omega) ?_ (fun b q1 q2 => by rw [e4, e3, e2, zU_ne (by omega), zU_ne (by omega), zU_ne (by omega)]; exact k1 b q1 q2) (fun b q => by rw [e4, e3, e2, zU_ne (by omega), zU_ne (by omega), zU_ne (by omega)]; exact k2 b q) (fun b q => by rw [e4, e3, e2, zU_ne (by omega), zU_ne (by omega), zU_ne (by omega)]; exact k3 b q) (by rw [e4, e3, e2]; exact ((k4.put (by omega)).put (by omega)).put (by omega)))
      rw [← h4, e4, zU_self, zU_ne (by omega), zU_ne (by omega), e3, zU_self, zU_ne (by omega), e2, zU_self]
      first | (rw [if_pos (by omega)]; simp [zU]; done) | (rw [if_neg (by omega)]; simp [zU]; done)
    · refine j_iconst (n' := 68) F dX8_layRest_67 rfl ?_
      refine j_goto (t := 72) F dX8_layRest_68 (by decide) ?_
      refine j_iast (n' := 73) F kap_112 (by decide) (by omega) dX8_layRest_72 rfl (fun φ5 e5 => ?_)
      have x104 : φ5 104 0 = ψ 104 0 := by rw [e5, zU_ne (by omega)]
      refine j_aload_0 (n' := 74) F dX8_layRest_73 rfl ?_
      refine j_getR (n' := 77) F fl_X8_46 kap_99 rfl dX8_layRest_74 rfl ?_
      refine j_iconst (n' := 78) F dX8_layRest_77 rfl ?_
      refine j_aload_0 (n' := 79) F dX8_layRest_78 rfl ?_
      refine j_getR (n' := 82) F fl_X8_22 kap_99 rfl dX8_layRest_79 rfl ?_
      refine j_iconst (n' := 83) F dX8_layRest_82 rfl ?_
      refine j_iald (n' := 84) F kap_104 (by decide) (by omega) dX8_layRest_83 rfl ?_
      refine j_iast (n' := 85) F kap_112 (by decide) (by omega) dX8_layRest_84 rfl (fun φ6 e6 => ?_)
      have x18 : φ6 99 18 = ψ 99 18 := by rw [e6, zU_ne (by omega), e5, zU_ne (by omega)]
      refine j_aload_0 (n' := 86) F dX8_layRest_85 rfl ?_
      refine j_getR (n' := 89) F fl_X8_46 kap_99 rfl dX8_layRest_86 rfl ?_
      refine j_iconst (n' := 90) F dX8_layRest_89 rfl ?_
      refine j_aload_0 (n' := 91) F dX8_layRest_90 rfl ?_
      refine j_getI (n' := 94) F 18 rfl fl_X8_133 kap_99 rfl dX8_layRest_91 rfl ?_
      refine j_iast (n' := 95) F kap_112 (by decide) (by omega) dX8_layRest_94 rfl (fun φ7 e7 => ?_)
      refine j_iconst (n' := 96) F dX8_layRest_95 rfl ?_
      refine j_istore_3 (n' := 97) F (by decide) jc_i dX8_layRest_96 rfl ?_
      refine j_weak (by exact ⟨rfl, rfl, trivial⟩) (back 18 0 φ7 (by omega) (by omega) (fun b q1 q2 => by omega) ?_ (fun b q1 q2 => by rw [e7, e6, e5, zU_ne (by omega), zU_ne (by omega), zU_ne (by omega)]; exact k1 b q1 q2) (fun b q => by rw [e7, e6, e5, zU_ne (by omega), zU_ne (by omega), zU_ne (by omega)]; exact k2 b q) (fun b q => by rw [e7, e6, e5, zU_ne (by omega), zU_ne (by omega), zU_ne (by omega)]; exact k3 b q) (by rw [e7, e6, e5]; exact ((k4.put (by omega)).put (by omega)).put (by omega)))
      rw [← h4, e7, zU_self, zU_ne (by omega), zU_ne (by omega), e6, zU_self, zU_ne (by omega), e5, zU_self]
      first | (rw [if_pos (by omega)]; simp [zU]; done) | (rw [if_neg (by omega)]; simp [zU]; done)
  have main : ∀ (k : Nat) (r z : Int) (ψ : jPhi), r + k = 12 → 0 ≤ r → rsF (φ 101) (φ 99 2) k r (ψ 102) = rstR (φ 102) (φ 101) (φ 99 2) → prOk (ψ 102) → (∀ b, 0 ≤ b → b < 18 → ψ 110 b = newP (toks (ψ 102) (φ 101) 0 (φ 99 2)) (ψ 102) b) → z = othP (ψ 102) (newP (toks (ψ 102) (φ 101) 0 (φ 99 2)) (ψ 102)) 0 18 0 → ψ 104 0 = rwSum (tkPrice (ψ 102)) (toks (ψ 102) (φ 101) 0 (φ 99 2)) → ψ 99 18 = ((toks (ψ 102) (φ 101) 0 (φ 99 2)).length : Int) → (∀ b, 0 ≤ b → b < 18 → ψ 111 b = φ 102 b) → (∀ b, ¬ (0 ≤ b ∧ b < 18) → ψ 102 b = φ 102 b) → (∀ b, b ≠ 18 → ψ 99 b = φ 99 b) → frC (fun a => a = 99 ∨ a = 102 ∨ (104 ≤ a ∧ a ≤ 112)) φ ψ → jJ X G B0 κF 113 0 0 Q 4 ψ 33 [some (rf B0 99), some (iv r), some (iv z), none] [] := by
    intro k
    induction k with
    | zero =>
      intro r z ψ h1 h2 h3 h4 h5 h6 h7 h8 k1 k2 k3 k4
      have oth := othP_add (P := ψ 102) (P' := newP (toks (ψ 102) (φ 101) 0 (φ 99 2)) (ψ 102)) (lo := 0) (hi := 18) (a := 0) (by omega)
      rw [rsF, ← h6, ← h7, ← h8] at h3
      refine j_iload_2 (n' := 34) F dX8_layRest_33 rfl ?_
      refine j_if_le (t := 58) (n' := 37) F (by omega) dX8_layRest_34 (by decide) rfl (fun c34_0 => ?_) (fun c34_0 => ?_)
      · refine fin r z ψ (by omega) (by omega) ?_ k1 k2 k3 k4
        rw [← h3]
        first | (rw [if_pos (c := z = 0) (by omega), if_neg (by omega)]; done) | (rw [if_neg (c := z = 0) (by omega), if_pos (by omega)]; done)
      · refine j_iload_1 (n' := 38) F dX8_layRest_37 rfl ?_
        refine j_bipush (n' := 40) F dX8_layRest_38 (by decide) rfl ?_
        refine j_icmp_ge (t := 58) (n' := 43) F (by omega) (by omega) dX8_layRest_40 (by decide) rfl (fun c40_1 => ?_) (fun c40_1 => ?_)
        · refine fin r z ψ (by omega) (by omega) ?_ k1 k2 k3 k4
          rw [← h3]
          first | (rw [if_pos (c := z = 0) (by omega), if_neg (by omega)]; done) | (rw [if_neg (c := z = 0) (by omega), if_pos (by omega)]; done)
        · omega
    | succ k ih =>
      intro r z ψ h1 h2 h3 h4 h5 h6 h7 h8 k1 k2 k3 k4
      have oth := othP_add (P := ψ 102) (P' := newP (toks (ψ 102) (φ 101) 0 (φ 99 2)) (ψ 102)) (lo := 0) (hi := 18) (a := 0) (by omega)
      rw [rsF, ← h6, ← h7, ← h8] at h3
      refine j_iload_2 (n' := 34) F dX8_layRest_33 rfl ?_
      refine j_if_le (t := 58) (n' := 37) F (by omega) dX8_layRest_34 (by decide) rfl (fun c34_0 => ?_) (fun c34_0 => ?_)
      · refine fin r z ψ (by omega) (by omega) ?_ k1 k2 k3 k4
        rw [← h3, if_pos (c := z = 0) (by omega), if_neg (by omega)]
      · refine j_iload_1 (n' := 38) F dX8_layRest_37 rfl ?_
        refine j_bipush (n' := 40) F dX8_layRest_38 (by decide) rfl ?_
        refine j_icmp_ge (t := 58) (n' := 43) F (by omega) (by omega) dX8_layRest_40 (by decide) rfl (fun c40_1 => ?_) (fun c40_1 => ?_)
        · omega
        · refine j_aload_0 (n' := 44) F dX8_layRest_43 rfl ?_
          refine j_cV0v (n' := 47) F kl_X8_172 (c_Mod_become) kap_99 rfl (by decide) (Nat.le_of_ble_eq_true rfl) dX8_layRest_44 rfl (fun z3 φ3 h3 => ?_)
          obtain ⟨b1, b2⟩ := h3
          have w102 : φ3 102 = newP (toks (ψ 102) (φ 101) 0 (φ 99 2)) (ψ 102) := funext fun b => by
            rw [b1 b]
            by_cases q : 0 ≤ b ∧ b < 18
            · rw [if_pos q, h5 b q.1 q.2]
            · rw [if_neg q, newP, if_neg q]
          have wpr : prOk (φ3 102) := by rw [w102]; exact newP_ok
          have wmi : miOk φ3 := by
            have w99 : ∀ b, b ≠ 18 → φ3 99 b = φ 99 b := fun b q => (b2 99 b (by omega)).trans (k3 b q)
            have wa : ∀ a, a = 100 ∨ a = 101 → φ3 a = φ a := fun a q => funext fun b => (b2 a b (by omega)).trans (k4 a b (by omega))
            exact ⟨by rw [w99 0 (by omega)]; exact c1, by rw [w99 0 (by omega), wa 100 (by omega)]; exact c2, by rw [w99 2 (by omega)]; exact c3, by rw [wa 101 (by omega), w99 2 (by omega)]; exact c5, wpr⟩
          have w101 : φ3 101 = φ 101 := funext fun b => (b2 101 b (by omega)).trans (k4 101 b (by omega))
          have w2 : φ3 99 2 = φ 99 2 := (b2 99 2 (by omega)).trans (k3 2 (by omega))
          refine j_iinc_1 (n' := 50) F (by decide) jc_r dX8_layRest_47 rfl ?_
          refine j_aload_0 (n' := 51) F dX8_layRest_50 rfl ?_
          refine j_cV0i (n' := 54) F kl_X8_169 (c_Mod_layThen wmi (by omega)) kap_99 rfl (by decide) (Nat.le_of_ble_eq_true rfl) dX8_layRest_51 rfl (fun z4 φ4 h4 => ?_)
          obtain ⟨n1, n2, n3, n4, n5, n6⟩ := h4
          rw [w101, w2] at n1 n2 n3 n4
          have x102 : φ4 102 = φ3 102 := funext fun b => n6 102 b (by omega)
          rw [← x102] at n1 n2 n3 n4
          refine j_istore_2 (n' := 55) F (by decide) jc_i dX8_layRest_54 rfl ?_
          refine j_goto (t := 33) F dX8_layRest_55 (by decide) ?_
          refine ih (r + 1) _ φ4 (by omega) (by omega) ?_ (by rw [x102]; exact wpr) n1 n2 n4 n3.1 (fun b q1 q2 => ?_) (fun b q => ?_) (fun b q => ?_) ?_
          · rw [if_neg (by omega)] at h3
            rw [x102, w102]
            exact h3
          · rw [n6 111 b (by omega), b2 111 b (by omega)]
            exact k1 b q1 q2
          · rw [x102, b1 b, if_neg q]
            exact k2 b q
          · rw [n5 b q, b2 99 b (by omega)]
            exact k3 b q
          · exact (k4.tr (b2.wk (fun a h => by omega))).tr (n6.wk (fun a h => by omega))
  have save : ∀ (m : Nat) (i : Int) (ψ : jPhi), i + m = 18 → 0 ≤ i → (∀ b, 0 ≤ b → b < i → ψ 111 b = φ 102 b) → frC (fun a => a = 111) φ ψ → jJ X G B0 κF 113 0 0 Q 4 ψ 2 [some (rf B0 99), some (iv i), none, none] [] := by
    intro m
    induction m with
    | zero =>
      intro i ψ h1 h2 h3 h4
      have q101 : ψ 101 = φ 101 := funext fun b => h4 101 b (by omega)
      have q102 : ψ 102 = φ 102 := funext fun b => h4 102 b (by omega)
      have q2 := h4 99 2 (by omega)
      have wmi : miOk ψ := hc.fr (h4 99 0 (by omega)) (h4 99 2 (by omega)) (fun a ha b => h4 a b (by omega))
      refine j_iload_1 (n' := 3) F dX8_layRest_2 rfl ?_
      refine j_bipush (n' := 5) F dX8_layRest_3 (by decide) rfl ?_
      refine j_icmp_ge (t := 26) (n' := 8) F (by omega) (by omega) dX8_layRest_5 (by decide) rfl (fun c5_0 => ?_) (fun c5_0 => ?_)
      · refine j_iconst (n' := 27) F dX8_layRest_26 rfl ?_
        refine j_istore_1 (n' := 28) F (by decide) jc_r dX8_layRest_27 rfl ?_
        refine j_aload_0 (n' := 29) F dX8_layRest_28 rfl ?_
        refine j_cV0i (n' := 32) F kl_X8_169 (c_Mod_layThen wmi (by omega)) kap_99 rfl (by decide) (Nat.le_of_ble_eq_true rfl) dX8_layRest_29 rfl (fun z2 φ2 h2 => ?_)
        obtain ⟨n1, n2, n3, n4, n5, n6⟩ := h2
        rw [q101, q2] at n1 n2 n3 n4
        have x102 : φ2 102 = ψ 102 := funext fun b => n6 102 b (by omega)
        rw [← x102] at n1 n2 n3 n4
        refine j_istore_2 (n' := 33) F (by decide) jc_i dX8_layRest_32 rfl ?_
        exact main 12 0 _ φ2 (by omega) (by omega) (by rw [x102, q102]; rfl) (by rw [x102, q102]; exact c6) n1 n2 n4 n3.1 (fun b q1 q2 => (n6 111 b (by omega)).trans (h3 b q1 (by omega))) (fun b q => by rw [x102, q102]) (fun b q => (n5 b q).trans (h4 99 b (by omega))) ((h4.wk (fun a h => by omega)).tr (n6.wk (fun a h => by omega)))
      · omega
    | succ m ih =>
      intro i ψ h1 h2 h3 h4
      refine j_iload_1 (n' := 3) F dX8_layRest_2 rfl ?_
      refine j_bipush (n' := 5) F dX8_layRest_3 (by decide) rfl ?_
      refine j_icmp_ge (t := 26) (n' := 8) F (by omega) (by omega) dX8_layRest_5 (by decide) rfl (fun c5_0 => ?_) (fun c5_0 => ?_)
      · omega
      · refine j_aload_0 (n' := 9) F dX8_layRest_8 rfl ?_
        refine j_getR (n' := 12) F fl_X8_43 kap_99 rfl dX8_layRest_9 rfl ?_
        refine j_iload_1 (n' := 13) F dX8_layRest_12 rfl ?_
        refine j_aload_0 (n' := 14) F dX8_layRest_13 rfl ?_
        refine j_getR (n' := 17) F fl_X8_16 kap_99 rfl dX8_layRest_14 rfl ?_
        refine j_iload_1 (n' := 18) F dX8_layRest_17 rfl ?_
        refine j_iald (n' := 19) F kap_102 (by decide) (by omega) dX8_layRest_18 rfl ?_
        refine j_iast (n' := 20) F kap_111 (by decide) (by omega) dX8_layRest_19 rfl (fun φ2 e2 => ?_)
        refine j_iinc_1 (n' := 23) F (by decide) jc_r dX8_layRest_20 rfl ?_
        refine j_goto (t := 2) F dX8_layRest_23 (by decide) ?_
        refine ih (i + 1) φ2 (by omega) (by omega) (fun b q1 q2 => ?_) (by rw [e2]; exact h4.put rfl)
        by_cases q : b = i
        · rw [e2, q, zU_self]
          exact h4 102 i (by omega)
        · rw [e2, zU_ne (by omega)]
          exact h3 b q1 (by omega)
  refine j_iconst (n' := 1) F dX8_layRest_0 rfl ?_
  refine j_istore_1 (n' := 2) F (by decide) jc_r dX8_layRest_1 rfl ?_
  exact save 18 0 φ (by omega) (by omega) (fun b q1 q2 => by omega) frC.rf
set_option maxRecDepth 20000 in
theorem c_Mod_rest {l : Launch} {G : jG} {B0 : Nat} {φ : jPhi} {x : Int} (hc : miOk φ) (hx : -2147483648 ≤ x ∧ x ≤ 2147483647) : jC l G B0 κF 113 yX8_rest cX8_rest 2 (some .int) 7 [rf B0 99, iv x] φ mkI (fun z φ' => (z, pubM φ') = spRest (pubM φ) x ∧ miOk φ' ∧ frC (fun a => 99 ≤ a) φ φ') := by
  refine jC_start RX8 [some (rf B0 99), some (iv x)] (by decide) rfl (Nat.le_of_ble_eq_true rfl) rfl (fun X Q F E => ?_)
  have hc0 := hc
  obtain ⟨c1, c2, c3, c5, c6⟩ := hc0
  refine j_aload_0 (n' := 1) F dX8_rest_0 rfl ?_
  refine j_getI (n' := 4) F 2 rfl fl_X8_92 kap_99 rfl dX8_rest_1 rfl ?_
  refine j_if_ne (t := 11) (n' := 7) F (by first | omega | (split <;> omega)) dX8_rest_4 (by decide) rfl (fun c4_0 => ?_) (fun c4_0 => ?_)
  · refine j_iload_1 (n' := 12) F dX8_rest_11 rfl ?_
    refine j_iconst (n' := 13) F dX8_rest_12 rfl ?_
    refine j_iconst (n' := 14) F dX8_rest_13 rfl ?_
    refine j_cS3i (n' := 17) F kl_X8_49 (c_Mod_within hx (by omega) (by omega)) (by decide) (Nat.le_of_ble_eq_true rfl) dX8_rest_14 rfl (fun z2 φ2 h2 => ?_)
    obtain ⟨rfl, rfl⟩ := h2
    refine j_if_ne (t := 24) (n' := 20) F (by first | omega | (split <;> omega)) dX8_rest_17 (by decide) rfl (fun c17_2 => ?_) (fun c17_2 => ?_)
    · refine j_aload_0 (n' := 25) F dX8_rest_24 rfl ?_
      refine j_cV0v (n' := 28) F kl_X8_181 (c_Mod_layRest hc (by omega)) kap_99 rfl (by decide) (Nat.le_of_ble_eq_true rfl) dX8_rest_25 rfl (fun z4 φ4 h4 => ?_)
      obtain ⟨hres, y102, hz, hf⟩ := h4
      have hmi : miOk φ4 := hc.fr (hz 0 (by omega)) (hz 2 (by omega)) (fun a ha b => by rcases ha with q | q | q; rw [q]; exact hf 100 b (by omega); rw [q]; exact hf 101 b (by omega); rw [q, y102])
      have hpub : pubM φ4 = pubM φ := pubM_fr (fun a ha b => by rcases ha with q | q | q; rw [q]; exact hf 100 b (by omega); rw [q]; exact hf 101 b (by omega); rw [q, y102]) (fun b hb => hz b (by omega))
      refine j_aload_0 (n' := 29) F dX8_rest_28 rfl ?_
      refine j_getR (n' := 32) F fl_X8_46 kap_99 rfl dX8_rest_29 rfl ?_
      refine j_iload_1 (n' := 33) F dX8_rest_32 rfl ?_
      refine j_iald (n' := 34) F kap_112 (by decide) (by first | omega | (split <;> omega)) dX8_rest_33 rfl ?_
      refine j_ireturn F E dX8_rest_34 ?_
      have hx2 : 0 ≤ x ∧ x ≤ 2 := by split at * <;> omega
      refine ⟨?_, hmi, hf.wk (fun a h => by omega)⟩
      rw [hpub]
      unfold spRest pubM
      dsimp only
      rw [if_neg (c := ¬ 0 < φ 99 2) (by omega), if_neg (c := ¬ (0 ≤ x ∧ x ≤ 2)) (by omega), rstV, ← hres]
      rcases (show x = 0 ∨ x = 1 ∨ x = 2 by omega) with q | q | q <;> rw [q] <;> rfl
    · refine j_sipush (n' := 23) F dX8_rest_20 (by decide) rfl ?_
      exact j_ireturn F E dX8_rest_23 (⟨by unfold spRest pubM; dsimp only; rw [if_neg (by omega), if_pos (by split at * <;> omega)], hc, frC.rf⟩)
  · refine j_sipush (n' := 10) F dX8_rest_7 (by decide) rfl ?_
    exact j_ireturn F E dX8_rest_10 (⟨by unfold spRest pubM; dsimp only; rw [if_pos (by omega)], hc, frC.rf⟩)
