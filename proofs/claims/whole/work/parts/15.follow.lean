theorem rpr_bd (a t : Int) : 0 ≤ rpr a t ∧ rpr a t ≤ 30 := by
  unfold rpr
  have := zlog_bd 7 (a / (1 + t))
  omega
theorem rwPC_bd {ts : List Int} : 0 ≤ rwP ts ∧ 0 ≤ rwC ts ∧ rwP ts + rwC ts ≤ ts.length := by
  induction ts with
  | nil => simp [rwP, rwC, rwSum]
  | cons x r ih =>
    have e1 : rwP (x :: r) = (if x < 100 then 1 else 0) + rwP r := rwSum_cons _ _ _
    have e2 : rwC (x :: r) = (if 1000 ≤ x then 1 else 0) + rwC r := rwSum_cons _ _ _
    have e3 : ((x :: r).length : Int) = r.length + 1 := by simp
    rw [e1, e2, e3]
    repeat (first | omega | split)
set_option maxRecDepth 20000 in
theorem c_Pri_follow {l : Launch} {G : jG} {B0 : Nat} {φ : jPhi} {o v w : Int} {o2 r2 : Int} {ts : List Int} (hk : κF o = some (.inl (3, [.inl v, .inl w]))) (hv : κF v = some (.inr (.inl 18))) (hw : κF w = some (.inr (.inl 18))) (hvw : v ≠ w) (hk2 : κF o2 = some (.inl (5, [.inl r2, .inr 0, .inr 0, .inr 0]))) (hr2 : κF r2 = some (.inr (.inl 24))) (ho : o2 ≠ w) (hr : r2 ≠ w) (hov : o2 ≠ v) (hrv : r2 ≠ v) (ht : rowIs φ o2 r2 ts) (hl : ts.length ≤ 24) (hok : rwOk ts) (hpv : ∀ b, 0 ≤ b → b < 18 → 0 ≤ φ v b ∧ φ v b ≤ 30) : jC l G B0 κF 113 yX3_follow cX3_follow 4 (some .int) 3 [rf B0 o, rf B0 o2] φ mkI (fun z φ' => (∀ b, φ' v b = newP ts (φ v) b) ∧ frC (fun a => a = v ∨ a = w) φ φ' ∧ z = othP (φ v) (newP ts (φ v)) 0 18 0) := by
  refine jC_start RX3 [some (rf B0 o), some (rf B0 o2), none, none] (by decide) rfl (Nat.le_of_ble_eq_true rfl) rfl (fun X Q F E => ?_)
  have hpc := rwPC_bd (ts := ts)
  refine j_aload_0 (n' := 1) F dX3_follow_0 rfl ?_
  refine j_aload_1 (n' := 2) F dX3_follow_1 rfl ?_
  refine j_cV1v (n' := 5) F kl_X3_61 (c_Pri_countTaken hk hw hk2 hr2 ho hr ht hl hok) hk rfl (by decide) (Nat.le_of_ble_eq_true rfl) dX3_follow_2 rfl (fun z1 φ1 h1 => ?_)
  obtain ⟨ct, fr1⟩ := h1
  have tw1 : ∀ b, 0 ≤ b → b < 18 → φ1 w b = tak ts b := fun b q1 q2 => by rw [ct, if_pos ⟨q1, q2⟩]
  have fv1 : ∀ b, φ1 v b = φ v b := fun b => fr1 v b hvw
  have rw1 : rowIs φ1 o2 r2 ts := ht.fr (fun b => fr1 o2 b ho) (fun b => fr1 r2 b hr)
  have s1 : φ1 o2 1 = ts.length := (rw1).1
  have pl1 : φ1 o2 2 = rwP ts := (rw1).2.1
  have co1 : φ1 o2 3 = rwC ts := (rw1).2.2.1
  have bd1 : ∀ b, 0 ≤ b → b < 18 → 0 ≤ φ1 v b ∧ φ1 v b ≤ 30 := fun b q1 q2 => by rw [fv1]; exact hpv b q1 q2
  refine j_aload_1 (n' := 6) F dX3_follow_5 rfl ?_
  refine j_cV0i (n' := 9) F kl_X3_51 (c_Row_size hk2) hk2 rfl (by decide) (Nat.le_of_ble_eq_true rfl) dX3_follow_6 rfl (fun z2 φ2 h2 => ?_)
  obtain ⟨rfl, rfl⟩ := h2
  rw [s1]
  refine j_iconst (n' := 10) F dX3_follow_9 rfl ?_
  refine j_iadd (n' := 11) F dX3_follow_10 rfl ?_
  refine j_istore_2 (n' := 12) F (by decide) jc_r dX3_follow_11 rfl ?_
  refine j_aload_0 (n' := 13) F dX3_follow_12 rfl ?_
  refine j_iconst (n' := 14) F dX3_follow_13 rfl ?_
  refine j_iconst (n' := 15) F dX3_follow_14 rfl ?_
  refine j_aload_1 (n' := 16) F dX3_follow_15 rfl ?_
  refine j_cV0i (n' := 19) F kl_X3_65 (c_Row_plains hk2) hk2 rfl (by decide) (Nat.le_of_ble_eq_true rfl) dX3_follow_16 rfl (fun z3 φ3 h3 => ?_)
  obtain ⟨rfl, rfl⟩ := h3
  rw [pl1]
  refine j_iconst (n' := 20) F dX3_follow_19 rfl ?_
  refine j_iadd (n' := 21) F dX3_follow_20 rfl ?_
  refine j_cV3i (n' := 24) F kl_X3_68 (c_Pri_reprice hk hv hw hvw (by omega) (by omega) (fun b q1 q2 => by rw [tw1 b q1 q2]; exact tak_bd hl b) bd1) hk rfl (by decide) (Nat.le_of_ble_eq_true rfl) dX3_follow_21 rfl (fun z4 φ4 h4 => ?_)
  obtain ⟨va4, fr4, rfl⟩ := h4
  have tw4 : ∀ b, 0 ≤ b → b < 18 → φ4 w b = tak ts b := fun b q1 q2 => (fr4 w b (Ne.symm hvw)).trans (tw1 b q1 q2)
  have rw4 : rowIs φ4 o2 r2 ts := rw1.fr (fun b => fr4 o2 b hov) (fun b => fr4 r2 b hrv)
  have bd4 : ∀ b, 0 ≤ b → b < 18 → 0 ≤ φ4 v b ∧ φ4 v b ≤ 30 := fun b q1 q2 => by
    have g1 := bd1 b q1 q2
    rw [va4]
    split
    · exact rpr_bd _ _
    · exact g1
  have s4 : φ4 o2 1 = ts.length := (rw4).1
  have pl4 : φ4 o2 2 = rwP ts := (rw4).2.1
  have co4 : φ4 o2 3 = rwC ts := (rw4).2.2.1
  refine j_istore_3 (n' := 25) F (by decide) jc_i dX3_follow_24 rfl ?_
  refine j_iload_3 (n' := 26) F dX3_follow_25 rfl ?_
  refine j_aload_0 (n' := 27) F dX3_follow_26 rfl ?_
  refine j_iconst (n' := 28) F dX3_follow_27 rfl ?_
  refine j_iconst (n' := 29) F dX3_follow_28 rfl ?_
  refine j_iload_2 (n' := 30) F dX3_follow_29 rfl ?_
  refine j_cV3i (n' := 33) F kl_X3_68 (c_Pri_reprice hk hv hw hvw (by omega) (by omega) (fun b q1 q2 => by rw [tw4 b q1 q2]; exact tak_bd hl b) bd4) hk rfl (by decide) (Nat.le_of_ble_eq_true rfl) dX3_follow_30 rfl (fun z5 φ5 h5 => ?_)
  obtain ⟨va5, fr5, rfl⟩ := h5
  have tw5 : ∀ b, 0 ≤ b → b < 18 → φ5 w b = tak ts b := fun b q1 q2 => (fr5 w b (Ne.symm hvw)).trans (tw4 b q1 q2)
  have rw5 : rowIs φ5 o2 r2 ts := rw4.fr (fun b => fr5 o2 b hov) (fun b => fr5 r2 b hrv)
  have bd5 : ∀ b, 0 ≤ b → b < 18 → 0 ≤ φ5 v b ∧ φ5 v b ≤ 30 := fun b q1 q2 => by
    have g1 := bd4 b q1 q2
    rw [va5]
    split
    · exact rpr_bd _ _
    · exact g1
  have s5 : φ5 o2 1 = ts.length := (rw5).1
  have pl5 : φ5 o2 2 = rwP ts := (rw5).2.1
  have co5 : φ5 o2 3 = rwC ts := (rw5).2.2.1
  refine j_iadd (n' := 34) F dX3_follow_33 rfl ?_
  refine j_istore_3 (n' := 35) F (by decide) jc_i dX3_follow_34 rfl ?_
  refine j_iload_3 (n' := 36) F dX3_follow_35 rfl ?_
  refine j_aload_0 (n' := 37) F dX3_follow_36 rfl ?_
  refine j_iconst (n' := 38) F dX3_follow_37 rfl ?_
  refine j_bipush (n' := 40) F dX3_follow_38 (by decide) rfl ?_
  refine j_aload_1 (n' := 41) F dX3_follow_40 rfl ?_
  refine j_cV0i (n' := 44) F kl_X3_72 (c_Row_copies hk2) hk2 rfl (by decide) (Nat.le_of_ble_eq_true rfl) dX3_follow_41 rfl (fun z6 φ6 h6 => ?_)
  obtain ⟨rfl, rfl⟩ := h6
  rw [co5]
  refine j_iconst (n' := 45) F dX3_follow_44 rfl ?_
  refine j_iadd (n' := 46) F dX3_follow_45 rfl ?_
  refine j_cV3i (n' := 49) F kl_X3_68 (c_Pri_reprice hk hv hw hvw (by omega) (by omega) (fun b q1 q2 => by rw [tw5 b q1 q2]; exact tak_bd hl b) bd5) hk rfl (by decide) (Nat.le_of_ble_eq_true rfl) dX3_follow_46 rfl (fun z7 φ7 h7 => ?_)
  obtain ⟨va7, fr7, rfl⟩ := h7
  have tw7 : ∀ b, 0 ≤ b → b < 18 → φ7 w b = tak ts b := fun b q1 q2 => (fr7 w b (Ne.symm hvw)).trans (tw5 b q1 q2)
  have rw7 : rowIs φ7 o2 r2 ts := rw5.fr (fun b => fr7 o2 b hov) (fun b => fr7 r2 b hrv)
  have bd7 : ∀ b, 0 ≤ b → b < 18 → 0 ≤ φ7 v b ∧ φ7 v b ≤ 30 := fun b q1 q2 => by
    have g1 := bd5 b q1 q2
    rw [va7]
    split
    · exact rpr_bd _ _
    · exact g1
  have s7 : φ7 o2 1 = ts.length := (rw7).1
  have pl7 : φ7 o2 2 = rwP ts := (rw7).2.1
  have co7 : φ7 o2 3 = rwC ts := (rw7).2.2.1
  refine j_iadd (n' := 50) F dX3_follow_49 rfl ?_
  refine j_istore_3 (n' := 51) F (by decide) jc_i dX3_follow_50 rfl ?_
  refine j_iload_3 (n' := 52) F dX3_follow_51 rfl ?_
  refine j_aload_0 (n' := 53) F dX3_follow_52 rfl ?_
  refine j_bipush (n' := 55) F dX3_follow_53 (by decide) rfl ?_
  refine j_bipush (n' := 57) F dX3_follow_55 (by decide) rfl ?_
  refine j_aload_1 (n' := 58) F dX3_follow_57 rfl ?_
  refine j_cV0i (n' := 61) F kl_X3_72 (c_Row_copies hk2) hk2 rfl (by decide) (Nat.le_of_ble_eq_true rfl) dX3_follow_58 rfl (fun z8 φ8 h8 => ?_)
  obtain ⟨rfl, rfl⟩ := h8
  rw [co7]
  refine j_aload_1 (n' := 62) F dX3_follow_61 rfl ?_
  refine j_cV0i (n' := 65) F kl_X3_75 (c_Row_agains hk2) hk2 rfl (by decide) (Nat.le_of_ble_eq_true rfl) dX3_follow_62 rfl (fun z9 φ9 h9 => ?_)
  obtain ⟨rfl, rfl⟩ := h9
  rw [s7, pl7, co7]
  refine j_iadd (n' := 66) F dX3_follow_65 rfl ?_
  refine j_bipush (n' := 68) F dX3_follow_66 (by decide) rfl ?_
  refine j_iadd (n' := 69) F dX3_follow_68 rfl ?_
  refine j_cV3i (n' := 72) F kl_X3_68 (c_Pri_reprice hk hv hw hvw (by omega) (by omega) (fun b q1 q2 => by rw [tw7 b q1 q2]; exact tak_bd hl b) bd7) hk rfl (by decide) (Nat.le_of_ble_eq_true rfl) dX3_follow_69 rfl (fun z10 φ10 h10 => ?_)
  obtain ⟨va10, fr10, rfl⟩ := h10
  have tw10 : ∀ b, 0 ≤ b → b < 18 → φ10 w b = tak ts b := fun b q1 q2 => (fr10 w b (Ne.symm hvw)).trans (tw7 b q1 q2)
  have rw10 : rowIs φ10 o2 r2 ts := rw7.fr (fun b => fr10 o2 b hov) (fun b => fr10 r2 b hrv)
  have bd10 : ∀ b, 0 ≤ b → b < 18 → 0 ≤ φ10 v b ∧ φ10 v b ≤ 30 := fun b q1 q2 => by
    have g1 := bd7 b q1 q2
    rw [va10]
    split
    · exact rpr_bd _ _
    · exact g1
  have s10 : φ10 o2 1 = ts.length := (rw10).1
  have pl10 : φ10 o2 2 = rwP ts := (rw10).2.1
  have co10 : φ10 o2 3 = rwC ts := (rw10).2.2.1
  refine j_iadd (n' := 73) F dX3_follow_72 rfl ?_
  refine j_istore_3 (n' := 74) F (by decide) jc_i dX3_follow_73 rfl ?_
  refine j_iload_3 (n' := 75) F dX3_follow_74 rfl ?_
  refine j_aload_0 (n' := 76) F dX3_follow_75 rfl ?_
  refine j_bipush (n' := 78) F dX3_follow_76 (by decide) rfl ?_
  refine j_bipush (n' := 80) F dX3_follow_78 (by decide) rfl ?_
  refine j_iload_2 (n' := 81) F dX3_follow_80 rfl ?_
  refine j_cV3i (n' := 84) F kl_X3_68 (c_Pri_reprice hk hv hw hvw (by omega) (by omega) (fun b q1 q2 => by rw [tw10 b q1 q2]; exact tak_bd hl b) bd10) hk rfl (by decide) (Nat.le_of_ble_eq_true rfl) dX3_follow_81 rfl (fun z11 φ11 h11 => ?_)
  obtain ⟨va11, fr11, rfl⟩ := h11
  have tw11 : ∀ b, 0 ≤ b → b < 18 → φ11 w b = tak ts b := fun b q1 q2 => (fr11 w b (Ne.symm hvw)).trans (tw10 b q1 q2)
  have rw11 : rowIs φ11 o2 r2 ts := rw10.fr (fun b => fr11 o2 b hov) (fun b => fr11 r2 b hrv)
  have bd11 : ∀ b, 0 ≤ b → b < 18 → 0 ≤ φ11 v b ∧ φ11 v b ≤ 30 := fun b q1 q2 => by
    have g1 := bd10 b q1 q2
    rw [va11]
    split
    · exact rpr_bd _ _
    · exact g1
  have s11 : φ11 o2 1 = ts.length := (rw11).1
  have pl11 : φ11 o2 2 = rwP ts := (rw11).2.1
  have co11 : φ11 o2 3 = rwC ts := (rw11).2.2.1
  refine j_iadd (n' := 85) F dX3_follow_84 rfl ?_
  refine j_ireturn F E dX3_follow_85 ?_
  refine ⟨fun b => ?_, ?_, ?_⟩
  · rw [va11, va10, va7, va5, va4, fv1]
    by_cases q : 0 ≤ b ∧ b < 18
    · have t0 := tak_bd hl b
      rw [newP, if_pos q, tw1 b q.1 q.2, tw4 b q.1 q.2, tw5 b q.1 q.2, tw7 b q.1 q.2, tw10 b q.1 q.2]
      unfold allOf
      repeat (first | omega | rfl | split)
    · rw [newP, if_neg q]
      repeat (first | omega | rfl | split)
  · exact ((((((fr1.wk (fun _ h => Or.inr h)).tr (fr4.wk (fun _ h => Or.inl h))).tr (fr5.wk (fun _ h => Or.inl h))).tr (fr7.wk (fun _ h => Or.inl h))).tr (fr10.wk (fun _ h => Or.inl h))).tr (fr11.wk (fun _ h => Or.inl h)))
  · skip
    have g9 : othP (φ v) (newP ts (φ v)) 0 18 0 = othP (φ v) (newP ts (φ v)) 0 4 0 + othP (φ v) (newP ts (φ v)) 4 5 0 + othP (φ v) (newP ts (φ v)) 5 10 0 + othP (φ v) (newP ts (φ v)) 10 17 0 + othP (φ v) (newP ts (φ v)) 17 18 0 := by
      rw [othP_app (lo := 0) (mi := 17) (hi := 18) (by omega) (by omega), othP_app (lo := 0) (mi := 10) (hi := 17) (by omega) (by omega), othP_app (lo := 0) (mi := 5) (hi := 10) (by omega) (by omega), othP_app (lo := 0) (mi := 4) (hi := 5) (by omega) (by omega)]
    have g0 : othP (φ1 v) (fun b => rpr (rwP ts + 4) (φ1 w b)) 0 4 0 = othP (φ v) (newP ts (φ v)) 0 4 0 := othP_congr (fun j q1 q2 => by
      refine ⟨?_, ?_⟩
      · show rpr _ (φ1 w j) = _
        rw [tw1 j (by omega) (by omega), newP, if_pos (by omega)]
        congr 1
        unfold allOf
        repeat (first | omega | rfl | split)
      · rw [fv1])
    have g1 : othP (φ4 v) (fun b => rpr ((ts.length : Int) + 3) (φ4 w b)) 4 5 0 = othP (φ v) (newP ts (φ v)) 4 5 0 := othP_congr (fun j q1 q2 => by
      refine ⟨?_, ?_⟩
      · show rpr _ (φ4 w j) = _
        rw [tw4 j (by omega) (by omega), newP, if_pos (by omega)]
        congr 1
        unfold allOf
        repeat (first | omega | rfl | split)
      · rw [va4, if_neg (by omega), fv1])
    have g2 : othP (φ5 v) (fun b => rpr (rwC ts + 5) (φ5 w b)) 5 10 0 = othP (φ v) (newP ts (φ v)) 5 10 0 := othP_congr (fun j q1 q2 => by
      refine ⟨?_, ?_⟩
      · show rpr _ (φ5 w j) = _
        rw [tw5 j (by omega) (by omega), newP, if_pos (by omega)]
        congr 1
        unfold allOf
        repeat (first | omega | rfl | split)
      · rw [va5, if_neg (by omega), va4, if_neg (by omega), fv1])
    have g3 : othP (φ7 v) (fun b => rpr (rwC ts + ((ts.length : Int) - rwP ts - rwC ts) + 7) (φ7 w b)) 10 17 0 = othP (φ v) (newP ts (φ v)) 10 17 0 := othP_congr (fun j q1 q2 => by
      refine ⟨?_, ?_⟩
      · show rpr _ (φ7 w j) = _
        rw [tw7 j (by omega) (by omega), newP, if_pos (by omega)]
        congr 1
        unfold allOf
        repeat (first | omega | rfl | split)
      · rw [va7, if_neg (by omega), va5, if_neg (by omega), va4, if_neg (by omega), fv1])
    have g4 : othP (φ10 v) (fun b => rpr ((ts.length : Int) + 3) (φ10 w b)) 17 18 0 = othP (φ v) (newP ts (φ v)) 17 18 0 := othP_congr (fun j q1 q2 => by
      refine ⟨?_, ?_⟩
      · show rpr _ (φ10 w j) = _
        rw [tw10 j (by omega) (by omega), newP, if_pos (by omega)]
        congr 1
        unfold allOf
        repeat (first | omega | rfl | split)
      · rw [va10, if_neg (by omega), va7, if_neg (by omega), va5, if_neg (by omega), va4, if_neg (by omega), fv1])
    omega
