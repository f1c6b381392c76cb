set_option maxRecDepth 20000 in
theorem c_Tok_again {l : Launch} {G : jG} {B0 : Nat} {φ : jPhi} {x : Int}  : jC l G B0 κF 113 yX5_again cX5_again 1 (some .int) 0 [iv x] φ mkI (fun z φ' => φ = φ' ∧ z = 100 + x) := by
  refine jC_start RX5 [some (iv x)] (by decide) rfl (Nat.le_of_ble_eq_true rfl) rfl (fun X Q F E => ?_)
  refine j_bipush (n' := 2) F dX5_again_0 (by decide) rfl ?_
  refine j_iload_0 (n' := 3) F dX5_again_2 rfl ?_
  refine j_iadd (n' := 4) F dX5_again_3 rfl ?_
  exact j_ireturn F E dX5_again_4 (⟨rfl, by first | rfl | omega | (simp; omega) | (split <;> omega)⟩)
set_option maxRecDepth 20000 in
theorem c_Tok_copy {l : Launch} {G : jG} {B0 : Nat} {φ : jPhi} {x w : Int}  : jC l G B0 κF 113 yX5_copy cX5_copy 2 (some .int) 0 [iv x, iv w] φ mkI (fun z φ' => φ = φ' ∧ z = 1000 + 10 * x + w) := by
  refine jC_start RX5 [some (iv x), some (iv w)] (by decide) rfl (Nat.le_of_ble_eq_true rfl) rfl (fun X Q F E => ?_)
  refine j_sipush (n' := 3) F dX5_copy_0 (by decide) rfl ?_
  refine j_bipush (n' := 5) F dX5_copy_3 (by decide) rfl ?_
  refine j_iload_0 (n' := 6) F dX5_copy_5 rfl ?_
  refine j_imul (n' := 7) F dX5_copy_6 rfl ?_
  refine j_iadd (n' := 8) F dX5_copy_7 rfl ?_
  refine j_iload_1 (n' := 9) F dX5_copy_8 rfl ?_
  refine j_iadd (n' := 10) F dX5_copy_9 rfl ?_
  exact j_ireturn F E dX5_copy_10 (⟨rfl, by first | rfl | omega | (simp; omega) | (split <;> omega)⟩)
set_option maxRecDepth 20000 in
theorem c_Tok_isPlain {l : Launch} {G : jG} {B0 : Nat} {φ : jPhi} {x : Int} (hx : -2147483648 ≤ x ∧ x ≤ 2147483647) : jC l G B0 κF 113 yX5_isPlain cX5_isPlain 1 (some .boolean) 0 [iv x] φ mkI (fun z φ' => φ = φ' ∧ z = (if x < 100 then 1 else 0)) := by
  refine jC_start RX5 [some (iv x)] (by decide) rfl (Nat.le_of_ble_eq_true rfl) rfl (fun X Q F E => ?_)
  refine j_iload_0 (n' := 1) F dX5_isPlain_0 rfl ?_
  refine j_bipush (n' := 3) F dX5_isPlain_1 (by decide) rfl ?_
  refine j_icmp_ge (t := 10) (n' := 6) F (by omega) (by omega) dX5_isPlain_3 (by decide) rfl (fun c3_0 => ?_) (fun c3_0 => ?_)
  · refine j_iconst (n' := 11) F dX5_isPlain_10 rfl ?_
    exact j_zreturn F E (by omega) dX5_isPlain_11 (⟨rfl, by first | rfl | omega | (simp; omega) | (split <;> omega)⟩)
  · refine j_iconst (n' := 7) F dX5_isPlain_6 rfl ?_
    refine j_goto (t := 11) F dX5_isPlain_7 (by decide) ?_
    exact j_zreturn F E (by omega) dX5_isPlain_11 (⟨rfl, by first | rfl | omega | (simp; omega) | (split <;> omega)⟩)
set_option maxRecDepth 20000 in
theorem c_Tok_isCopy {l : Launch} {G : jG} {B0 : Nat} {φ : jPhi} {x : Int} (hx : -2147483648 ≤ x ∧ x ≤ 2147483647) : jC l G B0 κF 113 yX5_isCopy cX5_isCopy 1 (some .boolean) 0 [iv x] φ mkI (fun z φ' => φ = φ' ∧ z = (if 1000 ≤ x then 1 else 0)) := by
  refine jC_start RX5 [some (iv x)] (by decide) rfl (Nat.le_of_ble_eq_true rfl) rfl (fun X Q F E => ?_)
  refine j_iload_0 (n' := 1) F dX5_isCopy_0 rfl ?_
  refine j_sipush (n' := 4) F dX5_isCopy_1 (by decide) rfl ?_
  refine j_icmp_lt (t := 11) (n' := 7) F (by omega) (by omega) dX5_isCopy_4 (by decide) rfl (fun c4_0 => ?_) (fun c4_0 => ?_)
  · refine j_iconst (n' := 12) F dX5_isCopy_11 rfl ?_
    exact j_zreturn F E (by omega) dX5_isCopy_12 (⟨rfl, by first | rfl | omega | (simp; omega) | (split <;> omega)⟩)
  · refine j_iconst (n' := 8) F dX5_isCopy_7 rfl ?_
    refine j_goto (t := 12) F dX5_isCopy_8 (by decide) ?_
    exact j_zreturn F E (by omega) dX5_isCopy_12 (⟨rfl, by first | rfl | omega | (simp; omega) | (split <;> omega)⟩)
set_option maxRecDepth 20000 in
theorem c_Tok_lengthOf {l : Launch} {G : jG} {B0 : Nat} {φ : jPhi} {x : Int} (hx : -2147483648 ≤ x ∧ x ≤ 2147483647) : jC l G B0 κF 113 yX5_lengthOf cX5_lengthOf 1 (some .int) 0 [iv x] φ mkI (fun z φ' => φ = φ' ∧ z = tkLen x) := by
  refine jC_start RX5 [some (iv x)] (by decide) rfl (Nat.le_of_ble_eq_true rfl) rfl (fun X Q F E => ?_)
  refine j_iload_0 (n' := 1) F dX5_lengthOf_0 rfl ?_
  refine j_bipush (n' := 3) F dX5_lengthOf_1 (by decide) rfl ?_
  refine j_icmp_ge (t := 10) (n' := 6) F (by omega) (by omega) dX5_lengthOf_3 (by decide) rfl (fun c3_0 => ?_) (fun c3_0 => ?_)
  · refine j_iload_0 (n' := 11) F dX5_lengthOf_10 rfl ?_
    refine j_bipush (n' := 13) F dX5_lengthOf_11 (by decide) rfl ?_
    refine j_irem (n' := 14) F (by omega) (by omega) dX5_lengthOf_13 rfl ?_
    exact j_ireturn F E dX5_lengthOf_14 (⟨rfl, by unfold tkLen; split <;> omega⟩)
  · refine j_iconst (n' := 7) F dX5_lengthOf_6 rfl ?_
    refine j_goto (t := 14) F dX5_lengthOf_7 (by decide) ?_
    exact j_ireturn F E dX5_lengthOf_14 (⟨rfl, by unfold tkLen; split <;> omega⟩)
set_option maxRecDepth 20000 in
theorem c_Tok_distanceOf {l : Launch} {G : jG} {B0 : Nat} {φ : jPhi} {x : Int} (hx : -2147483648 ≤ x ∧ x ≤ 2147483647) : jC l G B0 κF 113 yX5_distanceOf cX5_distanceOf 1 (some .int) 0 [iv x] φ mkI (fun z φ' => φ = φ' ∧ z = tkDist x) := by
  refine jC_start RX5 [some (iv x)] (by decide) rfl (Nat.le_of_ble_eq_true rfl) rfl (fun X Q F E => ?_)
  refine j_iload_0 (n' := 1) F dX5_distanceOf_0 rfl ?_
  refine j_sipush (n' := 4) F dX5_distanceOf_1 (by decide) rfl ?_
  refine j_icmp_ge (t := 11) (n' := 7) F (by omega) (by omega) dX5_distanceOf_4 (by decide) rfl (fun c4_0 => ?_) (fun c4_0 => ?_)
  · refine j_iload_0 (n' := 12) F dX5_distanceOf_11 rfl ?_
    refine j_sipush (n' := 15) F dX5_distanceOf_12 (by decide) rfl ?_
    refine j_isub (n' := 16) F dX5_distanceOf_15 rfl ?_
    refine j_bipush (n' := 18) F dX5_distanceOf_16 (by decide) rfl ?_
    refine j_idiv (n' := 19) F (by omega) (by omega) dX5_distanceOf_18 rfl ?_
    exact j_ireturn F E dX5_distanceOf_19 (⟨rfl, by unfold tkDist; split <;> omega⟩)
  · refine j_iconst (n' := 8) F dX5_distanceOf_7 rfl ?_
    refine j_goto (t := 19) F dX5_distanceOf_8 (by decide) ?_
    exact j_ireturn F E dX5_distanceOf_19 (⟨rfl, by unfold tkDist; split <;> omega⟩)
set_option maxRecDepth 20000 in
theorem c_Tok_signsOf {l : Launch} {G : jG} {B0 : Nat} {φ : jPhi} {x : Int} (hx : -2147483648 ≤ x ∧ x ≤ 2147483647) : jC l G B0 κF 113 yX5_signsOf cX5_signsOf 1 (some .int) 1 [iv x] φ mkI (fun z φ' => φ = φ' ∧ z = tkSigns x) := by
  refine jC_start RX5 [some (iv x)] (by decide) rfl (Nat.le_of_ble_eq_true rfl) rfl (fun X Q F E => ?_)
  refine j_iload_0 (n' := 1) F dX5_signsOf_0 rfl ?_
  refine j_cS1i (n' := 4) F kl_X5_9 (c_Tok_isPlain hx) (by decide) (Nat.le_of_ble_eq_true rfl) dX5_signsOf_1 rfl (fun z1 φ1 h1 => ?_)
  obtain ⟨rfl, rfl⟩ := h1
  refine j_if_eq (t := 11) (n' := 7) F (by first | omega | (split <;> omega)) dX5_signsOf_4 (by decide) rfl (fun c4_1 => ?_) (fun c4_1 => ?_)
  · refine j_iconst (n' := 12) F dX5_signsOf_11 rfl ?_
    exact j_ireturn F E dX5_signsOf_12 (⟨rfl, by unfold tkSigns; split <;> omega⟩)
  · refine j_iconst (n' := 8) F dX5_signsOf_7 rfl ?_
    refine j_goto (t := 12) F dX5_signsOf_8 (by decide) ?_
    exact j_ireturn F E dX5_signsOf_12 (⟨rfl, by unfold tkSigns; split <;> omega⟩)
set_option maxRecDepth 20000 in
theorem c_Tok_signOf {l : Launch} {G : jG} {B0 : Nat} {φ : jPhi} {x w : Int} (hx : -2147483648 ≤ x ∧ x ≤ 2147483647) (hw : -2147483648 ≤ w ∧ w ≤ 2147483647) : jC l G B0 κF 113 yX5_signOf cX5_signOf 2 (some .int) 1 [iv x, iv w] φ mkI (fun z φ' => φ = φ' ∧ z = tkSign x w) := by
  refine jC_start RX5 [some (iv x), some (iv w)] (by decide) rfl (Nat.le_of_ble_eq_true rfl) rfl (fun X Q F E => ?_)
  refine j_iload_0 (n' := 1) F dX5_signOf_0 rfl ?_
  refine j_cS1i (n' := 4) F kl_X5_9 (c_Tok_isPlain hx) (by decide) (Nat.le_of_ble_eq_true rfl) dX5_signOf_1 rfl (fun z1 φ1 h1 => ?_)
  obtain ⟨rfl, rfl⟩ := h1
  refine j_if_eq (t := 12) (n' := 7) F (by first | omega | (split <;> omega)) dX5_signOf_4 (by decide) rfl (fun c4_1 => ?_) (fun c4_1 => ?_)
  · refine j_iload_1 (n' := 13) F dX5_signOf_12 rfl ?_
    refine j_if_le (t := 24) (n' := 16) F (by first | omega | (split <;> omega)) dX5_signOf_13 (by decide) rfl (fun c13_2 => ?_) (fun c13_2 => ?_)
    · refine j_iload_0 (n' := 25) F dX5_signOf_24 rfl ?_
      refine j_cS1i (n' := 28) F kl_X5_19 (c_Tok_isCopy hx) (by decide) (Nat.le_of_ble_eq_true rfl) dX5_signOf_25 rfl (fun z4 φ4 h4 => ?_)
      obtain ⟨rfl, rfl⟩ := h4
      refine j_if_eq (t := 43) (n' := 31) F (by first | omega | (split <;> omega)) dX5_signOf_28 (by decide) rfl (fun c28_4 => ?_) (fun c28_4 => ?_)
      · refine j_bipush (n' := 45) F dX5_signOf_43 (by decide) rfl ?_
        exact j_ireturn F E dX5_signOf_45 (⟨rfl, by unfold tkSign; repeat (first | omega | split)⟩)
      · refine j_bipush (n' := 33) F dX5_signOf_31 (by decide) rfl ?_
        refine j_iload_0 (n' := 34) F dX5_signOf_33 rfl ?_
        refine j_cS1i (n' := 37) F kl_X5_22 (c_Tok_distanceOf hx) (by decide) (Nat.le_of_ble_eq_true rfl) dX5_signOf_34 rfl (fun z6 φ6 h6 => ?_)
        obtain ⟨rfl, rfl⟩ := h6
        refine j_iadd (n' := 38) F dX5_signOf_37 rfl ?_
        refine j_iconst (n' := 39) F dX5_signOf_38 rfl ?_
        refine j_isub (n' := 40) F dX5_signOf_39 rfl ?_
        refine j_goto (t := 45) F dX5_signOf_40 (by decide) ?_
        exact j_ireturn F E dX5_signOf_45 (⟨rfl, by unfold tkSign; repeat (first | omega | split)⟩)
    · refine j_bipush (n' := 18) F dX5_signOf_16 (by decide) rfl ?_
      refine j_iload_0 (n' := 19) F dX5_signOf_18 rfl ?_
      refine j_cS1i (n' := 22) F kl_X5_15 (c_Tok_lengthOf hx) (by decide) (Nat.le_of_ble_eq_true rfl) dX5_signOf_19 rfl (fun z7 φ7 h7 => ?_)
      obtain ⟨rfl, rfl⟩ := h7
      refine j_iadd (n' := 23) F dX5_signOf_22 rfl ?_
      exact j_ireturn F E dX5_signOf_23 (⟨rfl, by unfold tkSign; repeat (first | omega | split)⟩)
  · refine j_bipush (n' := 9) F dX5_signOf_7 (by decide) rfl ?_
    refine j_iload_0 (n' := 10) F dX5_signOf_9 rfl ?_
    refine j_iadd (n' := 11) F dX5_signOf_10 rfl ?_
    exact j_ireturn F E dX5_signOf_11 (⟨rfl, by unfold tkSign; repeat (first | omega | split)⟩)
set_option maxRecDepth 20000 in
theorem c_Cla_log {l : Launch} {G : jG} {B0 : Nat} {φ : jPhi} {x : Int} (hx : -2147483648 ≤ x ∧ x ≤ 127) : jC l G B0 κF 113 yX7_log cX7_log 3 (some .int) 0 [iv x] φ mkI (fun z φ' => φ = φ' ∧ z = zlog 7 x) := by
  refine jC_start RX7 [some (iv x), none, none] (by decide) rfl (Nat.le_of_ble_eq_true rfl) rfl (fun X Q F E => ?_)
  have loop : ∀ (k : Nat) (y t : Int), y < 2 ^ k → -2147483648 ≤ y ∧ y ≤ 127 → 0 ≤ t → t + k = 7 → t + zlog k y = zlog 7 x → jJ X G B0 κF 113 0 0 Q 3 φ 4 [some (iv x), some (iv t), some (iv y)] [] := by
    intro k
    induction k with
    | zero =>
      intro y t h1 h2 h3 h4 h5
      have h1 : y < 1 := h1
      refine j_iload_2 (n' := 5) F dX7_log_4 rfl ?_
      refine j_iconst (n' := 6) F dX7_log_5 rfl ?_
      refine j_icmp_le (t := 19) (n' := 9) F (by omega) (by omega) dX7_log_6 (by decide) rfl (fun c6_0 => ?_) (fun c6_0 => ?_)
      · refine j_iload_1 (n' := 20) F dX7_log_19 rfl ?_
        exact j_ireturn F E dX7_log_20 (⟨rfl, by rw [zlog] at h5; omega⟩)
      · omega
    | succ k ih =>
      intro y t h1 h2 h3 h4 h5
      rw [Int.pow_succ] at h1
      refine j_iload_2 (n' := 5) F dX7_log_4 rfl ?_
      refine j_iconst (n' := 6) F dX7_log_5 rfl ?_
      refine j_icmp_le (t := 19) (n' := 9) F (by omega) (by omega) dX7_log_6 (by decide) rfl (fun c6_0 => ?_) (fun c6_0 => ?_)
      · refine j_iload_1 (n' := 20) F dX7_log_19 rfl ?_
        exact j_ireturn F E dX7_log_20 (⟨rfl, by rw [zlog, if_neg (by omega)] at h5; omega⟩)
      · refine j_iinc_1 (n' := 12) F (by decide) jc_i dX7_log_9 rfl ?_
        refine j_iload_2 (n' := 13) F dX7_log_12 rfl ?_
        refine j_iconst (n' := 14) F dX7_log_13 rfl ?_
        refine j_idiv (n' := 15) F (by omega) (by omega) dX7_log_14 rfl ?_
        refine j_istore_2 (n' := 16) F (by decide) jc_i dX7_log_15 rfl ?_
        refine j_goto (t := 4) F dX7_log_16 (by decide) ?_
        exact ih (y / 2) (t + 1) (by omega) (by omega) (by omega) (by omega) (by rw [zlog, if_pos (by omega)] at h5; omega)
  refine j_iconst (n' := 1) F dX7_log_0 rfl ?_
  refine j_istore_1 (n' := 2) F (by decide) jc_i dX7_log_1 rfl ?_
  refine j_iload_0 (n' := 3) F dX7_log_2 rfl ?_
  refine j_istore_2 (n' := 4) F (by decide) jc_i dX7_log_3 rfl ?_
  exact loop 7 x 0 (by omega) (by omega) (by omega) (by omega) (by omega)
set_option maxRecDepth 20000 in
theorem c_Mod_log {l : Launch} {G : jG} {B0 : Nat} {φ : jPhi} {x : Int} (hx : -2147483648 ≤ x ∧ x ≤ 127) : jC l G B0 κF 113 yX8_log cX8_log 3 (some .int) 0 [iv x] φ mkI (fun z φ' => φ = φ' ∧ z = zlog 7 x) := by
  refine jC_start RX8 [some (iv x), none, none] (by decide) rfl (Nat.le_of_ble_eq_true rfl) rfl (fun X Q F E => ?_)
  have loop : ∀ (k : Nat) (y t : Int), y < 2 ^ k → -2147483648 ≤ y ∧ y ≤ 127 → 0 ≤ t → t + k = 7 → t + zlog k y = zlog 7 x → jJ X G B0 κF 113 0 0 Q 3 φ 4 [some (iv x), some (iv t), some (iv y)] [] := by
    intro k
    induction k with
    | zero =>
      intro y t h1 h2 h3 h4 h5
      have h1 : y < 1 := h1
      refine j_iload_2 (n' := 5) F dX8_log_4 rfl ?_
      refine j_iconst (n' := 6) F dX8_log_5 rfl ?_
      refine j_icmp_le (t := 19) (n' := 9) F (by omega) (by omega) dX8_log_6 (by decide) rfl (fun c6_0 => ?_) (fun c6_0 => ?_)
      · refine j_iload_1 (n' := 20) F dX8_log_19 rfl ?_
        exact j_ireturn F E dX8_log_20 (⟨rfl, by rw [zlog] at h5; omega⟩)
      · omega
    | succ k ih =>
      intro y t h1 h2 h3 h4 h5
      rw [Int.pow_succ] at h1
      refine j_iload_2 (n' := 5) F dX8_log_4 rfl ?_
      refine j_iconst (n' := 6) F dX8_log_5 rfl ?_
      refine j_icmp_le (t := 19) (n' := 9) F (by omega) (by omega) dX8_log_6 (by decide) rfl (fun c6_0 => ?_) (fun c6_0 => ?_)
      · refine j_iload_1 (n' := 20) F dX8_log_19 rfl ?_
        exact j_ireturn F E dX8_log_20 (⟨rfl, by rw [zlog, if_neg (by omega)] at h5; omega⟩)
      · refine j_iinc_1 (n' := 12) F (by decide) jc_i dX8_log_9 rfl ?_
        refine j_iload_2 (n' := 13) F dX8_log_12 rfl ?_
        refine j_iconst (n' := 14) F dX8_log_13 rfl ?_
        refine j_idiv (n' := 15) F (by omega) (by omega) dX8_log_14 rfl ?_
        refine j_istore_2 (n' := 16) F (by decide) jc_i dX8_log_15 rfl ?_
        refine j_goto (t := 4) F dX8_log_16 (by decide) ?_
        exact ih (y / 2) (t + 1) (by omega) (by omega) (by omega) (by omega) (by rw [zlog, if_pos (by omega)] at h5; omega)
  refine j_iconst (n' := 1) F dX8_log_0 rfl ?_
  refine j_istore_1 (n' := 2) F (by decide) jc_i dX8_log_1 rfl ?_
  refine j_iload_0 (n' := 3) F dX8_log_2 rfl ?_
  refine j_istore_2 (n' := 4) F (by decide) jc_i dX8_log_3 rfl ?_
  exact loop 7 x 0 (by omega) (by omega) (by omega) (by omega) (by omega)
set_option maxRecDepth 20000 in
theorem c_Pag_size {l : Launch} {G : jG} {B0 : Nat} {φ : jPhi}   : jC l G B0 κF 113 yX2_size cX2_size 1 (some .int) 0 [rf B0 1] φ mkI (fun z φ' => φ = φ' ∧ z = φ 1 1) := by
  refine jC_start RX2 [some (rf B0 1)] (by decide) rfl (Nat.le_of_ble_eq_true rfl) rfl (fun X Q F E => ?_)
  refine j_aload_0 (n' := 1) F dX2_size_0 rfl ?_
  refine j_getI (n' := 4) F 1 rfl fl_X2_15 kap_1 rfl dX2_size_1 rfl ?_
  exact j_ireturn F E dX2_size_4 (⟨rfl, by first | rfl | omega | (simp; omega) | (split <;> omega)⟩)
set_option maxRecDepth 20000 in
theorem c_Pag_isFull {l : Launch} {G : jG} {B0 : Nat} {φ : jPhi}  (hs : 0 ≤ φ 1 1 ∧ φ 1 1 ≤ 30) : jC l G B0 κF 113 yX2_isFull cX2_isFull 1 (some .boolean) 0 [rf B0 1] φ mkI (fun z φ' => φ = φ' ∧ z = (if 30 ≤ φ 1 1 then 1 else 0)) := by
  refine jC_start RX2 [some (rf B0 1)] (by decide) rfl (Nat.le_of_ble_eq_true rfl) rfl (fun X Q F E => ?_)
  refine j_aload_0 (n' := 1) F dX2_isFull_0 rfl ?_
  refine j_getI (n' := 4) F 1 rfl fl_X2_15 kap_1 rfl dX2_isFull_1 rfl ?_
  refine j_bipush (n' := 6) F dX2_isFull_4 (by decide) rfl ?_
  refine j_icmp_lt (t := 13) (n' := 9) F (by omega) (by omega) dX2_isFull_6 (by decide) rfl (fun c6_0 => ?_) (fun c6_0 => ?_)
  · refine j_iconst (n' := 14) F dX2_isFull_13 rfl ?_
    exact j_zreturn F E (by omega) dX2_isFull_14 (⟨rfl, by first | rfl | omega | (simp; omega) | (split <;> omega)⟩)
  · refine j_iconst (n' := 10) F dX2_isFull_9 rfl ?_
    refine j_goto (t := 14) F dX2_isFull_10 (by decide) ?_
    exact j_zreturn F E (by omega) dX2_isFull_14 (⟨rfl, by first | rfl | omega | (simp; omega) | (split <;> omega)⟩)
set_option maxRecDepth 20000 in
theorem c_Pag_clear {l : Launch} {G : jG} {B0 : Nat} {φ : jPhi}   : jC l G B0 κF 113 yX2_clear cX2_clear 1 none 0 [rf B0 1] φ mkV (fun z φ' => φ' = zU φ 1 1 0) := by
  refine jC_start RX2 [some (rf B0 1)] (by decide) rfl (Nat.le_of_ble_eq_true rfl) rfl (fun X Q F E => ?_)
  refine j_aload_0 (n' := 1) F dX2_clear_0 rfl ?_
  refine j_iconst (n' := 2) F dX2_clear_1 rfl ?_
  refine j_putI (n' := 5) F 1 rfl fp_X2_15 kap_1 rfl rfl dX2_clear_2 rfl (fun φ1 e1 => ?_)
  exact j_return F E dX2_clear_5 (e1)
set_option maxRecDepth 20000 in
theorem c_Pag_add {l : Launch} {G : jG} {B0 : Nat} {φ : jPhi} {x : Int} (hs : 0 ≤ φ 1 1 ∧ φ 1 1 ≤ 30) (hn : φ 1 1 < 30) : jC l G B0 κF 113 yX2_add cX2_add 2 none 1 [rf B0 1, iv x] φ mkV (fun z φ' => φ' = zU (zU φ 2 (φ 1 1) x) 1 1 (φ 1 1 + 1)) := by
  refine jC_start RX2 [some (rf B0 1), some (iv x)] (by decide) rfl (Nat.le_of_ble_eq_true rfl) rfl (fun X Q F E => ?_)
  refine j_aload_0 (n' := 1) F dX2_add_0 rfl ?_
  refine j_cV0i (n' := 4) F kl_X2_19 (c_Pag_isFull hs) kap_1 rfl (by decide) (Nat.le_of_ble_eq_true rfl) dX2_add_1 rfl (fun z1 φ1 h1 => ?_)
  obtain ⟨rfl, rfl⟩ := h1
  refine j_if_eq (t := 8) (n' := 7) F (by first | omega | (split <;> omega)) dX2_add_4 (by decide) rfl (fun c4_1 => ?_) (fun c4_1 => ?_)
  · refine j_aload_0 (n' := 9) F dX2_add_8 rfl ?_
    refine j_getR (n' := 12) F fl_X2_9 kap_1 rfl dX2_add_9 rfl ?_
    refine j_aload_0 (n' := 13) F dX2_add_12 rfl ?_
    refine j_getI (n' := 16) F 1 rfl fl_X2_15 kap_1 rfl dX2_add_13 rfl ?_
    refine j_iload_1 (n' := 17) F dX2_add_16 rfl ?_
    refine j_iast (n' := 18) F kap_2 (by decide) (by first | omega | (split <;> omega)) dX2_add_17 rfl (fun φ3 e3 => ?_)
    refine j_aload_0 (n' := 19) F dX2_add_18 rfl ?_
    refine j_dup (n' := 20) F rfl dX2_add_19 rfl ?_
    refine j_getI (n' := 23) F 1 rfl fl_X2_15 kap_1 rfl dX2_add_20 rfl ?_
    refine j_iconst (n' := 24) F dX2_add_23 rfl ?_
    refine j_iadd (n' := 25) F dX2_add_24 rfl ?_
    refine j_putI (n' := 28) F 1 rfl fp_X2_15 kap_1 rfl rfl dX2_add_25 rfl (fun φ4 e4 => ?_)
    exact j_return F E dX2_add_28 (by rw [e4, e3, zU_ne (a := 1) (b := 1) (by omega)])
  · exact j_return F E dX2_add_7 (by omega)
set_option maxRecDepth 20000 in
theorem c_Pag_signAt {l : Launch} {G : jG} {B0 : Nat} {φ : jPhi} {x : Int} (hs : 0 ≤ φ 1 1 ∧ φ 1 1 ≤ 30) (hx : -2147483648 ≤ x ∧ x ≤ 2147483647) : jC l G B0 κF 113 yX2_signAt cX2_signAt 2 (some .int) 0 [rf B0 1, iv x] φ mkI (fun z φ' => φ = φ' ∧ z = (if 0 ≤ x ∧ x < φ 1 1 then φ 2 x else -1)) := by
  refine jC_start RX2 [some (rf B0 1), some (iv x)] (by decide) rfl (Nat.le_of_ble_eq_true rfl) rfl (fun X Q F E => ?_)
  refine j_iload_1 (n' := 1) F dX2_signAt_0 rfl ?_
  refine j_if_lt (t := 21) (n' := 4) F (by omega) dX2_signAt_1 (by decide) rfl (fun c1_0 => ?_) (fun c1_0 => ?_)
  · refine j_iconst (n' := 22) F dX2_signAt_21 rfl ?_
    exact j_ireturn F E dX2_signAt_22 (⟨rfl, by first | rfl | omega | (simp; omega) | (split <;> omega)⟩)
  · refine j_iload_1 (n' := 5) F dX2_signAt_4 rfl ?_
    refine j_aload_0 (n' := 6) F dX2_signAt_5 rfl ?_
    refine j_getI (n' := 9) F 1 rfl fl_X2_15 kap_1 rfl dX2_signAt_6 rfl ?_
    refine j_icmp_ge (t := 21) (n' := 12) F (by omega) (by omega) dX2_signAt_9 (by decide) rfl (fun c9_1 => ?_) (fun c9_1 => ?_)
    · refine j_iconst (n' := 22) F dX2_signAt_21 rfl ?_
      exact j_ireturn F E dX2_signAt_22 (⟨rfl, by first | rfl | omega | (simp; omega) | (split <;> omega)⟩)
    · refine j_aload_0 (n' := 13) F dX2_signAt_12 rfl ?_
      refine j_getR (n' := 16) F fl_X2_9 kap_1 rfl dX2_signAt_13 rfl ?_
      refine j_iload_1 (n' := 17) F dX2_signAt_16 rfl ?_
      refine j_iald (n' := 18) F kap_2 (by decide) (by omega) dX2_signAt_17 rfl ?_
      refine j_goto (t := 22) F dX2_signAt_18 (by decide) ?_
      exact j_ireturn F E dX2_signAt_22 (⟨rfl, by first | rfl | omega | (simp; omega) | (split <;> omega)⟩)
set_option maxRecDepth 20000 in
theorem c_Pag_textFault {l : Launch} {G : jG} {B0 : Nat} {φ : jPhi}  (hs : 0 ≤ φ 1 1 ∧ φ 1 1 ≤ 30) (hp : ∀ k, 0 ≤ k → k < φ 1 1 → 32 ≤ φ 2 k ∧ φ 2 k ≤ 126) : jC l G B0 κF 113 yX2_textFault cX2_textFault 3 (some .int) 1 [rf B0 1] φ mkI (fun z φ' => φ = φ' ∧ z = tfl (φ 2) (φ 1 1) 25 0) := by
  refine jC_start RX2 [some (rf B0 1), none, none] (by decide) rfl (Nat.le_of_ble_eq_true rfl) rfl (fun X Q F E => ?_)
  have loop : ∀ (k : Nat) (i : Int), i + k = 25 → 0 ≤ i → i ≤ 24 → i ≤ φ 1 1 → tfl (φ 2) (φ 1 1) k i = tfl (φ 2) (φ 1 1) 25 0 → jJ X G B0 κF 113 0 0 Q 3 φ 2 [some (rf B0 1), some (iv i), none] [] := by
    intro k
    induction k with
    | zero => intro i h1 h2 h3; omega
    | succ k ih =>
      intro i h1 h2 h3 h4 h5
      rw [tfl] at h5
      refine j_iload_1 (n' := 3) F dX2_textFault_2 rfl ?_
      refine j_aload_0 (n' := 4) F dX2_textFault_3 rfl ?_
      refine j_getI (n' := 7) F 1 rfl fl_X2_15 kap_1 rfl dX2_textFault_4 rfl ?_
      refine j_icmp_ge (t := 42) (n' := 10) F (by first | omega | (split <;> omega)) (by first | omega | (split <;> omega)) dX2_textFault_7 (by decide) rfl (fun c7_0 => ?_) (fun c7_0 => ?_)
      · refine j_aload_0 (n' := 43) F dX2_textFault_42 rfl ?_
        refine j_getI (n' := 46) F 1 rfl fl_X2_15 kap_1 rfl dX2_textFault_43 rfl ?_
        exact j_ireturn F E dX2_textFault_46 (⟨rfl, by rw [if_neg (by omega)] at h5; omega⟩)
      · refine j_aload_0 (n' := 11) F dX2_textFault_10 rfl ?_
        refine j_iload_1 (n' := 12) F dX2_textFault_11 rfl ?_
        refine j_cV1i (n' := 15) F kl_X2_23 (c_Pag_signAt hs (by omega)) kap_1 rfl (by decide) (Nat.le_of_ble_eq_true rfl) dX2_textFault_12 rfl (fun z2 φ2 h2 => ?_)
        obtain ⟨rfl, rfl⟩ := h2
        have hq := hp i (by omega) (by omega)
        rw [if_pos (by omega)]
        refine j_bipush (n' := 17) F dX2_textFault_15 (by decide) rfl ?_
        refine j_isub (n' := 18) F dX2_textFault_17 rfl ?_
        refine j_istore_2 (n' := 19) F (by decide) jc_i dX2_textFault_18 rfl ?_
        refine j_iload_1 (n' := 20) F dX2_textFault_19 rfl ?_
        refine j_bipush (n' := 22) F dX2_textFault_20 (by decide) rfl ?_
        refine j_icmp_ge (t := 34) (n' := 25) F (by first | omega | (split <;> omega)) (by first | omega | (split <;> omega)) dX2_textFault_22 (by decide) rfl (fun c22_2 => ?_) (fun c22_2 => ?_)
        · refine j_iload_1 (n' := 35) F dX2_textFault_34 rfl ?_
          exact j_ireturn F E dX2_textFault_35 (⟨rfl, by rw [if_neg (by omega)] at h5; exact h5⟩)
        · refine j_iload_2 (n' := 26) F dX2_textFault_25 rfl ?_
          refine j_if_lt (t := 34) (n' := 29) F (by first | omega | (split <;> omega)) dX2_textFault_26 (by decide) rfl (fun c26_3 => ?_) (fun c26_3 => ?_)
          · refine j_iload_1 (n' := 35) F dX2_textFault_34 rfl ?_
            exact j_ireturn F E dX2_textFault_35 (⟨rfl, by rw [if_neg (by omega)] at h5; exact h5⟩)
          · refine j_iload_2 (n' := 30) F dX2_textFault_29 rfl ?_
            refine j_iconst (n' := 31) F dX2_textFault_30 rfl ?_
            refine j_icmp_lt (t := 36) (n' := 34) F (by first | omega | (split <;> omega)) (by first | omega | (split <;> omega)) dX2_textFault_31 (by decide) rfl (fun c31_4 => ?_) (fun c31_4 => ?_)
            · refine j_iinc_1 (n' := 39) F (by decide) jc_r dX2_textFault_36 rfl ?_
              refine j_goto (t := 2) F dX2_textFault_39 (by decide) ?_
              exact j_weak (by exact ⟨rfl, rfl, trivial⟩) (ih (i + 1) (by omega) (by omega) (by omega) (by omega) (by rw [if_pos (by omega)] at h5; exact h5))
            · refine j_iload_1 (n' := 35) F dX2_textFault_34 rfl ?_
              exact j_ireturn F E dX2_textFault_35 (⟨rfl, by rw [if_neg (by omega)] at h5; exact h5⟩)
  refine j_iconst (n' := 1) F dX2_textFault_0 rfl ?_
  refine j_istore_1 (n' := 2) F (by decide) jc_r dX2_textFault_1 rfl ?_
  exact loop 25 0 (by omega) (by omega) (by omega) (by omega) rfl
