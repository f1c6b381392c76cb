set_option maxRecDepth 20000 in
theorem c_Row_init {l : Launch} {G : jG} {B0 : Nat} {κ : Int → Option jKd} {φ : jPhi} {n : Nat} {o : Int}  (hk : κ o = some (.inl (5, [.inr 2, .inr 0, .inr 0, .inr 0]))) (ho : 0 ≤ o ∧ o < n) (hz : ∀ a b, (a = o ∨ (n : Int) ≤ a) → φ a b = 0) : jCc l G B0 κ n yX6_init cX6_init 1 1 1 24 [rf B0 o] φ (κU (κU κ (n : Int) (.inr (.inl 24))) o (.inl (5, [.inl (n : Int), .inr 0, .inr 0, .inr 0]))) (n + 1) φ := by
  refine jCc_start RX6 [some (rf B0 o)] (by decide) rfl (Nat.le_of_ble_eq_true rfl) rfl (fun X Q F hin hZ E => ?_)
  refine j_aload_0 (n' := 1) (jF.lo F (by omega) (by omega)) dX6_init_0 rfl ?_
  refine j_objInit (n' := 4) (jF.lo F (by omega) (by omega)) rfl q_44 (by omega) (Nat.le_of_ble_eq_true rfl) dX6_init_1 rfl ?_
  refine j_aload_0 (n' := 5) (jF.lo F (by omega) (by omega)) dX6_init_4 rfl ?_
  refine j_bipush (n' := 7) (jF.lo F (by omega) (by omega)) dX6_init_5 (by decide) rfl ?_
  refine j_newa (N := 24) (n' := 9) (jF.lo F (by omega) (by omega)) rfl (by decide) (fun b => hz _ b (by omega)) dX6_init_7 rfl ?_
  refine j_putF (n' := 12) (jF.lo F (by omega) (by omega)) hin fq_X6_9 ((κU_ne (by omega)).trans (hk)) rfl rfl rfl dX6_init_9 rfl ?_
  refine j_aload_0 (n' := 13) (jF.lo F (by omega) (by omega)) dX6_init_12 rfl ?_
  refine j_iconst (n' := 14) (jF.lo F (by omega) (by omega)) dX6_init_13 rfl ?_
  refine j_putI0 (n' := 17) (jF.lo F (by omega) (by omega)) 1 rfl fp_X6_15 (κU_self _ _ _) rfl rfl (hz _ _ (by omega)) dX6_init_14 rfl ?_
  refine j_aload_0 (n' := 18) (jF.lo F (by omega) (by omega)) dX6_init_17 rfl ?_
  refine j_iconst (n' := 19) (jF.lo F (by omega) (by omega)) dX6_init_18 rfl ?_
  refine j_putI0 (n' := 22) (jF.lo F (by omega) (by omega)) 2 rfl fp_X6_19 (κU_self _ _ _) rfl rfl (hz _ _ (by omega)) dX6_init_19 rfl ?_
  refine j_aload_0 (n' := 23) (jF.lo F (by omega) (by omega)) dX6_init_22 rfl ?_
  refine j_iconst (n' := 24) (jF.lo F (by omega) (by omega)) dX6_init_23 rfl ?_
  refine j_putI0 (n' := 27) (jF.lo F (by omega) (by omega)) 3 rfl fp_X6_22 (κU_self _ _ _) rfl rfl (hz _ _ (by omega)) dX6_init_24 rfl ?_
  exact j_returnC F E dX6_init_27 rfl rfl rfl
set_option maxRecDepth 20000 in
theorem c_Pag_init {l : Launch} {G : jG} {B0 : Nat} {κ : Int → Option jKd} {φ : jPhi} {n : Nat} {o : Int}  (hk : κ o = some (.inl (2, [.inr 2, .inr 0]))) (ho : 0 ≤ o ∧ o < n) (hz : ∀ a b, (a = o ∨ (n : Int) ≤ a) → φ a b = 0) : jCc l G B0 κ n yX2_init cX2_init 1 1 1 30 [rf B0 o] φ (κU (κU κ (n : Int) (.inr (.inl 30))) o (.inl (2, [.inl (n : Int), .inr 0]))) (n + 1) φ := by
  refine jCc_start RX2 [some (rf B0 o)] (by decide) rfl (Nat.le_of_ble_eq_true rfl) rfl (fun X Q F hin hZ E => ?_)
  refine j_aload_0 (n' := 1) (jF.lo F (by omega) (by omega)) dX2_init_0 rfl ?_
  refine j_objInit (n' := 4) (jF.lo F (by omega) (by omega)) rfl q_24 (by omega) (Nat.le_of_ble_eq_true rfl) dX2_init_1 rfl ?_
  refine j_aload_0 (n' := 5) (jF.lo F (by omega) (by omega)) dX2_init_4 rfl ?_
  refine j_bipush (n' := 7) (jF.lo F (by omega) (by omega)) dX2_init_5 (by decide) rfl ?_
  refine j_newa (N := 30) (n' := 9) (jF.lo F (by omega) (by omega)) rfl (by decide) (fun b => hz _ b (by omega)) dX2_init_7 rfl ?_
  refine j_putF (n' := 12) (jF.lo F (by omega) (by omega)) hin fq_X2_9 ((κU_ne (by omega)).trans (hk)) rfl rfl rfl dX2_init_9 rfl ?_
  refine j_aload_0 (n' := 13) (jF.lo F (by omega) (by omega)) dX2_init_12 rfl ?_
  refine j_iconst (n' := 14) (jF.lo F (by omega) (by omega)) dX2_init_13 rfl ?_
  refine j_putI0 (n' := 17) (jF.lo F (by omega) (by omega)) 1 rfl fp_X2_15 (κU_self _ _ _) rfl rfl (hz _ _ (by omega)) dX2_init_14 rfl ?_
  exact j_returnC F E dX2_init_17 rfl rfl rfl
set_option maxRecDepth 20000 in
theorem c_Rea_init {l : Launch} {G : jG} {B0 : Nat} {κ : Int → Option jKd} {φ : jPhi} {n : Nat} {o : Int}  (hk : κ o = some (.inl (1, [.inr 2, .inr 2, .inr 0, .inr 0, .inr 0, .inr 0, .inr 0, .inr 0]))) (ho : 0 ≤ o ∧ o < n) (hz : ∀ a b, (a = o ∨ (n : Int) ≤ a) → φ a b = 0) : jCc l G B0 κ n yX1_init cX1_init 1 2 3 52 [rf B0 o] φ (κU (κU (κU (κU (κU (κU κ (n : Int) (.inr (.inl 24))) o (.inl (1, [.inl (n : Int), .inr 2, .inr 0, .inr 0, .inr 0, .inr 0, .inr 0, .inr 0]))) (((n + 1) : Nat) : Int) (.inl (5, [.inr 2, .inr 0, .inr 0, .inr 0]))) ((((n + 1) + 1) : Nat) : Int) (.inr (.inl 24))) (((n + 1) : Nat) : Int) (.inl (5, [.inl ((((n + 1) + 1) : Nat) : Int), .inr 0, .inr 0, .inr 0]))) o (.inl (1, [.inl (n : Int), .inl (((n + 1) : Nat) : Int), .inr 0, .inr 0, .inr 0, .inr 0, .inr 0, .inr 0]))) (((n + 1) + 1) + 1) φ := by
  refine jCc_start RX1 [some (rf B0 o)] (by decide) rfl (Nat.le_of_ble_eq_true rfl) rfl (fun X Q F hin hZ E => ?_)
  refine j_aload_0 (n' := 1) (jF.lo F (by omega) (by omega)) dX1_init_0 rfl ?_
  refine j_objInit (n' := 4) (jF.lo F (by omega) (by omega)) rfl q_38 (by omega) (Nat.le_of_ble_eq_true rfl) dX1_init_1 rfl ?_
  refine j_aload_0 (n' := 5) (jF.lo F (by omega) (by omega)) dX1_init_4 rfl ?_
  refine j_bipush (n' := 7) (jF.lo F (by omega) (by omega)) dX1_init_5 (by decide) rfl ?_
  refine j_newa (N := 24) (n' := 9) (jF.lo F (by omega) (by omega)) rfl (by decide) (fun b => hz _ b (by omega)) dX1_init_7 rfl ?_
  refine j_putF (n' := 12) (jF.lo F (by omega) (by omega)) hin fq_X1_9 ((κU_ne (by omega)).trans (hk)) rfl rfl rfl dX1_init_9 rfl ?_
  refine j_aload_0 (n' := 13) (jF.lo F (by omega) (by omega)) dX1_init_12 rfl ?_
  refine j_new (N := 4) (n' := 16) (jF.lo F (by omega) (by omega)) nw_X1_15 (fun b => hz _ b (by omega)) dX1_init_13 rfl ?_
  refine j_dup (n' := 17) (jF.lo F (by omega) (by omega)) rfl dX1_init_16 rfl ?_
  refine j_callIN (mc := 1) (ms := 24) (n' := 20) (jF.lo F (by omega) (by omega)) hZ ki_X1_17 (c_Row_init (o := (((n + 1) : Nat) : Int)) (n := ((n + 1) + 1)) (κU_self _ _ _) (by omega) (fun a b q => hz a b (by omega))) (by decide) (Nat.le_of_ble_eq_true rfl) dX1_init_17 rfl ?_
  refine j_putF (n' := 23) (jF.lo F (by omega) (by omega)) hin fq_X1_18 ((κU_ne (by omega)).trans ((κU_ne (by omega)).trans ((κU_ne (by omega)).trans (κU_self _ _ _)))) rfl rfl rfl dX1_init_20 rfl ?_
  refine j_aload_0 (n' := 24) (jF.lo F (by omega) (by omega)) dX1_init_23 rfl ?_
  refine j_iconst (n' := 25) (jF.lo F (by omega) (by omega)) dX1_init_24 rfl ?_
  refine j_putI0 (n' := 28) (jF.lo F (by omega) (by omega)) 2 rfl fp_X1_22 (κU_self _ _ _) rfl rfl (hz _ _ (by omega)) dX1_init_25 rfl ?_
  refine j_aload_0 (n' := 29) (jF.lo F (by omega) (by omega)) dX1_init_28 rfl ?_
  refine j_iconst (n' := 30) (jF.lo F (by omega) (by omega)) dX1_init_29 rfl ?_
  refine j_putI0 (n' := 33) (jF.lo F (by omega) (by omega)) 3 rfl fp_X1_26 (κU_self _ _ _) rfl rfl (hz _ _ (by omega)) dX1_init_30 rfl ?_
  refine j_aload_0 (n' := 34) (jF.lo F (by omega) (by omega)) dX1_init_33 rfl ?_
  refine j_iconst (n' := 35) (jF.lo F (by omega) (by omega)) dX1_init_34 rfl ?_
  refine j_putI0 (n' := 38) (jF.lo F (by omega) (by omega)) 4 rfl fp_X1_29 (κU_self _ _ _) rfl rfl (hz _ _ (by omega)) dX1_init_35 rfl ?_
  refine j_aload_0 (n' := 39) (jF.lo F (by omega) (by omega)) dX1_init_38 rfl ?_
  refine j_iconst (n' := 40) (jF.lo F (by omega) (by omega)) dX1_init_39 rfl ?_
  refine j_putB0 (n' := 43) (jF.lo F (by omega) (by omega)) 5 rfl (by omega) fp_X1_32 (κU_self _ _ _) rfl rfl (hz _ _ (by omega)) dX1_init_40 rfl ?_
  refine j_aload_0 (n' := 44) (jF.lo F (by omega) (by omega)) dX1_init_43 rfl ?_
  refine j_iconst (n' := 45) (jF.lo F (by omega) (by omega)) dX1_init_44 rfl ?_
  refine j_putI0 (n' := 48) (jF.lo F (by omega) (by omega)) 6 rfl fp_X1_36 (κU_self _ _ _) rfl rfl (hz _ _ (by omega)) dX1_init_45 rfl ?_
  refine j_aload_0 (n' := 49) (jF.lo F (by omega) (by omega)) dX1_init_48 rfl ?_
  refine j_iconst (n' := 50) (jF.lo F (by omega) (by omega)) dX1_init_49 rfl ?_
  refine j_putB0 (n' := 53) (jF.lo F (by omega) (by omega)) 7 rfl (by omega) fp_X1_39 (κU_self _ _ _) rfl rfl (hz _ _ (by omega)) dX1_init_50 rfl ?_
  exact j_returnC F E dX1_init_53 rfl rfl rfl
set_option maxRecDepth 20000 in
theorem c_Txt_init {l : Launch} {G : jG} {B0 : Nat} {κ : Int → Option jKd} {φ : jPhi} {n : Nat} {o : Int}  (hk : κ o = some (.inl (4, [.inr 2, .inr 2, .inr 0]))) (ho : 0 ≤ o ∧ o < n) (hz : ∀ a b, (a = o ∨ (n : Int) ≤ a) → φ a b = 0) : jCc l G B0 κ n yX4_init cX4_init 1 1 26 624 [rf B0 o] φ (κU (κR (κU (κU κ (n : Int) (.inr (.inl 24))) o (.inl (4, [.inl (n : Int), .inr 2, .inr 0]))) (((n + 1) : Nat) : Int) 24 24) o (.inl (4, [.inl (n : Int), .inl (((n + 1) : Nat) : Int), .inr 0]))) (((n + 1) + 1) + 24) φ := by
  refine jCc_start RX4 [some (rf B0 o)] (by decide) rfl (Nat.le_of_ble_eq_true rfl) rfl (fun X Q F hin hZ E => ?_)
  refine j_aload_0 (n' := 1) (jF.lo F (by omega) (by omega)) dX4_init_0 rfl ?_
  refine j_objInit (n' := 4) (jF.lo F (by omega) (by omega)) rfl q_88 (by omega) (Nat.le_of_ble_eq_true rfl) dX4_init_1 rfl ?_
  refine j_aload_0 (n' := 5) (jF.lo F (by omega) (by omega)) dX4_init_4 rfl ?_
  refine j_bipush (n' := 7) (jF.lo F (by omega) (by omega)) dX4_init_5 (by decide) rfl ?_
  refine j_newa (N := 24) (n' := 9) (jF.lo F (by omega) (by omega)) rfl (by decide) (fun b => hz _ b (by omega)) dX4_init_7 rfl ?_
  refine j_putF (n' := 12) (jF.lo F (by omega) (by omega)) hin fq_X4_9 ((κU_ne (by omega)).trans (hk)) rfl rfl rfl dX4_init_9 rfl ?_
  refine j_aload_0 (n' := 13) (jF.lo F (by omega) (by omega)) dX4_init_12 rfl ?_
  refine j_bipush (n' := 15) (jF.lo F (by omega) (by omega)) dX4_init_13 (by decide) rfl ?_
  refine j_bipush (n' := 17) (jF.lo F (by omega) (by omega)) dX4_init_15 (by decide) rfl ?_
  refine j_mna (N := 24) (K := 24) (n' := 21) (jF.lo F (by omega) (by omega)) hZ rfl rfl (by decide) (by decide) q_89 (fun i b hi => hz i b (by omega)) dX4_init_17 rfl ?_
  refine j_putF (n' := 24) (jF.lo F (by omega) (by omega)) hin fq_X4_17 ((κR_ne (by omega)).trans (κU_self _ _ _)) rfl rfl rfl dX4_init_21 rfl ?_
  refine j_aload_0 (n' := 25) (jF.lo F (by omega) (by omega)) dX4_init_24 rfl ?_
  refine j_iconst (n' := 26) (jF.lo F (by omega) (by omega)) dX4_init_25 rfl ?_
  refine j_putI0 (n' := 29) (jF.lo F (by omega) (by omega)) 2 rfl fp_X4_20 (κU_self _ _ _) rfl rfl (hz _ _ (by omega)) dX4_init_26 rfl ?_
  exact j_returnC F E dX4_init_29 rfl rfl rfl
set_option maxRecDepth 20000 in
theorem c_Pri_init {l : Launch} {G : jG} {B0 : Nat} {κ : Int → Option jKd} {φ : jPhi} {n : Nat} {o : Int}  (hk : κ o = some (.inl (3, [.inr 2, .inr 2]))) (ho : 0 ≤ o ∧ o < n) (hz : ∀ a b, (a = o ∨ (n : Int) < a) → φ a b = 0) (hp : ∀ j : Nat, j < 18 → φ n j = jPr j) : jCc l G B0 κ n yX3_init cX3_init 1 1 2 36 [rf B0 o] φ (κU (κU (κU (κU κ (n : Int) (.inr (.inl 18))) o (.inl (3, [.inl (n : Int), .inr 2]))) (((n + 1) : Nat) : Int) (.inr (.inl 18))) o (.inl (3, [.inl (n : Int), .inl (((n + 1) : Nat) : Int)]))) ((n + 1) + 1) φ := by
  refine jCc_start RX3 [some (rf B0 o)] (by decide) rfl (Nat.le_of_ble_eq_true rfl) rfl (fun X Q F hin hZ E => ?_)
  obtain ⟨z1, z2, t, cell, z3, z4, z5, z6, z7, z8, z9⟩ := hZ
  refine j_aload_0 (n' := 1) (jF.lo F (by omega) (by omega)) dX3_init_0 rfl ?_
  refine j_objInit (n' := 4) (jF.lo F (by omega) (by omega)) rfl q_106 (by omega) (Nat.le_of_ble_eq_true rfl) dX3_init_1 rfl ?_
  refine j_aload_0 (n' := 5) (jF.lo F (by omega) (by omega)) dX3_init_4 rfl ?_
  refine j_gets (n' := 8) (jF.lo F (by omega) (by omega)) z3 dX3_init_5 rfl ?_
  refine j_clone (n' := 11) (jF.lo F (by omega) (by omega)) z2 z4 z5 z6 z7 z8 z9 (by omega) (Nat.le_of_ble_eq_true rfl) hp dX3_init_8 rfl ?_
  refine j_castI (n' := 14) (jF.lo F (by omega) (by omega)) (κU_self _ _ _) dX3_init_11 rfl ?_
  refine j_putF (n' := 17) (jF.lo F (by omega) (by omega)) hin fq_X3_18 ((κU_ne (by omega)).trans (hk)) rfl rfl rfl dX3_init_14 rfl ?_
  refine j_aload_0 (n' := 18) (jF.lo F (by omega) (by omega)) dX3_init_17 rfl ?_
  refine j_bipush (n' := 20) (jF.lo F (by omega) (by omega)) dX3_init_18 (by decide) rfl ?_
  refine j_newa (N := 18) (n' := 22) (jF.lo F (by omega) (by omega)) rfl (by decide) (fun b => hz _ b (by omega)) dX3_init_20 rfl ?_
  refine j_putF (n' := 25) (jF.lo F (by omega) (by omega)) hin fq_X3_23 ((κU_ne (by omega)).trans (κU_self _ _ _)) rfl rfl rfl dX3_init_22 rfl ?_
  exact j_returnC F E dX3_init_25 rfl rfl rfl
set_option maxRecDepth 20000 in
theorem c_Cho_init {l : Launch} {G : jG} {B0 : Nat} {κ : Int → Option jKd} {φ : jPhi} {n : Nat} {o : Int}  (hk : κ o = some (.inl (0, [.inr 2, .inr 2, .inr 0, .inr 0]))) (ho : 0 ≤ o ∧ o < n) (hz : ∀ a b, (a = o ∨ (n : Int) ≤ a) → φ a b = 0) : jCc l G B0 κ n yX0_init cX0_init 1 1 52 1300 [rf B0 o] φ (κU (κR (κU (κR κ (n : Int) 25 25) o (.inl (0, [.inl (n : Int), .inr 2, .inr 0, .inr 0]))) ((((n + 1) + 25) : Nat) : Int) 25 25) o (.inl (0, [.inl (n : Int), .inl ((((n + 1) + 25) : Nat) : Int), .inr 0, .inr 0]))) ((((n + 1) + 25) + 1) + 25) (zU φ o 2 (-1)) := by
  refine jCc_start RX0 [some (rf B0 o)] (by decide) rfl (Nat.le_of_ble_eq_true rfl) rfl (fun X Q F hin hZ E => ?_)
  refine j_aload_0 (n' := 1) (jF.lo F (by omega) (by omega)) dX0_init_0 rfl ?_
  refine j_objInit (n' := 4) (jF.lo F (by omega) (by omega)) rfl q_128 (by omega) (Nat.le_of_ble_eq_true rfl) dX0_init_1 rfl ?_
  refine j_aload_0 (n' := 5) (jF.lo F (by omega) (by omega)) dX0_init_4 rfl ?_
  refine j_bipush (n' := 7) (jF.lo F (by omega) (by omega)) dX0_init_5 (by decide) rfl ?_
  refine j_bipush (n' := 9) (jF.lo F (by omega) (by omega)) dX0_init_7 (by decide) rfl ?_
  refine j_mna (N := 25) (K := 25) (n' := 13) (jF.lo F (by omega) (by omega)) hZ rfl rfl (by decide) (by decide) q_129 (fun i b hi => hz i b (by omega)) dX0_init_9 rfl ?_
  refine j_putF (n' := 16) (jF.lo F (by omega) (by omega)) hin fq_X0_11 ((κR_ne (by omega)).trans (hk)) rfl rfl rfl dX0_init_13 rfl ?_
  refine j_aload_0 (n' := 17) (jF.lo F (by omega) (by omega)) dX0_init_16 rfl ?_
  refine j_bipush (n' := 19) (jF.lo F (by omega) (by omega)) dX0_init_17 (by decide) rfl ?_
  refine j_bipush (n' := 21) (jF.lo F (by omega) (by omega)) dX0_init_19 (by decide) rfl ?_
  refine j_mna (N := 25) (K := 25) (n' := 25) (jF.lo F (by omega) (by omega)) hZ rfl rfl (by decide) (by decide) q_129 (fun i b hi => hz i b (by omega)) dX0_init_21 rfl ?_
  refine j_putF (n' := 28) (jF.lo F (by omega) (by omega)) hin fq_X0_16 ((κR_ne (by omega)).trans (κU_self _ _ _)) rfl rfl rfl dX0_init_25 rfl ?_
  refine j_aload_0 (n' := 29) (jF.lo F (by omega) (by omega)) dX0_init_28 rfl ?_
  refine j_iconst (n' := 30) (jF.lo F (by omega) (by omega)) dX0_init_29 rfl ?_
  refine j_putI (n' := 33) (jF.lo F (by omega) (by omega)) 2 rfl fp_X0_19 (κU_self _ _ _) rfl rfl dX0_init_30 rfl (fun φ1 e1 => ?_)
  refine j_aload_0 (n' := 34) (jF.lo F (by omega) (by omega)) dX0_init_33 rfl ?_
  refine j_iconst (n' := 35) (jF.lo F (by omega) (by omega)) dX0_init_34 rfl ?_
  refine j_putI0 (n' := 38) (jF.lo F (by omega) (by omega)) 3 rfl fp_X0_23 (κU_self _ _ _) rfl rfl (by rw [e1, zU_ne (by omega)]; exact hz _ _ (by omega)) dX0_init_35 rfl ?_
  exact j_returnC F E dX0_init_38 rfl rfl e1
