/-! ===== the constructors ===== -/
theorem κR_ne {κ : Int → Option jKd} {n a : Int} {N K : Nat} (h : a < n) : κR κ n N K a = κ a := by
  unfold κR
  rw [if_neg (by omega), if_neg (by omega)]
theorem j_putI0 {X : jX} {G : jG} {B0 : Nat} {κ : Int → Option jKd} {n kc ks : Nat} {Q : State → Prop} {nL : Nat} {φ : jPhi} {pc : Nat} {lv : List (Option Value)} {st : List Value} {cc : ByteArray} {own : String} {d : Nat} (F : jF X G cc nL own d kc ks) {index ci N k : Nat} {i z : Int} {cs : List jSl} {n' : Nat} (kz : Int) (hkz : ((k : Nat) : Int) = kz) (hf : jLP own index ci N k .int) (hκ : κ i = some (.inl (ci, cs))) (hlen : cs.length = N) (hcs : cs[k]? = some (.inr 0)) (h0 : φ i kz = z) (hd : decode cc pc = .ok (.putfield index, 3)) (hn : pc + 3 = n') (kk : jJ X G B0 κ n kc ks Q nL φ n' lv st) : jJ X G B0 κ n kc ks Q nL φ pc lv (iv z :: rf B0 i :: st) :=
  j_putI F kz hkz hf hκ hlen hcs hd hn (fun φ' e => by rw [e, zU_id h0]; exact kk)
theorem j_putB0 {X : jX} {G : jG} {B0 : Nat} {κ : Int → Option jKd} {n kc ks : Nat} {Q : State → Prop} {nL : Nat} {φ : jPhi} {pc : Nat} {lv : List (Option Value)} {st : List Value} {cc : ByteArray} {own : String} {d : Nat} (F : jF X G cc nL own d kc ks) {index ci N k : Nat} {i z : Int} {cs : List jSl} {n' : Nat} (kz : Int) (hkz : ((k : Nat) : Int) = kz) (hz : z = 0 ∨ z = 1) (hf : jLP own index ci N k .boolean) (hκ : κ i = some (.inl (ci, cs))) (hlen : cs.length = N) (hcs : cs[k]? = some (.inr 0)) (h0 : φ i kz = z) (hd : decode cc pc = .ok (.putfield index, 3)) (hn : pc + 3 = n') (kk : jJ X G B0 κ n kc ks Q nL φ n' lv st) : jJ X G B0 κ n kc ks Q nL φ pc lv (iv z :: rf B0 i :: st) :=
  j_putB F kz hkz hz hf hκ hlen hcs hd hn (fun φ' e => by rw [e, zU_id h0]; exact kk)
theorem fq_X2_9 : jLQ RX2 9 2 2 0 (.array .int) := ⟨RX2, TX2, tyX2, rfl, by decide, in_X2, q_25, tyX2_ok, nmX2, rfl, rfl, by decide +kernel⟩
theorem fq_X6_9 : jLQ RX6 9 5 4 0 (.array .int) := ⟨RX6, TX6, tyX6, rfl, by decide, in_X6, q_45, tyX6_ok, nmX6, rfl, rfl, by decide +kernel⟩
theorem fq_X1_9 : jLQ RX1 9 1 8 0 (.array .int) := ⟨RX1, TX1, tyX1, rfl, by decide, in_X1, q_58, tyX1_ok, nmX1, rfl, rfl, by decide +kernel⟩
theorem fq_X1_18 : jLQ RX1 18 1 8 1 (.object "PricedCopies$TokenRow") := ⟨RX1, TX1, tyX1, rfl, by decide, in_X1, q_59, tyX1_ok, nmX1, rfl, rfl, by decide +kernel⟩
theorem fq_X4_9 : jLQ RX4 9 4 3 0 (.array .int) := ⟨RX4, TX4, tyX4, rfl, by decide, in_X4, q_91, tyX4_ok, nmX4, rfl, rfl, by decide +kernel⟩
theorem fq_X4_17 : jLQ RX4 17 4 3 1 (.array (.array .int)) := ⟨RX4, TX4, tyX4, rfl, by decide, in_X4, q_92, tyX4_ok, nmX4, rfl, rfl, by decide +kernel⟩
theorem fq_X3_18 : jLQ RX3 18 3 2 0 (.array .int) := ⟨RX3, TX3, tyX3, rfl, by decide, in_X3, q_116, tyX3_ok, nmX3, rfl, rfl, by decide +kernel⟩
theorem fq_X3_23 : jLQ RX3 23 3 2 1 (.array .int) := ⟨RX3, TX3, tyX3, rfl, by decide, in_X3, q_117, tyX3_ok, nmX3, rfl, rfl, by decide +kernel⟩
theorem fq_X0_11 : jLQ RX0 11 0 4 0 (.array (.array .int)) := ⟨RX0, TX0, tyX0, rfl, by decide, in_X0, q_130, tyX0_ok, nmX0, rfl, rfl, by decide +kernel⟩
theorem fq_X0_16 : jLQ RX0 16 0 4 1 (.array (.array .int)) := ⟨RX0, TX0, tyX0, rfl, by decide, in_X0, q_131, tyX0_ok, nmX0, rfl, rfl, by decide +kernel⟩
theorem fq_X7_10 : jLQ RX7 10 6 17 0 (.object "PricedCopies$Page") := ⟨RX7, TX7, tyX7, rfl, by decide, in_X7, q_145, tyX7_ok, nmX7, rfl, rfl, by decide +kernel⟩
theorem fq_X7_19 : jLQ RX7 19 6 17 1 (.object "PricedCopies$CodeReader") := ⟨RX7, TX7, tyX7, rfl, by decide, in_X7, q_146, tyX7_ok, nmX7, rfl, rfl, by decide +kernel⟩
theorem fq_X7_26 : jLQ RX7 26 6 17 2 (.object "PricedCopies$Text") := ⟨RX7, TX7, tyX7, rfl, by decide, in_X7, q_147, tyX7_ok, nmX7, rfl, rfl, by decide +kernel⟩
theorem fq_X7_33 : jLQ RX7 33 6 17 3 (.object "PricedCopies$Prices") := ⟨RX7, TX7, tyX7, rfl, by decide, in_X7, q_148, tyX7_ok, nmX7, rfl, rfl, by decide +kernel⟩
theorem fq_X7_40 : jLQ RX7 40 6 17 4 (.object "PricedCopies$Chooser") := ⟨RX7, TX7, tyX7, rfl, by decide, in_X7, q_149, tyX7_ok, nmX7, rfl, rfl, by decide +kernel⟩
theorem fq_X7_47 : jLQ RX7 47 6 17 5 (.object "PricedCopies$TokenRow") := ⟨RX7, TX7, tyX7, rfl, by decide, in_X7, q_150, tyX7_ok, nmX7, rfl, rfl, by decide +kernel⟩
theorem fq_X7_51 : jLQ RX7 51 6 17 6 (.object "PricedCopies$TokenRow") := ⟨RX7, TX7, tyX7, rfl, by decide, in_X7, q_151, tyX7_ok, nmX7, rfl, rfl, by decide +kernel⟩
theorem fq_X7_54 : jLQ RX7 54 6 17 7 (.object "PricedCopies$Prices") := ⟨RX7, TX7, tyX7, rfl, by decide, in_X7, q_152, tyX7_ok, nmX7, rfl, rfl, by decide +kernel⟩
theorem fq_X7_57 : jLQ RX7 57 6 17 8 (.object "PricedCopies$TokenRow") := ⟨RX7, TX7, tyX7, rfl, by decide, in_X7, q_153, tyX7_ok, nmX7, rfl, rfl, by decide +kernel⟩
theorem fq_X8_7 : jLQ RX8 7 7 24 1 (.array .int) := ⟨RX8, TX8, tyX8, rfl, by decide, in_X8, q_599, tyX8_ok, nmX8, rfl, rfl, by decide +kernel⟩
theorem fq_X8_13 : jLQ RX8 13 7 24 3 (.array .int) := ⟨RX8, TX8, tyX8, rfl, by decide, in_X8, q_601, tyX8_ok, nmX8, rfl, rfl, by decide +kernel⟩
theorem fq_X8_16 : jLQ RX8 16 7 24 4 (.array .int) := ⟨RX8, TX8, tyX8, rfl, by decide, in_X8, q_602, tyX8_ok, nmX8, rfl, rfl, by decide +kernel⟩
theorem fq_X8_19 : jLQ RX8 19 7 24 8 (.array .int) := ⟨RX8, TX8, tyX8, rfl, by decide, in_X8, q_606, tyX8_ok, nmX8, rfl, rfl, by decide +kernel⟩
theorem fq_X8_22 : jLQ RX8 22 7 24 13 (.array .int) := ⟨RX8, TX8, tyX8, rfl, by decide, in_X8, q_611, tyX8_ok, nmX8, rfl, rfl, by decide +kernel⟩
theorem fq_X8_25 : jLQ RX8 25 7 24 14 (.array .int) := ⟨RX8, TX8, tyX8, rfl, by decide, in_X8, q_612, tyX8_ok, nmX8, rfl, rfl, by decide +kernel⟩
theorem fq_X8_28 : jLQ RX8 28 7 24 15 (.array .int) := ⟨RX8, TX8, tyX8, rfl, by decide, in_X8, q_613, tyX8_ok, nmX8, rfl, rfl, by decide +kernel⟩
theorem fq_X8_31 : jLQ RX8 31 7 24 16 (.array .int) := ⟨RX8, TX8, tyX8, rfl, by decide, in_X8, q_614, tyX8_ok, nmX8, rfl, rfl, by decide +kernel⟩
theorem fq_X8_34 : jLQ RX8 34 7 24 17 (.array .int) := ⟨RX8, TX8, tyX8, rfl, by decide, in_X8, q_615, tyX8_ok, nmX8, rfl, rfl, by decide +kernel⟩
theorem fq_X8_37 : jLQ RX8 37 7 24 19 (.array .int) := ⟨RX8, TX8, tyX8, rfl, by decide, in_X8, q_617, tyX8_ok, nmX8, rfl, rfl, by decide +kernel⟩
theorem fq_X8_40 : jLQ RX8 40 7 24 20 (.array .int) := ⟨RX8, TX8, tyX8, rfl, by decide, in_X8, q_618, tyX8_ok, nmX8, rfl, rfl, by decide +kernel⟩
theorem fq_X8_43 : jLQ RX8 43 7 24 21 (.array .int) := ⟨RX8, TX8, tyX8, rfl, by decide, in_X8, q_619, tyX8_ok, nmX8, rfl, rfl, by decide +kernel⟩
theorem fq_X8_46 : jLQ RX8 46 7 24 22 (.array .int) := ⟨RX8, TX8, tyX8, rfl, by decide, in_X8, q_620, tyX8_ok, nmX8, rfl, rfl, by decide +kernel⟩
theorem nw_L_7 : jNW RL 7 6 17 [.inr 2, .inr 2, .inr 2, .inr 2, .inr 2, .inr 2, .inr 2, .inr 2, .inr 2, .inr 0, .inr 0, .inr 0, .inr 0, .inr 0, .inr 0, .inr 0, .inr 0] := ⟨RX7, TX7, tyX7, rfl, in_X7, tyX7_ok, q_11, q_12, q_1, rfl, fun k hk B0 => by
  rcases (show k = 0 ∨ k = 1 ∨ k = 2 ∨ k = 3 ∨ k = 4 ∨ k = 5 ∨ k = 6 ∨ k = 7 ∨ k = 8 ∨ k = 9 ∨ k = 10 ∨ k = 11 ∨ k = 12 ∨ k = 13 ∨ k = 14 ∨ k = 15 ∨ k = 16 by omega) with rfl | rfl | rfl | rfl | rfl | rfl | rfl | rfl | rfl | rfl | rfl | rfl | rfl | rfl | rfl | rfl | rfl <;> rfl⟩
theorem nw_L_10 : jNW RL 10 7 24 [.inr 0, .inr 2, .inr 0, .inr 2, .inr 2, .inr 0, .inr 0, .inr 0, .inr 2, .inr 0, .inr 0, .inr 0, .inr 0, .inr 2, .inr 2, .inr 2, .inr 2, .inr 2, .inr 0, .inr 2, .inr 2, .inr 2, .inr 2, .inr 1] := ⟨RX8, TX8, tyX8, rfl, in_X8, tyX8_ok, q_592, q_593, q_8, rfl, fun k hk B0 => by
  rcases (show k = 0 ∨ k = 1 ∨ k = 2 ∨ k = 3 ∨ k = 4 ∨ k = 5 ∨ k = 6 ∨ k = 7 ∨ k = 8 ∨ k = 9 ∨ k = 10 ∨ k = 11 ∨ k = 12 ∨ k = 13 ∨ k = 14 ∨ k = 15 ∨ k = 16 ∨ k = 17 ∨ k = 18 ∨ k = 19 ∨ k = 20 ∨ k = 21 ∨ k = 22 ∨ k = 23 by omega) with rfl | rfl | rfl | rfl | rfl | rfl | rfl | rfl | rfl | rfl | rfl | rfl | rfl | rfl | rfl | rfl | rfl | rfl | rfl | rfl | rfl | rfl | rfl | rfl <;> rfl⟩
theorem nw_X7_7 : jNW RX7 7 2 2 [.inr 2, .inr 0] := ⟨RX2, TX2, tyX2, rfl, in_X2, tyX2_ok, q_19, q_20, q_2, rfl, fun k hk B0 => by
  rcases (show k = 0 ∨ k = 1 by omega) with rfl | rfl <;> rfl⟩
theorem nw_X7_16 : jNW RX7 16 1 8 [.inr 2, .inr 2, .inr 0, .inr 0, .inr 0, .inr 0, .inr 0, .inr 0] := ⟨RX1, TX1, tyX1, rfl, in_X1, tyX1_ok, q_33, q_34, q_3, rfl, fun k hk B0 => by
  rcases (show k = 0 ∨ k = 1 ∨ k = 2 ∨ k = 3 ∨ k = 4 ∨ k = 5 ∨ k = 6 ∨ k = 7 by omega) with rfl | rfl | rfl | rfl | rfl | rfl | rfl | rfl <;> rfl⟩
theorem nw_X1_15 : jNW RX1 15 5 4 [.inr 2, .inr 0, .inr 0, .inr 0] := ⟨RX6, TX6, tyX6, rfl, in_X6, tyX6_ok, q_39, q_40, q_4, rfl, fun k hk B0 => by
  rcases (show k = 0 ∨ k = 1 ∨ k = 2 ∨ k = 3 by omega) with rfl | rfl | rfl | rfl <;> rfl⟩
theorem nw_X7_23 : jNW RX7 23 4 3 [.inr 2, .inr 2, .inr 0] := ⟨RX4, TX4, tyX4, rfl, in_X4, tyX4_ok, q_83, q_84, q_5, rfl, fun k hk B0 => by
  rcases (show k = 0 ∨ k = 1 ∨ k = 2 by omega) with rfl | rfl | rfl <;> rfl⟩
theorem nw_X7_30 : jNW RX7 30 3 2 [.inr 2, .inr 2] := ⟨RX3, TX3, tyX3, rfl, in_X3, tyX3_ok, q_101, q_102, q_6, rfl, fun k hk B0 => by
  rcases (show k = 0 ∨ k = 1 by omega) with rfl | rfl <;> rfl⟩
theorem nw_X7_37 : jNW RX7 37 0 4 [.inr 2, .inr 2, .inr 0, .inr 0] := ⟨RX0, TX0, tyX0, rfl, in_X0, tyX0_ok, q_123, q_124, q_7, rfl, fun k hk B0 => by
  rcases (show k = 0 ∨ k = 1 ∨ k = 2 ∨ k = 3 by omega) with rfl | rfl | rfl | rfl <;> rfl⟩
theorem nw_X7_44 : jNW RX7 44 5 4 [.inr 2, .inr 0, .inr 0, .inr 0] := ⟨RX6, TX6, tyX6, rfl, in_X6, tyX6_ok, q_143, q_40, q_4, rfl, fun k hk B0 => by
  rcases (show k = 0 ∨ k = 1 ∨ k = 2 ∨ k = 3 by omega) with rfl | rfl | rfl | rfl <;> rfl⟩
theorem ki_L_9 : jLI RL 9 yX7_init cX7_init 1 := ⟨q_13, q_14, q_1, q_15, by decide +kernel, by decide, rfl⟩
theorem ki_L_12 : jLI RL 12 yX8_init cX8_init 2 := ⟨q_594, q_595, q_8, q_596, by decide +kernel, by decide, rfl⟩
theorem ki_X7_9 : jLIN RX7 9 yX2_init cX2_init 1 := ⟨by simp [jnest], q_22, q_2, q_23, by decide +kernel, by decide, rfl⟩
theorem ki_X7_18 : jLIN RX7 18 yX1_init cX1_init 1 := ⟨by simp [jnest], q_36, q_3, q_37, by decide +kernel, by decide, rfl⟩
theorem ki_X1_17 : jLIN RX1 17 yX6_init cX6_init 1 := ⟨by simp [jnest], q_42, q_4, q_43, by decide +kernel, by decide, rfl⟩
theorem ki_X7_25 : jLIN RX7 25 yX4_init cX4_init 1 := ⟨by simp [jnest], q_86, q_5, q_87, by decide +kernel, by decide, rfl⟩
theorem ki_X7_32 : jLIN RX7 32 yX3_init cX3_init 1 := ⟨by simp [jnest], q_104, q_6, q_105, by decide +kernel, by decide, rfl⟩
theorem ki_X7_39 : jLIN RX7 39 yX0_init cX0_init 1 := ⟨by simp [jnest], q_126, q_7, q_127, by decide +kernel, by decide, rfl⟩
theorem ki_X7_46 : jLIN RX7 46 yX6_init cX6_init 1 := ⟨by simp [jnest], q_42, q_4, q_43, by decide +kernel, by decide, rfl⟩
