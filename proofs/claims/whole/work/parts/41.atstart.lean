/-! ===== at the law's start ===== -/
theorem j_lcmpS {X : jX} {G : jG} {B0 : Nat} {κ : Int → Option jKd} {n kc ks : Nat} {Q : State → Prop} {nL : Nat} {φ : jPhi} {pc : Nat} {lv : List (Option Value)} {st : List Value} {cc : ByteArray} {own : String} {d : Nat} (F : jF X G cc nL own d kc ks) {z : Int} {n' : Nat} (hd : decode cc pc = .ok (.lcmp, 1)) (hn : pc + 1 = n') (k : jJ X G B0 κ n kc ks Q nL φ n' lv (iv 0 :: st)) : jJ X G B0 κ n kc ks Q nL φ pc lv (lvv z :: lvv z :: st) := by
  subst hn; intro H locs ls hP hS hl
  have h := k H locs ls hP hS hl
  refine W.lcmp F.1 F.2.1 hd ?_
  have e : lg_cmp (zL z) (zL z) = zI 0 := by
    unfold lg_cmp
    first | (simp [zI_zero]; done) | (rw [if_neg (Int64.lt_irrefl), if_pos rfl]; rfl) | (simp; rfl)
  rw [e]
  exact h
set_option maxRecDepth 20000 in
theorem jK_start {s : State} {A : Array Value} (hts : ∀ w ∈ lw_tbl, w.before A s = true) : ∃ G : jG, jK G s := by
  have hg : ∀ w ∈ lw_good, w.before A s = true := fun w hw => hts w (List.mem_filter.mp hw).1
  obtain ⟨c0, i0, k0⟩ := u_known (C := RX0) (T := TX0) (N := 4) (n := 4) hg in_X0 (hg _ q_124)
  obtain ⟨c1, i1, k1⟩ := u_known (C := RX1) (T := TX1) (N := 8) (n := 8) hg in_X1 (hg _ q_34)
  obtain ⟨c2, i2, k2⟩ := u_known (C := RX2) (T := TX2) (N := 2) (n := 2) hg in_X2 (hg _ q_20)
  obtain ⟨c3, i3, k3⟩ := u_known (C := RX3) (T := TX3) (N := 2) (n := 2) hg in_X3 (hg _ q_102)
  obtain ⟨c4, i4, k4⟩ := u_known (C := RX4) (T := TX4) (N := 3) (n := 3) hg in_X4 (hg _ q_84)
  obtain ⟨c5, i5, k5⟩ := u_known (C := RX6) (T := TX6) (N := 4) (n := 4) hg in_X6 (hg _ q_40)
  obtain ⟨c6, i6, k6⟩ := u_known (C := RX7) (T := TX7) (N := 17) (n := 17) hg in_X7 (hg _ q_12)
  obtain ⟨c7, i7, k7⟩ := u_known (C := RX8) (T := TX8) (N := 24) (n := 24) hg in_X8 (hg _ q_593)
  obtain ⟨cA, kA, cmp, f1, f2, f3⟩ := Cond.arrayClass_spec (hg _ q_32)
  have hao : (Cond.arrayOver (.array .int)).before A s = true := hts _ (lw_memT 139 (by decide +kernel))
  obtain ⟨comp, cB, kB, g1, g2, g3, g4, g5⟩ := arrayOverA_spec hao
  refine ⟨((fun c => [c0, c1, c2, c3, c4, c5, c6, c7].getD c c0, fun c => [i0, i1, i2, i3, i4, i5, i6, i7].getD c i0), cA, cB), ⟨fun c q hq => ?_, fun k q hq => ?_⟩, fun w hw => ?_⟩
  · have hl : c < 8 := (List.getElem?_eq_some_iff.mp hq).1
    rcases (show c = 0 ∨ c = 1 ∨ c = 2 ∨ c = 3 ∨ c = 4 ∨ c = 5 ∨ c = 6 ∨ c = 7 by omega) with rfl | rfl | rfl | rfl | rfl | rfl | rfl | rfl
    · cases hq
      exact k0
    · cases hq
      exact k1
    · cases hq
      exact k2
    · cases hq
      exact k3
    · cases hq
      exact k4
    · cases hq
      exact k5
    · cases hq
      exact k6
    · cases hq
      exact k7
  · have hl : k < 2 := (List.getElem?_eq_some_iff.mp hq).1
    rcases (show k = 0 ∨ k = 1 by omega) with rfl | rfl
    · cases hq
      exact ⟨fun N z => ⟨(fun q hq => by cases hq), kA, f2, cmp, f3⟩, f1⟩
    · cases hq
      exact ⟨fun N z => ⟨(fun q hq => by cases hq), kB, g3, comp, g4⟩, g5⟩
  · simp only [jnest, List.mem_cons, List.not_mem_nil, or_false] at hw
    rcases hw with rfl | rfl | rfl | rfl | rfl | rfl | rfl | rfl | rfl | rfl
    · exact va_Nw.of rfl (hts _ q_21)
    · exact va_Nw.of rfl (hts _ q_35)
    · exact va_Nw.of rfl (hts _ q_41)
    · exact va_Nw.of rfl (hts _ q_85)
    · exact va_Nw.of rfl (hts _ q_103)
    · exact va_Nw.of rfl (hts _ q_125)
    · exact va_Nw.of rfl (hts _ q_144)
    · exact va_Nw.of rfl (hts _ q_379)
    · exact va_Nw.of rfl (hts _ q_394)
    · exact va_Nw.of rfl (hts _ q_107)
