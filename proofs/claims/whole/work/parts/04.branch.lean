section JBR
variable {X : jX} {G : jG} {B0 : Nat} {κ : Int → Option jKd} {n kc ks : Nat} {Q : State → Prop} {nL : Nat} {φ : jPhi} {pc : Nat} {lv : List (Option Value)} {st : List Value} {cc : ByteArray} {own : String} {d : Nat}
theorem j_icmp_eq (F : jF X G cc nL own d kc ks) {a b off : Int} {t n' : Nat} (ha : -2147483648 ≤ a ∧ a ≤ 2147483647) (hb : -2147483648 ≤ b ∧ b ≤ 2147483647) (hd : decode cc pc = .ok (.if_icmp .eq off, 3)) (ht : (pc : Int) + off = (t : Int)) (hn : pc + 3 = n') (kt : a = b → jJ X G B0 κ n kc ks Q nL φ t lv st) (kf : ¬ a = b → jJ X G B0 κ n kc ks Q nL φ n' lv st) : jJ X G B0 κ n kc ks Q nL φ pc lv (iv b :: iv a :: st) := by
  subst hn; intro H locs ls hP hS hl
  have e1 := zI_lt ha hb
  have e2 := zI_lt hb ha
  have e3 := zI_le ha hb
  have e4 := zI_le hb ha
  have e5 := zI_eq ha hb
  refine lv_icmp_eq F.1 F.2.1 hd ht (fun h => kt ?_ H locs ls hP hS hl) (fun h => kf ?_ H locs ls hP hS hl)
  · simp only [e1, e2, e3, e4, e5] at h; omega
  · simp only [e1, e2, e3, e4, e5] at h; omega
theorem j_if_eq (F : jF X G cc nL own d kc ks) {a off : Int} {t n' : Nat} (ha : -2147483648 ≤ a ∧ a ≤ 2147483647) (hd : decode cc pc = .ok (.ifCond .eq off, 3)) (ht : (pc : Int) + off = (t : Int)) (hn : pc + 3 = n') (kt : a = 0 → jJ X G B0 κ n kc ks Q nL φ t lv st) (kf : ¬ a = 0 → jJ X G B0 κ n kc ks Q nL φ n' lv st) : jJ X G B0 κ n kc ks Q nL φ pc lv (iv a :: st) := by
  subst hn; intro H locs ls hP hS hl
  have hb : -2147483648 ≤ (0 : Int) ∧ (0 : Int) ≤ 2147483647 := by decide
  have e1 := zI_lt ha hb
  have e2 := zI_lt hb ha
  have e3 := zI_le ha hb
  have e4 := zI_le hb ha
  have e5 := zI_eq ha hb
  rw [zI_zero] at e1 e2 e3 e4 e5
  refine lv_if_eq F.1 F.2.1 hd ht (fun h => kt ?_ H locs ls hP hS hl) (fun h => kf ?_ H locs ls hP hS hl)
  · simp only [e1, e2, e3, e4, e5] at h; omega
  · simp only [e1, e2, e3, e4, e5] at h; omega
theorem j_icmp_ne (F : jF X G cc nL own d kc ks) {a b off : Int} {t n' : Nat} (ha : -2147483648 ≤ a ∧ a ≤ 2147483647) (hb : -2147483648 ≤ b ∧ b ≤ 2147483647) (hd : decode cc pc = .ok (.if_icmp .ne off, 3)) (ht : (pc : Int) + off = (t : Int)) (hn : pc + 3 = n') (kt : ¬ a = b → jJ X G B0 κ n kc ks Q nL φ t lv st) (kf : a = b → jJ X G B0 κ n kc ks Q nL φ n' lv st) : jJ X G B0 κ n kc ks Q nL φ pc lv (iv b :: iv a :: st) := by
  subst hn; intro H locs ls hP hS hl
  have e1 := zI_lt ha hb
  have e2 := zI_lt hb ha
  have e3 := zI_le ha hb
  have e4 := zI_le hb ha
  have e5 := zI_eq ha hb
  refine lv_icmp_ne F.1 F.2.1 hd ht (fun h => kt ?_ H locs ls hP hS hl) (fun h => kf ?_ H locs ls hP hS hl)
  · simp only [e1, e2, e3, e4, e5] at h; omega
  · simp only [e1, e2, e3, e4, e5] at h; omega
theorem j_if_ne (F : jF X G cc nL own d kc ks) {a off : Int} {t n' : Nat} (ha : -2147483648 ≤ a ∧ a ≤ 2147483647) (hd : decode cc pc = .ok (.ifCond .ne off, 3)) (ht : (pc : Int) + off = (t : Int)) (hn : pc + 3 = n') (kt : ¬ a = 0 → jJ X G B0 κ n kc ks Q nL φ t lv st) (kf : a = 0 → jJ X G B0 κ n kc ks Q nL φ n' lv st) : jJ X G B0 κ n kc ks Q nL φ pc lv (iv a :: st) := by
  subst hn; intro H locs ls hP hS hl
  have hb : -2147483648 ≤ (0 : Int) ∧ (0 : Int) ≤ 2147483647 := by decide
  have e1 := zI_lt ha hb
  have e2 := zI_lt hb ha
  have e3 := zI_le ha hb
  have e4 := zI_le hb ha
  have e5 := zI_eq ha hb
  rw [zI_zero] at e1 e2 e3 e4 e5
  refine lv_if_ne F.1 F.2.1 hd ht (fun h => kt ?_ H locs ls hP hS hl) (fun h => kf ?_ H locs ls hP hS hl)
  · simp only [e1, e2, e3, e4, e5] at h; omega
  · simp only [e1, e2, e3, e4, e5] at h; omega
theorem j_icmp_lt (F : jF X G cc nL own d kc ks) {a b off : Int} {t n' : Nat} (ha : -2147483648 ≤ a ∧ a ≤ 2147483647) (hb : -2147483648 ≤ b ∧ b ≤ 2147483647) (hd : decode cc pc = .ok (.if_icmp .lt off, 3)) (ht : (pc : Int) + off = (t : Int)) (hn : pc + 3 = n') (kt : a < b → jJ X G B0 κ n kc ks Q nL φ t lv st) (kf : b ≤ a → jJ X G B0 κ n kc ks Q nL φ n' lv st) : jJ X G B0 κ n kc ks Q nL φ pc lv (iv b :: iv a :: st) := by
  subst hn; intro H locs ls hP hS hl
  have e1 := zI_lt ha hb
  have e2 := zI_lt hb ha
  have e3 := zI_le ha hb
  have e4 := zI_le hb ha
  have e5 := zI_eq ha hb
  refine lv_icmp_lt F.1 F.2.1 hd ht (fun h => kt ?_ H locs ls hP hS hl) (fun h => kf ?_ H locs ls hP hS hl)
  · simp only [e1, e2, e3, e4, e5] at h; omega
  · simp only [e1, e2, e3, e4, e5] at h; omega
theorem j_if_lt (F : jF X G cc nL own d kc ks) {a off : Int} {t n' : Nat} (ha : -2147483648 ≤ a ∧ a ≤ 2147483647) (hd : decode cc pc = .ok (.ifCond .lt off, 3)) (ht : (pc : Int) + off = (t : Int)) (hn : pc + 3 = n') (kt : a < 0 → jJ X G B0 κ n kc ks Q nL φ t lv st) (kf : 0 ≤ a → jJ X G B0 κ n kc ks Q nL φ n' lv st) : jJ X G B0 κ n kc ks Q nL φ pc lv (iv a :: st) := by
  subst hn; intro H locs ls hP hS hl
  have hb : -2147483648 ≤ (0 : Int) ∧ (0 : Int) ≤ 2147483647 := by decide
  have e1 := zI_lt ha hb
  have e2 := zI_lt hb ha
  have e3 := zI_le ha hb
  have e4 := zI_le hb ha
  have e5 := zI_eq ha hb
  rw [zI_zero] at e1 e2 e3 e4 e5
  refine lv_if_lt F.1 F.2.1 hd ht (fun h => kt ?_ H locs ls hP hS hl) (fun h => kf ?_ H locs ls hP hS hl)
  · simp only [e1, e2, e3, e4, e5] at h; omega
  · simp only [e1, e2, e3, e4, e5] at h; omega
theorem j_icmp_ge (F : jF X G cc nL own d kc ks) {a b off : Int} {t n' : Nat} (ha : -2147483648 ≤ a ∧ a ≤ 2147483647) (hb : -2147483648 ≤ b ∧ b ≤ 2147483647) (hd : decode cc pc = .ok (.if_icmp .ge off, 3)) (ht : (pc : Int) + off = (t : Int)) (hn : pc + 3 = n') (kt : b ≤ a → jJ X G B0 κ n kc ks Q nL φ t lv st) (kf : a < b → jJ X G B0 κ n kc ks Q nL φ n' lv st) : jJ X G B0 κ n kc ks Q nL φ pc lv (iv b :: iv a :: st) := by
  subst hn; intro H locs ls hP hS hl
  have e1 := zI_lt ha hb
  have e2 := zI_lt hb ha
  have e3 := zI_le ha hb
  have e4 := zI_le hb ha
  have e5 := zI_eq ha hb
  refine lv_icmp_ge F.1 F.2.1 hd ht (fun h => kt ?_ H locs ls hP hS hl) (fun h => kf ?_ H locs ls hP hS hl)
  · simp only [e1, e2, e3, e4, e5] at h; omega
  · simp only [e1, e2, e3, e4, e5] at h; omega
theorem j_if_ge (F : jF X G cc nL own d kc ks) {a off : Int} {t n' : Nat} (ha : -2147483648 ≤ a ∧ a ≤ 2147483647) (hd : decode cc pc = .ok (.ifCond .ge off, 3)) (ht : (pc : Int) + off = (t : Int)) (hn : pc + 3 = n') (kt : 0 ≤ a → jJ X G B0 κ n kc ks Q nL φ t lv st) (kf : a < 0 → jJ X G B0 κ n kc ks Q nL φ n' lv st) : jJ X G B0 κ n kc ks Q nL φ pc lv (iv a :: st) := by
  subst hn; intro H locs ls hP hS hl
  have hb : -2147483648 ≤ (0 : Int) ∧ (0 : Int) ≤ 2147483647 := by decide
  have e1 := zI_lt ha hb
  have e2 := zI_lt hb ha
  have e3 := zI_le ha hb
  have e4 := zI_le hb ha
  have e5 := zI_eq ha hb
  rw [zI_zero] at e1 e2 e3 e4 e5
  refine lv_if_ge F.1 F.2.1 hd ht (fun h => kt ?_ H locs ls hP hS hl) (fun h => kf ?_ H locs ls hP hS hl)
  · simp only [e1, e2, e3, e4, e5] at h; omega
  · simp only [e1, e2, e3, e4, e5] at h; omega
theorem j_icmp_gt (F : jF X G cc nL own d kc ks) {a b off : Int} {t n' : Nat} (ha : -2147483648 ≤ a ∧ a ≤ 2147483647) (hb : -2147483648 ≤ b ∧ b ≤ 2147483647) (hd : decode cc pc = .ok (.if_icmp .gt off, 3)) (ht : (pc : Int) + off = (t : Int)) (hn : pc + 3 = n') (kt : b < a → jJ X G B0 κ n kc ks Q nL φ t lv st) (kf : a ≤ b → jJ X G B0 κ n kc ks Q nL φ n' lv st) : jJ X G B0 κ n kc ks Q nL φ pc lv (iv b :: iv a :: st) := by
  subst hn; intro H locs ls hP hS hl
  have e1 := zI_lt ha hb
  have e2 := zI_lt hb ha
  have e3 := zI_le ha hb
  have e4 := zI_le hb ha
  have e5 := zI_eq ha hb
  refine lv_icmp_gt F.1 F.2.1 hd ht (fun h => kt ?_ H locs ls hP hS hl) (fun h => kf ?_ H locs ls hP hS hl)
  · simp only [e1, e2, e3, e4, e5] at h; omega
  · simp only [e1, e2, e3, e4, e5] at h; omega
theorem j_if_gt (F : jF X G cc nL own d kc ks) {a off : Int} {t n' : Nat} (ha : -2147483648 ≤ a ∧ a ≤ 2147483647) (hd : decode cc pc = .ok (.ifCond .gt off, 3)) (ht : (pc : Int) + off = (t : Int)) (hn : pc + 3 = n') (kt : 0 < a → jJ X G B0 κ n kc ks Q nL φ t lv st) (kf : a ≤ 0 → jJ X G B0 κ n kc ks Q nL φ n' lv st) : jJ X G B0 κ n kc ks Q nL φ pc lv (iv a :: st) := by
  subst hn; intro H locs ls hP hS hl
  have hb : -2147483648 ≤ (0 : Int) ∧ (0 : Int) ≤ 2147483647 := by decide
  have e1 := zI_lt ha hb
  have e2 := zI_lt hb ha
  have e3 := zI_le ha hb
  have e4 := zI_le hb ha
  have e5 := zI_eq ha hb
  rw [zI_zero] at e1 e2 e3 e4 e5
  refine lv_if_gt F.1 F.2.1 hd ht (fun h => kt ?_ H locs ls hP hS hl) (fun h => kf ?_ H locs ls hP hS hl)
  · simp only [e1, e2, e3, e4, e5] at h; omega
  · simp only [e1, e2, e3, e4, e5] at h; omega
theorem j_icmp_le (F : jF X G cc nL own d kc ks) {a b off : Int} {t n' : Nat} (ha : -2147483648 ≤ a ∧ a ≤ 2147483647) (hb : -2147483648 ≤ b ∧ b ≤ 2147483647) (hd : decode cc pc = .ok (.if_icmp .le off, 3)) (ht : (pc : Int) + off = (t : Int)) (hn : pc + 3 = n') (kt : a ≤ b → jJ X G B0 κ n kc ks Q nL φ t lv st) (kf : b < a → jJ X G B0 κ n kc ks Q nL φ n' lv st) : jJ X G B0 κ n kc ks Q nL φ pc lv (iv b :: iv a :: st) := by
  subst hn; intro H locs ls hP hS hl
  have e1 := zI_lt ha hb
  have e2 := zI_lt hb ha
  have e3 := zI_le ha hb
  have e4 := zI_le hb ha
  have e5 := zI_eq ha hb
  refine lv_icmp_le F.1 F.2.1 hd ht (fun h => kt ?_ H locs ls hP hS hl) (fun h => kf ?_ H locs ls hP hS hl)
  · simp only [e1, e2, e3, e4, e5] at h; omega
  · simp only [e1, e2, e3, e4, e5] at h; omega
theorem j_if_le (F : jF X G cc nL own d kc ks) {a off : Int} {t n' : Nat} (ha : -2147483648 ≤ a ∧ a ≤ 2147483647) (hd : decode cc pc = .ok (.ifCond .le off, 3)) (ht : (pc : Int) + off = (t : Int)) (hn : pc + 3 = n') (kt : a ≤ 0 → jJ X G B0 κ n kc ks Q nL φ t lv st) (kf : 0 < a → jJ X G B0 κ n kc ks Q nL φ n' lv st) : jJ X G B0 κ n kc ks Q nL φ pc lv (iv a :: st) := by
  subst hn; intro H locs ls hP hS hl
  have hb : -2147483648 ≤ (0 : Int) ∧ (0 : Int) ≤ 2147483647 := by decide
  have e1 := zI_lt ha hb
  have e2 := zI_lt hb ha
  have e3 := zI_le ha hb
  have e4 := zI_le hb ha
  have e5 := zI_eq ha hb
  rw [zI_zero] at e1 e2 e3 e4 e5
  refine lv_if_le F.1 F.2.1 hd ht (fun h => kt ?_ H locs ls hP hS hl) (fun h => kf ?_ H locs ls hP hS hl)
  · simp only [e1, e2, e3, e4, e5] at h; omega
  · simp only [e1, e2, e3, e4, e5] at h; omega
end JBR
