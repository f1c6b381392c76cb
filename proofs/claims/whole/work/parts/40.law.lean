/-! ===== rows of the law ===== -/
section JLAW
variable {X : jX} {G : jG} {B0 : Nat} {κ : Int → Option jKd} {n kc ks : Nat} {Q : State → Prop} {nL : Nat} {φ : jPhi} {pc : Nat} {lv : List (Option Value)} {st : List Value} {cc : ByteArray} {own : String} {d : Nat}
theorem j_aloadS (F : jF X G cc nL own d kc ks) {b n' : Nat} (hl : lv[0]? = some (some (.ref b))) (hd : decode cc pc = .ok (.aload_n 0, 1)) (hn : pc + 1 = n') (k : jJ X G B0 κ n kc ks Q nL φ n' lv (.ref b :: st)) : jJ X G B0 κ n kc ks Q nL φ pc lv st := by
  subst hn; intro H locs ls hP hS hl'
  exact lv_aload_n F.1 F.2.1 hd rfl (hl'.get hl) (k H locs ls hP hS hl')
theorem j_sld (F : jF X G cc nL own d kc ks) {b L n' : Nat} {xs : Nat → Int32} {z : Int} (hX : va_X b L xs X.s X.s.heap) (hb : b < X.s.heap.size) (hB : b < B0) (hL : L ≤ 2147483647) (hz : 0 ≤ z ∧ z < (L : Int)) (hd : decode cc pc = .ok (.iaload, 1)) (hn : pc + 1 = n') (k : jJ X G B0 κ n kc ks Q nL φ n' lv (iv (xs z.toNat).toInt :: st)) : jJ X G B0 κ n kc ks Q nL φ pc lv (iv z :: .ref b :: st) := by
  subst hn; intro H locs ls hP hS hl
  have h := k H locs ls hP hS hl
  rw [iv, zI_self, ← zI_nat hz.1 (by omega)] at h
  exact va_sld F.1 F.2.1 hX hb (by omega) hS (zI_in hz.1 hz.2 hL) hd h
theorem j_slen (F : jF X G cc nL own d kc ks) {b L n' : Nat} {xs : Nat → Int32} (hX : va_X b L xs X.s X.s.heap) (hb : b < X.s.heap.size) (hB : b < B0) (hL : L ≤ 2147483647) (hd : decode cc pc = .ok (.arraylength, 1)) (hn : pc + 1 = n') (k : jJ X G B0 κ n kc ks Q nL φ n' lv (iv (L : Int) :: st)) : jJ X G B0 κ n kc ks Q nL φ pc lv (.ref b :: st) := by
  subst hn; intro H locs ls hP hS hl
  have h := k H locs ls hP hS hl
  have e : zI (L : Int) = Int32.ofNat L := by
    apply Int32.toInt_inj.mp
    rw [zI_toInt (by omega)]
    exact (nI_toInt (n := L) (by omega)).symm
  rw [iv, e] at h
  exact va_slen F.1 F.2.1 hX hb (by omega) hS hd h
theorem j_iand (F : jF X G cc nL own d kc ks) {a b : Int} {n' : Nat} (hd : decode cc pc = .ok (.iand, 1)) (hn : pc + 1 = n') (k : jJ X G B0 κ n kc ks Q nL φ n' lv (iv (zI a &&& zI b).toInt :: st)) : jJ X G B0 κ n kc ks Q nL φ pc lv (iv b :: iv a :: st) := by
  subst hn; intro H locs ls hP hS hl
  have h := k H locs ls hP hS hl
  rw [iv, zI_self] at h
  exact lv_iand F.1 F.2.1 hd h
theorem j_same (F : jF X G cc nL own d kc ks) {z off : Int} {t : Nat} (hd : decode cc pc = .ok (.if_icmp .eq off, 3)) (ht : (pc : Int) + off = (t : Int)) (k : jJ X G B0 κ n kc ks Q nL φ t lv st) : jJ X G B0 κ n kc ks Q nL φ pc lv (iv z :: iv z :: st) := by
  intro H locs ls hP hS hl
  exact lv_icmp_eq F.1 F.2.1 hd ht (fun _ => k H locs ls hP hS hl) (fun h => absurd rfl h)
end JLAW
