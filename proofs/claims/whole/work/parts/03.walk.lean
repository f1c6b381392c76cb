/-! ===== numbers: an int is zI z, a long zL z, of an Int z ===== -/
def zI (z : Int) : Int32 := Int32.ofInt z
def zL (z : Int) : Int64 := Int64.ofInt z
def iv (z : Int) : Value := .int (zI z)
def lvv (z : Int) : Value := .long (zL z)
def rf (B0 : Nat) (t : Int) : Value := .ref (B0 + t.toNat)
theorem zI_add (a b : Int) : zI (a + b) = zI a + zI b := Int32.ofInt_add a b
theorem zI_mul (a b : Int) : zI (a * b) = zI a * zI b := Int32.ofInt_mul a b
theorem zI_sub (a b : Int) : zI (a - b) = zI a - zI b := Int32.ofInt_sub a b
theorem zL_add (a b : Int) : zL (a + b) = zL a + zL b := Int64.ofInt_add a b
theorem zL_mul (a b : Int) : zL (a * b) = zL a * zL b := Int64.ofInt_mul a b
theorem zI_toInt {z : Int} (h : -2147483648 ≤ z ∧ z ≤ 2147483647) : (zI z).toInt = z := by
  unfold zI
  rw [Int32.toInt_ofInt, show Int32.size = 4294967296 from rfl, Int.bmod_def]
  split <;> omega
theorem zI_self (x : Int32) : zI x.toInt = x := Int32.ofInt_toInt x
theorem zI_of (x : Int32) : ∃ z : Int, (-2147483648 ≤ z ∧ z ≤ 2147483647) ∧ x = zI z := ⟨x.toInt, ⟨Int32.le_toInt x, by have := Int32.toInt_lt x; omega⟩, (zI_self x).symm⟩
theorem zI_lt {a b : Int} (ha : -2147483648 ≤ a ∧ a ≤ 2147483647) (hb : -2147483648 ≤ b ∧ b ≤ 2147483647) : zI a < zI b ↔ a < b := by
  rw [Int32.lt_iff_toInt_lt, zI_toInt ha, zI_toInt hb]
theorem zI_le {a b : Int} (ha : -2147483648 ≤ a ∧ a ≤ 2147483647) (hb : -2147483648 ≤ b ∧ b ≤ 2147483647) : zI a ≤ zI b ↔ a ≤ b := by
  rw [Int32.le_iff_toInt_le, zI_toInt ha, zI_toInt hb]
theorem zI_eq {a b : Int} (ha : -2147483648 ≤ a ∧ a ≤ 2147483647) (hb : -2147483648 ≤ b ∧ b ≤ 2147483647) : zI a = zI b ↔ a = b := by
  rw [← Int32.toInt_inj, zI_toInt ha, zI_toInt hb]
theorem zI_zero : zI 0 = 0 := rfl
theorem zI_long {z : Int} (h : -2147483648 ≤ z ∧ z ≤ 2147483647) : (zI z).toInt64 = zL z := by
  apply Int64.toInt_inj.mp
  rw [Int32.toInt_toInt64, zI_toInt h]
  unfold zL
  rw [Int64.toInt_ofInt, show Int64.size = 18446744073709551616 from rfl, Int.bmod_def]
  split <;> omega
theorem zI_nat {z : Int} (h0 : 0 ≤ z) (h : z ≤ 2147483647) : (zI z).toNatClampNeg = z.toNat := by
  have e : zI z = nI z.toNat := by
    unfold zI nI
    rw [← Int32.ofInt_eq_ofNat]
    congr 1
    omega
  rw [e, nI_clamp (by omega)]
theorem zI_in {z : Int} {N : Nat} (h0 : 0 ≤ z) (h : z < N) (hN : N ≤ 2147483647) : vp_in (zI z) N := by
  unfold vp_in
  rw [zI_nat h0 (by omega)]
  rintro (h1 | h1)
  · have := (zI_lt (a := z) (b := 0) (by omega) (by omega)).mp h1
    omega
  · omega
theorem zI_div {a b : Int} (ha : 0 ≤ a ∧ a ≤ 2147483647) (hb : 0 < b ∧ b ≤ 2147483647) : zI a / zI b = zI (a / b) := by
  have e : ∀ {z : Int}, 0 ≤ z → zI z = nI z.toNat := by
    intro z hz
    unfold zI nI
    rw [← Int32.ofInt_eq_ofNat]
    congr 1
    omega
  have hq : 0 ≤ a / b := Int.ediv_nonneg ha.1 (by omega)
  rw [e ha.1, e (by omega : 0 ≤ b), e hq, pk_div (by omega) (by omega) (by omega)]
  congr 1
  have h1 : ((a.toNat / b.toNat : Nat) : Int) = a / b := by
    rw [Int.natCast_ediv, Int.toNat_of_nonneg ha.1, Int.toNat_of_nonneg (by omega : 0 ≤ b)]
  omega
theorem zI_rem {a b : Int} (ha : 0 ≤ a ∧ a ≤ 2147483647) (hb : 0 < b ∧ b ≤ 2147483647) : zI a - zI a / zI b * zI b = zI (a % b) := by
  rw [zI_div ha hb, ← zI_mul, ← zI_sub]
  congr 1
  have := Int.emod_add_mul_ediv a b
  have h2 : b * (a / b) = a / b * b := Int.mul_comm _ _
  omega
/-! ===== the heap's picture: cells by their numbers from B0 on; what they hold is an Int -/
abbrev jPhi : Type := Int → Int → Int
abbrev jSl : Type := Int ⊕ Nat
abbrev jKd : Type := (Nat × List jSl) ⊕ (Nat ⊕ (Nat × Int))
abbrev jG : Type := va_G × ClassId × ClassId
/-- one place written -/
def zU (φ : jPhi) (i k v : Int) : jPhi := fun a b => if a = i ∧ b = k then v else φ a b
theorem zU_self (φ : jPhi) (i k v : Int) : zU φ i k v i k = v := by simp [zU]
theorem zU_ne {φ : jPhi} {i k v a b : Int} (h : ¬ (a = i ∧ b = k)) : zU φ i k v a b = φ a b := by simp [zU, h]
def jval (B0 : Nat) (c : jSl) (z : Int) : Value := match c with
  | .inl t => rf B0 t
  | .inr 0 => iv z
  | .inr 1 => lvv z
  | .inr _ => .null
abbrev jclasses : List vw_C := [(RX0, TX0, 4), (RX1, TX1, 8), (RX2, TX2, 2), (RX3, TX3, 2), (RX4, TX4, 3), (RX6, TX6, 4), (RX7, TX7, 17), (RX8, TX8, 24)]
def jcell (G : jG) (B0 : Nat) (φ : jPhi) (i : Int) (kd : jKd) (H : Heap) : Prop := match kd with
  | .inl o => t_OB (B0 + i.toNat) (G.1.1 o.1) o.2.length (G.1.2 o.1) H (fun k => jval B0 (o.2.getD k (.inr 2)) (φ i k))
  | .inr (.inl N) => H[B0 + i.toNat]? = some (arrV G.2.1 N (fun j => iv (φ i j)))
  | .inr (.inr q) => H[B0 + i.toNat]? = some (arrV G.2.2 q.1 (fun j => rf B0 (q.2 + j)))
def jP (G : jG) (B0 : Nat) (κ : Int → Option jKd) (n : Nat) (φ : jPhi) (H : Heap) : Prop :=
  H.size = B0 + n ∧ ∀ (i : Int) (kd : jKd), κ i = some kd → (0 ≤ i ∧ i.toNat < n) ∧ jcell G B0 φ i kd H
def jnest : List Cond := [.methodLinkNest RX7 9 yX2_init "PricedCopies", .methodLinkNest RX7 18 yX1_init "PricedCopies", .methodLinkNest RX1 17 yX6_init "PricedCopies", .methodLinkNest RX7 25 yX4_init "PricedCopies", .methodLinkNest RX7 32 yX3_init "PricedCopies", .methodLinkNest RX7 39 yX0_init "PricedCopies", .methodLinkNest RX7 46 yX6_init "PricedCopies", .methodLinkNest RX3 48 yX7_log "PricedCopies", .methodLinkNest RX3 26 yX7_isPrice "PricedCopies", .fieldLinkNest RX3 9 "PricedCopies" "FIRST_PRICES" "[I" "PricedCopies"]
def jK (G : jG) (s : State) : Prop := va_K G.1 jclasses [(G.2.1, .int), (G.2.2, .array .int)] s ∧ ∀ w ∈ jnest, va_Nw w s
theorem jK.warm {G : jG} {s U : State} (hW : s.WarmedH U.vm) (h : jK G s) : jK G U := by
  refine ⟨va_K.moved hW.alike h.1, fun w hw => ?_⟩
  have h1 := h.2 w hw
  simp only [jnest, List.mem_cons, List.not_mem_nil, or_false] at hw
  rcases hw with rfl | rfl | rfl | rfl | rfl | rfl | rfl | rfl | rfl | rfl
  · exact h1.warmM hW
  · exact h1.warmM hW
  · exact h1.warmM hW
  · exact h1.warmM hW
  · exact h1.warmM hW
  · exact h1.warmM hW
  · exact h1.warmM hW
  · exact h1.warmM hW
  · exact h1.warmM hW
  · exact h1.warmF hW
theorem jK.calling {G : jG} {U : State} {a : Array Value} {g : JFrame} {mk : MethodId} (h : jK G U) : jK G (U.calling g mk a) := by
  refine ⟨va_K.moved (u := U) (U := U.calling g mk a) (Vm.Alike.refl U.vm) h.1, fun w hw => ?_⟩
  have h1 := h.2 w hw
  simp only [jnest, List.mem_cons, List.not_mem_nil, or_false] at hw
  rcases hw with rfl | rfl | rfl | rfl | rfl | rfl | rfl | rfl | rfl | rfl <;> exact va_Nw.same rfl (u := U) (U := U.calling g mk a) rfl h1
/-! ===== the locals: a list, none where nothing is known ===== -/
def jprs : Nat → List (Option Value) → List (Nat × Value)
  | _, [] => []
  | k, none :: r => jprs (k + 1) r
  | k, some v :: r => (k, v) :: jprs (k + 1) r
theorem jprs_mem : ∀ (lv : List (Option Value)) (b k : Nat) (v : Value), (k, v) ∈ jprs b lv ↔ b ≤ k ∧ lv[k - b]? = some (some v)
  | [], b, k, v => by simp [jprs]
  | none :: r, b, k, v => by
    rw [jprs, jprs_mem r (b + 1) k v]
    by_cases h : b = k
    · subst h
      simp
      omega
    · by_cases h2 : b + 1 ≤ k
      · have e : k - b = (k - (b + 1)) + 1 := by omega
        rw [e, List.getElem?_cons_succ]
        constructor
        · rintro ⟨_, h3⟩; exact ⟨by omega, h3⟩
        · rintro ⟨_, h3⟩; exact ⟨by omega, h3⟩
      · constructor
        · rintro ⟨h3, _⟩; omega
        · rintro ⟨h3, _⟩; omega
  | some w :: r, b, k, v => by
    rw [jprs, List.mem_cons, jprs_mem r (b + 1) k v]
    by_cases h : b = k
    · subst h
      simp
      constructor
      · rintro (h | h)
        · exact h.symm
        · omega
      · intro h
        exact Or.inl h.symm
    · by_cases h2 : b + 1 ≤ k
      · have e : k - b = (k - (b + 1)) + 1 := by omega
        rw [e, List.getElem?_cons_succ]
        constructor
        · rintro (h3 | ⟨_, h3⟩)
          · cases h3; exact absurd rfl h
          · exact ⟨by omega, h3⟩
        · rintro ⟨_, h3⟩; exact Or.inr ⟨by omega, h3⟩
      · constructor
        · rintro (h3 | ⟨h3, _⟩)
          · cases h3; exact absurd rfl h
          · omega
        · rintro ⟨h3, _⟩; omega
def jlh (ls : Array Slot) (nL : Nat) (lv : List (Option Value)) : Prop := lv_has ls nL (jprs 0 lv)
theorem jlh.get {ls : Array Slot} {nL : Nat} {lv : List (Option Value)} (h : jlh ls nL lv) {k : Nat} {v : Value} (hk : lv[k]? = some (some v)) : ls[k]? = some (.val v) :=
  h.2.2 (k, v) ((jprs_mem lv 0 k v).mpr ⟨Nat.zero_le _, hk⟩)
theorem jlh.set {ls : Array Slot} {nL : Nat} {lv : List (Option Value)} {i : Nat} {v : Value} {t : List (Nat × Value)} (ht : t = (i, v) :: (jprs 0 lv).filter (fun q => !(q.1 == i) && !(q.1 + 1 == i && q.2.category == 2))) (h : lv_has ls nL t) (hc : ∀ w : Value, 0 < i → lv[i - 1]? = some (some w) → w.category = 1) : jlh ls nL (lv.set i (some v)) := by
  refine ⟨h.1, h.2.1, fun q hq => h.2.2 q ?_⟩
  rw [ht]
  obtain ⟨k, w⟩ := q
  obtain ⟨-, h2⟩ := (jprs_mem _ 0 k w).mp hq
  by_cases hk : k = i
  · subst hk
    rw [Nat.sub_zero, List.getElem?_set] at h2
    simp at h2
    rw [h2.2]
    exact List.mem_cons_self
  · rw [Nat.sub_zero, List.getElem?_set_ne (Ne.symm hk)] at h2
    refine List.mem_cons_of_mem _ (List.mem_filter.mpr ⟨(jprs_mem lv 0 k w).mpr ⟨Nat.zero_le _, h2⟩, ?_⟩)
    by_cases hk2 : k + 1 = i
    · have := hc w (by omega) (by rw [← hk2]; exact h2)
      simp [hk, this]
    · simp [hk, hk2]
/-! ===== the walk's judgement ===== -/
abbrev jX : Type := Program × Launch × Env × Room × State × MethodId × Array Value × List Frame × Method × Code
abbrev jX.p (X : jX) : Program := X.1
abbrev jX.l (X : jX) : Launch := X.2.1
abbrev jX.e (X : jX) : Env := X.2.2.1
abbrev jX.R (X : jX) : Room := X.2.2.2.1
abbrev jX.s (X : jX) : State := X.2.2.2.2.1
abbrev jX.m (X : jX) : MethodId := X.2.2.2.2.2.1
abbrev jX.args (X : jX) : Array Value := X.2.2.2.2.2.2.1
abbrev jX.below (X : jX) : List Frame := X.2.2.2.2.2.2.2.1
abbrev jX.meth (X : jX) : Method := X.2.2.2.2.2.2.2.2.1
abbrev jX.c (X : jX) : Code := X.2.2.2.2.2.2.2.2.2
/-- what is fixed in a method's walk: the machine, the code cc of nL locals, the class own, the words, the tables, room for d levels of calls -/
def jF (X : jX) (G : jG) (cc : ByteArray) (nL : Nat) (own : String) (d kc ks : Nat) : Prop :=
  X.p.tables.exec = Jvm.exec ∧ X.c.code = cc ∧ X.c.maxLocals = nL ∧ X.s.vm.findClass own = some X.m.cls ∧ (∀ w ∈ lw_good, w.before X.args X.s = true) ∧ jK G X.s ∧ (d ≤ X.R.frames ∧ 40 * d ≤ X.R.locals) ∧ (kc ≤ X.R.cells ∧ ks ≤ X.R.slots)
def jW (X : jX) (H : Heap) (locs : List Loc) (kc ks : Nat) (Q : State → Prop) (g : JFrame) : Prop := W X.p X.l X.e X.R X.s X.m X.args X.below X.meth X.c H locs kc ks Q g
def jJ (X : jX) (G : jG) (B0 : Nat) (κ : Int → Option jKd) (n kc ks : Nat) (Q : State → Prop) (nL : Nat) (φ : jPhi) (pc : Nat) (lv : List (Option Value)) (st : List Value) : Prop :=
  ∀ (H : Heap) (locs : List Loc) (ls : Array Slot), jP G B0 κ n φ H → va_S (fun q => B0 ≤ q) X.s.heap H locs → jlh ls nL lv → jW X H locs kc ks Q (F0 X.m pc ls st)
section JROWS
variable {X : jX} {G : jG} {B0 : Nat} {κ : Int → Option jKd} {n kc ks : Nat} {Q : State → Prop} {nL : Nat} {φ : jPhi} {pc : Nat} {lv : List (Option Value)} {st : List Value} {cc : ByteArray} {own : String} {d : Nat}
theorem j_iconst (F : jF X G cc nL own d kc ks) {z : Int} {n' : Nat} (hd : decode cc pc = .ok (.iconst z, 1)) (hn : pc + 1 = n') (k : jJ X G B0 κ n kc ks Q nL φ n' lv (iv z :: st)) : jJ X G B0 κ n kc ks Q nL φ pc lv st := by
  subst hn; intro H locs ls hP hS hl
  exact lv_iconst F.1 F.2.1 hd rfl (k H locs ls hP hS hl)
theorem j_bipush (F : jF X G cc nL own d kc ks) {z : Int} {n' : Nat} (hd : decode cc pc = .ok (.bipush z, 2)) (hz : -128 ≤ z ∧ z ≤ 127) (hn : pc + 2 = n') (k : jJ X G B0 κ n kc ks Q nL φ n' lv (iv z :: st)) : jJ X G B0 κ n kc ks Q nL φ pc lv st := by
  subst hn; intro H locs ls hP hS hl
  refine lv_bipush F.1 F.2.1 hd ?_ (k H locs ls hP hS hl)
  apply Int32.toInt_inj.mp
  rw [Int8.toInt_toInt32, zI_toInt (by omega), Int8.toInt_ofInt, show Int8.size = 256 from rfl, Int.bmod_def]
  split <;> omega
theorem j_sipush (F : jF X G cc nL own d kc ks) {z : Int} {n' : Nat} (hd : decode cc pc = .ok (.sipush z, 3)) (hz : -32768 ≤ z ∧ z ≤ 32767) (hn : pc + 3 = n') (k : jJ X G B0 κ n kc ks Q nL φ n' lv (iv z :: st)) : jJ X G B0 κ n kc ks Q nL φ pc lv st := by
  subst hn; intro H locs ls hP hS hl
  refine lv_sipush F.1 F.2.1 hd ?_ (k H locs ls hP hS hl)
  apply Int32.toInt_inj.mp
  rw [Int16.toInt_toInt32, zI_toInt (by omega), Int16.toInt_ofInt, show Int16.size = 65536 from rfl, Int.bmod_def]
  split <;> omega
theorem j_iload_n (F : jF X G cc nL own d kc ks) {i : Fin 4} {z : Int} {n' : Nat} (hl : lv[(i : Nat)]? = some (some (iv z))) (hd : decode cc pc = .ok (.iload_n i, 1)) (hn : pc + 1 = n') (k : jJ X G B0 κ n kc ks Q nL φ n' lv (iv z :: st)) : jJ X G B0 κ n kc ks Q nL φ pc lv st := by
  subst hn; intro H locs ls hP hS hl'
  exact lv_iload_n F.1 F.2.1 hd rfl (hl'.get hl) (k H locs ls hP hS hl')
theorem j_iload (F : jF X G cc nL own d kc ks) {i : Nat} {z : Int} {n' : Nat} (hl : lv[i]? = some (some (iv z))) (hd : decode cc pc = .ok (.iload i, 2)) (hn : pc + 2 = n') (k : jJ X G B0 κ n kc ks Q nL φ n' lv (iv z :: st)) : jJ X G B0 κ n kc ks Q nL φ pc lv st := by
  subst hn; intro H locs ls hP hS hl'
  exact lv_iload F.1 F.2.1 hd (hl'.get hl) (k H locs ls hP hS hl')
theorem j_lload_n (F : jF X G cc nL own d kc ks) {i : Fin 4} {z : Int} {n' : Nat} (hl : lv[(i : Nat)]? = some (some (lvv z))) (hd : decode cc pc = .ok (.lload_n i, 1)) (hn : pc + 1 = n') (k : jJ X G B0 κ n kc ks Q nL φ n' lv (lvv z :: st)) : jJ X G B0 κ n kc ks Q nL φ pc lv st := by
  subst hn; intro H locs ls hP hS hl'
  exact lv_lload_n F.1 F.2.1 hd rfl (hl'.get hl) (k H locs ls hP hS hl')
theorem j_aload_n (F : jF X G cc nL own d kc ks) {i : Fin 4} {z : Int} {n' : Nat} (hl : lv[(i : Nat)]? = some (some (rf B0 z))) (hd : decode cc pc = .ok (.aload_n i, 1)) (hn : pc + 1 = n') (k : jJ X G B0 κ n kc ks Q nL φ n' lv (rf B0 z :: st)) : jJ X G B0 κ n kc ks Q nL φ pc lv st := by
  subst hn; intro H locs ls hP hS hl'
  exact lv_aload_n F.1 F.2.1 hd rfl (hl'.get hl) (k H locs ls hP hS hl')
theorem j_aload (F : jF X G cc nL own d kc ks) {i : Nat} {z : Int} {n' : Nat} (hl : lv[i]? = some (some (rf B0 z))) (hd : decode cc pc = .ok (.aload i, 2)) (hn : pc + 2 = n') (k : jJ X G B0 κ n kc ks Q nL φ n' lv (rf B0 z :: st)) : jJ X G B0 κ n kc ks Q nL φ pc lv st := by
  subst hn; intro H locs ls hP hS hl'
  exact lv_aload F.1 F.2.1 hd (hl'.get hl) (k H locs ls hP hS hl')
theorem j_istore_n (F : jF X G cc nL own d kc ks) {i : Fin 4} {z : Int} {n' : Nat} {lv' : List (Option Value)} (hs : lv.set (i : Nat) (some (iv z)) = lv') (hi : (i : Nat) < nL) (hc : ∀ w : Value, 0 < (i : Nat) → lv[(i : Nat) - 1]? = some (some w) → w.category = 1) (hd : decode cc pc = .ok (.istore_n i, 1)) (hn : pc + 1 = n') (k : jJ X G B0 κ n kc ks Q nL φ n' lv' st) : jJ X G B0 κ n kc ks Q nL φ pc lv (iv z :: st) := by
  subst hn; subst hs; intro H locs ls hP hS hl'
  exact lv_istore_n F.1 F.2.1 hd rfl hl' hi rfl (fun ls' h => k H locs ls' hP hS (jlh.set rfl h hc))
theorem j_istore (F : jF X G cc nL own d kc ks) {i : Nat} {z : Int} {n' : Nat} {lv' : List (Option Value)} (hs : lv.set i (some (iv z)) = lv') (hi : i < nL) (hc : ∀ w : Value, 0 < i → lv[i - 1]? = some (some w) → w.category = 1) (hd : decode cc pc = .ok (.istore i, 2)) (hn : pc + 2 = n') (k : jJ X G B0 κ n kc ks Q nL φ n' lv' st) : jJ X G B0 κ n kc ks Q nL φ pc lv (iv z :: st) := by
  subst hn; subst hs; intro H locs ls hP hS hl'
  exact lv_istore F.1 F.2.1 hd hl' hi rfl (fun ls' h => k H locs ls' hP hS (jlh.set rfl h hc))
theorem j_astore_n (F : jF X G cc nL own d kc ks) {i : Fin 4} {z : Int} {n' : Nat} {lv' : List (Option Value)} (hs : lv.set (i : Nat) (some (rf B0 z)) = lv') (hi : (i : Nat) < nL) (hc : ∀ w : Value, 0 < (i : Nat) → lv[(i : Nat) - 1]? = some (some w) → w.category = 1) (hd : decode cc pc = .ok (.astore_n i, 1)) (hn : pc + 1 = n') (k : jJ X G B0 κ n kc ks Q nL φ n' lv' st) : jJ X G B0 κ n kc ks Q nL φ pc lv (rf B0 z :: st) := by
  subst hn; subst hs; intro H locs ls hP hS hl'
  exact lv_astore_n F.1 F.2.1 hd rfl hl' hi rfl (fun ls' h => k H locs ls' hP hS (jlh.set rfl h hc))
theorem j_iinc (F : jF X G cc nL own d kc ks) {i : Nat} {z c : Int} {n' : Nat} {lv' : List (Option Value)} (hl : lv[i]? = some (some (iv z))) (hs : lv.set i (some (iv (z + c))) = lv') (hi : i < nL) (hc : ∀ w : Value, 0 < i → lv[i - 1]? = some (some w) → w.category = 1) (hd : decode cc pc = .ok (.iinc i c, 3)) (hn : pc + 3 = n') (k : jJ X G B0 κ n kc ks Q nL φ n' lv' st) : jJ X G B0 κ n kc ks Q nL φ pc lv st := by
  subst hn; subst hs; intro H locs ls hP hS hl'
  obtain ⟨q, hq⟩ := List.getElem?_of_mem ((jprs_mem lv 0 i (iv z)).mpr ⟨Nat.zero_le _, hl⟩)
  exact lv_iinc F.1 F.2.1 hd hl' (k := q) hq (zI_add z c).symm hi rfl (fun ls' h => k H locs ls' hP hS (jlh.set rfl h hc))
theorem j_iadd (F : jF X G cc nL own d kc ks) {a b : Int} {n' : Nat} (hd : decode cc pc = .ok (.iadd, 1)) (hn : pc + 1 = n') (k : jJ X G B0 κ n kc ks Q nL φ n' lv (iv (a + b) :: st)) : jJ X G B0 κ n kc ks Q nL φ pc lv (iv b :: iv a :: st) := by
  subst hn; intro H locs ls hP hS hl
  have h := k H locs ls hP hS hl
  rw [iv, zI_add] at h
  exact lv_iadd F.1 F.2.1 hd h
theorem j_isub (F : jF X G cc nL own d kc ks) {a b : Int} {n' : Nat} (hd : decode cc pc = .ok (.isub, 1)) (hn : pc + 1 = n') (k : jJ X G B0 κ n kc ks Q nL φ n' lv (iv (a - b) :: st)) : jJ X G B0 κ n kc ks Q nL φ pc lv (iv b :: iv a :: st) := by
  subst hn; intro H locs ls hP hS hl
  have h := k H locs ls hP hS hl
  rw [iv, zI_sub] at h
  exact lv_isub F.1 F.2.1 hd h
theorem j_imul (F : jF X G cc nL own d kc ks) {a b : Int} {n' : Nat} (hd : decode cc pc = .ok (.imul, 1)) (hn : pc + 1 = n') (k : jJ X G B0 κ n kc ks Q nL φ n' lv (iv (a * b) :: st)) : jJ X G B0 κ n kc ks Q nL φ pc lv (iv b :: iv a :: st) := by
  subst hn; intro H locs ls hP hS hl
  have h := k H locs ls hP hS hl
  rw [iv, zI_mul] at h
  exact lv_imul F.1 F.2.1 hd h
theorem j_idiv (F : jF X G cc nL own d kc ks) {a b : Int} {n' : Nat} (ha : 0 ≤ a ∧ a ≤ 2147483647) (hb : 0 < b ∧ b ≤ 2147483647) (hd : decode cc pc = .ok (.idiv, 1)) (hn : pc + 1 = n') (k : jJ X G B0 κ n kc ks Q nL φ n' lv (iv (a / b) :: st)) : jJ X G B0 κ n kc ks Q nL φ pc lv (iv b :: iv a :: st) := by
  subst hn; intro H locs ls hP hS hl
  have h := k H locs ls hP hS hl
  rw [iv, ← zI_div ha hb] at h
  exact lv_idiv F.1 F.2.1 hd (fun q => by have := (zI_eq (a := b) (b := 0) (by omega) (by omega)).mp q; omega) h
theorem j_irem (F : jF X G cc nL own d kc ks) {a b : Int} {n' : Nat} (ha : 0 ≤ a ∧ a ≤ 2147483647) (hb : 0 < b ∧ b ≤ 2147483647) (hd : decode cc pc = .ok (.irem, 1)) (hn : pc + 1 = n') (k : jJ X G B0 κ n kc ks Q nL φ n' lv (iv (a % b) :: st)) : jJ X G B0 κ n kc ks Q nL φ pc lv (iv b :: iv a :: st) := by
  subst hn; intro H locs ls hP hS hl
  have h := k H locs ls hP hS hl
  rw [iv, ← zI_rem ha hb] at h
  exact lv_irem F.1 F.2.1 hd (fun q => by have := (zI_eq (a := b) (b := 0) (by omega) (by omega)).mp q; omega) h
theorem j_i2l (F : jF X G cc nL own d kc ks) {a : Int} {n' : Nat} (ha : -2147483648 ≤ a ∧ a ≤ 2147483647) (hd : decode cc pc = .ok (.i2l, 1)) (hn : pc + 1 = n') (k : jJ X G B0 κ n kc ks Q nL φ n' lv (lvv a :: st)) : jJ X G B0 κ n kc ks Q nL φ pc lv (iv a :: st) := by
  subst hn; intro H locs ls hP hS hl
  exact lv_i2l F.1 F.2.1 hd (zI_long ha) (k H locs ls hP hS hl)
theorem j_ladd (F : jF X G cc nL own d kc ks) {a b : Int} {n' : Nat} (hd : decode cc pc = .ok (.ladd, 1)) (hn : pc + 1 = n') (k : jJ X G B0 κ n kc ks Q nL φ n' lv (lvv (a + b) :: st)) : jJ X G B0 κ n kc ks Q nL φ pc lv (lvv b :: lvv a :: st) := by
  subst hn; intro H locs ls hP hS hl
  have h := k H locs ls hP hS hl
  rw [lvv, zL_add] at h
  exact lv_ladd F.1 F.2.1 hd h
theorem j_lmul (F : jF X G cc nL own d kc ks) {a b : Int} {n' : Nat} (hd : decode cc pc = .ok (.lmul, 1)) (hn : pc + 1 = n') (k : jJ X G B0 κ n kc ks Q nL φ n' lv (lvv (a * b) :: st)) : jJ X G B0 κ n kc ks Q nL φ pc lv (lvv b :: lvv a :: st) := by
  subst hn; intro H locs ls hP hS hl
  have h := k H locs ls hP hS hl
  rw [lvv, zL_mul] at h
  exact lv_lmul F.1 F.2.1 hd h
theorem j_dup (F : jF X G cc nL own d kc ks) {v : Value} {n' : Nat} (hv : v.category = 1) (hd : decode cc pc = .ok (.dup, 1)) (hn : pc + 1 = n') (k : jJ X G B0 κ n kc ks Q nL φ n' lv (v :: v :: st)) : jJ X G B0 κ n kc ks Q nL φ pc lv (v :: st) := by
  subst hn; intro H locs ls hP hS hl
  exact lv_dup F.1 F.2.1 hd hv (k H locs ls hP hS hl)
theorem j_pop (F : jF X G cc nL own d kc ks) {v : Value} {n' : Nat} (hv : v.category = 1) (hd : decode cc pc = .ok (.pop, 1)) (hn : pc + 1 = n') (k : jJ X G B0 κ n kc ks Q nL φ n' lv st) : jJ X G B0 κ n kc ks Q nL φ pc lv (v :: st) := by
  subst hn; intro H locs ls hP hS hl
  exact lv_pop F.1 F.2.1 hd hv (k H locs ls hP hS hl)
theorem j_dup2 (F : jF X G cc nL own d kc ks) {v w : Value} {n' : Nat} (hv : v.category = 1) (hw : w.category = 1) (hd : decode cc pc = .ok (.dup2, 1)) (hn : pc + 1 = n') (k : jJ X G B0 κ n kc ks Q nL φ n' lv (v :: w :: v :: w :: st)) : jJ X G B0 κ n kc ks Q nL φ pc lv (v :: w :: st) := by
  subst hn; intro H locs ls hP hS hl
  exact lv_dup2_11 F.1 F.2.1 hd hv hw (k H locs ls hP hS hl)
theorem j_goto (F : jF X G cc nL own d kc ks) {off : Int} {t : Nat} (hd : decode cc pc = .ok (.goto off, 3)) (ht : (pc : Int) + off = (t : Int)) (k : jJ X G B0 κ n kc ks Q nL φ t lv st) : jJ X G B0 κ n kc ks Q nL φ pc lv st := by
  intro H locs ls hP hS hl
  exact lv_goto F.1 F.2.1 hd ht (k H locs ls hP hS hl)
theorem j_top {v w : Value} (h : v = w) (k : jJ X G B0 κ n kc ks Q nL φ pc lv (w :: st)) : jJ X G B0 κ n kc ks Q nL φ pc lv (v :: st) := h ▸ k
theorem j_ldc (F : jF X G cc nL own d kc ks) {index : Nat} {z : Int} {v : Int32} {n' : Nat} (hz : zI z = v) (hq : Cond.constant own index v ∈ lw_good) (hd : decode cc pc = .ok (.ldc index, 2)) (hn : pc + 2 = n') (k : jJ X G B0 κ n kc ks Q nL φ n' lv (iv z :: st)) : jJ X G B0 κ n kc ks Q nL φ pc lv st := by
  subst hn; subst hz; intro H locs ls hP hS hl
  exact lv_ldc F.1 F.2.1 F.2.2.2.1 (F.2.2.2.2.1 _ hq) hd (k H locs ls hP hS hl)
theorem j_ldc2 (F : jF X G cc nL own d kc ks) {index : Nat} {z : Int} {v : Int64} {n' : Nat} (hz : zL z = v) (hq : Cond.constantLong own index v ∈ lw_good) (hd : decode cc pc = .ok (.ldc2_w index, 3)) (hn : pc + 3 = n') (k : jJ X G B0 κ n kc ks Q nL φ n' lv (lvv z :: st)) : jJ X G B0 κ n kc ks Q nL φ pc lv st := by
  subst hn; subst hz; intro H locs ls hP hS hl
  exact lv_ldc2 F.1 F.2.1 F.2.2.2.1 (F.2.2.2.2.1 _ hq) hd (k H locs ls hP hS hl)
end JROWS
