theorem jcell_congr {G : jG} {B0 : Nat} {φ φ' : jPhi} {i : Int} {kd : jKd} {H H' : Heap} (hφ : ∀ b, φ' i b = φ i b) (hH : H'[B0 + i.toNat]? = H[B0 + i.toNat]?) (h : jcell G B0 φ i kd H) : jcell G B0 φ' i kd H' := by
  have e : φ' i = φ i := funext hφ
  match kd, h with
  | .inl o, h =>
    unfold jcell at h ⊢
    simp only [e] at h ⊢
    exact h.kept hH
  | .inr (.inl N), h =>
    unfold jcell at h ⊢
    simp only [e] at h ⊢
    exact hH.trans h
  | .inr (.inr q), h =>
    unfold jcell at h ⊢
    exact hH.trans h
theorem jP.put {G : jG} {B0 : Nat} {κ : Int → Option jKd} {n : Nat} {φ : jPhi} {H H' : Heap} (h : jP G B0 κ n φ H) {i k v : Int} {kd : jKd} (hκ : κ i = some kd) (hz : H'.size = H.size) (oq : ∀ q, q ≠ B0 + i.toNat → H'[q]? = H[q]?) (hc : jcell G B0 (zU φ i k v) i kd H') : jP G B0 κ n (zU φ i k v) H' := by
  refine ⟨hz.trans h.1, fun j kd' hj => ⟨(h.2 j kd' hj).1, ?_⟩⟩
  by_cases e : j = i
  · subst e
    rw [hκ] at hj
    cases hj
    exact hc
  · have h1 := (h.2 j kd' hj).1
    have h2 := (h.2 i kd hκ).1
    exact jcell_congr (fun b => zU_ne (fun q => e q.1)) (oq _ (fun q => e (by omega))) (h.2 j kd' hj).2
/-- what the tables say of a field: by the place of its class and its own -/
def jLF (own : String) (index ci N k : Nat) : Prop := ∃ (C : String) (T : u_T), jclasses[ci]? = some (C, T, N) ∧ k < N ∧ (∀ w ∈ u_ws C T N, w ∈ lw_good) ∧ Cond.fieldLink own index (T k).1 (T k).2.1 (T k).2.2.1 ∈ lw_good
def jLP (own : String) (index ci N k : Nat) (ty : FieldType) : Prop := ∃ (C : String) (T : u_T) (ty0 : Nat → FieldType), jclasses[ci]? = some (C, T, N) ∧ k < N ∧ (∀ w ∈ u_ws C T N, w ∈ lw_good) ∧ Cond.fieldLink own index (T k).1 (T k).2.1 (T k).2.2.1 ∈ lw_good ∧ (∀ k, k < N → parseFieldDescriptor (T k).2.2.1 = some (ty0 k)) ∧ (∀ a, a < N → ∀ b, b < N → a ≠ b → (T a).2.1 ≠ (T b).2.1) ∧ (T k).2.2.2 = false ∧ parseFieldDescriptor (T k).2.2.1 = some ty
section JHEAP
variable {X : jX} {G : jG} {B0 : Nat} {κ : Int → Option jKd} {n kc ks : Nat} {Q : State → Prop} {nL : Nat} {φ : jPhi} {pc : Nat} {lv : List (Option Value)} {st : List Value} {cc : ByteArray} {own : String} {d : Nat}
theorem j_getV (F : jF X G cc nL own d kc ks) {index ci N k : Nat} {i : Int} {cs : List jSl} {sl : jSl} {n' : Nat} (hf : jLF own index ci N k) (hκ : κ i = some (.inl (ci, cs))) (hcs : cs[k]? = some sl) (hd : decode cc pc = .ok (.getfield index, 3)) (hn : pc + 3 = n') (kk : jJ X G B0 κ n kc ks Q nL φ n' lv (jval B0 sl (φ i k) :: st)) : jJ X G B0 κ n kc ks Q nL φ pc lv (rf B0 i :: st) := by
  subst hn; intro H locs ls hP hS hl
  obtain ⟨C, T, hc, hk, hin, hlink⟩ := hf
  obtain ⟨cell, q1, q2, q3, q4⟩ := (hP.2 i _ hκ).2
  obtain ⟨hSl, hfc, kC, hkC, hkind⟩ := F.2.2.2.2.2.1.1.1 ci _ hc
  obtain ⟨cf, kf, fi, f, hi, hsl⟩ := hSl k hk
  have hkl : k < cs.length := (List.getElem?_eq_some_iff.mp hcs).1
  refine W.getf F.1 F.2.1 F.2.2.2.1 (F.2.2.2.2.1 _ hlink) hi (u_facts hfc hkC (u_lays F.2.2.2.2.1 hin hk) hi).1 q1 (by rw [q3]; exact fun h => by cases h) (v := jval B0 sl (φ i k)) ?_ rfl rfl hd (kk H locs ls hP hS hl)
  rw [hsl, q4 k hkl]
  simp [List.getD, hcs]
theorem j_getI (F : jF X G cc nL own d kc ks) {index ci N k : Nat} {i : Int} {cs : List jSl} {n' : Nat} (kz : Int) (hkz : ((k : Nat) : Int) = kz) (hf : jLF own index ci N k) (hκ : κ i = some (.inl (ci, cs))) (hcs : cs[k]? = some (.inr 0)) (hd : decode cc pc = .ok (.getfield index, 3)) (hn : pc + 3 = n') (kk : jJ X G B0 κ n kc ks Q nL φ n' lv (iv (φ i kz) :: st)) : jJ X G B0 κ n kc ks Q nL φ pc lv (rf B0 i :: st) := by
  subst hkz
  exact j_getV F hf hκ hcs hd hn kk
theorem j_getL (F : jF X G cc nL own d kc ks) {index ci N k : Nat} {i : Int} {cs : List jSl} {n' : Nat} (kz : Int) (hkz : ((k : Nat) : Int) = kz) (hf : jLF own index ci N k) (hκ : κ i = some (.inl (ci, cs))) (hcs : cs[k]? = some (.inr 1)) (hd : decode cc pc = .ok (.getfield index, 3)) (hn : pc + 3 = n') (kk : jJ X G B0 κ n kc ks Q nL φ n' lv (lvv (φ i kz) :: st)) : jJ X G B0 κ n kc ks Q nL φ pc lv (rf B0 i :: st) := by
  subst hkz
  exact j_getV F hf hκ hcs hd hn kk
theorem j_getR (F : jF X G cc nL own d kc ks) {index ci N k : Nat} {i t : Int} {cs : List jSl} {n' : Nat} (hf : jLF own index ci N k) (hκ : κ i = some (.inl (ci, cs))) (hcs : cs[k]? = some (.inl t)) (hd : decode cc pc = .ok (.getfield index, 3)) (hn : pc + 3 = n') (kk : jJ X G B0 κ n kc ks Q nL φ n' lv (rf B0 t :: st)) : jJ X G B0 κ n kc ks Q nL φ pc lv (rf B0 i :: st) := j_getV F hf hκ hcs hd hn kk
theorem j_putV (F : jF X G cc nL own d kc ks) {index ci N k : Nat} {ty : FieldType} {i z : Int} {cs : List jSl} {sl : jSl} {v : Value} {n' : Nat} (hf : jLP own index ci N k ty) (hκ : κ i = some (.inl (ci, cs))) (hlen : cs.length = N) (hcs : cs[k]? = some sl) (hv : v = jval B0 sl z) (hnar : narrow ty v = v) (hfit : fits ty v = true) (hd : decode cc pc = .ok (.putfield index, 3)) (hn : pc + 3 = n') (kk : ∀ φ' : jPhi, φ' = zU φ i k z → jJ X G B0 κ n kc ks Q nL φ' n' lv st) : jJ X G B0 κ n kc ks Q nL φ pc lv (v :: rf B0 i :: st) := by
  subst hn; intro H locs ls hP hS hl
  obtain ⟨C, T, ty0, hc, hk, hin, hlink, hty, hnm, hfin, hdty⟩ := hf
  have hap := va_apart (own := own) F.2.2.2.2.1 hin ty0 hty hnm F.2.2.2.2.2.1.1 hc
  obtain ⟨cell, q1, q2, q3, q4⟩ := (hP.2 i _ hκ).2
  obtain ⟨hSl, hfc, kC, hkC, hkind⟩ := F.2.2.2.2.2.1.1.1 ci _ hc
  obtain ⟨cf, kf, fi, f, hi, hsl⟩ := hSl k hk
  have hlay := F.2.2.2.2.1 _ (hin _ (u_in_lay hk))
  unfold u_lay at hlay
  rw [if_neg (by rw [hfin]; decide)] at hlay
  have hst := (u_facts hfc hkC (u_lays F.2.2.2.2.1 hin hk) hi).1
  have h6 := u_store hfc hkC hkind hlay hi hdty hnar hfit
  have hkl : k < cs.length := (List.getElem?_eq_some_iff.mp hcs).1
  refine W.putK F.1 F.2.1 (f := f) ⟨F.2.2.2.1, F.2.2.2.2.1 _ hlink, ⟨_, _, _, hi⟩, hst⟩ (by rw [q2]; exact h6) q1 q3 (by rw [hsl]; exact k2_hasslot (q4 k hkl)) rfl rfl hd fun H' e1 e2 e3 => ?_
  rw [hsl] at e1 ⊢
  refine kk _ rfl H' _ ls (hP.put hκ e2 e3 ?_) (hS.put e2 e3 (Nat.le_add_right _ _)) hl
  unfold jcell
  subst hlen
  refine t_OB.to (V := updV (fun k => jval B0 (cs.getD k (.inr 2)) (φ i k)) k v) ⟨_, e1, q2, q3, t_set q4 hap hkl v⟩ (fun j hj => ?_)
  by_cases e : j = k
  · subst e
    simp [updV, zU, List.getD, hcs, hv]
  · have e2 : ¬ (j : Int) = (k : Int) := fun q => e (by omega)
    simp [updV, zU, e, e2]
theorem j_putI (F : jF X G cc nL own d kc ks) {index ci N k : Nat} {i z : Int} {cs : List jSl} {n' : Nat} (kz : Int) (hkz : ((k : Nat) : Int) = kz) (hf : jLP own index ci N k .int) (hκ : κ i = some (.inl (ci, cs))) (hlen : cs.length = N) (hcs : cs[k]? = some (.inr 0)) (hd : decode cc pc = .ok (.putfield index, 3)) (hn : pc + 3 = n') (kk : ∀ φ' : jPhi, φ' = zU φ i kz z → jJ X G B0 κ n kc ks Q nL φ' n' lv st) : jJ X G B0 κ n kc ks Q nL φ pc lv (iv z :: rf B0 i :: st) := by
  subst hkz
  exact j_putV F hf hκ hlen hcs rfl rfl rfl hd hn kk
theorem j_putB (F : jF X G cc nL own d kc ks) {index ci N k : Nat} {i z : Int} {cs : List jSl} {n' : Nat} (kz : Int) (hkz : ((k : Nat) : Int) = kz) (hz : z = 0 ∨ z = 1) (hf : jLP own index ci N k .boolean) (hκ : κ i = some (.inl (ci, cs))) (hlen : cs.length = N) (hcs : cs[k]? = some (.inr 0)) (hd : decode cc pc = .ok (.putfield index, 3)) (hn : pc + 3 = n') (kk : ∀ φ' : jPhi, φ' = zU φ i kz z → jJ X G B0 κ n kc ks Q nL φ' n' lv st) : jJ X G B0 κ n kc ks Q nL φ pc lv (iv z :: rf B0 i :: st) := by
  subst hkz
  exact j_putV F hf hκ hlen hcs rfl (by rcases hz with rfl | rfl <;> decide) (by rcases hz with rfl | rfl <;> decide) hd hn kk
theorem j_putL (F : jF X G cc nL own d kc ks) {index ci N k : Nat} {i z : Int} {cs : List jSl} {n' : Nat} (kz : Int) (hkz : ((k : Nat) : Int) = kz) (hf : jLP own index ci N k .long) (hκ : κ i = some (.inl (ci, cs))) (hlen : cs.length = N) (hcs : cs[k]? = some (.inr 1)) (hd : decode cc pc = .ok (.putfield index, 3)) (hn : pc + 3 = n') (kk : ∀ φ' : jPhi, φ' = zU φ i kz z → jJ X G B0 κ n kc ks Q nL φ' n' lv st) : jJ X G B0 κ n kc ks Q nL φ pc lv (lvv z :: rf B0 i :: st) := by
  subst hkz
  exact j_putV F hf hκ hlen hcs rfl rfl rfl hd hn kk
theorem j_iald (F : jF X G cc nL own d kc ks) {N : Nat} {i z : Int} {n' : Nat} (hκ : κ i = some (.inr (.inl N))) (hN : N ≤ 2147483647) (hz : 0 ≤ z ∧ z < (N : Int)) (hd : decode cc pc = .ok (.iaload, 1)) (hn : pc + 1 = n') (kk : jJ X G B0 κ n kc ks Q nL φ n' lv (iv (φ i z) :: st)) : jJ X G B0 κ n kc ks Q nL φ pc lv (iv z :: rf B0 i :: st) := by
  subst hn; intro H locs ls hP hS hl
  have hc : H[B0 + i.toNat]? = some (arrV G.2.1 N (fun j => iv (φ i j))) := (hP.2 i _ hκ).2
  have hA : ArrOfT X.s G.2.1 .int := (F.2.2.2.2.2.1.1.2 0 _ rfl).1
  have e1 : (zI z).toNatClampNeg = z.toNat := zI_nat hz.1 (by omega)
  have e2 : ((z.toNat : Nat) : Int) = z := by omega
  refine W.iald (v := iv (φ i z)) F.1 F.2.1 hc (hA N _) (fun q => by cases q) (by rw [arrV_size]; exact zI_in hz.1 hz.2 hN) ?_ rfl rfl hd (kk H locs ls hP hS hl)
  rw [e1, arrV_read _ _ (by omega : z.toNat < N), e2]
theorem j_aald (F : jF X G cc nL own d kc ks) {N : Nat} {i z b : Int} {n' : Nat} (hκ : κ i = some (.inr (.inr (N, b)))) (hN : N ≤ 2147483647) (hz : 0 ≤ z ∧ z < (N : Int)) (hd : decode cc pc = .ok (.aaload, 1)) (hn : pc + 1 = n') (kk : jJ X G B0 κ n kc ks Q nL φ n' lv (rf B0 (b + z) :: st)) : jJ X G B0 κ n kc ks Q nL φ pc lv (iv z :: rf B0 i :: st) := by
  subst hn; intro H locs ls hP hS hl
  have hc : H[B0 + i.toNat]? = some (arrV G.2.2 N (fun j => rf B0 (b + j))) := (hP.2 i _ hκ).2
  have hA : ArrOfT X.s G.2.2 (.array .int) := (F.2.2.2.2.2.1.1.2 1 _ rfl).1
  have e1 : (zI z).toNatClampNeg = z.toNat := zI_nat hz.1 (by omega)
  have e2 : ((z.toNat : Nat) : Int) = z := by omega
  refine W.aald (v := rf B0 (b + z)) (ty := .array .int) F.1 F.2.1 hc (hA N _) rfl (fun q => by cases q) (by rw [arrV_size]; exact zI_in hz.1 hz.2 hN) ?_ rfl rfl hd (kk H locs ls hP hS hl)
  rw [e1, arrV_read _ _ (by omega : z.toNat < N), e2]
theorem j_iast (F : jF X G cc nL own d kc ks) {N : Nat} {i z x : Int} {n' : Nat} (hκ : κ i = some (.inr (.inl N))) (hN : N ≤ 2147483647) (hz : 0 ≤ z ∧ z < (N : Int)) (hd : decode cc pc = .ok (.iastore, 1)) (hn : pc + 1 = n') (kk : ∀ φ' : jPhi, φ' = zU φ i z x → jJ X G B0 κ n kc ks Q nL φ' n' lv st) : jJ X G B0 κ n kc ks Q nL φ pc lv (iv x :: iv z :: rf B0 i :: st) := by
  subst hn; intro H locs ls hP hS hl
  have hc : H[B0 + i.toNat]? = some (arrV G.2.1 N (fun j => iv (φ i j))) := (hP.2 i _ hκ).2
  have hA : ArrOfT X.s G.2.1 .int := (F.2.2.2.2.2.1.1.2 0 _ rfl).1
  have e1 : (zI z).toNatClampNeg = z.toNat := zI_nat hz.1 (by omega)
  refine W.iast F.1 F.2.1 hc (hA N _) (fun q => by cases q) (by rw [arrV_size]; exact zI_in hz.1 hz.2 hN) rfl rfl hd fun H' h1 h2 h3 => ?_
  refine kk _ rfl H' _ ls (hP.put hκ h2 h3 ?_) (hS.put h2 h3 (Nat.le_add_right _ _)) hl
  unfold jcell
  rw [h1, arrV_store, e1]
  congr 2
  funext j
  by_cases e : j = z.toNat
  · have e2 : z = (j : Int) := by omega
    subst e2
    simp [updV, zU, iv]
  · have e2 : ¬ (j : Int) = z := fun q => e (by omega)
    simp [updV, zU, e, e2]
end JHEAP
/-! ===== contracts ===== -/
abbrev jRm (d : Nat) : Room := { frames := d, cells := 0, slots := 0, locals := 40 * d }
abbrev mkI (z : Int) : Option Value := some (iv z)
abbrev mkL (z : Int) : Option Value := some (lvv z)
abbrev mkV (_ : Int) : Option Value := none
abbrev mkR (B0 : Nat) (z : Int) : Option Value := some (rf B0 z)
def jQ (G : jG) (B0 : Nat) (κ : Int → Option jKd) (n : Nat) (mk : Int → Option Value) (post : Int → jPhi → Prop) : Array Value → State → Outcome → State → Prop :=
  fun _ st o t => (∃ (z : Int) (φ' : jPhi), o = .returned (mk z) ∧ post z φ' ∧ jP G B0 κ n φ' t.heap) ∧ va_F (fun q => B0 ≤ q) st t
def jPre (G : jG) (B0 : Nat) (κ : Int → Option jKd) (n : Nat) (φ : jPhi) (U : State) : Prop := jP G B0 κ n φ U.heap ∧ jK G U
/-- method y, called with av where the cells hold φ: it returns mk z, the cells hold φ', post z φ' -/
def jC (l : Launch) (G : jG) (B0 : Nat) (κ : Int → Option jKd) (n : Nat) (y : MethodName) (cc : ByteArray) (maxL : Nat) (ret : Option FieldType) (d : Nat) (av : List Value) (φ : jPhi) (mk : Int → Option Value) (post : Int → jPhi → Prop) : Prop :=
  Met l y (Cond.code y cc maxL ret :: lw_good) (jRm d) (va_Pc av (jPre G B0 κ n φ)) (jQ G B0 κ n mk post) 0 0 (fun q => B0 ≤ q)
theorem jPc_blind {G : jG} {B0 : Nat} {κ : Int → Option jKd} {n : Nat} {φ : jPhi} {av : List Value} : FrameBlind (va_Pc av (jPre G B0 κ n φ)) := fun _ _ _ _ h => ⟨h.1, h.2.1, h.2.2.calling⟩
/-- what the tables say of a call -/
def jLV (own : String) (index : Nat) (C : String) (y : MethodName) (bytes : ByteArray) (maxL : Nat) (ret : Option FieldType) (na : Nat) : Prop :=
  Cond.methodLink own index y ∈ lw_good ∧ Cond.instanceMethod y ∈ lw_good ∧ Cond.selects C y y ∈ lw_good ∧ Cond.initialized C ∈ lw_good ∧ Cond.code y bytes maxL ret ∈ lw_good ∧ (y.cls = C ∧ y.cls ≠ "java/lang/invoke/MethodHandle" ∧ y.cls ≠ "java/lang/invoke/VarHandle" ∧ (parseMethodDescriptor y.desc).map (fun d => d.parameters.length) = some na) ∧ maxL ≤ 21
def jLS (own : String) (index : Nat) (y : MethodName) (bytes : ByteArray) (maxL : Nat) (ret : Option FieldType) (na : Nat) : Prop :=
  Cond.methodLink own index y ∈ lw_good ∧ Cond.static y ∈ lw_good ∧ Cond.initialized y.cls ∈ lw_good ∧ Cond.code y bytes maxL ret ∈ lw_good ∧ (y.cls ≠ "java/lang/invoke/MethodHandle" ∧ y.cls ≠ "java/lang/invoke/VarHandle" ∧ (parseMethodDescriptor y.desc).map (fun d => d.parameters.length) = some na) ∧ maxL ≤ 21
def jLN (own : String) (index : Nat) (y : MethodName) (bytes : ByteArray) (maxL : Nat) (ret : Option FieldType) (na : Nat) : Prop :=
  Cond.methodLinkNest own index y "PricedCopies" ∈ jnest ∧ Cond.static y ∈ lw_good ∧ Cond.initialized y.cls ∈ lw_good ∧ Cond.code y bytes maxL ret ∈ lw_good ∧ (y.cls ≠ "java/lang/invoke/MethodHandle" ∧ y.cls ≠ "java/lang/invoke/VarHandle" ∧ (parseMethodDescriptor y.desc).map (fun d => d.parameters.length) = some na) ∧ maxL ≤ 21
theorem va_S.after {B0 : Nat} {H0 H H1 : Heap} {locs L : List Loc} (hS : va_S (fun q => B0 ≤ q) H0 H locs) (hz : H.size ≤ H1.size) (hk : ∀ q : Nat, q < H.size → ¬ B0 ≤ q → H1[q]? = H[q]?) (hL : ∀ q ∈ L, B0 ≤ q.base) : va_S (fun q => B0 ≤ q) H0 H1 (locs ++ L) :=
  ⟨Nat.le_trans hS.1 hz, fun q h1 h2 => (hk q (Nat.lt_of_lt_of_le h1 hS.1) h2).trans (hS.2.1 q h1 h2), fun q hq => by
    rcases List.mem_append.mp hq with h | h
    · exact hS.2.2 q h
    · exact hL q h⟩
section JCALL
variable {X : jX} {G : jG} {B0 : Nat} {κ : Int → Option jKd} {n kc ks : Nat} {Q : State → Prop} {nL : Nat} {φ : jPhi} {pc : Nat} {lv : List (Option Value)} {st : List Value} {cc : ByteArray} {own : String} {d : Nat}
variable {index : Nat} {C : String} {y : MethodName} {bytes : ByteArray} {maxL : Nat} {ret : Option FieldType} {d' : Nat} {As : List Value} {mk : Int → Option Value} {post : Int → jPhi → Prop}
theorem j_after {av : List Value} {H : Heap} {locs : List Loc} {ls : Array Slot} {st0 : List Value} (hS : va_S (fun q => B0 ≤ q) X.s.heap H locs) (hl : jlh ls nL lv) (hr : va_Run X.p X.l X.e X.R X.s X.m X.args X.below X.meth X.c H locs kc ks 0 0 (F0 X.m pc ls st0) st (jQ G B0 κ n mk post av.toArray) (fun q => B0 ≤ q))
    (kk : ∀ (z : Int) (φ' : jPhi), post z φ' → jJ X G B0 κ n kc ks Q nL φ' (pc + 3) lv ((mk z).toList ++ st)) : jW X H locs kc ks Q (F0 X.m pc ls st0) := by
  intro T hT Xs
  obtain ⟨v, st₀, t, T', L, h0, X', hL, e1, e2, ⟨⟨z, φ', hv, hp, hPt⟩, hz, hk⟩, sg⟩ := hr T hT Xs
  have hv' : v = mk z := by cases hv; rfl
  subst hv'
  rw [h0] at hz hk
  obtain ⟨t2, a1, b1⟩ := kk z φ' hp T'.heap (locs ++ L) ls (by rw [e1]; exact hPt) (hS.after (by rw [e1]; exact hz) (fun q h1 h2 => by rw [e1]; exact hk q h1 h2) hL) hl T' rfl X'
  exact ⟨t2, sg t2 a1, b1⟩
theorem j_callV (F : jF X G cc nL own d kc ks) (hL : jLV own index C y bytes maxL ret As.length) {i : Int} (hM : jC X.l G B0 κ n y bytes maxL ret d' (rf B0 i :: As) φ mk post) {ci N : Nat} {T : u_T} {cs : List jSl} (hκ : κ i = some (.inl (ci, cs))) (hc : jclasses[ci]? = some (C, T, N)) (hdd : d' + 1 ≤ d) (hcat : (st.map fun v => v.category).sum ≤ 8) (hd : decode cc pc = .ok (.invokevirtual index, 3))
    (kk : ∀ (z : Int) (φ' : jPhi), post z φ' → jJ X G B0 κ n kc ks Q nL φ' (pc + 3) lv ((mk z).toList ++ st)) : jJ X G B0 κ n kc ks Q nL φ pc lv (As.reverse ++ rf B0 i :: st) := by
  intro H locs ls hP hS hl
  obtain ⟨w1, w2, w3, w4, w5, w6, w7⟩ := hL
  have hG : GoodIn lw_good (wsV own index C y (Cond.code y bytes maxL ret :: lw_good)) := by
    intro w hw
    unfold wsV at hw
    rcases List.mem_append.mp hw with hw | hw
    · have hw' : w ∈ lw_good := by
        simp only [List.mem_cons, List.not_mem_nil, or_false] at hw
        rcases hw with rfl | rfl | rfl | rfl
        · exact w1
        · exact w2
        · exact w3
        · exact w4
      exact ⟨hw', lw_allgood _ hw'⟩
    · exact lw_goodIn w5 w hw
  obtain ⟨cell, q1, q2, q3, q4⟩ := (hP.2 i _ hκ).2
  have hfc := (F.2.2.2.2.2.1.1.1 ci _ hc).2.1
  refine j_after hS hl (av := rf B0 i :: As) (va_runV (C := C) (As := As) (rest := st) (b := B0 + i.toNat) ⟨F.1, F.2.1, F.2.2.1, F.2.2.2.1, F.2.2.2.2.1⟩ hM (cwV As.length F.2.2.2.2.1 hG rfl rfl rfl w6 ⟨by show d' + 1 ≤ _; have := F.2.2.2.2.2.2.1.1; omega, by show 8 + (maxL + 11) + 40 * d' ≤ _; have := F.2.2.2.2.2.2.1.2; omega⟩) ⟨jPc_blind, ⟨cell, q1, by rw [q3]; rfl, by rw [q2]; exact hfc⟩, fun U hU hW => ⟨rfl, by rw [hU]; exact hP, F.2.2.2.2.2.1.warm hW⟩⟩ rfl rfl hl.1 rfl (lv_room hcat) hd F.2.2.2.2.2.2.2) kk
theorem j_callS (F : jF X G cc nL own d kc ks) (hL : jLS own index y bytes maxL ret As.length) (hM : jC X.l G B0 κ n y bytes maxL ret d' As φ mk post) (hdd : d' + 1 ≤ d) (hcat : (st.map fun v => v.category).sum ≤ 8) (hd : decode cc pc = .ok (.invokestatic index, 3))
    (kk : ∀ (z : Int) (φ' : jPhi), post z φ' → jJ X G B0 κ n kc ks Q nL φ' (pc + 3) lv ((mk z).toList ++ st)) : jJ X G B0 κ n kc ks Q nL φ pc lv (As.reverse ++ st) := by
  intro H locs ls hP hS hl
  obtain ⟨w1, w2, w4, w5, w6, w7⟩ := hL
  have hG : GoodIn lw_good (va_wsS own index y (Cond.code y bytes maxL ret :: lw_good)) := by
    intro w hw
    unfold va_wsS at hw
    rcases List.mem_append.mp hw with hw | hw
    · have hw' : w ∈ lw_good := by
        simp only [List.mem_cons, List.not_mem_nil, or_false] at hw
        rcases hw with rfl | rfl | rfl
        · exact w1
        · exact w2
        · exact w4
      exact ⟨hw', lw_allgood _ hw'⟩
    · exact lw_goodIn w5 w hw
  refine j_after hS hl (av := As) (va_runS (As := As) (rest := st) ⟨F.1, F.2.1, F.2.2.1, F.2.2.2.1, F.2.2.2.2.1⟩ hM (va_cwS As.length F.2.2.2.2.1 hG rfl rfl rfl w6 ⟨by show d' + 1 ≤ _; have := F.2.2.2.2.2.2.1.1; omega, by show 8 + (maxL + 11) + 40 * d' ≤ _; have := F.2.2.2.2.2.2.1.2; omega⟩) ⟨jPc_blind, fun U hU hW => ⟨rfl, by rw [hU]; exact hP, F.2.2.2.2.2.1.warm hW⟩⟩ rfl rfl hl.1 rfl (lv_room hcat) hd F.2.2.2.2.2.2.2) kk
theorem j_callN (F : jF X G cc nL own d kc ks) (hL : jLN own index y bytes maxL ret As.length) (hM : jC X.l G B0 κ n y bytes maxL ret d' As φ mk post) (hdd : d' + 1 ≤ d) (hcat : (st.map fun v => v.category).sum ≤ 8) (hd : decode cc pc = .ok (.invokestatic index, 3))
    (kk : ∀ (z : Int) (φ' : jPhi), post z φ' → jJ X G B0 κ n kc ks Q nL φ' (pc + 3) lv ((mk z).toList ++ st)) : jJ X G B0 κ n kc ks Q nL φ pc lv (As.reverse ++ st) := by
  intro H locs ls hP hS hl
  obtain ⟨w1, w2, w4, w5, w6, w7⟩ := hL
  refine j_after hS hl (av := As) (va_runSN (As := As) (rest := st) ⟨F.1, F.2.1, F.2.2.1, F.2.2.2.1, F.2.2.2.2.1⟩ hM ⟨va_cnB As.length F.2.2.2.2.1 (lw_goodIn w5) rfl rfl rfl (F.2.2.2.2.2.1.2 _ w1) (F.2.2.2.2.1 _ w4) w6 ⟨by show d' + 1 ≤ _; have := F.2.2.2.2.2.2.1.1; omega, by show 8 + (maxL + 11) + 40 * d' ≤ _; have := F.2.2.2.2.2.2.1.2; omega⟩, F.2.2.2.2.1 _ w2, trivial⟩ ⟨jPc_blind, fun U hU hW => ⟨rfl, by rw [hU]; exact hP, F.2.2.2.2.2.1.warm hW⟩⟩ rfl rfl hl.1 rfl (lv_room hcat) hd F.2.2.2.2.2.2.2) kk
end JCALL
