/-! ===== making cells ===== -/
theorem q_oi : Cond.code objectInit ⟨#[0xb1]⟩ 1 none ∈ lw_good := lw_mem 67 (by decide +kernel)
def κU (κ : Int → Option jKd) (i : Int) (kd : jKd) : Int → Option jKd := fun a => if a = i then some kd else κ a
theorem κU_self (κ : Int → Option jKd) (i : Int) (kd : jKd) : κU κ i kd i = some kd := if_pos rfl
theorem κU_ne {κ : Int → Option jKd} {i a : Int} {kd : jKd} (h : a ≠ i) : κU κ i kd a = κ a := if_neg h
theorem zU_id {φ : jPhi} {i k v : Int} (h : φ i k = v) : zU φ i k v = φ := by
  funext a b
  unfold zU
  split
  · rename_i q
    rw [q.1, q.2, h]
  · rfl
def jPr (k : Nat) : Int := ([8, 8, 8, 8, 4, 2, 3, 4, 5, 6, 1, 1, 2, 2, 3, 3, 3, 3] : List Int).getD k 0
def jAO (U : State) : Prop := (Cond.arrayOver (.array .int)).before #[] U = true
theorem jAO.moved {u U : State} (hvm : u.vm.Alike U.vm) (h : jAO u) : jAO U := by
  obtain ⟨comp, c, k, h1, h2, h3, h4, h5⟩ := arrayOverA_spec h
  obtain ⟨k', hk', he⟩ := hvm.2.2 _ _ h3
  have hi : (U.vm.classes.findIdx? fun (x : Class) => match x.kind with | .array component _ => component == comp | _ => false) = some c := by
    have hb : U.vm.bare = u.vm.bare := by first | exact hvm.bare_eq | exact hvm.bare_eq.symm
    refine (va_idx_bare U.vm comp).symm.trans ?_
    rw [hb]
    exact (va_idx_bare u.vm comp).trans h2
  have hkind : k'.kind = .array comp (.array .int) := by rw [he]; exact h4
  have f1 : U.vm.findClass (FieldType.array .int).toString = some comp := by rw [hvm.findClass]; exact h1
  have f2 : U.vm.findClass ("[" ++ (FieldType.array .int).toString) = some c := by rw [hvm.findClass]; exact h5
  unfold jAO Cond.before Cond.holds
  simp only [Cond.value]
  rw [f1, Option.bind_some]
  refine (congrArg (fun o : Option Nat => (o.bind (fun c => (U.vm.classes[c]?).map fun (k : Class) => match k.kind with | .array _ ty => decide (ty = FieldType.array .int) && decide (U.vm.findClass ("[" ++ (FieldType.array .int).toString) = some c) | _ => false) == some true)) hi).trans ?_
  simp [hk', hkind, f2]
/-- what travels beside the words, for the constructors -/
def jZ (G : jG) (B0 : Nat) (U : State) : Prop := jAO U ∧ va_Nw (.castable "[I" "java/lang/Cloneable") U ∧ ∃ (t : Nat) (cell : Cell), va_Z "PricedCopies" "FIRST_PRICES" "[I" (.ref t) (fun q => B0 ≤ q) U U.heap ∧ t < B0 ∧ U.heap[t]? = some cell ∧ cell.cls = G.2.1 ∧ cell.slots = (arrV G.2.1 18 (fun j => iv (jPr j))).slots ∧ (∀ k, cell.vm ≠ .statics k) ∧ cell.vm ≠ .unknown
theorem jZ.at {G : jG} {B0 : Nat} {s U : State} {locs : List Loc} (hW : s.WarmedH U.vm) (hS : va_S (fun q => B0 ≤ q) s.heap U.heap locs) (h : jZ G B0 s) : jZ G B0 U := by
  obtain ⟨h1, h2, t, cell, h3, h4, h5, h6⟩ := h
  refine ⟨h1.moved hW.alike, h2.warmC hW, t, cell, (h3.moved hW.alike).kept (fun a q1 q2 => hS.2.1 a q1 q2), h4, ?_, h6⟩
  rw [hS.2.1 t (Array.getElem?_eq_some_iff.mp h5).1 (by omega)]
  exact h5
theorem jZ.calling {G : jG} {B0 : Nat} {U : State} {a : Array Value} {g : JFrame} {mk : MethodId} (h : jZ G B0 U) : jZ G B0 (U.calling g mk a) := by
  obtain ⟨h1, h2, t, cell, h3, h4, h5, h6⟩ := h
  exact ⟨h1.moved (U := U.calling g mk a) (Vm.Alike.refl U.vm), va_Nw.same rfl (u := U) (U := U.calling g mk a) rfl h2, t, cell, h3.moved (U := U.calling g mk a) (Vm.Alike.refl U.vm), h4, h5, h6⟩
abbrev jRmc (d mc ms : Nat) : Room := { frames := d, cells := mc, slots := ms, locals := 40 * d }
def jPreC (G : jG) (B0 : Nat) (κ : Int → Option jKd) (n : Nat) (φ : jPhi) (U : State) : Prop := jPre G B0 κ n φ U ∧ jZ G B0 U
def jQc (G : jG) (B0 : Nat) (κ : Int → Option jKd) (n : Nat) (φ : jPhi) : Array Value → State → Outcome → State → Prop :=
  fun _ st o t => (o = .returned none ∧ jP G B0 κ n φ t.heap) ∧ va_F (fun q => B0 ≤ q) st t
/-- a constructor: it makes mc cells of ms slots; the shape κ n becomes κ' n', what they hold φ' -/
def jCc (l : Launch) (G : jG) (B0 : Nat) (κ : Int → Option jKd) (n : Nat) (y : MethodName) (cc : ByteArray) (maxL d mc ms : Nat) (av : List Value) (φ : jPhi) (κ' : Int → Option jKd) (n' : Nat) (φ' : jPhi) : Prop :=
  Met l y (Cond.code y cc maxL none :: lw_good) (jRmc d mc ms) (va_Pc av (jPreC G B0 κ n φ)) (jQc G B0 κ' n' φ') mc ms (fun q => B0 ≤ q)
theorem jPcc_blind {G : jG} {B0 : Nat} {κ : Int → Option jKd} {n : Nat} {φ : jPhi} {av : List Value} : FrameBlind (va_Pc av (jPreC G B0 κ n φ)) := fun _ _ _ _ h => ⟨h.1, ⟨h.2.1.1, h.2.1.2.calling⟩, h.2.2.calling⟩
def jEc (X : jX) (G : jG) (B0 : Nat) (Q : State → Prop) (κ' : Int → Option jKd) (n' : Nat) (φ' : jPhi) (mc ms : Nat) : Prop :=
  X.meth.sig.returnType = none ∧ X.meth.locks = false ∧ Q = MQ X.below (jQc G B0 κ' n' φ') X.args X.s mc ms (fun q => B0 ≤ q)
theorem jF.lo {X : jX} {G : jG} {cc : ByteArray} {nL : Nat} {own : String} {d kc ks kc' ks' : Nat} (F : jF X G cc nL own d kc ks) (h1 : kc' ≤ kc) (h2 : ks' ≤ ks) : jF X G cc nL own d kc' ks' :=
  ⟨F.1, F.2.1, F.2.2.1, F.2.2.2.1, F.2.2.2.2.1, F.2.2.2.2.2.1, F.2.2.2.2.2.2.1, ⟨Nat.le_trans h1 F.2.2.2.2.2.2.2.1, Nat.le_trans h2 F.2.2.2.2.2.2.2.2⟩⟩
theorem jCc_start {l : Launch} {G : jG} {B0 : Nat} {κ : Int → Option jKd} {n : Nat} {y : MethodName} {cc : ByteArray} {maxL d mc ms : Nat} {av : List Value} {φ : jPhi} {κ' : Int → Option jKd} {n' : Nat} {φ' : jPhi} (own : String) (lv0 : List (Option Value)) (hy : plainName y.cls = true) (hown : y.cls = own) (hlen : (lg_sl av).length ≤ maxL) (hl0 : jprs 0 lv0 = lv_args 0 av)
    (body : ∀ (X : jX) (Q : State → Prop), jF X G cc maxL own d mc ms → X.meth.name = y.name → jZ G B0 X.s → jEc X G B0 Q κ' n' φ' mc ms → jJ X G B0 κ n 0 0 Q maxL φ 0 lv0 []) : jCc l G B0 κ n y cc maxL d mc ms av φ κ' n' φ' := by
  subst hown
  refine Met.ofW (cc := cc) (maxL := maxL) (ret := none) hy rfl ?_
  intro p e s m args below meth c s₁ B hml hv
  obtain ⟨rfl, ⟨hP, hK⟩, hZ⟩ := hv
  have hts := atoms_spec (ws := Cond.code y cc maxL none :: lw_good) B.pre
  have hown : s.vm.findClass y.cls = some m.cls := findClass_of_methodNamed B.named
  have hl := lv_entry av (n := maxL) hlen
  rw [lg_entry_eq]
  have h := body (p, l, e, (headSpec (Cond.code y cc maxL none :: lw_good) (jRmc d mc ms)).room, s, m, av.toArray, below, meth, c) _ ⟨B.exec, B.bytes, hml, hown, fun w hw => hts w (List.mem_cons_of_mem _ hw), hK, ⟨Nat.le_refl _, Nat.le_refl _⟩, ⟨Nat.le_refl _, Nat.le_refl _⟩⟩ (name_of_methodNamed B.named B.method).1 hZ ⟨B.returns, B.notSynchronized, rfl⟩
  refine h s.heap [] _ hP va_S.rf ?_
  unfold jlh
  rw [hl0]
  exact hl
/-- one more cell -/
theorem jP.push {G : jG} {B0 : Nat} {κ : Int → Option jKd} {n : Nat} {φ : jPhi} {H H1 : Heap} {kd : jKd} (h : jP G B0 κ n φ H) (z1 : H1.size = H.size + 1) (o1 : ∀ q : Nat, q < H.size → H1[q]? = H[q]?) (hc : jcell G B0 φ n kd H1) : jP G B0 (κU κ n kd) (n + 1) φ H1 := by
  refine ⟨by rw [z1, h.1]; omega, fun i kd' hi => ?_⟩
  by_cases q : i = n
  · subst q
    rw [κU_self] at hi
    cases hi
    exact ⟨by omega, hc⟩
  · rw [κU_ne q] at hi
    have h2 := h.2 i kd' hi
    refine ⟨by omega, jcell_congr (fun _ => rfl) (o1 _ ?_) h2.2⟩
    rw [h.1]
    omega
theorem va_S.push {B0 : Nat} {H0 H H1 : Heap} {locs : List Loc} (hS : va_S (fun q => B0 ≤ q) H0 H locs) (z1 : H.size ≤ H1.size) (o1 : ∀ q : Nat, q < H.size → H1[q]? = H[q]?) : va_S (fun q => B0 ≤ q) H0 H1 locs :=
  ⟨Nat.le_trans hS.1 z1, fun x h1 h2 => (o1 x (Nat.lt_of_lt_of_le h1 hS.1)).trans (hS.2.1 x h1 h2), hS.2.2⟩
def jNW (own : String) (index ci N : Nat) (cs : List jSl) : Prop := ∃ (C : String) (T : u_T) (ty : Nat → FieldType), jclasses[ci]? = some (C, T, N) ∧ (∀ w ∈ u_ws C T N, w ∈ lw_good) ∧ (∀ k, k < N → parseFieldDescriptor (T k).2.2.1 = some (ty k)) ∧ Cond.classLink own index C ∈ lw_good ∧ Cond.instantiable C N ∈ lw_good ∧ Cond.initialized C ∈ lw_good ∧ cs.length = N ∧ ∀ k, k < N → ∀ B0 : Nat, defaultValue (ty k) = jval B0 (cs.getD k (.inr 2)) 0
def jLQ (own : String) (index ci N k : Nat) (ty : FieldType) : Prop := ∃ (C : String) (T : u_T) (ty0 : Nat → FieldType), jclasses[ci]? = some (C, T, N) ∧ k < N ∧ (∀ w ∈ u_ws C T N, w ∈ lw_good) ∧ Cond.fieldLink own index (T k).1 (T k).2.1 (T k).2.2.1 ∈ lw_good ∧ (∀ k, k < N → parseFieldDescriptor (T k).2.2.1 = some (ty0 k)) ∧ (∀ a, a < N → ∀ b, b < N → a ≠ b → (T a).2.1 ≠ (T b).2.1) ∧ (T k).2.2.2 = true ∧ (T k).1 = own ∧ parseFieldDescriptor (T k).2.2.1 = some ty
section JMAKE
variable {X : jX} {G : jG} {B0 : Nat} {κ : Int → Option jKd} {n kc ks : Nat} {Q : State → Prop} {nL : Nat} {φ : jPhi} {pc : Nat} {lv : List (Option Value)} {st : List Value} {cc : ByteArray} {own : String} {d : Nat}
theorem j_objInit (F : jF X G cc nL own d kc ks) {idx : Nat} {v : Value} {i : Int} {n' : Nat} (hv : v = rf B0 i) (h1 : Cond.methodLink own idx objectInit ∈ lw_good) (hd1 : 1 ≤ d) (hcat : (st.map fun v => v.category).sum ≤ 8) (hd : decode cc pc = .ok (.invokespecial idx, 3)) (hn : pc + 3 = n') (kk : jJ X G B0 κ n kc ks Q nL φ n' lv st) : jJ X G B0 κ n kc ks Q nL φ pc lv (v :: st) := by
  subst hn; subst hv; intro H locs ls hP hS hl
  have hR := F.2.2.2.2.2.2.1
  exact W.objInit F.1 F.2.1 F.2.2.2.1 (F.2.2.2.2.1 _ h1) (F.2.2.2.2.1 _ q_17) (F.2.2.2.2.1 _ q_oi) rfl (F.2.2.1.symm ▸ hl.1) rfl hd (by omega) (by show 2 * 0 + _ + 12 ≤ _; omega) (kk H locs ls hP hS hl)
theorem j_new {N : Nat} (F : jF X G cc nL own d (kc + 1) (ks + N)) {index ci : Nat} {cs : List jSl} {n' : Nat} (hL : jNW own index ci N cs) (hφ : ∀ b, φ n b = 0) (hd : decode cc pc = .ok (.new index, 3)) (hn : pc + 3 = n') (kk : jJ X G B0 (κU κ n (.inl (ci, cs))) (n + 1) (kc + 1) (ks + N) Q nL φ n' lv (rf B0 n :: st)) : jJ X G B0 κ n kc ks Q nL φ pc lv st := by
  subst hn; intro H locs ls hP hS hl
  obtain ⟨C, T, ty, hc, hin, hty, w1, w2, w3, hlen, hdef⟩ := hL
  have hKn := F.2.2.2.2.2.1.1.1 ci _ hc
  refine W.newcK F.1 F.2.1 F.2.2.2.1 (F.2.2.2.2.1 _ w1) (F.2.2.2.2.1 _ w2) (F.2.2.2.2.1 _ w3) rfl hd F.2.2.2.2.2.2.2.1 F.2.2.2.2.2.2.2.2 hKn.2.1 hP.1 fun H1 kC hkC e1 z1 o1 => ?_
  rw [← hP.1] at z1 o1
  refine kk H1 locs ls (hP.push z1 o1 ?_) (hS.push (by omega) o1) hl
  unfold jcell
  subst hlen
  have hb := u_born ty F.2.2.2.2.1 hin hKn hkC e1 hty
  refine hb.to (fun k hk => ?_)
  show defaultValue (ty k) = jval B0 (cs.getD k (.inr 2)) (φ n k)
  rw [hφ, hdef k hk B0]
theorem j_newa {N : Nat} (F : jF X G cc nL own d (kc + 1) (ks + N)) {z : Int} {n' : Nat} (hz : z = N) (hN : N ≤ 100000) (hφ : ∀ b, φ n b = 0) (hd : decode cc pc = .ok (.newarray .int, 2)) (hn : pc + 2 = n') (kk : jJ X G B0 (κU κ n (.inr (.inl N))) (n + 1) (kc + 1) (ks + N) Q nL φ n' lv (rf B0 n :: st)) : jJ X G B0 κ n kc ks Q nL φ pc lv (iv z :: st) := by
  subst hn; subst hz; intro H locs ls hP hS hl
  have e0 : (zI (N : Int)).toNatClampNeg = N := by rw [zI_nat (by omega) (by omega)]; omega
  refine va_newaK (atype := .int) F.1 F.2.1 (F.2.2.2.2.1 _ q_32) rfl hd rfl (fun q => by have := (zI_lt (a := (N : Int)) (b := 0) (by omega) (by omega)).mp q; omega) e0 (by show N * 4 ≤ _; omega) F.2.2.2.2.2.2.2.1 F.2.2.2.2.2.2.2.2 hP.1 fun H1 cA e1 z1 o1 hA hf => ?_
  have hg := (F.2.2.2.2.2.1.1.2 0 _ rfl).2
  have ec : cA = G.2.1 := Option.some.inj (hf.symm.trans hg)
  subst ec
  rw [← hP.1] at z1 o1
  refine kk H1 locs ls (hP.push z1 o1 ?_) (hS.push (by omega) o1) hl
  unfold jcell
  show H1[B0 + n]? = _
  rw [e1]
  congr 2
  funext j
  rw [hφ]
  rfl
theorem j_putF (F : jF X G cc nL own d kc ks) (hin2 : X.meth.name = "<init>") {index ci N k : Nat} {ty : FieldType} {i t : Int} {cs : List jSl} {n' : Nat} (hf : jLQ own index ci N k ty) (hκ : κ i = some (.inl (ci, cs))) (hlen : cs.length = N) (hnar : narrow ty (rf B0 t) = rf B0 t) (hfit : fits ty (rf B0 t) = true) (hd : decode cc pc = .ok (.putfield index, 3)) (hn : pc + 3 = n') (kk : jJ X G B0 (κU κ i (.inl (ci, cs.set k (.inl t)))) n kc ks Q nL φ n' lv st) : jJ X G B0 κ n kc ks Q nL φ pc lv (rf B0 t :: rf B0 i :: st) := by
  subst hn; intro H locs ls hP hS hl
  obtain ⟨C, T, ty0, hc, hk, hin, hlink, hty, hnm, hfin, hdecl, hdty⟩ := hf
  have hap := va_apart (own := own) F.2.2.2.2.1 hin ty0 hty hnm F.2.2.2.2.2.1.1 hc
  obtain ⟨cell, q1, q2, q3, q4⟩ := (hP.2 i _ hκ).2
  obtain ⟨hSl, hfc, kC, hkC, hkind⟩ := F.2.2.2.2.2.1.1.1 ci _ hc
  obtain ⟨cf, kf, fi, f, hi, hsl⟩ := hSl k hk
  have hlay := F.2.2.2.2.1 _ (hin _ (u_in_lay hk))
  unfold u_lay at hlay
  rw [if_pos hfin] at hlay
  have hst := (u_facts hfc hkC (u_lays F.2.2.2.2.1 hin hk) hi).1
  have hcf : X.m.cls = cf := by
    obtain ⟨_, _, c', _, _, _, -, -, hf', -, -, -, hown2, -⟩ := Cond.laysFinal_spec hlay
    have e1 : c' = cf := by have := hi.symm.trans hf'; simp at this; exact this.1.symm
    rw [hdecl] at hown2
    rw [← e1]; exact Option.some.inj (F.2.2.2.1.symm.trans hown2)
  have h6 := u_fits hfc hkC hkind (Or.inr hlay) hi hdty hnar hfit
  have hkl : k < cs.length := by omega
  refine W.putFinK F.1 F.2.1 F.2.2.2.1 (F.2.2.2.2.1 _ hlink) hi hst hcf hin2 (by rw [q2]; exact h6) q1 q3 (by rw [hsl]; exact k2_hasslot (q4 k hkl)) rfl rfl hd fun H' e1 e2 e3 => ?_
  rw [hsl] at e1 ⊢
  refine kk H' _ ls ⟨e2.trans hP.1, fun j kd' hj => ?_⟩ (hS.put e2 e3 (Nat.le_add_right _ _)) hl
  have hi0 := (hP.2 i _ hκ).1
  by_cases e : j = i
  · subst e
    rw [κU_self] at hj
    cases hj
    refine ⟨hi0, ?_⟩
    unfold jcell
    show t_OB _ _ (cs.set k (.inl t)).length _ _ _
    rw [List.length_set]
    subst hlen
    refine t_OB.to (V := updV (fun k => jval B0 (cs.getD k (.inr 2)) (φ j k)) k (rf B0 t)) ⟨_, e1, q2, q3, t_set q4 hap hkl _⟩ (fun r hr => ?_)
    by_cases e : r = k
    · subst e
      simp [updV, List.getD, hr, jval]
    · have e5 : ¬ k = r := fun q => e q.symm
      simp [updV, e, e5, List.getD, List.getElem?_set]
  · rw [κU_ne e] at hj
    have h1 := hP.2 j kd' hj
    obtain ⟨⟨h1a, h1b⟩, h1c⟩ := h1
    obtain ⟨h0a, h0b⟩ := hi0
    have h3 : B0 + j.toNat ≠ B0 + i.toNat := fun q => e (by have q2 : j.toNat = i.toNat := Nat.add_left_cancel q; rw [← Int.toNat_of_nonneg h1a, ← Int.toNat_of_nonneg h0a, q2])
    exact ⟨⟨h1a, h1b⟩, jcell_congr (fun _ => rfl) (e3 _ h3) h1c⟩
theorem j_returnC (F : jF X G cc nL own d kc ks) {κ' : Int → Option jKd} {n' : Nat} {φ' : jPhi} (E : jEc X G B0 Q κ' n' φ' kc ks) (hd : decode cc pc = .ok (.return_, 1)) (h1 : κ = κ') (h2 : n = n') (h3 : φ = φ') : jJ X G B0 κ n kc ks Q nL φ pc lv [] := by
  obtain ⟨hr, hlk, rfl⟩ := E
  subst h1; subst h2; subst h3
  intro H locs ls hP hS hl
  exact W.vret F.1 F.2.1 hr (fun t ht hW => ⟨⟨rfl, by rw [ht]; exact hP⟩, hS.F ht⟩) hS.2.2 hd (hlocks := hlk)
end JMAKE
