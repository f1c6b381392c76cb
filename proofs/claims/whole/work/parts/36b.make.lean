/-! ===== arrays of arrays, clone, calls of constructors ===== -/
theorem q_c1 : Cond.methodLink RX3 13 ⟨"[I", "clone", "()Ljava/lang/Object;"⟩ ∈ lw_good := lw_mem 158 (by decide +kernel)
theorem q_c2 : Cond.sameMethod "[I" "java/lang/Object" "clone" "()Ljava/lang/Object;" ∈ lw_good := lw_mem 159 (by decide +kernel)
theorem q_c3 : Cond.native ⟨"java/lang/Object", "clone", "()Ljava/lang/Object;"⟩ ∈ lw_good := lw_mem 160 (by decide +kernel)
theorem q_c4 : Cond.instanceMethod ⟨"java/lang/Object", "clone", "()Ljava/lang/Object;"⟩ ∈ lw_good := lw_mem 161 (by decide +kernel)
theorem q_c5 : Cond.selects "[I" ⟨"[I", "clone", "()Ljava/lang/Object;"⟩ ⟨"java/lang/Object", "clone", "()Ljava/lang/Object;"⟩ ∈ lw_good := lw_mem 162 (by decide +kernel)
theorem jr_outer (c : ClassId) (N h0 : Nat) : ∀ i : Nat, Jvm.Free.Multi.outerC c N h0 i = arrV c N (fun j => if j < i then .ref (h0 + 1 + j) else .null)
  | 0 => by
    show ({ cls := c, slots := Array.replicate N .null, vm := .none } : Cell) = _
    rw [arrV_new]
    exact congrArg (arrV c N) (funext fun j => by simp)
  | i + 1 => by
    show (Jvm.Free.Multi.outerC c N h0 i).setSlot i (.ref (h0 + 1 + i)) = _
    rw [jr_outer c N h0 i, arrV_store]
    refine congrArg (arrV c N) (funext fun j => ?_)
    unfold updV
    by_cases e : j = i
    · rw [if_pos e, if_pos (by omega), e]
    · rw [if_neg e]
      dsimp only
      by_cases h : j < i
      · rw [if_pos h, if_pos (by omega)]
      · rw [if_neg h, if_neg (by omega)]
def jLI (own : String) (index : Nat) (y : MethodName) (bytes : ByteArray) (maxL : Nat) : Prop :=
  Cond.methodLink own index y ∈ lw_good ∧ Cond.instanceMethod y ∈ lw_good ∧ Cond.initialized y.cls ∈ lw_good ∧ Cond.code y bytes maxL none ∈ lw_good ∧ (y.cls ≠ "java/lang/invoke/MethodHandle" ∧ y.cls ≠ "java/lang/invoke/VarHandle" ∧ (parseMethodDescriptor y.desc).map (fun d => d.parameters.length) = some 0) ∧ maxL ≤ 21 ∧ y.name = "<init>"
def jLIN (own : String) (index : Nat) (y : MethodName) (bytes : ByteArray) (maxL : Nat) : Prop :=
  Cond.methodLinkNest own index y "PricedCopies" ∈ jnest ∧ Cond.instanceMethod y ∈ lw_good ∧ Cond.initialized y.cls ∈ lw_good ∧ Cond.code y bytes maxL none ∈ lw_good ∧ (y.cls ≠ "java/lang/invoke/MethodHandle" ∧ y.cls ≠ "java/lang/invoke/VarHandle" ∧ (parseMethodDescriptor y.desc).map (fun d => d.parameters.length) = some 0) ∧ maxL ≤ 21 ∧ y.name = "<init>"
def κR (κ : Int → Option jKd) (n : Int) (N K : Nat) : Int → Option jKd := fun a => if a = n then some (.inr (.inr (N, n + 1))) else if n < a ∧ a ≤ n + N then some (.inr (.inl K)) else κ a
section JMAKE2
variable {X : jX} {G : jG} {B0 : Nat} {κ : Int → Option jKd} {n kc ks : Nat} {Q : State → Prop} {nL : Nat} {φ : jPhi} {pc : Nat} {lv : List (Option Value)} {st : List Value} {cc : ByteArray} {own : String} {d : Nat}
theorem j_afterC {mc ms : Nat} {κ' : Int → Option jKd} {n' : Nat} {φ' : jPhi} {av : List Value} {H : Heap} {locs : List Loc} {ls : Array Slot} {st0 : List Value} (hS : va_S (fun q => B0 ≤ q) X.s.heap H locs) (hl : jlh ls nL lv) (hr : va_Run X.p X.l X.e X.R X.s X.m X.args X.below X.meth X.c H locs kc ks mc ms (F0 X.m pc ls st0) st (jQc G B0 κ' n' φ' av.toArray) (fun q => B0 ≤ q))
    (kk : jJ X G B0 κ' n' (kc + mc) (ks + ms) Q nL φ' (pc + 3) lv st) : jW X H locs kc ks Q (F0 X.m pc ls st0) := by
  intro T hT Xs
  obtain ⟨v, st₀, t, T', L, h0, X', hL, e1, e2, ⟨⟨hv, hPt⟩, hz, hk⟩, sg⟩ := hr T hT Xs
  have hv' : v = none := by cases hv; rfl
  subst hv'
  rw [h0] at hz hk
  obtain ⟨t2, a1, b1⟩ := kk T'.heap (locs ++ L) ls (by rw [e1]; exact hPt) (hS.after (by rw [e1]; exact hz) (fun q h1 h2 => by rw [e1]; exact hk q h1 h2) hL) hl T' rfl X'
  exact ⟨t2, sg t2 a1, b1⟩
theorem j_callI {mc ms : Nat} (F : jF X G cc nL own d (kc + mc) (ks + ms)) (hZ : jZ G B0 X.s) {index : Nat} {y : MethodName} {bytes : ByteArray} {maxL d' : Nat} {i : Int} {κ' : Int → Option jKd} {n2 n' : Nat} {φ' : jPhi} (hL : jLI own index y bytes maxL) (hM : jCc X.l G B0 κ n y bytes maxL d' mc ms [rf B0 i] φ κ' n2 φ') (hdd : d' + 1 ≤ d) (hcat : (st.map fun v => v.category).sum ≤ 8) (hd : decode cc pc = .ok (.invokespecial index, 3)) (hn : pc + 3 = n')
    (kk : jJ X G B0 κ' n2 (kc + mc) (ks + ms) Q nL φ' n' lv st) : jJ X G B0 κ n kc ks Q nL φ pc lv (rf B0 i :: st) := by
  subst hn
  intro H locs ls hP hS hl
  obtain ⟨w1, w2, w4, w5, w6, w7, w8⟩ := hL
  have hR := F.2.2.2.2.2.2.1
  have hc : Cond.code y bytes maxL none ∈ (Cond.code y bytes maxL none :: lw_good) := List.mem_cons_self
  refine j_afterC hS hl (av := [rf B0 i]) (va_runI (As := []) (n := 0) (rest := st) (b := B0 + i.toNat) ⟨F.1, F.2.1, F.2.2.1, F.2.2.2.1, F.2.2.2.2.1⟩ hM ⟨⟨rfl, rfl, by show d' + 1 ≤ _; omega, by show 8 + (maxL + 11) + 40 * d' ≤ _; omega, pay_in F.2.2.2.2.1 (lw_goodIn w5), hc, F.2.2.2.2.1 _ w5, F.2.2.2.2.1 _ w4, ⟨w6.1, w6.2.1⟩, fun sig h => ?_, F.2.2.2.2.1 _ w1⟩, w8, F.2.2.2.2.1 _ w2⟩ ⟨jPcc_blind, fun U hU hW => ⟨rfl, ⟨by rw [hU]; exact hP, F.2.2.2.2.2.1.warm hW⟩, hZ.at (locs := locs) hW (by rw [hU]; exact hS)⟩⟩ rfl rfl hl.1 rfl (lv_room hcat) hd F.2.2.2.2.2.2.2) kk
  have h2 := w6.2.2
  rw [h] at h2
  exact (Option.some.inj h2).symm
theorem j_callIN {mc ms : Nat} (F : jF X G cc nL own d (kc + mc) (ks + ms)) (hZ : jZ G B0 X.s) {index : Nat} {y : MethodName} {bytes : ByteArray} {maxL d' : Nat} {i : Int} {κ' : Int → Option jKd} {n2 n' : Nat} {φ' : jPhi} (hL : jLIN own index y bytes maxL) (hM : jCc X.l G B0 κ n y bytes maxL d' mc ms [rf B0 i] φ κ' n2 φ') (hdd : d' + 1 ≤ d) (hcat : (st.map fun v => v.category).sum ≤ 8) (hd : decode cc pc = .ok (.invokespecial index, 3)) (hn : pc + 3 = n')
    (kk : jJ X G B0 κ' n2 (kc + mc) (ks + ms) Q nL φ' n' lv st) : jJ X G B0 κ n kc ks Q nL φ pc lv (rf B0 i :: st) := by
  subst hn
  intro H locs ls hP hS hl
  obtain ⟨w1, w2, w4, w5, w6, w7, w8⟩ := hL
  have hR := F.2.2.2.2.2.2.1
  exact j_afterC hS hl (av := [rf B0 i]) (va_runIN (As := []) (rest := st) (b := B0 + i.toNat) ⟨F.1, F.2.1, F.2.2.1, F.2.2.2.1, F.2.2.2.2.1⟩ hM ⟨va_cnB 0 F.2.2.2.2.1 (lw_goodIn w5) rfl rfl rfl (F.2.2.2.2.2.1.2 _ w1) (F.2.2.2.2.1 _ w4) w6 ⟨by show d' + 1 ≤ _; omega, by show 8 + (maxL + 11) + 40 * d' ≤ _; omega⟩, w8, F.2.2.2.2.1 _ w2⟩ ⟨jPcc_blind, fun U hU hW => ⟨rfl, ⟨by rw [hU]; exact hP, F.2.2.2.2.2.1.warm hW⟩, hZ.at (locs := locs) hW (by rw [hU]; exact hS)⟩⟩ rfl rfl hl.1 rfl (lv_room hcat) hd F.2.2.2.2.2.2.2) kk
theorem j_mna {N K : Nat} (F : jF X G cc nL own d (kc + 1 + N) (ks + N + N * K)) (hZ : jZ G B0 X.s) {index : Nat} {a b : Int} {n' : Nat} (ha : a = N) (hb : b = K) (hN : N ≤ 100000) (hK : K ≤ 100000) (hq : Cond.classLink own index "[[I" ∈ lw_good) (hφ : ∀ i b, (n : Int) < i → i ≤ n + N → φ i b = 0) (hd : decode cc pc = .ok (.multianewarray index 2, 4)) (hn : pc + 4 = n') (kk : jJ X G B0 (κR κ n N K) (n + 1 + N) (kc + 1 + N) (ks + N + N * K) Q nL φ n' lv (rf B0 n :: st)) : jJ X G B0 κ n kc ks Q nL φ pc lv (iv b :: iv a :: st) := by
  subst hn; subst ha; subst hb; intro H locs ls hP hS hl
  have eN : (zI (N : Int)).toNatClampNeg = N := by rw [zI_nat (by omega) (by omega)]; omega
  have eK : (zI (K : Int)).toNatClampNeg = K := by rw [zI_nat (by omega) (by omega)]; omega
  have nN : ¬ zI (N : Int) < 0 := fun q => by have := (zI_lt (a := (N : Int)) (b := 0) (by omega) (by omega)).mp q; omega
  have nK : ¬ zI (K : Int) < 0 := fun q => by have := (zI_lt (a := (K : Int)) (b := 0) (by omega) (by omega)).mp q; omega
  have hR := F.2.2.2.2.2.2.2
  have hL : Cond.classLink own index ("[" ++ (FieldType.array .int).toString) ∈ lw_good := hq
  intro T hT Xs
  obtain ⟨vm₁, cA, comp, -, fA, fC, -, -, X', step⟩ := Xs.multianewarray2F F.1 F.2.2.2.1 (F.2.2.2.2.1 _ hL) hZ.1 (F.2.2.2.2.1 _ q_32) (g := F0 X.m pc ls (iv K :: iv N :: st)) rfl (by rw [F.2.1]; exact hd) rfl nN nK (by rw [eN]; omega) (by rw [eK]; show K * 4 ≤ _; omega) (by rw [eK]; omega) rfl rfl (by rw [eN]; omega) (by rw [eN, eK]; omega)
  have ec : cA = G.2.2 := Option.some.inj (fA.symm.trans (F.2.2.2.2.2.1.1.2 1 _ rfl).2)
  have ec2 : comp = G.2.1 := Option.some.inj (fC.symm.trans (F.2.2.2.2.2.1.1.2 0 _ rfl).2)
  subst ec; subst ec2
  rw [eN, eK] at X' step
  generalize hF : Jvm.Free.Multi.fill (T.setVm vm₁) G.2.2 G.2.1 N K (defaultValue .int) N = F1 at X' step
  have hTh : (T.setVm vm₁).heap = H := hT
  obtain ⟨f1, f2, -, -⟩ := Jvm.Free.Multi.fill_facts (T.setVm vm₁) G.2.2 G.2.1 N K (defaultValue .int) N
  rw [hF, hTh] at f1 f2
  have hold : ∀ x : Nat, x < H.size → F1.heap[x]? = H[x]? := fun x hx => by
    have := Jvm.Free.Multi.fill_old (T.setVm vm₁) G.2.2 G.2.1 N K (defaultValue .int) (a := x) (by rw [hTh]; exact hx) N
    rw [hF, hTh] at this
    exact this
  have hrow : ∀ j : Nat, j < N → F1.heap[H.size + 1 + j]? = some (Jvm.Free.Multi.innerC G.2.1 K (defaultValue .int)) := fun j hj => by
    have := Jvm.Free.Multi.fill_inner (T.setVm vm₁) G.2.2 G.2.1 N K (defaultValue .int) N j hj
    rw [hF, hTh] at this
    exact this
  have hin : Jvm.Free.Multi.innerC G.2.1 K (defaultValue .int) = arrV G.2.1 K (fun _ => iv 0) := by
    show ({ cls := G.2.1, slots := Array.replicate K (defaultValue .int), vm := .none } : Cell) = _
    rw [arrV_new]
    rfl
  have hsz := hP.1
  have hP1 : jP G B0 (κR κ n N K) (n + 1 + N) φ F1.heap := by
    refine ⟨by rw [f1]; omega, fun i kd hi => ?_⟩
    unfold κR at hi
    by_cases q1 : i = n
    · rw [if_pos q1] at hi
      cases hi
      refine ⟨by omega, ?_⟩
      unfold jcell
      rw [show B0 + i.toNat = H.size by omega, f2, jr_outer]
      refine congrArg some (arrV_ext (fun j hj => ?_))
      rw [if_pos hj]
      unfold rf
      congr 1
      show H.size + 1 + j = B0 + ((n : Int) + 1 + (j : Int)).toNat
      omega
    · rw [if_neg q1] at hi
      by_cases q2 : (n : Int) < i ∧ i ≤ n + N
      · rw [if_pos q2] at hi
        cases hi
        refine ⟨by omega, ?_⟩
        unfold jcell
        rw [show B0 + i.toNat = H.size + 1 + (i.toNat - n - 1) by omega, hrow _ (by omega), hin]
        congr 2
        funext j
        rw [hφ i j q2.1 q2.2]
      · rw [if_neg q2] at hi
        have h2 := hP.2 i kd hi
        have h2a := h2.1
        exact ⟨by omega, jcell_congr (fun _ => rfl) (hold _ (by omega)) h2.2⟩
  obtain ⟨t, a1, b1⟩ := kk F1.heap locs ls hP1 (hS.push (by rw [f1]; omega) hold) hl F1 rfl X'
  refine ⟨t, step t ?_, b1⟩
  have e : T.heap.size = B0 + n := by rw [hT]; exact hP.1
  rw [e]
  exact a1
theorem j_gets (F : jF X G cc nL RX3 d kc ks) {t : Nat} {n' : Nat} (hz : va_Z "PricedCopies" "FIRST_PRICES" "[I" (.ref t) (fun q => B0 ≤ q) X.s X.s.heap) (hd : decode cc pc = .ok (.getstatic 9, 3)) (hn : pc + 3 = n') (kk : jJ X G B0 κ n kc ks Q nL φ n' lv (.ref t :: st)) : jJ X G B0 κ n kc ks Q nL φ pc lv st := by
  subst hn; intro H locs ls hP hS hl
  exact va_getsN F.1 F.2.1 hz hS F.2.2.2.1 (va_Nw.use rfl (F.2.2.2.2.2.1.2 (.fieldLinkNest RX3 9 "PricedCopies" "FIRST_PRICES" "[I" "PricedCopies") (by simp [jnest]))) (fun _ h => h) hd (kk H locs ls hP hS hl)
theorem j_clone (F : jF X G cc nL RX3 d (kc + 1) (ks + 18)) (hN : va_Nw (.castable "[I" "java/lang/Cloneable") X.s) {t : Nat} {cell : Cell} {n' : Nat} (ht : t < B0) (h5 : X.s.heap[t]? = some cell) (h6 : cell.cls = G.2.1) (h7 : cell.slots = (arrV G.2.1 18 (fun j => iv (jPr j))).slots) (h8 : ∀ k, cell.vm ≠ .statics k) (h9 : cell.vm ≠ .unknown) (hd1 : 1 ≤ d) (hcat : (st.map fun v => v.category).sum ≤ 8) (hφ : ∀ j : Nat, j < 18 → φ n j = jPr j) (hd : decode cc pc = .ok (.invokevirtual 13, 3)) (hn : pc + 3 = n') (kk : jJ X G B0 (κU κ n (.inr (.inl 18))) (n + 1) (kc + 1) (ks + 18) Q nL φ n' lv (rf B0 n :: st)) : jJ X G B0 κ n kc ks Q nL φ pc lv (.ref t :: st) := by
  subst hn; intro H locs ls hP hS hl
  have hR := F.2.2.2.2.2.2
  have hnm : X.s.vm.findClass "[I" = some G.2.1 := (F.2.2.2.2.2.1.1.2 0 _ rfl).2
  have hsz : cell.slots.size = 18 := by rw [h7]; exact arrV_size _ _ _
  obtain ⟨c0, t0', f1, f2, f3⟩ := Cond.castable_spec (va_Nw.use (A := X.args) rfl hN)
  have ec : c0 = G.2.1 := Option.some.inj (f1.symm.trans hnm)
  rw [ec] at f3
  intro T hT Xs
  have hcT : T.heap[t]? = some cell := by rw [hT, hS.2.1 t (Array.getElem?_eq_some_iff.mp h5).1 (by omega)]; exact h5
  obtain ⟨-, kA, hkA, comp, hkind⟩ := State.isArrayOf_alike Xs.warmed.alike ((F.2.2.2.2.2.1.1.2 0 _ rfl).1 0 (fun _ => .null))
  obtain ⟨-, kS, hkS, compS, hkindS⟩ := (F.2.2.2.2.2.1.1.2 0 _ rfl).1 0 (fun _ => .null)
  obtain ⟨vm', X', step⟩ := Xs.cloneArray F.1 F.2.2.2.1 (F.2.2.2.2.1 _ q_c1) (F.2.2.2.2.1 _ q_c2) (F.2.2.2.2.1 _ q_c3) (F.2.2.2.2.1 _ q_c4) (F.2.2.2.2.1 _ q_c5) (a := t) (cell := cell) hcT h8 h9 (by rw [h6]; exact hnm) f2 (by rw [h6]; exact f3)
    (fun i v hv => by
      rw [h6]
      have hk' : T.vm.classes[G.2.1]? = some kA := hkA
      have hfv : fits .int v = true := by
        rw [h7] at hv
        have hi : i < 18 := by have := (Array.getElem?_eq_some_iff.mp hv).1; rwa [arrV_size] at this
        rw [arrV_read _ _ hi] at hv
        cases hv
        rfl
      simpa [State.fitsSlot, State.slotType?, hk', hkind] using hfv)
    (g := F0 X.m pc ls (.ref t :: st)) rfl (F.2.2.1.symm ▸ hl.1) rfl (by rw [F.2.1]; exact hd) (by omega) (by show 2 * 0 + _ + 14 ≤ _; omega) hR.2.1 (by rw [hsz]; exact hR.2.2) (hloader := by rw [h6]; exact Vm.clonesLoader_of_array hkS hkindS)
  have hcE : ({ cls := cell.cls, slots := cell.slots } : Cell) = arrV G.2.1 18 (fun j => iv (jPr j)) := by rw [h6, h7]; rfl
  rw [hcE, hsz] at X'
  rw [hcE] at step
  have hP1 : jP G B0 (κU κ n (.inr (.inl 18))) (n + 1) φ (H.push (arrV G.2.1 18 (fun j => iv (jPr j)))) := by
    refine hP.push (by rw [Array.size_push]) (fun q hq => by rw [Array.getElem?_push, if_neg (Nat.ne_of_lt hq)]) ?_
    unfold jcell
    show _[B0 + n]? = _
    rw [← hP.1, Array.getElem?_push_size]
    exact congrArg some (arrV_ext (fun j hj => by rw [hφ j hj]))
  obtain ⟨t2, a1, b1⟩ := kk _ locs ls hP1 (hS.push (by rw [Array.size_push]; omega) (fun q hq => by rw [Array.getElem?_push, if_neg (Nat.ne_of_lt hq)])) hl ((T.setVm vm').pushCell (arrV G.2.1 18 (fun j => iv (jPr j)))) (by rw [← hT]; rfl) X'
  refine ⟨t2, step t2 ?_, b1⟩
  have e : T.heap.size = B0 + n := by rw [hT]; exact hP.1
  rw [e]
  exact a1
theorem j_castI (F : jF X G cc nL RX3 d kc ks) {i : Int} {N n' : Nat} (hκ : κ i = some (.inr (.inl N))) (hd : decode cc pc = .ok (.checkcast 14, 3)) (hn : pc + 3 = n') (kk : jJ X G B0 κ n kc ks Q nL φ n' lv (rf B0 i :: st)) : jJ X G B0 κ n kc ks Q nL φ pc lv (rf B0 i :: st) := by
  subst hn; intro H locs ls hP hS hl
  have hnm : X.s.vm.findClass "[I" = some G.2.1 := (F.2.2.2.2.2.1.1.2 0 _ rfl).2
  have hc : H[B0 + i.toNat]? = some (arrV G.2.1 N (fun j => iv (φ i j))) := (hP.2 i _ hκ).2
  intro T hT Xs
  obtain ⟨vm', X', step⟩ := Xs.checkcastYes F.1 F.2.2.2.1 (F.2.2.2.2.1 _ q_115) (by rw [hT]; exact hc) rfl hnm (va_asg _ _) (g := F0 X.m pc ls (rf B0 i :: st)) rfl rfl (by rw [F.2.1]; exact hd)
  obtain ⟨t, a1, b1⟩ := kk H locs ls hP hS hl (T.setVm vm') hT X'
  exact ⟨t, step t a1, b1⟩
end JMAKE2
