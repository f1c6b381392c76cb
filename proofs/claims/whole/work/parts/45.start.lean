/-! THE CLAIM OUT OF ONE WALK OF THE LAW'S BODY. Your part is whole_start (and what it stands on); all else here is the same for every law, but numbers. -/
def R_law : String := "PricedCopiesLaw"
def lw_P (b : Addr) (xs : List Int32) (args : Array Value) (s : State) : Prop := args = #[.ref b] ∧ s.IntsAt b xs ∧ xs.length ≤ 1536 ∧ (Jvm.Cond.and given_1 narrow_1).before args s = true
def lw_Q (_ : Array Value) (s : State) (o : Outcome) (t : State) : Prop := o = .returned (some (.int 1)) ∧ Framed s o t [] 600000 7302250
def lw_Z (below : List Frame) (a : Array Value) (s : State) : State → Prop := fun t => ∃ o, t.status = .running ∧ Ended t below o ∧ lw_Q a s o t
/-- the law's own end, with 1 on the stack, nothing written that was there before, its room as the claim has it -/
theorem lw_ret {p : Program} {l : Launch} {e : Env} {s : State} {m : MethodId} {below : List Frame} {meth : Method} {c : Code} {b : Nat} (hx : p.tables.exec = Jvm.exec) (hb : c.code = code) (hr : meth.sig.returnType = ret) (hlocks : meth.locks = false) {pc : Nat} {H : Heap} {ls : Array Slot} (hdg : decode code pc = .ok (.ireturn, 1)) : W p l e room_1 s m #[Value.ref b] below meth c H [] 600000 7302250 (lw_Z below #[Value.ref b] s) (F0 m pc ls [.int 1]) := by
  intro T hT X
  obtain ⟨fs, hret, hrun, hended, hW, hframe⟩ := X.leave (v := some (.int 1)) (hlocks := hlocks) (fun h => by rw [hr] at h; cases h)
  have hmeth' : T.vm.method? m = some meth := X.method'
  refine ⟨T.setFrames fs, ?_, .returned (some (.int 1)), hrun, hended, rfl, ⟨_, rfl⟩, hW, hframe⟩
  jvm_step X.here [X.here.top, hx, hb, hdg, hmeth', hr, ret, narrow_b1]
  (try refine ⟨rfl, ?_⟩); (try refine ⟨rfl, ?_⟩)
  first | (intro acts; rw [hret _ acts rfl rfl rfl]) | rw [hret _ _ rfl rfl rfl]
  exact Steps.refl _
/-- what holds at the law's entry: the machine, the code, the tables' words (any of lw_tbl by 'hts w (by decide +kernel)'), the script of L ints xs at the cell b, what the Statement gives of the start (any of its parts by flat_of_before) -/
def lw_At (p : Program) (s : State) (m : MethodId) (meth : Method) (c : Code) (b L : Nat) (xs : Nat → Int32) : Prop :=
  p.tables.exec = Jvm.exec ∧ c.code = code ∧ meth.sig.returnType = ret ∧ c.maxLocals = 4 ∧ s.vm.findClass R_law = some m.cls ∧ (∀ w ∈ lw_tbl, w.before #[Value.ref b] s = true) ∧ va_X b L xs s s.heap ∧ b < s.heap.size ∧ meth.locks = false ∧ (Jvm.Cond.and given_1 narrow_1).before #[Value.ref b] s = true
set_option maxRecDepth 20000 in
theorem whole_start {p : Program} {e : Env} {s : State} {m : MethodId} {below : List Frame} {meth : Method} {c : Code} (l : Launch) (hflags : l.flags = flags0) {b L : Nat} {xs : Nat → Int32} (hL : L ≤ 1536) (C0 : lw_At p s m meth c b L xs) : W p l e room_1 s m #[Value.ref b] below meth c s.heap [] 0 0 (lw_Z below #[Value.ref b] s) (entryFrame m ([Value.ref b] : List Value).toArray 4) := by
  obtain ⟨hx, hcode, hret, hml, hown, hts, hX, hb, hlk, hgv⟩ := C0
  obtain ⟨G, hK⟩ := jK_start hts
  have hZ := jZ_start hK hts hgv
  have hg : ∀ w ∈ lw_good, w.before #[Value.ref b] s = true := fun w hw => hts w (List.mem_filter.mp hw).1
  have F : jF (p, l, e, room_1, s, m, #[Value.ref b], below, meth, c) G cL_law 4 RL 10 600000 7302250 := ⟨hx, hcode, hml, hown, hg, hK, ⟨Nat.le_of_ble_eq_true rfl, Nat.le_of_ble_eq_true rfl⟩, ⟨Nat.le_of_ble_eq_true rfl, Nat.le_of_ble_eq_true rfl⟩⟩
  have hend : ∀ (φ : jPhi) (lv : List (Option Value)), jJ (p, l, e, room_1, s, m, #[Value.ref b], below, meth, c) G s.heap.size κF 113 113 4901 (lw_Z below #[Value.ref b] s) 4 φ 564 lv [] := by
    intro φ lv
    refine j_iconst (n' := 565) (jF.lo F (by omega) (by omega)) dL_law_564 rfl ?_
    intro H locs ls hP hS hl
    exact va_forget (fun q hq => hS.2.2 q hq) (W.widen (by decide) (by decide) (lw_ret hx hcode hret hlk dL_law_565))
  have main : jJ (p, l, e, room_1, s, m, #[Value.ref b], below, meth, c) G s.heap.size (fun _ => none) 0 0 0 (lw_Z below #[Value.ref b] s) 4 φ0 0 [some (.ref b), none, none, none] [] := by
    refine j_new (N := 17) (n' := 3) (jF.lo F (by omega) (by omega)) nw_L_7 (fun b => by unfold φ0; rw [if_neg (by omega)]) dL_law_0 rfl ?_
    refine j_dup (n' := 4) (jF.lo F (by omega) (by omega)) rfl dL_law_3 rfl ?_
    refine j_callI (mc := 98) (ms := 2183) (n' := 7) (jF.lo F (by omega) (by omega)) hZ ki_L_9 (c_Cla_init (κU_self _ _ _) (fun a b h1 h2 h3 => by unfold φ0; rw [if_neg (by omega)]) (fun j hj => by unfold φ0; rw [if_pos (by omega)]; rfl) (fun j hj => by unfold φ0; rw [if_pos (by omega)]; rfl)) (by decide) (Nat.le_of_ble_eq_true rfl) dL_law_4 rfl ?_
    refine j_astore_1 (n' := 8) (jF.lo F (by omega) (by omega)) (by decide) (fun w h => by cases h; rfl) dL_law_7 rfl ?_
    refine j_new (N := 24) (n' := 11) (jF.lo F (by omega) (by omega)) nw_L_10 (fun b => by rw [zU_ne (by omega), zU_ne (by omega)]; unfold φ0; rw [if_neg (by omega)]) dL_law_8 rfl ?_
    refine j_dup (n' := 12) (jF.lo F (by omega) (by omega)) rfl dL_law_11 rfl ?_
    refine j_callI (mc := 13) (ms := 2677) (n' := 15) (jF.lo F (by omega) (by omega)) hZ ki_L_12 (c_Mod_init (κU_self _ _ _) (fun a b h => by rw [zU_ne (by omega), zU_ne (by omega)]; unfold φ0; rw [if_neg (by omega)])) (by decide) (Nat.le_of_ble_eq_true rfl) dL_law_12 rfl ?_
    refine j_astore_2 (n' := 16) (jF.lo F (by omega) (by omega)) (by decide) jc_r dL_law_15 rfl ?_
    refine j_iconst (n' := 17) (jF.lo F (by omega) (by omega)) dL_law_16 rfl ?_
    refine j_istore_3 (n' := 18) (jF.lo F (by omega) (by omega)) (by decide) jc_r dL_law_17 rfl ?_
    intro H locs ls hP hS hl
    exact law_loop (kc := 113) (ks := 4901) (jF.lo F (by omega) (by omega)) hX hb hb hL hend 1536 0 φI (by omega) (by omega) (by omega) φI_ok.1 φI_ok.2.1 φI_ok.2.2 H locs ls (jP.toF hP rfl (by decide +kernel)) hS hl
  have hl := lv_entry [Value.ref b] (n := 4) (Nat.le_of_ble_eq_true rfl)
  rw [lg_entry_eq]
  exact main s.heap [] _ ⟨by omega, fun i kd h => by cases h⟩ va_S.rf hl
