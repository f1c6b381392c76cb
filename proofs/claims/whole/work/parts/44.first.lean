/-! ===== the first prices ===== -/
set_option maxRecDepth 20000 in
theorem jZ_start {s : State} {A : Array Value} {G : jG} (hK : jK G s) (hts : ∀ w ∈ lw_tbl, w.before A s = true) (hgv : (Jvm.Cond.and given_1 narrow_1).before A s = true) : jZ G s.heap.size s := by
  have hs := flat_of_before _ hgv
  have hl : (Jvm.Cond.eq (Jvm.Term.length (Jvm.Term.static "PricedCopies" "FIRST_PRICES" "[I")) (Jvm.Term.int (18 : Int32))).before A s = true := hs _ (by decide +kernel)
  have har : (Jvm.Cond.arrayOf (Jvm.Term.static "PricedCopies" "FIRST_PRICES" "[I") .int).before A s = true := hs _ (by decide +kernel)
  have hex : (Jvm.Cond.exactly (Jvm.Term.static "PricedCopies" "FIRST_PRICES" "[I") "[I").before A s = true := hs _ (by decide +kernel)
  have x0 : (Jvm.Cond.eq (Jvm.Term.elem (Jvm.Term.static "PricedCopies" "FIRST_PRICES" "[I") (Jvm.Term.int (0 : Int32))) (Jvm.Term.int (8 : Int32))).before A s = true := hs _ (by decide +kernel)
  have x1 : (Jvm.Cond.eq (Jvm.Term.elem (Jvm.Term.static "PricedCopies" "FIRST_PRICES" "[I") (Jvm.Term.int (1 : Int32))) (Jvm.Term.int (8 : Int32))).before A s = true := hs _ (by decide +kernel)
  have x2 : (Jvm.Cond.eq (Jvm.Term.elem (Jvm.Term.static "PricedCopies" "FIRST_PRICES" "[I") (Jvm.Term.int (2 : Int32))) (Jvm.Term.int (8 : Int32))).before A s = true := hs _ (by decide +kernel)
  have x3 : (Jvm.Cond.eq (Jvm.Term.elem (Jvm.Term.static "PricedCopies" "FIRST_PRICES" "[I") (Jvm.Term.int (3 : Int32))) (Jvm.Term.int (8 : Int32))).before A s = true := hs _ (by decide +kernel)
  have x4 : (Jvm.Cond.eq (Jvm.Term.elem (Jvm.Term.static "PricedCopies" "FIRST_PRICES" "[I") (Jvm.Term.int (4 : Int32))) (Jvm.Term.int (4 : Int32))).before A s = true := hs _ (by decide +kernel)
  have x5 : (Jvm.Cond.eq (Jvm.Term.elem (Jvm.Term.static "PricedCopies" "FIRST_PRICES" "[I") (Jvm.Term.int (5 : Int32))) (Jvm.Term.int (2 : Int32))).before A s = true := hs _ (by decide +kernel)
  have x6 : (Jvm.Cond.eq (Jvm.Term.elem (Jvm.Term.static "PricedCopies" "FIRST_PRICES" "[I") (Jvm.Term.int (6 : Int32))) (Jvm.Term.int (3 : Int32))).before A s = true := hs _ (by decide +kernel)
  have x7 : (Jvm.Cond.eq (Jvm.Term.elem (Jvm.Term.static "PricedCopies" "FIRST_PRICES" "[I") (Jvm.Term.int (7 : Int32))) (Jvm.Term.int (4 : Int32))).before A s = true := hs _ (by decide +kernel)
  have x8 : (Jvm.Cond.eq (Jvm.Term.elem (Jvm.Term.static "PricedCopies" "FIRST_PRICES" "[I") (Jvm.Term.int (8 : Int32))) (Jvm.Term.int (5 : Int32))).before A s = true := hs _ (by decide +kernel)
  have x9 : (Jvm.Cond.eq (Jvm.Term.elem (Jvm.Term.static "PricedCopies" "FIRST_PRICES" "[I") (Jvm.Term.int (9 : Int32))) (Jvm.Term.int (6 : Int32))).before A s = true := hs _ (by decide +kernel)
  have x10 : (Jvm.Cond.eq (Jvm.Term.elem (Jvm.Term.static "PricedCopies" "FIRST_PRICES" "[I") (Jvm.Term.int (10 : Int32))) (Jvm.Term.int (1 : Int32))).before A s = true := hs _ (by decide +kernel)
  have x11 : (Jvm.Cond.eq (Jvm.Term.elem (Jvm.Term.static "PricedCopies" "FIRST_PRICES" "[I") (Jvm.Term.int (11 : Int32))) (Jvm.Term.int (1 : Int32))).before A s = true := hs _ (by decide +kernel)
  have x12 : (Jvm.Cond.eq (Jvm.Term.elem (Jvm.Term.static "PricedCopies" "FIRST_PRICES" "[I") (Jvm.Term.int (12 : Int32))) (Jvm.Term.int (2 : Int32))).before A s = true := hs _ (by decide +kernel)
  have x13 : (Jvm.Cond.eq (Jvm.Term.elem (Jvm.Term.static "PricedCopies" "FIRST_PRICES" "[I") (Jvm.Term.int (13 : Int32))) (Jvm.Term.int (2 : Int32))).before A s = true := hs _ (by decide +kernel)
  have x14 : (Jvm.Cond.eq (Jvm.Term.elem (Jvm.Term.static "PricedCopies" "FIRST_PRICES" "[I") (Jvm.Term.int (14 : Int32))) (Jvm.Term.int (3 : Int32))).before A s = true := hs _ (by decide +kernel)
  have x15 : (Jvm.Cond.eq (Jvm.Term.elem (Jvm.Term.static "PricedCopies" "FIRST_PRICES" "[I") (Jvm.Term.int (15 : Int32))) (Jvm.Term.int (3 : Int32))).before A s = true := hs _ (by decide +kernel)
  have x16 : (Jvm.Cond.eq (Jvm.Term.elem (Jvm.Term.static "PricedCopies" "FIRST_PRICES" "[I") (Jvm.Term.int (16 : Int32))) (Jvm.Term.int (3 : Int32))).before A s = true := hs _ (by decide +kernel)
  have x17 : (Jvm.Cond.eq (Jvm.Term.elem (Jvm.Term.static "PricedCopies" "FIRST_PRICES" "[I") (Jvm.Term.int (17 : Int32))) (Jvm.Term.int (3 : Int32))).before A s = true := hs _ (by decide +kernel)
  have hln := va_eqt hl
  obtain ⟨t, ht, hT⟩ := va_Tof (N := 18) (f := fun j => iv (jPr j)) (A := fun q => s.heap.size ≤ q) (by decide) har hln (fun j hj => by
    rcases (show j = 0 ∨ j = 1 ∨ j = 2 ∨ j = 3 ∨ j = 4 ∨ j = 5 ∨ j = 6 ∨ j = 7 ∨ j = 8 ∨ j = 9 ∨ j = 10 ∨ j = 11 ∨ j = 12 ∨ j = 13 ∨ j = 14 ∨ j = 15 ∨ j = 16 ∨ j = 17 by omega) with rfl | rfl | rfl | rfl | rfl | rfl | rfl | rfl | rfl | rfl | rfl | rfl | rfl | rfl | rfl | rfl | rfl | rfl
    · exact va_eqt x0
    · exact va_eqt x1
    · exact va_eqt x2
    · exact va_eqt x3
    · exact va_eqt x4
    · exact va_eqt x5
    · exact va_eqt x6
    · exact va_eqt x7
    · exact va_eqt x8
    · exact va_eqt x9
    · exact va_eqt x10
    · exact va_eqt x11
    · exact va_eqt x12
    · exact va_eqt x13
    · exact va_eqt x14
    · exact va_eqt x15
    · exact va_eqt x16
    · exact va_eqt x17) (fun a h1 h2 => by omega)
  obtain ⟨t2, cell2, ht2, hat, hv2⟩ := Term.length_spec hln
  cases ht.symm.trans ht2
  obtain ⟨hc2, hk2, hst2, -⟩ := State.arrayAt?_spec hat
  have hsm : cell2.slots.size < 2 ^ 31 := by
    simp only [Term.eval, Option.bind_eq_bind] at hln ht
    rw [ht] at hln
    simp [hat] at hln
    omega
  obtain ⟨cell, g1, g2, g3, g4, g5, g6, g7⟩ := hT
  have e0 : cell = cell2 := Option.some.inj (g1.symm.trans hc2)
  subst e0
  have hsz : cell.slots.size = 18 := by
    have e := congrArg Int32.toInt g5
    have e2 : (cell.slots.size.toInt32).toInt = (cell.slots.size : Int) := nI_toInt (n := cell.slots.size) hsm
    rw [e2] at e
    have e3 : (Int32.ofNat 18).toInt = 18 := by decide
    omega
  obtain ⟨a', cC, cell', kC, ha', hC', hcell', hkC, hstat, hcls, -⟩ := Cond.exactly_spec hex
  cases ht.symm.trans ha'
  have e9 : cell' = cell := Option.some.inj (hcell'.symm.trans g1)
  rw [e9] at hcls
  have hnm : s.vm.findClass "[I" = some G.2.1 := (hK.1.2 0 _ rfl).2
  have ec : cC = G.2.1 := Option.some.inj (hC'.symm.trans hnm)
  have hao : (Cond.arrayOver (.array .int)).before A s = true := hts _ (lw_memT 139 (by decide +kernel))
  refine ⟨hao, va_Nw.of rfl (hts _ (lw_memT 163 (by decide +kernel))), _, cell, va_Zof (hts _ (lw_memT 157 (by decide +kernel))) (hts _ (List.mem_filter.mp q_1).1) ht (fun a h1 h2 => by omega), (Array.getElem?_eq_some_iff.mp g1).1, g1, by rw [← ec]; exact hcls, ?_, (fun k h => by rw [h] at hst2; cases hst2), g3⟩
  apply Array.ext_getElem?
  intro j
  by_cases q : j < 18
  · rw [g6 j q, arrV_read _ _ q]
  · rw [Array.getElem?_eq_none (by omega), Array.getElem?_eq_none (by rw [arrV_size]; omega)]
