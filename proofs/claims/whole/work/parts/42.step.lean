/-! ===== one step of the law ===== -/
theorem b32 (x : Int32) : -2147483648 ≤ x.toInt ∧ x.toInt ≤ 2147483647 := by
  have h1 := Int32.le_toInt x
  have h2 := Int32.toInt_lt x
  omega
theorem law_mi {ψ φ1 : jPhi} (hm : miOk ψ) (f1 : frC (fun a => a < 99) ψ φ1) : miOk φ1 := hm.fr (f1 99 0 (by omega)) (f1 99 2 (by omega)) (fun a ha b => f1 a b (by omega))
theorem law_st {ψ φ1 φ2 : jPhi} {z1 z2 : Int} {f : pubT → Int × pubT} (hp : pubC ψ = pubM ψ) (h1 : (z1, pubC φ1) = f (pubC ψ)) (c1 : ciOk φ1) (f1 : frC (fun a => a < 99) ψ φ1) (h2 : (z2, pubM φ2) = f (pubM φ1)) (c2 : miOk φ2) (f2 : frC (fun a => 99 ≤ a) φ1 φ2) : z2 = z1 ∧ ciOk φ2 ∧ miOk φ2 ∧ pubC φ2 = pubM φ2 := by
  have e1 : pubM φ1 = pubM ψ := pubM_fr (fun a ha b => f1 a b (by omega)) (fun b hb => f1 99 b (by omega))
  have e2 : pubC φ2 = pubC φ1 := pubC_fr (fun a ha b => f2 a b (by omega)) (fun b hb => f2 0 b (by omega))
  rw [e1, ← hp, ← h1] at h2
  exact ⟨congrArg Prod.fst h2, c1.fr (fun a ha b => f2 a b (by omega)), c2, e2.trans (congrArg Prod.snd h2).symm⟩
