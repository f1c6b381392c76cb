/-! ===== behind both constructors ===== -/
def φ0 : jPhi := fun a b => if (a = 35 ∨ a = 95) ∧ 0 ≤ b ∧ b < 18 then jPr b.toNat else 0
def φI : jPhi := fun a b => if a = 102 ∧ 0 ≤ b ∧ b < 18 then jPr b.toNat else zU (zU φ0 37 2 (-1)) 0 11 (-1) a b
theorem jP.toF {G : jG} {B0 : Nat} {κ : Int → Option jKd} {n : Nat} {φ : jPhi} {H : Heap} (h : jP G B0 κ n φ H) (hn : n = 113) (hκ : ∀ i : Fin 113, κ ((i : Nat) : Int) = jshape[(i : Nat)]?) : jP G B0 κF 113 φ H := by
  subst hn
  refine ⟨h.1, fun i kd hi => ?_⟩
  unfold κF at hi
  by_cases q : 0 ≤ i
  · rw [if_pos q] at hi
    have hl : i.toNat < 113 := by
      have := (List.getElem?_eq_some_iff.mp hi).1
      rw [κF_len] at this
      exact this
    have h1 := hκ ⟨i.toNat, hl⟩
    have e : ((i.toNat : Nat) : Int) = i := by omega
    simp only [e] at h1
    exact h.2 i kd (h1.trans hi)
  · rw [if_neg q] at hi
    cases hi
theorem jPr_ok {b : Int} (h : 0 ≤ b ∧ b < 18) : 1 ≤ jPr b.toNat ∧ jPr b.toNat ≤ 30 := by
  rw [jPr_val h]
  repeat (first | omega | split)
theorem φI_z {a b : Int} (h1 : a ≠ 35) (h2 : a ≠ 95) (h3 : a ≠ 102) (h4 : ¬ (a = 37 ∧ b = 2)) (h5 : ¬ (a = 0 ∧ b = 11)) : φI a b = 0 := by
  unfold φI
  rw [if_neg (by omega), zU_ne h5, zU_ne h4]
  unfold φ0
  rw [if_neg (by omega)]
theorem φI_35 : φI 35 = fun b => if 0 ≤ b ∧ b < 18 then jPr b.toNat else 0 := by
  funext b
  unfold φI
  rw [if_neg (by omega), zU_ne (by omega), zU_ne (by omega)]
  unfold φ0
  by_cases q : 0 ≤ b ∧ b < 18
  · rw [if_pos (by omega), if_pos q]
  · rw [if_neg (by omega), if_neg q]
theorem φI_102 : φI 102 = fun b => if 0 ≤ b ∧ b < 18 then jPr b.toNat else 0 := by
  funext b
  unfold φI
  by_cases q : 0 ≤ b ∧ b < 18
  · rw [if_pos ⟨rfl, q⟩, if_pos q]
  · rw [if_neg (fun h => q h.2), if_neg q, zU_ne (by omega), zU_ne (by omega)]
    unfold φ0
    rw [if_neg (by omega)]
theorem φI_ok : ciOk φI ∧ miOk φI ∧ pubC φI = pubM φI := by
  have z : ∀ a b : Int, a ≠ 35 → a ≠ 95 → a ≠ 102 → ¬ (a = 37 ∧ b = 2) → ¬ (a = 0 ∧ b = 11) → φI a b = 0 := fun a b h1 h2 h3 h4 h5 => φI_z h1 h2 h3 h4 h5
  have p35 : prOk (φI 35) := fun k k1 k2 => by rw [φI_35]; dsimp only; rw [if_pos ⟨k1, k2⟩]; exact jPr_ok ⟨k1, k2⟩
  have p102 : prOk (φI 102) := fun k k1 k2 => by rw [φI_102]; dsimp only; rw [if_pos ⟨k1, k2⟩]; exact jPr_ok ⟨k1, k2⟩
  have a1 := z 1 1 (by omega) (by omega) (by omega) (by omega) (by omega)
  have a2 := z 7 2 (by omega) (by omega) (by omega) (by omega) (by omega)
  have a3 := z 99 0 (by omega) (by omega) (by omega) (by omega) (by omega)
  have a4 := z 99 2 (by omega) (by omega) (by omega) (by omega) (by omega)
  have f1 : φI 2 = φI 100 := funext fun b => by rw [z 2 b (by omega) (by omega) (by omega) (by omega) (by omega), z 100 b (by omega) (by omega) (by omega) (by omega) (by omega)]
  have f2 : φI 8 = φI 101 := funext fun b => by rw [z 8 b (by omega) (by omega) (by omega) (by omega) (by omega), z 101 b (by omega) (by omega) (by omega) (by omega) (by omega)]
  refine ⟨⟨⟨by omega, fun k k1 k2 => by omega, by omega, fun p d h1 h2 h3 => by omega, fun k k1 k2 => by omega, p35⟩, Or.inl (z 0 9 (by omega) (by omega) (by omega) (by omega) (by omega)), Or.inl (z 0 10 (by omega) (by omega) (by omega) (by omega) (by omega))⟩, ⟨by omega, fun k k1 k2 => by omega, by omega, fun k k1 k2 => by omega, p102⟩, ?_⟩
  unfold pubC pubM
  rw [f1, f2, a1, a2, a3, a4, φI_35, φI_102, z 0 14 (by omega) (by omega) (by omega) (by omega) (by omega), z 0 15 (by omega) (by omega) (by omega) (by omega) (by omega), z 0 16 (by omega) (by omega) (by omega) (by omega) (by omega), z 99 5 (by omega) (by omega) (by omega) (by omega) (by omega), z 99 6 (by omega) (by omega) (by omega) (by omega) (by omega), z 99 7 (by omega) (by omega) (by omega) (by omega) (by omega)]
