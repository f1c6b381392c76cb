/-! ===== the same fold, begun from the best of the others ===== -/
theorem cnd_some {b : Int × Int} {w x : Int} (hb : b.2 ≠ -1) : cnd b w x = if b.1 ≤ w then b else (w, x) := by
  unfold cnd
  by_cases h : b.1 ≤ w
  · rw [if_pos ⟨hb, h⟩, if_pos h]
  · rw [if_neg (fun q => h q.2), if_neg h]
theorem cnd_none {b : Int × Int} {w x : Int} (hb : b.2 = -1) : cnd b w x = (w, x) := if_neg (fun q => q.1 hb)
theorem cpF_from {P : Int → Int} {T : Int → Int → Int} {L : Int → Int} {q f : Int} {b : Int × Int} (hb : b.2 ≠ -1) : cpF P T L q f b = if (cpF P T L q f (0, -1)).2 ≠ -1 ∧ (cpF P T L q f (0, -1)).1 < b.1 then cpF P T L q f (0, -1) else b := by
  have key : ∀ (c : Int × Int) (w x : Int), x ≠ -1 → cnd (if c.2 ≠ -1 ∧ c.1 < b.1 then c else b) w x = if (cnd c w x).2 ≠ -1 ∧ (cnd c w x).1 < b.1 then cnd c w x else b := by
    intro c w x hx
    by_cases h1 : c.2 = -1
    · rw [if_neg (c := c.2 ≠ -1 ∧ c.1 < b.1) (fun q => q.1 h1), cnd_none h1, cnd_some hb]
      by_cases h2 : w < b.1
      · rw [if_neg (c := b.1 ≤ w) (by omega), if_pos (c := (w, x).2 ≠ -1 ∧ (w, x).1 < b.1) ⟨hx, h2⟩]
      · rw [if_pos (c := b.1 ≤ w) (by omega), if_neg (c := (w, x).2 ≠ -1 ∧ (w, x).1 < b.1) (fun q => h2 q.2)]
    · by_cases h2 : c.1 < b.1
      · rw [if_pos (c := c.2 ≠ -1 ∧ c.1 < b.1) ⟨h1, h2⟩, cnd_some h1]
        by_cases h3 : c.1 ≤ w
        · rw [if_pos (c := c.1 ≤ w) h3, if_pos (c := c.2 ≠ -1 ∧ c.1 < b.1) ⟨h1, h2⟩]
        · rw [if_neg (c := c.1 ≤ w) h3, if_pos (c := (w, x).2 ≠ -1 ∧ (w, x).1 < b.1) ⟨hx, by show w < b.1; omega⟩]
      · rw [if_neg (c := c.2 ≠ -1 ∧ c.1 < b.1) (fun q => h2 q.2), cnd_some h1, cnd_some hb]
        by_cases h3 : c.1 ≤ w
        · rw [if_pos (c := c.1 ≤ w) h3, if_neg (c := c.2 ≠ -1 ∧ c.1 < b.1) (fun q => h2 q.2), if_pos (c := b.1 ≤ w) (by omega)]
        · rw [if_neg (c := c.1 ≤ w) h3]
          by_cases h4 : w < b.1
          · rw [if_neg (c := b.1 ≤ w) (by omega), if_pos (c := (w, x).2 ≠ -1 ∧ (w, x).1 < b.1) ⟨hx, h4⟩]
          · rw [if_pos (c := b.1 ≤ w) (by omega), if_neg (c := (w, x).2 ≠ -1 ∧ (w, x).1 < b.1) (fun q => h4 q.2)]
  have run : ∀ (F : Int → Int × Int → Int × Int) (k : Nat) (i : Int), (∀ j c, i ≤ j → F j (if c.2 ≠ -1 ∧ c.1 < b.1 then c else b) = if (F j c).2 ≠ -1 ∧ (F j c).1 < b.1 then F j c else b) → ∀ c, lpN F k i (if c.2 ≠ -1 ∧ c.1 < b.1 then c else b) = if (lpN F k i c).2 ≠ -1 ∧ (lpN F k i c).1 < b.1 then lpN F k i c else b := by
    intro F k
    induction k with
    | zero => intro i _ c; rfl
    | succ k ih =>
      intro i h c
      show lpN F k (i + 1) (F i _) = _
      rw [h i c (Int.le_refl _)]
      exact ih (i + 1) (fun j c hj => h j c (by omega)) (F i c)
  have h0 := run (cpD P T L q) (q - f + 1 - 1).toNat 1 (fun d c hd => by
    unfold cpD lpI
    exact run (cpI P T q d) _ 2 (fun j c hj => key c _ _ (by omega)) c) (0, -1)
  rw [if_neg (fun q : ((0 : Int), (-1 : Int)).2 ≠ -1 ∧ _ => q.1 rfl)] at h0
  exact h0
theorem stS_from {P : Int → Int} {T : Int → Int → Int} {t L : Int → Int} {q la f : Int} (ht : t q ≠ -1) : cpF P T L q f (agF P T (agM L la) q la (plB P T t q la)) = stS P T t L q la f := by
  have h := (agF_le (P := P) (T := T) (m := agM L la) (q := q) (la := la) (b := plB P T t q la) (by simp only [plB]; exact ht)).2
  rw [cpF_from h]
  rfl
/-- a row's weight -/
theorem Tw_sum {P t : Int → Int} {f e : Int} (hf : 0 ≤ f) (he : e ≤ 24) (ht : txOk t e) : ∀ (k : Nat) (q la : Int), f ≤ q → q ≤ e → e - q ≤ k → Tw P t f e q la = 32 * rwSum (tkPrice P) (wlk (Tf P t f e) e k q la) + (wlk (Tf P t f e) e k q la).length
  | 0, q, la, h1, h2, h3 => by
    have : q = e := by omega
    subst this
    unfold Tw
    rw [Tb_end, wlk]
    simp [rwSum]
  | k + 1, q, la, h1, h2, h3 => by
    rw [wlk]
    by_cases h4 : q < e
    · rw [if_pos h4]
      have ok := Tb_ok (P := P) (la := la) hf he ht h1 h4
      have hl : 1 ≤ tkLen (Tf P t f e q la) := by
        have := ok.1
        unfold Tf
        unfold tkOk at this
        unfold tkLen
        split <;> omega
      have ih := Tw_sum (P := P) hf he ht k (q + tkLen (Tf P t f e q la)) (nxL la (Tf P t f e q la)) (by omega) ok.2.1 (by omega)
      have h5 := ok.2.2.2.2
      show (Tb P t f e q la).1 = _
      rw [h5, rwSum_cons]
      show 32 * tkPrice P (Tf P t f e q la) + 1 + Tw P t f e (q + tkLen (Tf P t f e q la)) (nxL la (Tf P t f e q la)) = _
      rw [ih]
      simp only [List.length_cons, Int.natCast_add]
      omega
    · rw [if_neg h4]
      have : q = e := by omega
      subst this
      unfold Tw
      rw [Tb_end]
      simp [rwSum]
/-- the reference's table -/
def mtOk (φ : jPhi) (P t : Int → Int) (f e q la : Int) : Prop :=
  32 * φ 104 (25 * (q - f) + la) + φ 105 (25 * (q - f) + la) = Tw P t f e q la ∧ φ 106 (25 * (q - f) + la) = Tf P t f e q la ∧ 0 ≤ φ 104 (25 * (q - f) + la) ∧ 0 ≤ φ 105 (25 * (q - f) + la) ∧ φ 105 (25 * (q - f) + la) ≤ e - q
theorem mtOk.fr {φ φ' : jPhi} {P t : Int → Int} {f e q la : Int} (h : mtOk φ P t f e q la) (h4 : φ' 104 (25 * (q - f) + la) = φ 104 (25 * (q - f) + la)) (h5 : φ' 105 (25 * (q - f) + la) = φ 105 (25 * (q - f) + la)) (h6 : φ' 106 (25 * (q - f) + la) = φ 106 (25 * (q - f) + la)) : mtOk φ' P t f e q la := by
  unfold mtOk
  rw [h4, h5, h6]
  exact h
def mst (φ : jPhi) (i : Int) : Int × Int := (32 * φ 104 i + φ 105 i, φ 106 i)
