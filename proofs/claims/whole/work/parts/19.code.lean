/-! ===== a code that is read ===== -/
def cpN : List Int → Int → Nat → List Int
  | md, _, 0 => md
  | md, d, k + 1 => cpN (md ++ [md.getD (md.length - d).toNat 0]) d k
def figF (R : Int → List Int → List Int → Int → Int × Int × List Int × List Int) (g : Int → Int) (n i : Int) (md ts : List Int) (d a : Int) : Int × Int × List Int × List Int :=
  if i < n ∧ 2 ≤ g i - 48 ∧ g i - 48 ≤ 8 ∧ md.length + (g i - 48) ≤ 24 then R (i + 1) (cpN md d (g i - 48).toNat) (ts ++ [if a = 0 then 1000 + 10 * d + (g i - 48) else 100 + (g i - 48)]) d else (i, 0, md, ts)
/-- place, whether it is a code, what it makes, its tokens -/
def rdC (g : Int → Int) (n : Int) : Nat → Int → List Int → List Int → Int → Int × Int × List Int × List Int
  | 0, i, md, ts, _ => (i, 0, md, ts)
  | k + 1, i, md, ts, la =>
    if i < n then
      (if 97 ≤ g i ∧ g i ≤ 100 then (if (md.length : Int) < 24 then rdC g n k (i + 1) (md ++ [g i - 97]) (ts ++ [g i - 97]) la else (i, 0, md, ts))
       else if 1 ≤ (if g i = 61 then la else g i - 64) ∧ (if g i = 61 then la else g i - 64) ≤ md.length then figF (rdC g n k) g n (i + 1) md ts (if g i = 61 then la else g i - 64) (if g i = 61 then 1 else 0) else (i, 0, md, ts))
    else (i, if ts.length = 0 then 0 else 1, md, ts)
def rdR (g : Int → Int) (n : Int) : Int × Int × List Int × List Int := rdC g n 31 0 [] [] 0
def mdIs (φ : jPhi) (c a : Int) (x : Int) (md : List Int) : Prop := φ c x = md.length ∧ ∀ k : Nat, k < md.length → φ a k = md.getD k 0
theorem cpN_len : ∀ (k : Nat) (md : List Int) (d : Int), (cpN md d k).length = md.length + k
  | 0, md, d => rfl
  | k + 1, md, d => by
    rw [cpN, cpN_len k]
    simp
    omega
def ltOk (md : List Int) : Prop := ∀ x ∈ md, 0 ≤ x ∧ x ≤ 3
theorem ltOk_app {md : List Int} {x : Int} (h : ltOk md) (hx : 0 ≤ x ∧ x ≤ 3) : ltOk (md ++ [x]) := by
  intro y hy
  rcases List.mem_append.mp hy with h1 | h1
  · exact h y h1
  · rw [List.mem_singleton.mp h1]
    exact hx
theorem ltOk_cpN : ∀ (k : Nat) {md : List Int} {d : Int}, ltOk md → ltOk (cpN md d k)
  | 0, md, d, h => h
  | k + 1, md, d, h => by
    rw [cpN]
    refine ltOk_cpN k (ltOk_app h ?_)
    rw [List.getD]
    cases e : md[(md.length - d).toNat]? with
    | none => simp
    | some y => exact h y (List.mem_of_getElem? e)
theorem rwOk_app {ts : List Int} {x : Int} (h : rwOk ts) (hx : tkOk x) : rwOk (ts ++ [x]) := by
  intro y hy
  rcases List.mem_append.mp hy with h1 | h1
  · exact h y h1
  · rw [List.mem_singleton.mp h1]
    exact hx
/-- what is read is a text, and a row of tokens -/
def rdOk (r : Int × Int × List Int × List Int) : Prop := rwOk r.2.2.2 ∧ ltOk r.2.2.1 ∧ r.2.2.2.length ≤ r.2.2.1.length ∧ r.2.2.1.length ≤ 24 ∧ (r.2.1 = 0 ∨ r.2.1 = 1) ∧ (r.2.1 = 1 → 1 ≤ r.2.2.2.length)
theorem rdC_ok {g : Int → Int} {n : Int} (hg : ∀ k, 32 ≤ g k ∨ True) : ∀ (k : Nat) (i : Int) (md ts : List Int) (la : Int), rwOk ts → ltOk md → ts.length ≤ md.length → md.length ≤ 24 → la ≤ 24 → rdOk (rdC g n k i md ts la)
  | 0, i, md, ts, la, h1, h2, h3, h4, h5 => ⟨h1, h2, h3, h4, Or.inl rfl, fun q => by simp [rdC] at q⟩
  | k + 1, i, md, ts, la, h1, h2, h3, h4, h5 => by
    have no : rdOk (i, 0, md, ts) := ⟨h1, h2, h3, h4, Or.inl rfl, fun q => by simp at q⟩
    unfold rdC
    generalize (if g i = 61 then la else g i - 64) = d
    generalize (if g i = 61 then (1 : Int) else 0) = a
    split
    · split
      · split
        · rename_i q1 q2 q3
          exact rdC_ok hg k (i + 1) _ _ la (rwOk_app h1 (by unfold tkOk; omega)) (ltOk_app h2 (by omega)) (by simp; omega) (by simp; omega) h5
        · exact no
      · split
        · rename_i q1 q2 q3
          unfold figF
          split
          · rename_i q4
            refine rdC_ok hg k (i + 1 + 1) _ _ d (rwOk_app h1 ?_) (ltOk_cpN _ h2) (by rw [cpN_len]; simp; omega) (by rw [cpN_len]; omega) (by omega)
            split
            · exact (tk_copy (j := g (i + 1) - 48) (d := d) (by omega) (by omega) 0).1
            · exact (tk_again (j := g (i + 1) - 48) (by omega) 0).1
          · exact ⟨h1, h2, h3, h4, Or.inl rfl, fun q => by simp at q⟩
        · exact no
    · refine ⟨h1, h2, h3, h4, ?_, fun q => ?_⟩
      · simp only
        split
        · exact Or.inl rfl
        · exact Or.inr rfl
      · simp only at q ⊢
        split at q
        · omega
        · omega
theorem rdR_ok (g : Int → Int) (n : Int) : rdOk (rdR g n) := rdC_ok (fun _ => Or.inr trivial) 31 0 [] [] 0 (fun _ h => by simp at h) (fun _ h => by simp at h) (by simp) (by simp) (by omega)
theorem mdIs.fr {φ φ' : jPhi} {c a x : Int} {md : List Int} (h : mdIs φ c a x md) (hc : φ' c x = φ c x) (ha : ∀ b, φ' a b = φ a b) : mdIs φ' c a x md := ⟨by rw [hc]; exact h.1, fun k hk => by rw [ha]; exact h.2 k hk⟩
theorem mdIs.push {φ φ' : jPhi} {c a x z : Int} {md : List Int} (h : mdIs φ c a x md) (hc : φ' c x = φ c x + 1) (h1 : φ' a (φ c x) = z) (h2 : ∀ b, b ≠ φ c x → φ' a b = φ a b) : mdIs φ' c a x (md ++ [z]) := by
  refine ⟨by rw [hc, h.1]; simp, fun k hk => ?_⟩
  have e0 := h.1
  by_cases e : k < md.length
  · rw [h2 k (by omega), h.2 k e]
    simp [List.getD, List.getElem?_append_left e]
  · have e2 : k = md.length := by simp at hk; omega
    subst e2
    rw [← e0, h1]
    simp [List.getD]
theorem mdIs.at {φ : jPhi} {c a x : Int} {md : List Int} (h : mdIs φ c a x md) {k : Int} (h0 : 0 ≤ k) (h1 : k < md.length) : φ a k = md.getD k.toNat 0 := by
  have h2 := h.2 k.toNat (by omega)
  rw [show ((k.toNat : Nat) : Int) = k by omega] at h2
  exact h2
