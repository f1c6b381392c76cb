/-! ===== the cheapest, from the end backwards: a weight is 32 times the price and the number of tokens ===== -/
def cnd (b : Int × Int) (w x : Int) : Int × Int := if b.2 ≠ -1 ∧ b.1 ≤ w then b else (w, x)
def cpI (P : Int → Int) (T : Int → Int → Int) (q d : Int) : Int → Int × Int → Int × Int := fun len b => cnd b (32 * tkPrice P (1000 + 10 * d + len) + 1 + T (q + len) d) (1000 + 10 * d + len)
def cpD (P : Int → Int) (T : Int → Int → Int) (L : Int → Int) (q : Int) : Int → Int × Int → Int × Int := fun d b => lpI (cpI P T q d) 2 (L d + 1) b
def cpF (P : Int → Int) (T : Int → Int → Int) (L : Int → Int) (q f : Int) (b : Int × Int) : Int × Int := lpI (cpD P T L q) 1 (q - f + 1) b
def agI (P : Int → Int) (T : Int → Int → Int) (q la : Int) : Int → Int × Int → Int × Int := fun len b => cnd b (32 * tkPrice P (100 + len) + 1 + T (q + len) la) (100 + len)
def agF (P : Int → Int) (T : Int → Int → Int) (m q la : Int) (b : Int × Int) : Int × Int := lpI (agI P T q la) 2 (m + 1) b
def agM (L : Int → Int) (la : Int) : Int := if la = 0 then 0 else L la
def plB (P : Int → Int) (T : Int → Int → Int) (t : Int → Int) (q la : Int) : Int × Int := (32 * tkPrice P (t q) + 1 + T (q + 1) la, t q)
def stS (P : Int → Int) (T : Int → Int → Int) (t : Int → Int) (L : Int → Int) (q la f : Int) : Int × Int :=
  if (cpF P T L q f (0, -1)).2 ≠ -1 ∧ (cpF P T L q f (0, -1)).1 < (agF P T (agM L la) q la (plB P T t q la)).1 then cpF P T L q f (0, -1) else agF P T (agM L la) q la (plB P T t q la)
def tbl (P t : Int → Int) (f e : Int) : Nat → Int → Int → Int × Int
  | 0 => fun _ _ => (0, -1)
  | k + 1 => fun q la => if q = e - ((k : Int) + 1) then stS P (fun q la => (tbl P t f e k q la).1) t (lik t e 8 q) q la f else tbl P t f e k q la
/-- of the letters from f up to e: at place q, la the latest distance: weight and first token -/
def Tb (P t : Int → Int) (f e q la : Int) : Int × Int := tbl P t f e (e - q).toNat q la
def Tw (P t : Int → Int) (f e q la : Int) : Int := (Tb P t f e q la).1
def Tf (P t : Int → Int) (f e q la : Int) : Int := (Tb P t f e q la).2
theorem tbl_up {P t : Int → Int} {f e q la : Int} : ∀ (k : Nat), (e - q).toNat ≤ k → q ≤ e → tbl P t f e k q la = Tb P t f e q la
  | 0, h, hq => by
    unfold Tb
    rw [show (e - q).toNat = 0 by omega]
  | k + 1, h, hq => by
    by_cases h1 : (e - q).toNat = k + 1
    · unfold Tb
      rw [h1]
    · rw [tbl]
      simp only
      rw [if_neg (by omega)]
      exact tbl_up k (by omega) hq
theorem agF_congr {P : Int → Int} {T T' : Int → Int → Int} {m q la : Int} {b : Int × Int} (h : ∀ j, 2 ≤ j → j ≤ m → T (q + j) la = T' (q + j) la) : agF P T m q la b = agF P T' m q la b := by
  unfold agF
  exact lpI_congr (fun j b h1 h2 => by unfold agI; rw [h j h1 (by omega)])
theorem cpF_congr {P : Int → Int} {T T' : Int → Int → Int} {L : Int → Int} {q f : Int} {b : Int × Int} (h : ∀ d j, 1 ≤ d → d ≤ q - f → 2 ≤ j → j ≤ L d → T (q + j) d = T' (q + j) d) : cpF P T L q f b = cpF P T' L q f b := by
  unfold cpF
  refine lpI_congr (fun d b h1 h2 => ?_)
  unfold cpD
  exact lpI_congr (fun j b h3 h4 => by unfold cpI; rw [h d j h1 (by omega) h3 (by omega)])
theorem stS_congr {P : Int → Int} {T T' : Int → Int → Int} {t L : Int → Int} {q la f e : Int} (hq : q < e) (hL : ∀ d, L d ≤ e - q) (h : ∀ q' d, q < q' → q' ≤ e → T q' d = T' q' d) : stS P T t L q la f = stS P T' t L q la f := by
  have hm : agM L la ≤ e - q := by
    unfold agM
    have := hL la
    split <;> omega
  unfold stS plB
  rw [cpF_congr (T' := T') (fun d j h1 h2 h3 h4 => h _ _ (by omega) (by have := hL d; omega)), agF_congr (T' := T') (fun j h1 h2 => h _ _ (by omega) (by omega)), h _ _ (by omega) (by omega)]
theorem Tb_end {P t : Int → Int} {f e la : Int} : Tb P t f e e la = (0, -1) := by
  unfold Tb
  rw [show (e - e).toNat = 0 by omega]
  rfl
theorem Tb_step {P t : Int → Int} {f e q la : Int} (h : q < e) : Tb P t f e q la = stS P (Tw P t f e) t (lik t e 8 q) q la f := by
  have e1 : (e - q).toNat = (e - q - 1).toNat + 1 := by omega
  unfold Tb
  rw [e1, tbl]
  simp only
  rw [if_pos (by omega)]
  refine stS_congr h (fun d => ?_) (fun q' d h1 h2 => ?_)
  · have := (lik_bd t e 8 q d).2.2 (by omega)
    omega
  · unfold Tw
    rw [tbl_up _ (by omega) h2]
/-- what is chosen: a token that goes no further than e, and its weight -/
def nxL (la x : Int) : Int := if 1000 ≤ x then tkDist x else la
def okB (P : Int → Int) (T : Int → Int → Int) (f e q la : Int) (b : Int × Int) : Prop :=
  tkOk b.2 ∧ q + tkLen b.2 ≤ e ∧ (1000 ≤ b.2 → tkDist b.2 ≤ q - f) ∧ (100 ≤ b.2 → b.2 < 1000 → la ≠ 0) ∧ b.1 = 32 * tkPrice P b.2 + 1 + T (q + tkLen b.2) (nxL la b.2)
theorem tk_again {j : Int} (h : 2 ≤ j ∧ j ≤ 8) (la : Int) : tkOk (100 + j) ∧ tkLen (100 + j) = j ∧ nxL la (100 + j) = la := by
  unfold tkOk tkLen nxL
  rw [if_neg (by omega), if_neg (by omega)]
  omega
theorem tk_copy {d j : Int} (h : 2 ≤ j ∧ j ≤ 8) (hd : 1 ≤ d ∧ d ≤ 24) (la : Int) : tkOk (1000 + 10 * d + j) ∧ tkLen (1000 + 10 * d + j) = j ∧ tkDist (1000 + 10 * d + j) = d ∧ nxL la (1000 + 10 * d + j) = d := by
  unfold tkOk tkLen nxL tkDist
  rw [if_neg (by omega), if_neg (by omega), if_pos (by omega)]
  omega
theorem okB_again {P : Int → Int} {T : Int → Int → Int} {f e q la m : Int} {b : Int × Int} (hm : m ≤ e - q ∧ m ≤ 8) (hla : m ≤ 1 ∨ la ≠ 0) (h : okB P T f e q la b) : okB P T f e q la (agF P T m q la b) := by
  unfold agF
  by_cases hm2 : 2 ≤ m
  · refine lpI_inv (fun _ b => okB P T f e q la b) (by omega) h (fun j b h1 h2 h3 => ?_)
    unfold agI cnd
    split
    · exact h3
    · obtain ⟨a1, a2, a3⟩ := tk_again (j := j) (by omega) la
      refine ⟨a1, by rw [a2]; omega, fun q => by simp only at q; omega, fun _ _ => by omega, by rw [a2, a3]⟩
  · rw [lpI_end (by omega)]
    exact h
theorem okB_copy {P : Int → Int} {T : Int → Int → Int} {L : Int → Int} {f e q la : Int} (hf : 0 ≤ f ∧ f ≤ q ∧ q ≤ 24) (hL : ∀ d, L d ≤ e - q ∧ L d ≤ 8) {b : Int × Int} (hb : b.2 = -1 ∨ okB P T f e q la b) : (cpF P T L q f b).2 = -1 ∨ okB P T f e q la (cpF P T L q f b) := by
  unfold cpF
  refine lpI_inv (lo := 1) (hi := q - f + 1) (fun _ b => b.2 = -1 ∨ okB P T f e q la b) (by omega) hb (fun d b h1 h2 h3 => ?_)
  unfold cpD
  have hl := hL d
  by_cases hm2 : 2 ≤ L d
  · refine lpI_inv (lo := 2) (hi := L d + 1) (fun _ b => b.2 = -1 ∨ okB P T f e q la b) (by omega) h3 (fun j b h4 h5 h6 => ?_)
    unfold cpI cnd
    split
    · exact h6
    · obtain ⟨a1, a2, a3, a4⟩ := tk_copy (j := j) (d := d) (by omega) (by omega) la
      exact Or.inr ⟨a1, by rw [a2]; omega, fun _ => by rw [a3]; omega, fun _ q => by simp only at q; omega, by rw [a2, a4]⟩
  · rw [lpI_end (by omega)]
    exact h3
theorem agF_le {P : Int → Int} {T : Int → Int → Int} {m q la : Int} {b : Int × Int} (hb : b.2 ≠ -1) : (agF P T m q la b).1 ≤ b.1 ∧ (agF P T m q la b).2 ≠ -1 := by
  unfold agF
  by_cases hm : 2 ≤ m + 1
  · refine lpI_inv (fun (_ : Int) (c : Int × Int) => c.1 ≤ b.1 ∧ c.2 ≠ -1) hm ⟨Int.le_refl _, hb⟩ (fun j c h1 h2 h3 => ?_)
    unfold agI cnd
    split
    · exact h3
    · rename_i q
      simp only
      omega
  · rw [lpI_end (by omega)]
    exact ⟨Int.le_refl _, hb⟩
def txOk (t : Int → Int) (n : Int) : Prop := ∀ k, 0 ≤ k → k < n → 0 ≤ t k ∧ t k ≤ 3
theorem Tb_ok {P t : Int → Int} {f e : Int} (hf : 0 ≤ f) (he : e ≤ 24) (ht : txOk t e) {q la : Int} (h1 : f ≤ q) (h2 : q < e) : okB P (Tw P t f e) f e q la (Tb P t f e q la) := by
  have hl : ∀ d, lik t e 8 q d ≤ e - q ∧ lik t e 8 q d ≤ 8 := fun d => by
    have := lik_bd t e 8 q d
    have := this.2.2 (by omega)
    omega
  have hc := ht q (by omega) h2
  rw [Tb_step h2]
  unfold stS
  split
  · rename_i g
    rcases okB_copy (P := P) (T := Tw P t f e) (L := lik t e 8 q) (f := f) (e := e) (q := q) (la := la) (by omega) hl (b := (0, -1)) (Or.inl rfl) with h | h
    · exact absurd h g.1
    · exact h
  · have hm : agM (lik t e 8 q) la ≤ e - q ∧ agM (lik t e 8 q) la ≤ 8 := by
      have := hl la
      unfold agM
      split <;> omega
    refine okB_again hm ?_ ?_
    · unfold agM
      split
      · exact Or.inl (by omega)
      · rename_i g
        exact Or.inr g
    · have e1 : tkLen (t q) = 1 := by unfold tkLen; rw [if_pos (by omega)]
      have e2 : nxL la (t q) = la := by unfold nxL; rw [if_neg (by omega)]
      unfold plB
      exact ⟨by simp only [tkOk]; omega, by simp only [e1]; omega, fun q => by simp only at q; omega, fun q _ => by simp only at q; omega, by simp only [e1, e2]⟩
theorem Tw_bd {P t : Int → Int} {f e : Int} (hP : prOk P) (hf : 0 ≤ f) (he : e ≤ 24) (ht : txOk t e) : ∀ (k : Nat) (q la : Int), f ≤ q → q ≤ e → (e - q).toNat = k → 0 ≤ Tw P t f e q la ∧ Tw P t f e q la ≤ 961 * (e - q)
  | 0, q, la, h1, h2, h3 => by
    have : q = e := by omega
    subst this
    unfold Tw
    rw [Tb_end]
    simp only
    omega
  | k + 1, q, la, h1, h2, h3 => by
    have h4 : q < e := by omega
    have ok := Tb_ok (P := P) (la := la) hf he ht h1 h4
    obtain ⟨a1, a2, a3, a4, a5⟩ := ok
    have hlen : 1 ≤ tkLen (Tb P t f e q la).2 := by
      unfold tkOk at a1
      unfold tkLen
      split <;> omega
    have n1 := Tw_bd hP hf he ht (e - (q + tkLen (Tb P t f e q la).2)).toNat
    have hb := tkPrice_bd hP (Tb P t f e q la).2
    have hc := ht q (by omega) h4
    have nx : 0 ≤ Tw P t f e (q + tkLen (Tb P t f e q la).2) (nxL la (Tb P t f e q la).2) := by
      by_cases hk : (e - (q + tkLen (Tb P t f e q la).2)).toNat ≤ k
      · have hz : ∀ j : Nat, j ≤ k → ∀ q la : Int, f ≤ q → q ≤ e → (e - q).toNat = j → 0 ≤ Tw P t f e q la ∧ Tw P t f e q la ≤ 961 * (e - q) := fun j hj q la g1 g2 g3 => Tw_bd hP hf he ht j q la g1 g2 g3
        exact (hz _ hk _ _ (by omega) a2 rfl).1
      · omega
    have n2 := Tw_bd hP hf he ht k (q + 1) la (by omega) (by omega) (by omega)
    refine ⟨by unfold Tw; rw [a5]; omega, ?_⟩
    have hx : Tw P t f e q la ≤ 32 * tkPrice P (t q) + 1 + Tw P t f e (q + 1) la := by
      show (Tb P t f e q la).1 ≤ _
      rw [Tb_step h4]
      have hg := agF_le (P := P) (T := Tw P t f e) (m := agM (lik t e 8 q) la) (q := q) (la := la) (b := plB P (Tw P t f e) t q la) (by simp only [plB]; omega)
      unfold stS
      split
      · rename_i g
        have := hg.1
        simp only [plB] at this
        simp only [plB] at g
        omega
      · have := hg.1
        simp only [plB] at this ⊢
        exact this
    have hp : tkPrice P (t q) ≤ 30 := by
      unfold tkPrice
      rw [if_pos (by omega)]
      exact (pget_bd hP _).2
    omega
/-- the copies' fold from a stale weight -/
theorem cpF_stale {P : Int → Int} {T : Int → Int → Int} {L : Int → Int} {q f x : Int} (hf : f ≤ q) : (cpF P T L q f (x, -1)).2 = (cpF P T L q f (0, -1)).2 ∧ ((cpF P T L q f (0, -1)).2 ≠ -1 → cpF P T L q f (x, -1) = cpF P T L q f (0, -1)) := by
  have key : ∀ {b c : Int × Int} (w z : Int), (b.2 = c.2 ∧ (c.2 ≠ -1 → b = c)) → ((cnd b w z).2 = (cnd c w z).2 ∧ ((cnd c w z).2 ≠ -1 → cnd b w z = cnd c w z)) := by
    intro b c w z h
    by_cases e : c.2 = -1
    · have e2 : b.2 = -1 := h.1.trans e
      unfold cnd
      rw [if_neg (fun q => q.1 e2), if_neg (fun q => q.1 e)]
      exact ⟨rfl, fun _ => rfl⟩
    · rw [h.2 e]
      exact ⟨rfl, fun _ => rfl⟩
  have pair : ∀ (k : Nat) (F : Int → Int × Int → Int × Int), (∀ i b c, (b.2 = c.2 ∧ (c.2 ≠ -1 → b = c)) → ((F i b).2 = (F i c).2 ∧ ((F i c).2 ≠ -1 → F i b = F i c))) → ∀ (i : Int) (b c : Int × Int), (b.2 = c.2 ∧ (c.2 ≠ -1 → b = c)) → ((lpN F k i b).2 = (lpN F k i c).2 ∧ ((lpN F k i c).2 ≠ -1 → lpN F k i b = lpN F k i c)) := by
    intro k F hF
    induction k with
    | zero => intro i b c h; exact h
    | succ k ih => intro i b c h; exact ih (i + 1) _ _ (hF i b c h)
  unfold cpF lpI
  refine pair _ _ (fun d b c h => ?_) _ _ _ ⟨rfl, fun q => absurd rfl q⟩
  unfold cpD lpI
  exact pair _ (cpI P T q d) (fun j b c h => key _ _ h) _ _ _ h
/-- the row of tokens: by the first ones, on and on -/
def wlk (F : Int → Int → Int) (e : Int) : Nat → Int → Int → List Int
  | 0, _, _ => []
  | k + 1, p, la => if p < e then F p la :: wlk F e k (p + tkLen (F p la)) (nxL la (F p la)) else []
def toks (P t : Int → Int) (f e : Int) : List Int := wlk (Tf P t f e) e 24 f 0
