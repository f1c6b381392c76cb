/-- the letter of a row at a place of its code -/
def sgnL : List Int → Int → Int
  | [], _ => -1
  | t :: r, x => if x < tkSigns t then tkSign t x else sgnL r (x - tkSigns t)
theorem sgnL_drop {ts : List Int} {k : Nat} (h : k < ts.length) (x : Int) : sgnL (ts.drop k) x = if x < tkSigns (ts.getD k 0) then tkSign (ts.getD k 0) x else sgnL (ts.drop (k + 1)) (x - tkSigns (ts.getD k 0)) := by
  rw [List.drop_eq_getElem_cons h, sgnL]
  simp [h]
theorem tkSigns_bd (x : Int) : 1 ≤ tkSigns x ∧ tkSigns x ≤ 2 := by
  unfold tkSigns
  split <;> omega
/-- how often a token takes the price k -/
def tkTk (x k : Int) : Int :=
  if x < 100 then (if k = x then 1 else 0) else (if k = 10 + tkLen x - 2 then 1 else 0) + (if k = (if 1000 ≤ x then 4 else 17) then 1 else 0) + (if 1000 ≤ x ∧ k = 5 + zlog 7 (tkDist x) then 1 else 0)
def tak (ts : List Int) (k : Int) : Int := rwSum (fun x => tkTk x k) ts
theorem tkTk_bd (x k : Int) : 0 ≤ tkTk x k ∧ tkTk x k ≤ 3 := by
  unfold tkTk
  repeat (first | omega | split)
theorem tak_bd {ts : List Int} (h : ts.length ≤ 24) (k : Int) : 0 ≤ tak ts k ∧ tak ts k ≤ 72 := by
  have := rwSum_bd (f := fun x => tkTk x k) (B := 3) (ts := ts) (fun x _ => tkTk_bd x k)
  unfold tak
  omega
def rpr (all tk : Int) : Int := 1 + 2 * zlog 7 (all / (1 + tk))
def rwP (ts : List Int) : Int := rwSum (fun x => if x < 100 then 1 else 0) ts
def rwC (ts : List Int) : Int := rwSum (fun x => if 1000 ≤ x then 1 else 0) ts
def allOf (ts : List Int) (k : Int) : Int := if k < 4 then rwP ts + 4 else if k = 4 ∨ k = 17 then ts.length + 3 else if k < 10 then rwC ts + 5 else rwC ts + (ts.length - rwP ts - rwC ts) + 7
def newP (ts : List Int) (P : Int → Int) (k : Int) : Int := if 0 ≤ k ∧ k < 18 then rpr (allOf ts k) (tak ts k) else P k
def othP (P P' : Int → Int) (lo hi a : Int) : Int := lpI (fun i a => a + if P' i = P i then 0 else 1) lo hi a
theorem othP_add {P P' : Int → Int} {lo hi a : Int} (h : lo ≤ hi) : othP P P' lo hi a = a + othP P P' lo hi 0 ∧ 0 ≤ othP P P' lo hi 0 ∧ othP P P' lo hi 0 ≤ hi - lo := by
  have h1 := lpI_inv (f := fun i a => a + if P' i = P i then 0 else 1) (fun i b => b = a + (othP P P' lo i 0) ∧ 0 ≤ othP P P' lo i 0 ∧ othP P P' lo i 0 ≤ i - lo) (a := a) h (by unfold othP; rw [lpI_end (Int.le_refl _)]; omega) (fun j b h1 h2 h3 => by
    have e : othP P P' lo (j + 1) 0 = othP P P' lo j 0 + if P' j = P j then 0 else 1 := by unfold othP; exact lpI_last h1
    rw [e, h3.1]
    split <;> omega)
  exact h1
theorem othP_congr {P P' P2 P2' : Int → Int} {lo hi a : Int} (h : ∀ j, lo ≤ j → j < hi → P' j = P2' j ∧ P j = P2 j) : othP P P' lo hi a = othP P2 P2' lo hi a := by
  unfold othP
  exact lpI_congr (fun j b h1 h2 => by rw [(h j h1 h2).1, (h j h1 h2).2])
theorem othP_app {P P' : Int → Int} {lo mi hi a : Int} (h1 : lo ≤ mi) (h2 : mi ≤ hi) : othP P P' lo hi a = othP P P' lo mi a + othP P P' mi hi 0 := by
  rw [← (othP_add (a := othP P P' lo mi a) h2).1]
  unfold othP
  exact lpI_app h1 h2
/-- likeness by the place behind -/
theorem lik_min (t : Int → Int) (e : Int) : ∀ (k : Nat) (p d : Int), lik t e k p d = min (k : Int) (lik t e (k + 1) p d)
  | 0, p, d => by
    have := lik_bd t e 1 p d
    simp only [lik]
    omega
  | k + 1, p, d => by
    have h := lik_min t e k (p + 1) d
    have hb := lik_bd t e (k + 1) (p + 1) d
    rw [lik, lik]
    split
    · omega
    · omega
theorem lik_next {t : Int → Int} {e p d : Int} (h : p < e) : lik t e 8 p d = if t p = t (p - d) then min 8 (1 + lik t e 8 (p + 1) d) else 0 := by
  have h1 : lik t e 7 (p + 1) d = min (7 : Int) (lik t e 8 (p + 1) d) := lik_min t e 7 (p + 1) d
  rw [show lik t e 8 p d = if p < e ∧ t p = t (p - d) then 1 + lik t e 7 (p + 1) d else 0 from rfl]
  simp only [h, true_and]
  split
  · omega
  · rfl
theorem lik_end {t : Int → Int} {e p d : Int} {k : Nat} (h : e ≤ p) : lik t e k p d = 0 := by
  cases k with
  | zero => rfl
  | succ k => rw [lik, if_neg (by omega)]
/-- a nearer end cuts it -/
theorem lik_cut (t : Int → Int) {e n : Int} (h : e ≤ n) : ∀ (k : Nat) (p d : Int), p ≤ e → lik t e k p d = min (lik t n k p d) (e - p)
  | 0, p, d, hp => by simp only [lik]; omega
  | k + 1, p, d, hp => by
    rw [lik, lik]
    by_cases h1 : p < e
    · have h2 := lik_cut t h k (p + 1) d (by omega)
      have hb := lik_bd t n k (p + 1) d
      by_cases h3 : t p = t (p - d)
      · rw [if_pos ⟨h1, h3⟩, if_pos ⟨by omega, h3⟩]
        omega
      · rw [if_neg (fun q => h3 q.2), if_neg (fun q => h3 q.2)]
        omega
    · rw [if_neg (fun q => h1 q.1)]
      have hb := lik_bd t n (k + 1) p d
      rw [lik] at hb
      omega
/-- the distance of the longest -/
def farS (f : Int → Int) (d : Int) (b : Int × Int) : Int × Int := if b.2 < f d then (d, f d) else b
def farOf' (f : Int → Int) (p : Int) : Int × Int := lpI (farS f) 1 (p + 1) (0, 1)
def chF (f : Int → Int) (p : Int) : Nat → Int → Int → Int
  | 0, _, _ => -1
  | m + 1, d, k => if d ≤ p then (if 2 ≤ f d then (if k = 0 then p - d else chF f p m (d + 1) (k - 1)) else chF f p m (d + 1) k) else -1
/-- the class's table of likenesses -/
def alOk (φ : jPhi) : Prop := ∀ p d, 1 ≤ d → d ≤ p → p < φ 7 2 → φ (10 + p) d = lik (φ 8) (φ 7 2) 8 p d
