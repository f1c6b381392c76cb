/-! ===== what the calls answer: of the page, the text, the prices, the counters ===== -/
def zW (z : Int) : Int := (zI z).toInt
abbrev pubT : Type := (Int → Int) × Int × (Int → Int) × Int × (Int → Int) × Int × Int × Int
def pubC (φ : jPhi) : pubT := (φ 2, φ 1 1, φ 8, φ 7 2, φ 35, φ 0 14, φ 0 15, φ 0 16)
def pubM (φ : jPhi) : pubT := (φ 100, φ 99 0, φ 101, φ 99 2, φ 102, φ 99 5, φ 99 6, φ 99 7)
/-- rounds till rest -/
def rsF (t : Int → Int) (n : Int) : Nat → Int → (Int → Int) → Int × Int × Int
  | 0, r, P => if othP P (newP (toks P t 0 n) P) 0 18 0 = 0 then (r, rwSum (tkPrice P) (toks P t 0 n), ((toks P t 0 n).length : Int)) else (-1, rwSum (tkPrice P) (toks P t 0 n), ((toks P t 0 n).length : Int))
  | k + 1, r, P => if othP P (newP (toks P t 0 n) P) 0 18 0 = 0 then (r, rwSum (tkPrice P) (toks P t 0 n), ((toks P t 0 n).length : Int)) else rsF t n k (r + 1) (newP (toks P t 0 n) P)
def rstR (P t : Int → Int) (n : Int) : Int × Int × Int := rsF t n 12 0 P
/-- the longest copy each time -/
def grF (t : Int → Int) (n : Int) : Nat → Int → Int → List Int
  | 0, _, _ => []
  | k + 1, p, la =>
    if p < n then
      (if (farOf' (lik t n 8 p) p).1 = 0 then t p :: grF t n k (p + 1) la
       else (if (farOf' (lik t n 8 p) p).1 = la then 100 + lik t n 8 p (farOf' (lik t n 8 p) p).1 else 1000 + 10 * (farOf' (lik t n 8 p) p).1 + lik t n 8 p (farOf' (lik t n 8 p) p).1) :: grF t n k (p + lik t n 8 p (farOf' (lik t n 8 p) p).1) (farOf' (lik t n 8 p) p).1)
    else []
def grR (t : Int → Int) (n : Int) : List Int := grF t n 24 0 0
/-- parts -/
def ptF (P t : Int → Int) (n m : Int) : Nat → Int → Int → Int
  | 0, _, a => a
  | k + 1, f, a => if f < n then ptF P t n m k (f + m) (a + rwSum (tkPrice P) (toks P t f (min (f + m) n))) else a
def ptR (P t : Int → Int) (n m : Int) : Int := ptF P t n m 24 0 0
def spLet (s : pubT) (c : Int) : Int × pubT := match s with
  | (pg, pn, t, n, P, r, x, c0) => if ¬ (32 ≤ c ∧ c ≤ 126) then (-1002, s) else if 30 ≤ pn then (-1004, s) else (pn + 1, (fun k => if k = pn then c else pg k), pn + 1, t, n, P, r, x, c0)
def spBlank (s : pubT) : Int × pubT := match s with
  | (pg, pn, t, n, P, r, x, c0) => (pn, pg, 0, t, n, P, r, x, c0)
def spFault (s : pubT) (b : Int) : Int × pubT := match s with
  | (pg, pn, _) => (if b = 0 then tfl pg pn 25 0 else (rdR pg pn).1, s)
def spText (s : pubT) : Int × pubT := match s with
  | (pg, pn, t, n, P, r, x, c0) => if 0 < pn ∧ tfl pg pn 25 0 = pn then (pn, pg, 0, (fun k => if 0 ≤ k ∧ k < pn then pg k - 97 else t k), pn, P, r, x + 1, c0) else (-1003, s)
def spDec (s : pubT) : Int × pubT := match s with
  | (pg, pn, t, n, P, r, x, c0) => if (rdR pg pn).2.1 = 1 then (((rdR pg pn).2.2.1.length : Int), pg, 0, (fun k => if 0 ≤ k ∧ k < (rdR pg pn).2.2.1.length then (rdR pg pn).2.2.1.getD k.toNat 0 else t k), ((rdR pg pn).2.2.1.length : Int), P, r, x, c0 + 1) else (-1003, s)
def spPriced (s : pubT) : Int × pubT := match s with
  | (pg, pn, t, n, P, _) => (if (rdR pg pn).2.1 = 1 then rwSum (tkPrice P) (rdR pg pn).2.2.2 else -1003, s)
def spPrice (s : pubT) (w v : Int) : Int × pubT := match s with
  | (pg, pn, t, n, P, r, x, c0) => if ¬ (0 ≤ w ∧ w < 18) then (-1001, s) else if ¬ (1 ≤ v ∧ v ≤ 30) then (-1002, s) else (P w, pg, pn, t, n, (fun k => if k = w then v else P k), r, x, c0)
def spPriceOf (s : pubT) (w : Int) : Int × pubT := match s with
  | (_, _, _, _, P, _) => (if 0 ≤ w ∧ w < 18 then P w else -1001, s)
def spRound (s : pubT) : Int × pubT := match s with
  | (pg, pn, t, n, P, r, x, c0) => if ¬ 0 < n then (-1003, s) else (othP P (newP (toks P t 0 n) P) 0 18 0, pg, pn, t, n, newP (toks P t 0 n) P, r + 1, x, c0)
def rstV (P t : Int → Int) (n w : Int) : Int := if w = 0 then (rstR P t n).1 else if w = 1 then (rstR P t n).2.1 else (rstR P t n).2.2
def spRest (s : pubT) (w : Int) : Int × pubT := match s with
  | (_, _, t, n, P, _) => (if ¬ 0 < n then -1003 else if ¬ (0 ≤ w ∧ w ≤ 2) then -1002 else rstV P t n w, s)
def spAt (s : pubT) (p : Int) : Int × pubT := match s with
  | (_, _, t, n, _) => (if 0 ≤ p ∧ p < n then t p else -1001, s)
def lonV (t : Int → Int) (n p w : Int) : Int := if w = 0 then (if (farOf' (lik t n 8 p) p).1 = 0 then 0 else lik t n 8 p (farOf' (lik t n 8 p) p).1) else (farOf' (lik t n 8 p) p).1
def spLon (s : pubT) (p w : Int) : Int × pubT := match s with
  | (_, _, t, n, _) => (if ¬ (0 ≤ p ∧ p < n) then -1001 else if ¬ (0 ≤ w ∧ w ≤ 1) then -1002 else lonV t n p w, s)
def chnV (t : Int → Int) (n p k : Int) : Int := chF (lik t n 8 p) p 25 1 k
def spChn (s : pubT) (p k : Int) : Int × pubT := match s with
  | (_, _, t, n, _) => (if 0 ≤ p ∧ p < n then chnV t n p k else -1001, s)
def cheV (P t : Int → Int) (n w : Int) : Int := if w = 0 then rwSum (tkPrice P) (toks P t 0 n) else if w = 1 then ((toks P t 0 n).length : Int) else if w = 2 then rwSum tkSigns (toks P t 0 n) else if w - 10 < ((toks P t 0 n).length : Int) then (toks P t 0 n).getD (w - 10).toNat 0 else -1
def spChe (s : pubT) (w : Int) : Int × pubT := match s with
  | (_, _, t, n, P, _) => (if ¬ 0 < n then -1003 else if ¬ ((0 ≤ w ∧ w ≤ 2) ∨ (10 ≤ w ∧ w ≤ 33)) then -1002 else cheV P t n w, s)
def spCod (s : pubT) (p : Int) : Int × pubT := match s with
  | (_, _, t, n, P, _) => (if ¬ 0 < n then -1003 else if p < 0 then -1 else sgnL (toks P t 0 n) p, s)
def greV (P t : Int → Int) (n w : Int) : Int := if w = 0 then rwSum (tkPrice P) (grR t n) else ((grR t n).length : Int)
def spGre (s : pubT) (w : Int) : Int × pubT := match s with
  | (_, _, t, n, P, _) => (if ¬ 0 < n then -1003 else if ¬ (0 ≤ w ∧ w ≤ 1) then -1002 else greV P t n w, s)
def parV (P t : Int → Int) (n m w : Int) : Int := if w = 1 then (n + m - 1) / m else if w = 0 then ptR P t n m else ptR P t n m - rwSum (tkPrice P) (toks P t 0 n)
def spPar (s : pubT) (m w : Int) : Int × pubT := match s with
  | (_, _, t, n, P, _) => (if ¬ 0 < n then -1003 else if ¬ ((1 ≤ m ∧ m ≤ 24) ∧ (0 ≤ w ∧ w ≤ 2)) then -1002 else parV P t n m w, s)
def couV (s : pubT) (w : Int) : Int := match s with
  | (_, pn, t, n, P, r, x, c0) => if w = 0 then pn else if w = 1 then n else if w = 2 then rwP (toks P t 0 n) else if w = 3 then ((toks P t 0 n).length : Int) - rwP (toks P t 0 n) - rwC (toks P t 0 n) else if w = 4 then rwC (toks P t 0 n) else if w = 5 then r else if w = 6 then x else if w = 7 then c0 else -1002
def spCou (s : pubT) (w : Int) : Int × pubT := (couV s w, s)
def mxH (h v : Int) : Int := 31 * h + zW v
def dgP (P : Int → Int) (h : Int) : Int := lpI (fun k h => mxH h (P k)) 0 18 h
def dgL (t : Int → Int) (n p h : Int) : Int := mxH (mxH (mxH (mxH (mxH h (t p)) (lonV t n p 0)) (lonV t n p 1)) (chnV t n p 0)) (chnV t n p 1)
def dgT (t : Int → Int) (n h : Int) : Int := lpI (fun p h => dgL t n p h) 0 n h
def dgK (ts : List Int) (h : Int) : Int := ts.foldl mxH h
def dgC (P t : Int → Int) (n h : Int) : Int :=
  mxH (mxH (mxH (mxH (mxH (mxH (mxH (dgK (toks P t 0 n) (mxH (mxH (mxH h (cheV P t n 0)) (cheV P t n 1)) (cheV P t n 2))) (greV P t n 0)) (greV P t n 1)) (rstV P t n 0)) (rstV P t n 1)) (rstV P t n 2)) (parV P t n 4 0)) (parV P t n 10 0)
def dgG (pg : Int → Int) (pn h : Int) : Int := lpI (fun k h => mxH h (pg k)) 0 pn h
def dgN (s : pubT) (h : Int) : Int := lpI (fun w h => mxH h (couV s w)) 0 8 h
def digV (s : pubT) : Int := match s with
  | (pg, pn, t, n, P, r, x, c0) => dgN s (dgG pg pn (if 0 < n then dgC P t n (dgT t n (dgP P 1747)) else dgT t n (dgP P 1747)))
def spDig (s : pubT) : Int × pubT := (digV s, s)
/-- the class's own state -/
def cbOk (φ : jPhi) : Prop := (0 ≤ φ 1 1 ∧ φ 1 1 ≤ 30) ∧ (∀ k, 0 ≤ k → k < φ 1 1 → 32 ≤ φ 2 k ∧ φ 2 k ≤ 126) ∧ (0 ≤ φ 7 2 ∧ φ 7 2 ≤ 24) ∧ alOk φ ∧ txOk (φ 8) (φ 7 2) ∧ prOk (φ 35)
def chOk (φ : jPhi) : Prop := φ 0 9 = 0 ∨ (φ 0 9 = 1 ∧ rowIs φ 90 91 (toks (φ 35) (φ 8) 0 (φ 7 2)))
def rsOk (φ : jPhi) : Prop := φ 0 10 = 0 ∨ (φ 0 10 = 1 ∧ (φ 0 11, φ 0 12, φ 0 13) = rstR (φ 35) (φ 8) (φ 7 2))
def ciOk (φ : jPhi) : Prop := cbOk φ ∧ chOk φ ∧ rsOk φ
theorem cbOk.fr {φ φ' : jPhi} (h : cbOk φ) (hf : ∀ a, (a = 1 ∨ a = 2 ∨ a = 7 ∨ a = 8 ∨ (10 ≤ a ∧ a < 34) ∨ a = 35) → ∀ b, φ' a b = φ a b) : cbOk φ' := by
  obtain ⟨h1, h2, h3, h4, h5, h6⟩ := h
  have e1 : φ' 1 1 = φ 1 1 := hf 1 (by omega) 1
  have e2 : φ' 2 = φ 2 := funext (hf 2 (by omega))
  have e7 : φ' 7 2 = φ 7 2 := hf 7 (by omega) 2
  have e8 : φ' 8 = φ 8 := funext (hf 8 (by omega))
  have e35 : φ' 35 = φ 35 := funext (hf 35 (by omega))
  exact ⟨by rw [e1]; exact h1, by rw [e1, e2]; exact h2, by rw [e7]; exact h3, h4.fr h3.2 (fun a ha b => hf a (by omega) b), by rw [e8, e7]; exact h5, by rw [e35]; exact h6⟩
theorem toks_len {F : Int → Int → Int} {e : Int} : ∀ (k : Nat) (p la : Int), (wlk F e k p la).length ≤ k
  | 0, _, _ => by simp [wlk]
  | k + 1, p, la => by
    rw [wlk]
    split
    · have := toks_len (F := F) (e := e) k (p + tkLen (F p la)) (nxL la (F p la))
      simp
      omega
    · simp
theorem wlk_ok {P t : Int → Int} {f e : Int} (hf : 0 ≤ f) (he : e ≤ 24) (ht : txOk t e) : ∀ (k : Nat) (p la : Int), f ≤ p → rwOk (wlk (Tf P t f e) e k p la)
  | 0, _, _, _ => fun x hx => by simp [wlk] at hx
  | k + 1, p, la, h1 => by
    rw [wlk]
    split
    · rename_i hp
      have ok := Tb_ok (P := P) (la := la) hf he ht h1 hp
      have hl : 1 ≤ tkLen (Tf P t f e p la) := by
        have := ok.1
        unfold Tf
        unfold tkOk at this
        unfold tkLen
        split <;> omega
      intro x hx
      rcases List.mem_cons.mp hx with h | h
      · rw [h]
        exact ok.1
      · exact wlk_ok hf he ht k _ _ (by omega) x h
    · intro x hx
      simp at hx
theorem toks_ok {P t : Int → Int} {f e : Int} (hf : 0 ≤ f) (he : e ≤ 24) (ht : txOk t e) : rwOk (toks P t f e) ∧ (toks P t f e).length ≤ 24 := ⟨wlk_ok hf he ht 24 f 0 (Int.le_refl _), toks_len 24 f 0⟩
theorem newP_ok {ts : List Int} {P : Int → Int} : prOk (newP ts P) := by
  intro k h1 h2
  unfold newP
  rw [if_pos ⟨h1, h2⟩]
  unfold rpr
  have := zlog_bd 7 (allOf ts k / (1 + tak ts k))
  omega
theorem ciOk.fr {φ φ' : jPhi} (h : ciOk φ) (hf : ∀ a, (a = 0 ∨ a = 1 ∨ a = 2 ∨ a = 7 ∨ a = 8 ∨ (10 ≤ a ∧ a < 34) ∨ a = 35 ∨ a = 90 ∨ a = 91) → ∀ b, φ' a b = φ a b) : ciOk φ' := by
  obtain ⟨h1, h2, h3⟩ := h
  have e7 : φ' 7 2 = φ 7 2 := hf 7 (by omega) 2
  have e8 : φ' 8 = φ 8 := funext (hf 8 (by omega))
  have e35 : φ' 35 = φ 35 := funext (hf 35 (by omega))
  have e0 : φ' 0 = φ 0 := funext (hf 0 (by omega))
  refine ⟨h1.fr (fun a ha b => hf a (by omega) b), ?_, ?_⟩
  · unfold chOk
    rw [e7, e8, e35, e0]
    rcases h2 with g | g
    · exact Or.inl g
    · exact Or.inr ⟨g.1, g.2.fr (hf 90 (by omega)) (hf 91 (by omega))⟩
  · unfold rsOk
    rw [e7, e8, e35, e0]
    exact h3
theorem pubC_fr {φ φ' : jPhi} (h : ∀ a, (a = 1 ∨ a = 2 ∨ a = 7 ∨ a = 8 ∨ a = 35) → ∀ b, φ' a b = φ a b) (h0 : ∀ b, 14 ≤ b → φ' 0 b = φ 0 b) : pubC φ' = pubC φ := by
  unfold pubC
  rw [funext (h 2 (by omega)), h 1 (by omega) 1, funext (h 8 (by omega)), h 7 (by omega) 2, funext (h 35 (by omega)), h0 14 (by omega), h0 15 (by omega), h0 16 (by omega)]
theorem zU_row (φ : jPhi) (i k v : Int) : zU φ i k v i = fun b => if b = k then v else φ i b := by
  funext b
  simp [zU]
theorem zU_off {φ : jPhi} {i k v a : Int} (h : a ≠ i) : zU φ i k v a = φ a := by
  funext b
  exact zU_ne (fun q => h q.1)
theorem tfl_all {g : Int → Int} {n : Int} : ∀ (k : Nat) (i : Int), 0 ≤ i → i ≤ n → tfl g n k i = n → i + k ≤ 25 → (∀ j, i ≤ j → j < n → 97 ≤ g j ∧ g j ≤ 100) ∧ (n ≤ 24 ∨ n ≤ i)
  | 0, i, h1, h2, h3, h4 => by
    rw [tfl] at h3
    exact ⟨fun j q1 q2 => by omega, by omega⟩
  | k + 1, i, h1, h2, h3, h4 => by
    rw [tfl] at h3
    split at h3
    · rename_i q
      have ih := tfl_all k (i + 1) (by omega) (by omega) h3 (by omega)
      refine ⟨fun j q1 q2 => ?_, ?_⟩
      · by_cases e : j = i
        · subst e
          exact q.2.2
        · exact ih.1 j (by omega) q2
      · omega
    · exact ⟨fun j q1 q2 => by omega, by omega⟩
/-- what the rows of numbers hold beyond their length is of no matter -/
theorem arrV_ext {c : ClassId} {N : Nat} {f g : Nat → Value} (h : ∀ j, j < N → f j = g j) : arrV c N f = arrV c N g := by
  unfold arrV
  congr 1
  apply Array.ext
  · simp
  · intro i h1 h2
    simp at h1
    simp [h i h1]
theorem j_junk {X : jX} {G : jG} {B0 : Nat} {κ : Int → Option jKd} {n kc ks : Nat} {Q : State → Prop} {nL : Nat} {φ φ' : jPhi} {pc : Nat} {lv : List (Option Value)} {st : List Value} {v : Int} {N : Nat} (hκ : κ v = some (.inr (.inl N))) (h : ∀ a b, (a ≠ v ∨ (0 ≤ b ∧ b < (N : Int))) → φ' a b = φ a b) (k : jJ X G B0 κ n kc ks Q nL φ' pc lv st) : jJ X G B0 κ n kc ks Q nL φ pc lv st := by
  intro H locs ls hP hS hl
  refine k H locs ls ⟨hP.1, fun i kd hi => ⟨(hP.2 i kd hi).1, ?_⟩⟩ hS hl
  by_cases e : i = v
  · subst e
    rw [hκ] at hi
    cases hi
    have hc := (hP.2 i _ hκ).2
    unfold jcell at hc ⊢
    rw [hc]
    congr 1
    exact arrV_ext (fun j hj => by rw [h i j (Or.inr (by omega))])
  · exact jcell_congr (fun b => h i b (Or.inl e)) rfl (hP.2 i kd hi).2
theorem zI_longW (z : Int) : (zI z).toInt64 = zL (zW z) := by
  have h := zI_long (z := zW z) (by have h1 := Int32.le_toInt (zI z); have h2 := Int32.toInt_lt (zI z); unfold zW; omega)
  have e : zI (zW z) = zI z := zI_self (zI z)
  rw [e] at h
  exact h
theorem j_i2lW {X : jX} {G : jG} {B0 : Nat} {κ : Int → Option jKd} {n kc ks : Nat} {Q : State → Prop} {nL : Nat} {φ : jPhi} {pc : Nat} {lv : List (Option Value)} {st : List Value} {cc : ByteArray} {own : String} {d : Nat} (F : jF X G cc nL own d kc ks) {a : Int} {n' : Nat} (hd : decode cc pc = .ok (.i2l, 1)) (hn : pc + 1 = n') (k : jJ X G B0 κ n kc ks Q nL φ n' lv (lvv (zW a) :: st)) : jJ X G B0 κ n kc ks Q nL φ pc lv (iv a :: st) := by
  subst hn; intro H locs ls hP hS hl
  exact lv_i2l F.1 F.2.1 hd (zI_longW a) (k H locs ls hP hS hl)
