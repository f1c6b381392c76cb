/-! ===== the system's numbers, as functions ===== -/
/-- from lo up to hi (not hi): f at each, one after the other -/
def lpN {α : Type} (f : Int → α → α) : Nat → Int → α → α
  | 0, _, a => a
  | k + 1, i, a => lpN f k (i + 1) (f i a)
def lpI {α : Type} (f : Int → α → α) (lo hi : Int) (a : α) : α := lpN f (hi - lo).toNat lo a
theorem lpI_end {α : Type} {f : Int → α → α} {lo hi : Int} {a : α} (h : hi ≤ lo) : lpI f lo hi a = a := by
  unfold lpI
  rw [show (hi - lo).toNat = 0 by omega]
  rfl
theorem lpI_step {α : Type} {f : Int → α → α} {lo hi : Int} {a : α} (h : lo < hi) : lpI f lo hi a = lpI f (lo + 1) hi (f lo a) := by
  unfold lpI
  rw [show (hi - lo).toNat = (hi - (lo + 1)).toNat + 1 by omega]
  rfl
theorem lpN_app {α : Type} {f : Int → α → α} : ∀ (k m : Nat) (i : Int) (a : α), lpN f (k + m) i a = lpN f m (i + k) (lpN f k i a)
  | 0, m, i, a => by simp [lpN]
  | k + 1, m, i, a => by
    rw [show k + 1 + m = (k + m) + 1 by omega]
    show lpN f (k + m) (i + 1) (f i a) = _
    rw [lpN_app k m]
    show _ = lpN f m (i + ((k + 1 : Nat) : Int)) (lpN f k (i + 1) (f i a))
    rw [show i + 1 + (k : Int) = i + ((k + 1 : Nat) : Int) by omega]
theorem lpI_app {α : Type} {f : Int → α → α} {lo mi hi : Int} {a : α} (h1 : lo ≤ mi) (h2 : mi ≤ hi) : lpI f lo hi a = lpI f mi hi (lpI f lo mi a) := by
  unfold lpI
  rw [show (hi - lo).toNat = (mi - lo).toNat + (hi - mi).toNat by omega, lpN_app]
  rw [show lo + ((mi - lo).toNat : Int) = mi by omega]
theorem lpI_last {α : Type} {f : Int → α → α} {lo hi : Int} {a : α} (h : lo ≤ hi) : lpI f lo (hi + 1) a = f hi (lpI f lo hi a) := by
  rw [lpI_app h (by omega), lpI_step (by omega), lpI_end (Int.le_refl _)]
theorem lpN_congr {α : Type} {f g : Int → α → α} : ∀ (k : Nat) (i : Int) (a : α), (∀ j b, i ≤ j → j < i + k → f j b = g j b) → lpN f k i a = lpN g k i a
  | 0, _, _, _ => rfl
  | k + 1, i, a, h => by
    show lpN f k (i + 1) (f i a) = lpN g k (i + 1) (g i a)
    rw [h i a (by omega) (by omega)]
    exact lpN_congr k (i + 1) _ (fun j b h1 h2 => h j b (by omega) (by omega))
theorem lpI_congr {α : Type} {f g : Int → α → α} {lo hi : Int} {a : α} (h : ∀ j b, lo ≤ j → j < hi → f j b = g j b) : lpI f lo hi a = lpI g lo hi a :=
  lpN_congr _ _ _ (fun j b h1 h2 => h j b h1 (by omega))
/-- an invariant of such a row -/
theorem lpN_inv {α : Type} {f : Int → α → α} (I : Int → α → Prop) : ∀ (k : Nat) (i : Int) (a : α), I i a → (∀ j b, i ≤ j → j < i + k → I j b → I (j + 1) (f j b)) → I (i + k) (lpN f k i a)
  | 0, i, a, h, _ => by simpa [lpN] using h
  | k + 1, i, a, h, hs => by
    have := lpN_inv I k (i + 1) (f i a) (hs i a (by omega) (by omega) h) (fun j b h1 h2 => hs j b (by omega) (by omega))
    rw [show i + ((k + 1 : Nat) : Int) = i + 1 + k by omega]
    exact this
theorem lpI_inv {α : Type} {f : Int → α → α} (I : Int → α → Prop) {lo hi : Int} {a : α} (hh : lo ≤ hi) (h0 : I lo a) (hs : ∀ j b, lo ≤ j → j < hi → I j b → I (j + 1) (f j b)) : I hi (lpI f lo hi a) := by
  have := lpN_inv I (hi - lo).toNat lo a h0 (fun j b h1 h2 => hs j b h1 (by omega))
  rw [show lo + ((hi - lo).toNat : Int) = hi by omega] at this
  exact this
/-- how often 2 divides -/
def zlog : Nat → Int → Int
  | 0, _ => 0
  | k + 1, x => if 1 < x then 1 + zlog k (x / 2) else 0
/-- likeness: how many from p on are like those d ahead, k at most, e the end -/
def lik (t : Int → Int) (e : Int) : Nat → Int → Int → Int
  | 0, _, _ => 0
  | k + 1, p, d => if p < e ∧ t p = t (p - d) then 1 + lik t e k (p + 1) d else 0
/-- tokens -/
def tkLen (x : Int) : Int := if x < 100 then 1 else x % 10
def tkDist (x : Int) : Int := if x < 1000 then 0 else (x - 1000) / 10
def tkSigns (x : Int) : Int := if x < 100 then 1 else 2
def tkSign (x w : Int) : Int := if x < 100 then 97 + x else if 0 < w then 48 + tkLen x else if x < 1000 then 61 else 65 + tkDist x - 1
def pget (P : Int → Int) (k : Int) : Int := if 0 ≤ k ∧ k < 18 then P k else 0
def tkPrice (P : Int → Int) (x : Int) : Int :=
  if x < 100 then pget P x else if x < 1000 then pget P 17 + pget P (10 + tkLen x - 2) else pget P 4 + pget P (5 + zlog 7 (tkDist x)) + pget P (10 + tkLen x - 2)
def tkOk (x : Int) : Prop := (0 ≤ x ∧ x ≤ 3) ∨ (102 ≤ x ∧ x ≤ 108) ∨ (1012 ≤ x ∧ x ≤ 1248 ∧ 2 ≤ x % 10 ∧ x % 10 ≤ 8)
/-- a row of tokens, as the cells i (its numbers) and j (its tokens) hold it -/
def rwSum (f : Int → Int) (ts : List Int) : Int := (ts.map f).sum
def rowIs (φ : jPhi) (i j : Int) (ts : List Int) : Prop :=
  φ i 1 = ts.length ∧ φ i 2 = rwSum (fun x => if x < 100 then 1 else 0) ts ∧ φ i 3 = rwSum (fun x => if 1000 ≤ x then 1 else 0) ts ∧ ∀ k : Nat, k < ts.length → φ j k = ts.getD k 0
def rwOk (ts : List Int) : Prop := ∀ x ∈ ts, tkOk x
def prOk (P : Int → Int) : Prop := ∀ k, 0 ≤ k → k < 18 → 1 ≤ P k ∧ P k ≤ 30
theorem rwSum_bd {f : Int → Int} {B : Int} : ∀ {ts : List Int}, (∀ x ∈ ts, 0 ≤ f x ∧ f x ≤ B) → 0 ≤ rwSum f ts ∧ rwSum f ts ≤ B * ts.length
  | [], _ => by simp [rwSum]
  | x :: ts, h => by
    have h1 := h x List.mem_cons_self
    have h2 := rwSum_bd (ts := ts) (fun y hy => h y (List.mem_cons_of_mem _ hy))
    have e : rwSum f (x :: ts) = f x + rwSum f ts := by simp [rwSum]
    have e2 : B * ((x :: ts).length : Int) = B * ts.length + B := by
      simp only [List.length_cons, Int.natCast_add, Int.mul_add]
      omega
    omega
theorem rwSum_app (f : Int → Int) (a b : List Int) : rwSum f (a ++ b) = rwSum f a + rwSum f b := by simp [rwSum]
theorem rwSum_cons (f : Int → Int) (x : Int) (b : List Int) : rwSum f (x :: b) = f x + rwSum f b := by simp [rwSum]
theorem rwSum_drop {f : Int → Int} {ts : List Int} {k : Nat} (h : k < ts.length) : rwSum f (ts.drop k) = f (ts.getD k 0) + rwSum f (ts.drop (k + 1)) := by
  rw [List.drop_eq_getElem_cons h, rwSum_cons]
  simp [h]
theorem rw_mem {ts : List Int} {k : Nat} (h : k < ts.length) : ts.getD k 0 ∈ ts := by
  simp [h]
theorem pget_bd {P : Int → Int} (h : prOk P) (k : Int) : 0 ≤ pget P k ∧ pget P k ≤ 30 := by
  unfold pget
  split
  · rename_i q
    have := h k q.1 q.2
    omega
  · omega
theorem zlog_bd : ∀ (k : Nat) (x : Int), 0 ≤ zlog k x ∧ zlog k x ≤ k
  | 0, x => by simp [zlog]
  | k + 1, x => by
    unfold zlog
    have := zlog_bd k (x / 2)
    split <;> omega
theorem tkPrice_bd {P : Int → Int} (h : prOk P) (x : Int) : 0 ≤ tkPrice P x ∧ tkPrice P x ≤ 90 := by
  unfold tkPrice
  have h1 := pget_bd h x
  have h2 := pget_bd h 17
  have h3 := pget_bd h (10 + tkLen x - 2)
  have h4 := pget_bd h 4
  have h5 := pget_bd h (5 + zlog 7 (tkDist x))
  split
  · omega
  · split <;> omega
theorem lik_bd (t : Int → Int) (e : Int) : ∀ (k : Nat) (p d : Int), 0 ≤ lik t e k p d ∧ lik t e k p d ≤ k ∧ (p ≤ e → p + lik t e k p d ≤ e)
  | 0, p, d => by simp [lik]
  | k + 1, p, d => by
    unfold lik
    have := lik_bd t e k (p + 1) d
    split
    · rename_i q
      refine ⟨by omega, by omega, fun _ => ?_⟩
      have := this.2.2 (by omega)
      omega
    · omega
/-- cells outside S hold what they held -/
def frC (S : Int → Prop) (φ φ' : jPhi) : Prop := ∀ a b, ¬ S a → φ' a b = φ a b
theorem frC.rf {S : Int → Prop} {φ : jPhi} : frC S φ φ := fun _ _ _ => rfl
theorem frC.tr {S : Int → Prop} {φ φ1 φ2 : jPhi} (h : frC S φ φ1) (h2 : frC S φ1 φ2) : frC S φ φ2 := fun a b q => (h2 a b q).trans (h a b q)
theorem frC.wk {S S' : Int → Prop} {φ φ1 : jPhi} (h : frC S φ φ1) (hs : ∀ a, S a → S' a) : frC S' φ φ1 := fun a b q => h a b (fun z => q (hs a z))
theorem frC.put {S : Int → Prop} {φ φ1 : jPhi} {i k v : Int} (h : frC S φ φ1) (hi : S i) : frC S φ (zU φ1 i k v) := fun a b q => by
  have e : ¬ (a = i ∧ b = k) := fun z => q (by rw [z.1]; exact hi)
  rw [zU_ne e]
  exact h a b q
/-- less is known of the locals -/
def jle : List (Option Value) → List (Option Value) → Prop
  | [], _ => True
  | _ :: _, [] => False
  | none :: r, _ :: s => jle r s
  | some v :: r, x :: s => x = some v ∧ jle r s
theorem jle_get : ∀ {a b : List (Option Value)}, jle a b → ∀ {k : Nat} {v : Value}, a[k]? = some (some v) → b[k]? = some (some v)
  | [], _, _, k, v, h => by simp at h
  | _ :: _, [], q, _, _, _ => q.elim
  | none :: r, x :: s, q, k, v, h => by
    cases k with
    | zero => simp at h
    | succ k =>
      rw [List.getElem?_cons_succ] at h ⊢
      exact jle_get (a := r) (b := s) q h
  | some w :: r, x :: s, q, k, v, h => by
    cases k with
    | zero =>
      rw [List.getElem?_cons_zero] at h ⊢
      rw [q.1]
      exact h
    | succ k =>
      rw [List.getElem?_cons_succ] at h ⊢
      exact jle_get (a := r) (b := s) q.2 h
theorem j_weak {X : jX} {G : jG} {B0 : Nat} {κ : Int → Option jKd} {n kc ks : Nat} {Q : State → Prop} {nL : Nat} {φ : jPhi} {pc : Nat} {lv lv' : List (Option Value)} {st : List Value} (h : jle lv' lv) (k : jJ X G B0 κ n kc ks Q nL φ pc lv' st) : jJ X G B0 κ n kc ks Q nL φ pc lv st :=
  fun H locs ls hP hS hl => k H locs ls hP hS ⟨hl.1, hl.2.1, fun q hq => by
    obtain ⟨i, v⟩ := q
    exact hl.get (jle_get h ((jprs_mem lv' 0 i v).mp hq).2)⟩
/-- the first letter of a page that no text has there -/
def tfl (g : Int → Int) (n : Int) : Nat → Int → Int
  | 0, i => i
  | k + 1, i => if i < n ∧ i < 24 ∧ 97 ≤ g i ∧ g i ≤ 100 then tfl g n k (i + 1) else i
theorem rowIs.fr {φ φ' : jPhi} {i j : Int} {ts : List Int} (h : rowIs φ i j ts) (hi : ∀ b, φ' i b = φ i b) (hj : ∀ b, φ' j b = φ j b) : rowIs φ' i j ts :=
  ⟨by rw [hi]; exact h.1, by rw [hi]; exact h.2.1, by rw [hi]; exact h.2.2.1, fun k hk => by rw [hj]; exact h.2.2.2 k hk⟩
theorem rowIs.at {φ : jPhi} {i j : Int} {ts : List Int} (h : rowIs φ i j ts) {x : Int} (h0 : 0 ≤ x) (h1 : x < ts.length) : φ j x = ts.getD x.toNat 0 := by
  have h2 := h.2.2.2 x.toNat (by omega)
  rw [show ((x.toNat : Nat) : Int) = x by omega] at h2
  exact h2
