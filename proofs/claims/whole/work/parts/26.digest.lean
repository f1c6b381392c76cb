abbrev sPg (s : pubT) : Int → Int := s.1
abbrev sPn (s : pubT) : Int := s.2.1
abbrev sT (s : pubT) : Int → Int := s.2.2.1
abbrev sN (s : pubT) : Int := s.2.2.2.1
abbrev sP (s : pubT) : Int → Int := s.2.2.2.2.1
def tl8 (s : pubT) (w h : Int) : Int := lpI (fun w h => mxH h (couV s w)) w 8 h
def tl7 (s : pubT) (k h : Int) : Int := tl8 s 0 (lpI (fun k h => mxH h (sPg s k)) k (sPn s) h)
def tl6 (s : pubT) (h : Int) : Int := tl7 s 0 (mxH (mxH h (parV (sP s) (sT s) (sN s) 4 0)) (parV (sP s) (sT s) (sN s) 10 0))
def tl5 (s : pubT) (w h : Int) : Int := tl6 s (lpI (fun w h => mxH h (rstV (sP s) (sT s) (sN s) w)) w 3 h)
def tl4 (s : pubT) (w h : Int) : Int := tl5 s 0 (lpI (fun w h => mxH h (greV (sP s) (sT s) (sN s) w)) w 2 h)
def tl3 (s : pubT) (ts : List Int) (h : Int) : Int := tl4 s 0 (dgK ts h)
def tl2 (s : pubT) (w h : Int) : Int := tl3 s (toks (sP s) (sT s) 0 (sN s)) (lpI (fun w h => mxH h (cheV (sP s) (sT s) (sN s) w)) w 3 h)
def tl1 (s : pubT) (h : Int) : Int := if 0 < sN s then tl2 s 0 h else tl7 s 0 h
def tl0 (s : pubT) (p h : Int) : Int := tl1 s (lpI (fun p h => dgL (sT s) (sN s) p h) p (sN s) h)
def tlA (s : pubT) (k h : Int) : Int := tl0 s 0 (lpI (fun k h => mxH h (sP s k)) k 18 h)
theorem lpI_3 {α : Type} (f : Int → α → α) (h : α) : lpI f 0 3 h = f 2 (f 1 (f 0 h)) := by
  rw [lpI_step (by omega), lpI_step (by omega), lpI_step (by omega), lpI_end (by omega)]
  rfl
theorem lpI_2 {α : Type} (f : Int → α → α) (h : α) : lpI f 0 2 h = f 1 (f 0 h) := by
  rw [lpI_step (by omega), lpI_step (by omega), lpI_end (by omega)]
  rfl
theorem digV_tl (s : pubT) : digV s = tlA s 0 1747 := by
  obtain ⟨pg, pn, t, n, P, r, x, c0⟩ := s
  unfold digV tlA tl0 tl1 tl2 tl3 tl4 tl5 tl6 tl7 tl8 dgN dgG dgT dgP dgC
  simp only [lpI_3, lpI_2, sPg, sPn, sT, sN, sP]
  split <;> rfl
set_option maxRecDepth 20000 in
theorem c_Cla_digest {l : Launch} {G : jG} {B0 : Nat} {φ : jPhi}  (hc : ciOk φ) : jC l G B0 κF 113 yX7_digest cX7_digest 5 (some .long) 6 [rf B0 0] φ mkL (fun z φ' => (z, pubC φ') = spDig (pubC φ) ∧ ciOk φ' ∧ frC (fun a => a < 99) φ φ') := by
  refine jC_start RX7 [some (rf B0 0), none, none, none, none] (by decide) rfl (Nat.le_of_ble_eq_true rfl) rfl (fun X Q F E => ?_)
  have hc0 := hc
  obtain ⟨⟨c1, c2, c3, c4, c5, c6⟩, ch, rs⟩ := hc0
  have l8 : ∀ (m : Nat) (w h : Int) (ψ : jPhi), w + m = 8 → 0 ≤ w → ciOk ψ → pubC ψ = pubC φ → frC (fun a => a < 99) φ ψ → tl8 (pubC φ) w h = digV (pubC φ) → jJ X G B0 κF 113 0 0 Q 5 ψ 290 [some (rf B0 0), some (lvv h), none, some (iv w), none] [] := by
    intro m
    induction m with
    | zero =>
      intro w h ψ h1 h2 hci hs hf h3
      unfold tl8 at h3
      rw [lpI_end (by omega)] at h3
      refine j_iload_3 (n' := 291) F dX7_digest_290 rfl ?_
      refine j_bipush (n' := 293) F dX7_digest_291 (by decide) rfl ?_
      refine j_icmp_ge (t := 313) (n' := 296) F (by omega) (by omega) dX7_digest_293 (by decide) rfl (fun c293_0 => ?_) (fun c293_0 => ?_)
      · refine j_lload_n (n' := 314) F (i := 1) rfl dX7_digest_313 rfl ?_
        exact j_lreturn F E dX7_digest_314 (⟨by rw [hs, h3]; rfl, hci, hf⟩)
      · omega
    | succ m ih =>
      intro w h ψ h1 h2 hci hs hf h3
      unfold tl8 at h3
      rw [lpI_step (by omega)] at h3
      refine j_iload_3 (n' := 291) F dX7_digest_290 rfl ?_
      refine j_bipush (n' := 293) F dX7_digest_291 (by decide) rfl ?_
      refine j_icmp_ge (t := 313) (n' := 296) F (by omega) (by omega) dX7_digest_293 (by decide) rfl (fun c293_0 => ?_) (fun c293_0 => ?_)
      · omega
      · refine j_lload_n (n' := 297) F (i := 1) rfl dX7_digest_296 rfl ?_
        refine j_aload_0 (n' := 298) F dX7_digest_297 rfl ?_
        refine j_iload_3 (n' := 299) F dX7_digest_298 rfl ?_
        refine j_cV1i (n' := 302) F kl_X7_231 (c_Cla_count hci (by omega)) kap_0 rfl (by decide) (Nat.le_of_ble_eq_true rfl) dX7_digest_299 rfl (fun z2 φ2 h2 => ?_)
        obtain ⟨hv2, hci2, hg2⟩ := h2
        rw [hs] at hv2
        have hz2 : z2 = couV (pubC φ) w := (congrArg Prod.fst hv2).trans (rfl)
        have hs2 : pubC φ2 = pubC φ := congrArg Prod.snd hv2
        have hf2 : frC (fun a => a < 99) φ φ2 := hf.tr hg2
        subst hz2
        refine j_i2lW (n' := 303) F dX7_digest_302 rfl ?_
        refine j_cS2l (n' := 306) F kl_X7_206 (c_Cla_mix) (by decide) (Nat.le_of_ble_eq_true rfl) dX7_digest_303 rfl (fun z3 φ3 h3 => ?_)
        obtain ⟨rfl, rfl⟩ := h3
        refine j_lstore_n (n' := 307) F (i := 1) rfl (by decide) (fun w h => by cases h) (fun w _ h => jc_r w (Option.some.inj h)) dX7_digest_306 rfl ?_
        refine j_iinc_3 (n' := 310) F (by decide) jc_n dX7_digest_307 rfl ?_
        refine j_goto (t := 290) F dX7_digest_310 (by decide) ?_
        exact ih (w + 1) _ φ2 (by omega) (by omega) hci2 hs2 hf2 h3
  have l7 : ∀ (m : Nat) (k h : Int) (ψ : jPhi), k + m = φ 1 1 → 0 ≤ k → ciOk ψ → pubC ψ = pubC φ → frC (fun a => a < 99) φ ψ → tl7 (pubC φ) k h = digV (pubC φ) → jJ X G B0 κF 113 0 0 Q 5 ψ 257 [some (rf B0 0), some (lvv h), none, some (iv k), none] [] := by
    intro m
    induction m with
    | zero =>
      intro k h ψ h1 h2 hci hs hf h3
      have v1 : ψ 1 1 = φ 1 1 := congrArg sPn hs
      have v2 : ψ 2 = φ 2 := congrArg sPg hs
      have v7 : ψ 7 2 = φ 7 2 := congrArg sN hs
      have v8 : ψ 8 = φ 8 := congrArg sT hs
      have v35 : ψ 35 = φ 35 := congrArg sP hs
      have hcb := hci.1
      unfold tl7 at h3
      rw [lpI_end (show sPn (pubC φ) ≤ k by show φ 1 1 ≤ k; omega)] at h3
      refine j_iload_3 (n' := 258) F dX7_digest_257 rfl ?_
      refine j_aload_0 (n' := 259) F dX7_digest_258 rfl ?_
      refine j_getR (n' := 262) F fl_X7_10 kap_0 rfl dX7_digest_259 rfl ?_
      refine j_cV0i (n' := 265) F kl_X7_94 (c_Pag_size) kap_1 rfl (by decide) (Nat.le_of_ble_eq_true rfl) dX7_digest_262 rfl (fun z1 φ1 h1 => ?_)
      obtain ⟨rfl, rfl⟩ := h1
      refine j_icmp_ge (t := 288) (n' := 268) F (by omega) (by omega) dX7_digest_265 (by decide) rfl (fun c265_1 => ?_) (fun c265_1 => ?_)
      · refine j_iconst (n' := 289) F dX7_digest_288 rfl ?_
        refine j_istore_3 (n' := 290) F (by decide) jc_n dX7_digest_289 rfl ?_
        exact j_weak (by exact ⟨rfl, rfl, rfl, trivial⟩) (l8 8 0 h ψ (by omega) (by omega) hci hs hf h3)
      · omega
    | succ m ih =>
      intro k h ψ h1 h2 hci hs hf h3
      have v1 : ψ 1 1 = φ 1 1 := congrArg sPn hs
      have v2 : ψ 2 = φ 2 := congrArg sPg hs
      have v7 : ψ 7 2 = φ 7 2 := congrArg sN hs
      have v8 : ψ 8 = φ 8 := congrArg sT hs
      have v35 : ψ 35 = φ 35 := congrArg sP hs
      have hcb := hci.1
      unfold tl7 at h3
      rw [lpI_step (show k < sPn (pubC φ) by show k < φ 1 1; omega)] at h3
      refine j_iload_3 (n' := 258) F dX7_digest_257 rfl ?_
      refine j_aload_0 (n' := 259) F dX7_digest_258 rfl ?_
      refine j_getR (n' := 262) F fl_X7_10 kap_0 rfl dX7_digest_259 rfl ?_
      refine j_cV0i (n' := 265) F kl_X7_94 (c_Pag_size) kap_1 rfl (by decide) (Nat.le_of_ble_eq_true rfl) dX7_digest_262 rfl (fun z1 φ1 h1 => ?_)
      obtain ⟨rfl, rfl⟩ := h1
      refine j_icmp_ge (t := 288) (n' := 268) F (by omega) (by omega) dX7_digest_265 (by decide) rfl (fun c265_1 => ?_) (fun c265_1 => ?_)
      · omega
      · refine j_lload_n (n' := 269) F (i := 1) rfl dX7_digest_268 rfl ?_
        refine j_aload_0 (n' := 270) F dX7_digest_269 rfl ?_
        refine j_getR (n' := 273) F fl_X7_10 kap_0 rfl dX7_digest_270 rfl ?_
        refine j_iload_3 (n' := 274) F dX7_digest_273 rfl ?_
        refine j_cV1i (n' := 277) F kl_X7_115 (c_Pag_signAt hcb.1 (by omega)) kap_1 rfl (by decide) (Nat.le_of_ble_eq_true rfl) dX7_digest_274 rfl (fun z3 φ3 h3 => ?_)
        obtain ⟨rfl, rfl⟩ := h3
        rw [if_pos (by omega), v2]
        refine j_i2lW (n' := 278) F dX7_digest_277 rfl ?_
        refine j_cS2l (n' := 281) F kl_X7_206 (c_Cla_mix) (by decide) (Nat.le_of_ble_eq_true rfl) dX7_digest_278 rfl (fun z4 φ4 h4 => ?_)
        obtain ⟨rfl, rfl⟩ := h4
        refine j_lstore_n (n' := 282) F (i := 1) rfl (by decide) (fun w h => by cases h) (fun w _ h => jc_r w (Option.some.inj h)) dX7_digest_281 rfl ?_
        refine j_iinc_3 (n' := 285) F (by decide) jc_n dX7_digest_282 rfl ?_
        refine j_goto (t := 257) F dX7_digest_285 (by decide) ?_
        exact ih (k + 1) _ ψ (by omega) (by omega) hci hs hf h3
  have l6 : ∀ (h : Int) (ψ : jPhi), 0 < φ 7 2 → ciOk ψ → pubC ψ = pubC φ → frC (fun a => a < 99) φ ψ → tl6 (pubC φ) h = digV (pubC φ) → jJ X G B0 κF 113 0 0 Q 5 ψ 230 [some (rf B0 0), some (lvv h), none, none, none] [] := by
    intro h ψ hn hci hs hf h3
    refine j_lload_n (n' := 231) F (i := 1) rfl dX7_digest_230 rfl ?_
    refine j_aload_0 (n' := 232) F dX7_digest_231 rfl ?_
    refine j_iconst (n' := 233) F dX7_digest_232 rfl ?_
    refine j_iconst (n' := 234) F dX7_digest_233 rfl ?_
    refine j_cV2i (n' := 237) F kl_X7_228 (c_Cla_parts hci (by omega) (by omega)) kap_0 rfl (by decide) (Nat.le_of_ble_eq_true rfl) dX7_digest_234 rfl (fun z1 φ1 h1 => ?_)
    obtain ⟨hv1, hci1, hg1⟩ := h1
    rw [hs] at hv1
    have hz1 : z1 = parV (φ 35) (φ 8) (φ 7 2) 4 0 := (congrArg Prod.fst hv1).trans (by show (if _ then _ else _) = _; rw [if_neg (by show ¬ ¬ 0 < φ 7 2; omega), if_neg (by omega)])
    have hs1 : pubC φ1 = pubC φ := congrArg Prod.snd hv1
    have hf1 : frC (fun a => a < 99) φ φ1 := hf.tr hg1
    subst hz1
    refine j_i2lW (n' := 238) F dX7_digest_237 rfl ?_
    refine j_cS2l (n' := 241) F kl_X7_206 (c_Cla_mix) (by decide) (Nat.le_of_ble_eq_true rfl) dX7_digest_238 rfl (fun z2 φ2 h2 => ?_)
    obtain ⟨rfl, rfl⟩ := h2
    refine j_lstore_n (n' := 242) F (i := 1) rfl (by decide) (fun w h => by cases h) (fun w _ h => jc_r w (Option.some.inj h)) dX7_digest_241 rfl ?_
    refine j_lload_n (n' := 243) F (i := 1) rfl dX7_digest_242 rfl ?_
    refine j_aload_0 (n' := 244) F dX7_digest_243 rfl ?_
    refine j_bipush (n' := 246) F dX7_digest_244 (by decide) rfl ?_
    refine j_iconst (n' := 247) F dX7_digest_246 rfl ?_
    refine j_cV2i (n' := 250) F kl_X7_228 (c_Cla_parts hci1 (by omega) (by omega)) kap_0 rfl (by decide) (Nat.le_of_ble_eq_true rfl) dX7_digest_247 rfl (fun z3 φ3 h3 => ?_)
    obtain ⟨hv3, hci3, hg3⟩ := h3
    rw [hs1] at hv3
    have hz3 : z3 = parV (φ 35) (φ 8) (φ 7 2) 10 0 := (congrArg Prod.fst hv3).trans (by show (if _ then _ else _) = _; rw [if_neg (by show ¬ ¬ 0 < φ 7 2; omega), if_neg (by omega)])
    have hs3 : pubC φ3 = pubC φ := congrArg Prod.snd hv3
    have hf3 : frC (fun a => a < 99) φ φ3 := hf1.tr hg3
    subst hz3
    refine j_i2lW (n' := 251) F dX7_digest_250 rfl ?_
    refine j_cS2l (n' := 254) F kl_X7_206 (c_Cla_mix) (by decide) (Nat.le_of_ble_eq_true rfl) dX7_digest_251 rfl (fun z4 φ4 h4 => ?_)
    obtain ⟨rfl, rfl⟩ := h4
    refine j_lstore_n (n' := 255) F (i := 1) rfl (by decide) (fun w h => by cases h) (fun w _ h => jc_r w (Option.some.inj h)) dX7_digest_254 rfl ?_
    refine j_iconst (n' := 256) F dX7_digest_255 rfl ?_
    refine j_istore_3 (n' := 257) F (by decide) jc_n dX7_digest_256 rfl ?_
    exact j_weak (by exact ⟨rfl, rfl, rfl, trivial⟩) (l7 (φ 1 1).toNat 0 _ φ3 (by omega) (by omega) hci3 hs3 hf3 h3)
  have l5 : ∀ (m : Nat) (w h : Int) (ψ : jPhi), 0 < φ 7 2 → w + m = 3 → 0 ≤ w → ciOk ψ → pubC ψ = pubC φ → frC (fun a => a < 99) φ ψ → tl5 (pubC φ) w h = digV (pubC φ) → jJ X G B0 κF 113 0 0 Q 5 ψ 208 [some (rf B0 0), some (lvv h), none, some (iv w), none] [] := by
    intro m
    induction m with
    | zero =>
      intro w h ψ hn h1 h2 hci hs hf h3
      unfold tl5 at h3
      rw [lpI_end (by omega)] at h3
      refine j_iload_3 (n' := 209) F dX7_digest_208 rfl ?_
      refine j_iconst (n' := 210) F dX7_digest_209 rfl ?_
      refine j_icmp_gt (t := 230) (n' := 213) F (by omega) (by omega) dX7_digest_210 (by decide) rfl (fun c210_0 => ?_) (fun c210_0 => ?_)
      · exact j_weak (by exact ⟨rfl, rfl, trivial⟩) (l6 h ψ hn hci hs hf h3)
      · omega
    | succ m ih =>
      intro w h ψ hn h1 h2 hci hs hf h3
      unfold tl5 at h3
      rw [lpI_step (by omega)] at h3
      refine j_iload_3 (n' := 209) F dX7_digest_208 rfl ?_
      refine j_iconst (n' := 210) F dX7_digest_209 rfl ?_
      refine j_icmp_gt (t := 230) (n' := 213) F (by omega) (by omega) dX7_digest_210 (by decide) rfl (fun c210_0 => ?_) (fun c210_0 => ?_)
      · omega
      · refine j_lload_n (n' := 214) F (i := 1) rfl dX7_digest_213 rfl ?_
        refine j_aload_0 (n' := 215) F dX7_digest_214 rfl ?_
        refine j_iload_3 (n' := 216) F dX7_digest_215 rfl ?_
        refine j_cV1i (n' := 219) F kl_X7_225 (c_Cla_rest hci (by omega)) kap_0 rfl (by decide) (Nat.le_of_ble_eq_true rfl) dX7_digest_216 rfl (fun z2 φ2 h2 => ?_)
        obtain ⟨hv2, hci2, hg2⟩ := h2
        rw [hs] at hv2
        have hz2 : z2 = rstV (φ 35) (φ 8) (φ 7 2) w := (congrArg Prod.fst hv2).trans (by show (if _ then _ else _) = _; rw [if_neg (by show ¬ ¬ 0 < φ 7 2; omega), if_neg (by omega)])
        have hs2 : pubC φ2 = pubC φ := congrArg Prod.snd hv2
        have hf2 : frC (fun a => a < 99) φ φ2 := hf.tr hg2
        subst hz2
        refine j_i2lW (n' := 220) F dX7_digest_219 rfl ?_
        refine j_cS2l (n' := 223) F kl_X7_206 (c_Cla_mix) (by decide) (Nat.le_of_ble_eq_true rfl) dX7_digest_220 rfl (fun z3 φ3 h3 => ?_)
        obtain ⟨rfl, rfl⟩ := h3
        refine j_lstore_n (n' := 224) F (i := 1) rfl (by decide) (fun w h => by cases h) (fun w _ h => jc_r w (Option.some.inj h)) dX7_digest_223 rfl ?_
        refine j_iinc_3 (n' := 227) F (by decide) jc_n dX7_digest_224 rfl ?_
        refine j_goto (t := 208) F dX7_digest_227 (by decide) ?_
        exact ih (w + 1) _ φ2 hn (by omega) (by omega) hci2 hs2 hf2 h3
  have l4 : ∀ (m : Nat) (w h : Int) (ψ : jPhi), 0 < φ 7 2 → w + m = 2 → 0 ≤ w → ciOk ψ → pubC ψ = pubC φ → frC (fun a => a < 99) φ ψ → tl4 (pubC φ) w h = digV (pubC φ) → jJ X G B0 κF 113 0 0 Q 5 ψ 184 [some (rf B0 0), some (lvv h), none, some (iv w), none] [] := by
    intro m
    induction m with
    | zero =>
      intro w h ψ hn h1 h2 hci hs hf h3
      unfold tl4 at h3
      rw [lpI_end (by omega)] at h3
      refine j_iload_3 (n' := 185) F dX7_digest_184 rfl ?_
      refine j_iconst (n' := 186) F dX7_digest_185 rfl ?_
      refine j_icmp_gt (t := 206) (n' := 189) F (by omega) (by omega) dX7_digest_186 (by decide) rfl (fun c186_0 => ?_) (fun c186_0 => ?_)
      · refine j_iconst (n' := 207) F dX7_digest_206 rfl ?_
        refine j_istore_3 (n' := 208) F (by decide) jc_n dX7_digest_207 rfl ?_
        exact j_weak (by exact ⟨rfl, rfl, rfl, trivial⟩) (l5 3 0 h ψ hn (by omega) (by omega) hci hs hf h3)
      · omega
    | succ m ih =>
      intro w h ψ hn h1 h2 hci hs hf h3
      unfold tl4 at h3
      rw [lpI_step (by omega)] at h3
      refine j_iload_3 (n' := 185) F dX7_digest_184 rfl ?_
      refine j_iconst (n' := 186) F dX7_digest_185 rfl ?_
      refine j_icmp_gt (t := 206) (n' := 189) F (by omega) (by omega) dX7_digest_186 (by decide) rfl (fun c186_0 => ?_) (fun c186_0 => ?_)
      · omega
      · refine j_lload_n (n' := 190) F (i := 1) rfl dX7_digest_189 rfl ?_
        refine j_aload_0 (n' := 191) F dX7_digest_190 rfl ?_
        refine j_iload_3 (n' := 192) F dX7_digest_191 rfl ?_
        refine j_cV1i (n' := 195) F kl_X7_222 (c_Cla_greedy hci (by omega)) kap_0 rfl (by decide) (Nat.le_of_ble_eq_true rfl) dX7_digest_192 rfl (fun z2 φ2 h2 => ?_)
        obtain ⟨hv2, hci2, hg2⟩ := h2
        rw [hs] at hv2
        have hz2 : z2 = greV (φ 35) (φ 8) (φ 7 2) w := (congrArg Prod.fst hv2).trans (by show (if _ then _ else _) = _; rw [if_neg (by show ¬ ¬ 0 < φ 7 2; omega), if_neg (by omega)])
        have hs2 : pubC φ2 = pubC φ := congrArg Prod.snd hv2
        have hf2 : frC (fun a => a < 99) φ φ2 := hf.tr hg2
        subst hz2
        refine j_i2lW (n' := 196) F dX7_digest_195 rfl ?_
        refine j_cS2l (n' := 199) F kl_X7_206 (c_Cla_mix) (by decide) (Nat.le_of_ble_eq_true rfl) dX7_digest_196 rfl (fun z3 φ3 h3 => ?_)
        obtain ⟨rfl, rfl⟩ := h3
        refine j_lstore_n (n' := 200) F (i := 1) rfl (by decide) (fun w h => by cases h) (fun w _ h => jc_r w (Option.some.inj h)) dX7_digest_199 rfl ?_
        refine j_iinc_3 (n' := 203) F (by decide) jc_n dX7_digest_200 rfl ?_
        refine j_goto (t := 184) F dX7_digest_203 (by decide) ?_
        exact ih (w + 1) _ φ2 hn (by omega) (by omega) hci2 hs2 hf2 h3
  have tkk := toks_ok (P := φ 35) (t := φ 8) (f := 0) (e := φ 7 2) (by omega) (by omega) c5
  have l3 : ∀ (m k : Nat) (h : Int) (ψ : jPhi), 0 < φ 7 2 → k + m = (toks (φ 35) (φ 8) 0 (φ 7 2)).length → rowIs ψ 90 91 (toks (φ 35) (φ 8) 0 (φ 7 2)) → ciOk ψ → pubC ψ = pubC φ → frC (fun a => a < 99) φ ψ → tl3 (pubC φ) ((toks (φ 35) (φ 8) 0 (φ 7 2)).drop k) h = digV (pubC φ) → jJ X G B0 κF 113 0 0 Q 5 ψ 151 [some (rf B0 0), some (lvv h), none, some (iv (k : Int)), none] [] := by
    intro m
    induction m with
    | zero =>
      intro k h ψ hn h1 hrow hci hs hf h3
      have hr1 := hrow.1
      rw [List.drop_eq_nil_of_le (by omega)] at h3
      refine j_iload_3 (n' := 152) F dX7_digest_151 rfl ?_
      refine j_aload_0 (n' := 153) F dX7_digest_152 rfl ?_
      refine j_getR (n' := 156) F fl_X7_47 kap_0 rfl dX7_digest_153 rfl ?_
      refine j_cV0i (n' := 159) F kl_X7_184 (c_Row_size kap_90) kap_90 rfl (by decide) (Nat.le_of_ble_eq_true rfl) dX7_digest_156 rfl (fun z1 φ1 h1 => ?_)
      obtain ⟨rfl, rfl⟩ := h1
      refine j_icmp_ge (t := 182) (n' := 162) F (by omega) (by omega) dX7_digest_159 (by decide) rfl (fun c159_1 => ?_) (fun c159_1 => ?_)
      · refine j_iconst (n' := 183) F dX7_digest_182 rfl ?_
        refine j_istore_3 (n' := 184) F (by decide) jc_n dX7_digest_183 rfl ?_
        exact j_weak (by exact ⟨rfl, rfl, rfl, trivial⟩) (l4 2 0 h ψ hn (by omega) (by omega) hci hs hf h3)
      · omega
    | succ m ih =>
      intro k h ψ hn h1 hrow hci hs hf h3
      have hr1 := hrow.1
      have hl2 := tkk.2
      rw [List.drop_eq_getElem_cons (by omega)] at h3
      have hgd : (toks (φ 35) (φ 8) 0 (φ 7 2))[k]'(by omega) = (toks (φ 35) (φ 8) 0 (φ 7 2)).getD k 0 := by simp [show k < (toks (φ 35) (φ 8) 0 (φ 7 2)).length by omega]
      rw [hgd] at h3
      refine j_iload_3 (n' := 152) F dX7_digest_151 rfl ?_
      refine j_aload_0 (n' := 153) F dX7_digest_152 rfl ?_
      refine j_getR (n' := 156) F fl_X7_47 kap_0 rfl dX7_digest_153 rfl ?_
      refine j_cV0i (n' := 159) F kl_X7_184 (c_Row_size kap_90) kap_90 rfl (by decide) (Nat.le_of_ble_eq_true rfl) dX7_digest_156 rfl (fun z1 φ1 h1 => ?_)
      obtain ⟨rfl, rfl⟩ := h1
      refine j_icmp_ge (t := 182) (n' := 162) F (by omega) (by omega) dX7_digest_159 (by decide) rfl (fun c159_1 => ?_) (fun c159_1 => ?_)
      · omega
      · refine j_lload_n (n' := 163) F (i := 1) rfl dX7_digest_162 rfl ?_
        refine j_aload_0 (n' := 164) F dX7_digest_163 rfl ?_
        refine j_getR (n' := 167) F fl_X7_47 kap_0 rfl dX7_digest_164 rfl ?_
        refine j_iload_3 (n' := 168) F dX7_digest_167 rfl ?_
        refine j_cV1i (n' := 171) F kl_X7_183 (c_Row_get kap_90 kap_91 (by omega) (by omega)) kap_90 rfl (by decide) (Nat.le_of_ble_eq_true rfl) dX7_digest_168 rfl (fun z3 φ3 h3 => ?_)
        obtain ⟨rfl, rfl⟩ := h3
        rw [if_pos (by omega), hrow.2.2.2 k (by omega)]
        refine j_i2lW (n' := 172) F dX7_digest_171 rfl ?_
        refine j_cS2l (n' := 175) F kl_X7_206 (c_Cla_mix) (by decide) (Nat.le_of_ble_eq_true rfl) dX7_digest_172 rfl (fun z4 φ4 h4 => ?_)
        obtain ⟨rfl, rfl⟩ := h4
        refine j_lstore_n (n' := 176) F (i := 1) rfl (by decide) (fun w h => by cases h) (fun w _ h => jc_r w (Option.some.inj h)) dX7_digest_175 rfl ?_
        refine j_iinc_3 (n' := 179) F (by decide) jc_n dX7_digest_176 rfl ?_
        refine j_goto (t := 151) F dX7_digest_179 (by decide) ?_
        exact ih (k + 1) _ ψ hn (by omega) hrow hci hs hf h3
  have l2 : ∀ (m : Nat) (w h : Int) (ψ : jPhi), 0 < φ 7 2 → w + m = 3 → 0 ≤ w → (w = 3 → ψ 0 9 = 1) → ciOk ψ → pubC ψ = pubC φ → frC (fun a => a < 99) φ ψ → tl2 (pubC φ) w h = digV (pubC φ) → jJ X G B0 κF 113 0 0 Q 5 ψ 127 [some (rf B0 0), some (lvv h), none, some (iv w), none] [] := by
    intro m
    induction m with
    | zero =>
      intro w h ψ hn h1 h2 h9 hci hs hf h3
      have v1 : ψ 1 1 = φ 1 1 := congrArg sPn hs
      have v2 : ψ 2 = φ 2 := congrArg sPg hs
      have v7 : ψ 7 2 = φ 7 2 := congrArg sN hs
      have v8 : ψ 8 = φ 8 := congrArg sT hs
      have v35 : ψ 35 = φ 35 := congrArg sP hs
      have hcb := hci.1
      unfold tl2 at h3
      rw [lpI_end (by omega)] at h3
      have hrow : rowIs ψ 90 91 (toks (φ 35) (φ 8) 0 (φ 7 2)) := by
        rcases hci.2.1 with g | g
        · have := h9 (by omega)
          omega
        · have g2 := g.2
          rw [v35, v8, v7] at g2
          exact g2
      refine j_iload_3 (n' := 128) F dX7_digest_127 rfl ?_
      refine j_iconst (n' := 129) F dX7_digest_128 rfl ?_
      refine j_icmp_gt (t := 149) (n' := 132) F (by omega) (by omega) dX7_digest_129 (by decide) rfl (fun c129_0 => ?_) (fun c129_0 => ?_)
      · refine j_iconst (n' := 150) F dX7_digest_149 rfl ?_
        refine j_istore_3 (n' := 151) F (by decide) jc_n dX7_digest_150 rfl ?_
        exact j_weak (by exact ⟨rfl, rfl, rfl, trivial⟩) (l3 (toks (φ 35) (φ 8) 0 (φ 7 2)).length 0 h ψ hn (by omega) hrow hci hs hf h3)
      · omega
    | succ m ih =>
      intro w h ψ hn h1 h2 h9 hci hs hf h3
      have v1 : ψ 1 1 = φ 1 1 := congrArg sPn hs
      have v2 : ψ 2 = φ 2 := congrArg sPg hs
      have v7 : ψ 7 2 = φ 7 2 := congrArg sN hs
      have v8 : ψ 8 = φ 8 := congrArg sT hs
      have v35 : ψ 35 = φ 35 := congrArg sP hs
      have hcb := hci.1
      unfold tl2 at h3
      rw [lpI_step (by omega)] at h3
      refine j_iload_3 (n' := 128) F dX7_digest_127 rfl ?_
      refine j_iconst (n' := 129) F dX7_digest_128 rfl ?_
      refine j_icmp_gt (t := 149) (n' := 132) F (by omega) (by omega) dX7_digest_129 (by decide) rfl (fun c129_0 => ?_) (fun c129_0 => ?_)
      · omega
      · refine j_lload_n (n' := 133) F (i := 1) rfl dX7_digest_132 rfl ?_
        refine j_aload_0 (n' := 134) F dX7_digest_133 rfl ?_
        refine j_iload_3 (n' := 135) F dX7_digest_134 rfl ?_
        refine j_cV1i (n' := 138) F kl_X7_219 (c_Cla_cheapest hci (by omega)) kap_0 rfl (by decide) (Nat.le_of_ble_eq_true rfl) dX7_digest_135 rfl (fun z2 φ2 h2 => ?_)
        obtain ⟨hv2, hci2, hg2, hx2⟩ := h2
        rw [hs] at hv2
        have hz2 : z2 = cheV (φ 35) (φ 8) (φ 7 2) w := (congrArg Prod.fst hv2).trans (by show (if _ then _ else _) = _; rw [if_neg (by show ¬ ¬ 0 < φ 7 2; omega), if_neg (by omega)])
        have hs2 : pubC φ2 = pubC φ := congrArg Prod.snd hv2
        have hf2 : frC (fun a => a < 99) φ φ2 := hf.tr hg2
        subst hz2
        refine j_i2lW (n' := 139) F dX7_digest_138 rfl ?_
        refine j_cS2l (n' := 142) F kl_X7_206 (c_Cla_mix) (by decide) (Nat.le_of_ble_eq_true rfl) dX7_digest_139 rfl (fun z3 φ3 h3 => ?_)
        obtain ⟨rfl, rfl⟩ := h3
        refine j_lstore_n (n' := 143) F (i := 1) rfl (by decide) (fun w h => by cases h) (fun w _ h => jc_r w (Option.some.inj h)) dX7_digest_142 rfl ?_
        refine j_iinc_3 (n' := 146) F (by decide) jc_n dX7_digest_143 rfl ?_
        refine j_goto (t := 127) F dX7_digest_146 (by decide) ?_
        exact ih (w + 1) _ φ2 hn (by omega) (by omega) (fun _ => hx2 (by omega)) hci2 hs2 hf2 h3
  have l1 : ∀ (h : Int) (ψ : jPhi), ciOk ψ → pubC ψ = pubC φ → frC (fun a => a < 99) φ ψ → tl1 (pubC φ) h = digV (pubC φ) → jJ X G B0 κF 113 0 0 Q 5 ψ 118 [some (rf B0 0), some (lvv h), none, none, none] [] := by
    intro h ψ hci hs hf h3
    have v1 : ψ 1 1 = φ 1 1 := congrArg sPn hs
    have v2 : ψ 2 = φ 2 := congrArg sPg hs
    have v7 : ψ 7 2 = φ 7 2 := congrArg sN hs
    have v8 : ψ 8 = φ 8 := congrArg sT hs
    have v35 : ψ 35 = φ 35 := congrArg sP hs
    have hcb := hci.1
    unfold tl1 at h3
    refine j_aload_0 (n' := 119) F dX7_digest_118 rfl ?_
    refine j_cV0i (n' := 122) F kl_X7_155 (c_Cla_hasText (by omega)) kap_0 rfl (by decide) (Nat.le_of_ble_eq_true rfl) dX7_digest_119 rfl (fun z1 φ1 h1 => ?_)
    obtain ⟨rfl, rfl⟩ := h1
    refine j_if_eq (t := 255) (n' := 125) F (by first | omega | (split <;> omega)) dX7_digest_122 (by decide) rfl (fun c122_1 => ?_) (fun c122_1 => ?_)
    · refine j_iconst (n' := 256) F dX7_digest_255 rfl ?_
      refine j_istore_3 (n' := 257) F (by decide) jc_n dX7_digest_256 rfl ?_
      exact j_weak (by exact ⟨rfl, rfl, rfl, trivial⟩) (l7 (φ 1 1).toNat 0 h ψ (by omega) (by omega) hci hs hf (by rw [if_neg (show ¬ 0 < sN (pubC φ) by show ¬ 0 < φ 7 2; split at * <;> omega)] at h3; exact h3))
    · refine j_iconst (n' := 126) F dX7_digest_125 rfl ?_
      refine j_istore_3 (n' := 127) F (by decide) jc_n dX7_digest_126 rfl ?_
      exact j_weak (by exact ⟨rfl, rfl, rfl, trivial⟩) (l2 3 0 h ψ (by split at * <;> omega) (by omega) (by omega) (fun q => by omega) hci hs hf (by rw [if_pos (show 0 < sN (pubC φ) by show 0 < φ 7 2; split at * <;> omega)] at h3; exact h3))
  have l0 : ∀ (m : Nat) (p h : Int) (ψ : jPhi), p + m = φ 7 2 → 0 ≤ p → ciOk ψ → pubC ψ = pubC φ → frC (fun a => a < 99) φ ψ → tl0 (pubC φ) p h = digV (pubC φ) → jJ X G B0 κF 113 0 0 Q 5 ψ 34 [some (rf B0 0), some (lvv h), none, some (iv p), none] [] := by
    intro m
    induction m with
    | zero =>
      intro p h ψ h1 h2 hci hs hf h3
      have v1 : ψ 1 1 = φ 1 1 := congrArg sPn hs
      have v2 : ψ 2 = φ 2 := congrArg sPg hs
      have v7 : ψ 7 2 = φ 7 2 := congrArg sN hs
      have v8 : ψ 8 = φ 8 := congrArg sT hs
      have v35 : ψ 35 = φ 35 := congrArg sP hs
      have hcb := hci.1
      unfold tl0 at h3
      rw [lpI_end (show sN (pubC φ) ≤ p by show φ 7 2 ≤ p; omega)] at h3
      refine j_iload_3 (n' := 35) F dX7_digest_34 rfl ?_
      refine j_aload_0 (n' := 36) F dX7_digest_35 rfl ?_
      refine j_getR (n' := 39) F fl_X7_26 kap_0 rfl dX7_digest_36 rfl ?_
      refine j_cV0i (n' := 42) F kl_X7_123 (c_Txt_size) kap_7 rfl (by decide) (Nat.le_of_ble_eq_true rfl) dX7_digest_39 rfl (fun z1 φ1 h1 => ?_)
      obtain ⟨rfl, rfl⟩ := h1
      refine j_icmp_ge (t := 118) (n' := 45) F (by omega) (by omega) dX7_digest_42 (by decide) rfl (fun c42_1 => ?_) (fun c42_1 => ?_)
      · exact j_weak (by exact ⟨rfl, rfl, trivial⟩) (l1 h ψ hci hs hf h3)
      · omega
    | succ m ih =>
      intro p h0 ψ0 h1 h2 hci0 hs0 hf0 h30
      have hpn : p < φ 7 2 := by omega
      unfold tl0 at h30
      rw [lpI_step (show p < sN (pubC φ) by show p < φ 7 2; omega)] at h30
      have inC : ∀ (j : Nat) (w h : Int) (ψ : jPhi), w + j = 2 → 0 ≤ w → ciOk ψ → pubC ψ = pubC φ → frC (fun a => a < 99) φ ψ → tl0 (pubC φ) (p + 1) (lpI (fun w h => mxH h (chnV (φ 8) (φ 7 2) p w)) w 2 h) = digV (pubC φ) → jJ X G B0 κF 113 0 0 Q 5 ψ 87 [some (rf B0 0), some (lvv h), none, some (iv p), some (iv w)] [] := by
        intro j
        induction j with
        | zero =>
          intro w h ψ g1 g2 hci hs hf h3
          rw [lpI_end (by omega)] at h3
          refine j_iload_4 (n' := 89) F dX7_digest_87 rfl ?_
          refine j_iconst (n' := 90) F dX7_digest_89 rfl ?_
          refine j_icmp_gt (t := 112) (n' := 93) F (by omega) (by omega) dX7_digest_90 (by decide) rfl (fun c90_0 => ?_) (fun c90_0 => ?_)
          · refine j_iinc_3 (n' := 115) F (by decide) jc_n dX7_digest_112 rfl ?_
            refine j_goto (t := 34) F dX7_digest_115 (by decide) ?_
            exact j_weak (by exact ⟨rfl, rfl, rfl, trivial⟩) (ih (p + 1) h ψ (by omega) (by omega) hci hs hf h3)
          · omega
        | succ j ihj =>
          intro w h ψ g1 g2 hci hs hf h3
          rw [lpI_step (by omega)] at h3
          refine j_iload_4 (n' := 89) F dX7_digest_87 rfl ?_
          refine j_iconst (n' := 90) F dX7_digest_89 rfl ?_
          refine j_icmp_gt (t := 112) (n' := 93) F (by omega) (by omega) dX7_digest_90 (by decide) rfl (fun c90_0 => ?_) (fun c90_0 => ?_)
          · omega
          · refine j_lload_n (n' := 94) F (i := 1) rfl dX7_digest_93 rfl ?_
            refine j_aload_0 (n' := 95) F dX7_digest_94 rfl ?_
            refine j_iload_3 (n' := 96) F dX7_digest_95 rfl ?_
            refine j_iload_4 (n' := 98) F dX7_digest_96 rfl ?_
            refine j_cV2i (n' := 101) F kl_X7_216 (c_Cla_chain hci (by omega) (by omega)) kap_0 rfl (by decide) (Nat.le_of_ble_eq_true rfl) dX7_digest_98 rfl (fun z2 φ2 h2 => ?_)
            obtain ⟨hv2, hci2, hg2⟩ := h2
            rw [hs] at hv2
            have hz2 : z2 = chnV (φ 8) (φ 7 2) p w := (congrArg Prod.fst hv2).trans (by show (if _ then _ else _) = _; rw [if_pos (by show 0 ≤ p ∧ p < φ 7 2; omega)])
            have hs2 : pubC φ2 = pubC φ := congrArg Prod.snd hv2
            have hf2 : frC (fun a => a < 99) φ φ2 := hf.tr hg2
            subst hz2
            refine j_i2lW (n' := 102) F dX7_digest_101 rfl ?_
            refine j_cS2l (n' := 105) F kl_X7_206 (c_Cla_mix) (by decide) (Nat.le_of_ble_eq_true rfl) dX7_digest_102 rfl (fun z3 φ3 h3 => ?_)
            obtain ⟨rfl, rfl⟩ := h3
            refine j_lstore_n (n' := 106) F (i := 1) rfl (by decide) (fun w h => by cases h) (fun w _ h => jc_r w (Option.some.inj h)) dX7_digest_105 rfl ?_
            refine j_iinc_4 (n' := 109) F (by decide) jc_i dX7_digest_106 rfl ?_
            refine j_goto (t := 87) F dX7_digest_109 (by decide) ?_
            exact ihj (w + 1) _ φ2 (by omega) (by omega) hci2 hs2 hf2 h3
      have inL : ∀ (j : Nat) (w h : Int) (ψ : jPhi), w + j = 2 → 0 ≤ w → ciOk ψ → pubC ψ = pubC φ → frC (fun a => a < 99) φ ψ → tl0 (pubC φ) (p + 1) (lpI (fun w h => mxH h (chnV (φ 8) (φ 7 2) p w)) 0 2 (lpI (fun w h => mxH h (lonV (φ 8) (φ 7 2) p w)) w 2 h)) = digV (pubC φ) → jJ X G B0 κF 113 0 0 Q 5 ψ 59 [some (rf B0 0), some (lvv h), none, some (iv p), some (iv w)] [] := by
        intro j
        induction j with
        | zero =>
          intro w h ψ g1 g2 hci hs hf h3
          rw [lpI_end (lo := w) (by omega)] at h3
          refine j_iload_4 (n' := 61) F dX7_digest_59 rfl ?_
          refine j_iconst (n' := 62) F dX7_digest_61 rfl ?_
          refine j_icmp_gt (t := 84) (n' := 65) F (by omega) (by omega) dX7_digest_62 (by decide) rfl (fun c62_0 => ?_) (fun c62_0 => ?_)
          · refine j_iconst (n' := 85) F dX7_digest_84 rfl ?_
            refine j_istore_4 (n' := 87) F (by decide) jc_i dX7_digest_85 rfl ?_
            exact inC 2 0 h ψ (by omega) (by omega) hci hs hf h3
          · omega
        | succ j ihj =>
          intro w h ψ g1 g2 hci hs hf h3
          rw [lpI_step (lo := w) (by omega)] at h3
          refine j_iload_4 (n' := 61) F dX7_digest_59 rfl ?_
          refine j_iconst (n' := 62) F dX7_digest_61 rfl ?_
          refine j_icmp_gt (t := 84) (n' := 65) F (by omega) (by omega) dX7_digest_62 (by decide) rfl (fun c62_0 => ?_) (fun c62_0 => ?_)
          · omega
          · refine j_lload_n (n' := 66) F (i := 1) rfl dX7_digest_65 rfl ?_
            refine j_aload_0 (n' := 67) F dX7_digest_66 rfl ?_
            refine j_iload_3 (n' := 68) F dX7_digest_67 rfl ?_
            refine j_iload_4 (n' := 70) F dX7_digest_68 rfl ?_
            refine j_cV2i (n' := 73) F kl_X7_213 (c_Cla_longest hci (by omega) (by omega)) kap_0 rfl (by decide) (Nat.le_of_ble_eq_true rfl) dX7_digest_70 rfl (fun z2 φ2 h2 => ?_)
            obtain ⟨hv2, hci2, hg2⟩ := h2
            rw [hs] at hv2
            have hz2 : z2 = lonV (φ 8) (φ 7 2) p w := (congrArg Prod.fst hv2).trans (by show (if _ then _ else _) = _; rw [if_neg (by show ¬ ¬ (0 ≤ p ∧ p < φ 7 2); omega), if_neg (by omega)])
            have hs2 : pubC φ2 = pubC φ := congrArg Prod.snd hv2
            have hf2 : frC (fun a => a < 99) φ φ2 := hf.tr hg2
            subst hz2
            refine j_i2lW (n' := 74) F dX7_digest_73 rfl ?_
            refine j_cS2l (n' := 77) F kl_X7_206 (c_Cla_mix) (by decide) (Nat.le_of_ble_eq_true rfl) dX7_digest_74 rfl (fun z3 φ3 h3 => ?_)
            obtain ⟨rfl, rfl⟩ := h3
            refine j_lstore_n (n' := 78) F (i := 1) rfl (by decide) (fun w h => by cases h) (fun w _ h => jc_r w (Option.some.inj h)) dX7_digest_77 rfl ?_
            refine j_iinc_4 (n' := 81) F (by decide) jc_i dX7_digest_78 rfl ?_
            refine j_goto (t := 59) F dX7_digest_81 (by decide) ?_
            exact ihj (w + 1) _ φ2 (by omega) (by omega) hci2 hs2 hf2 h3
      have v70 : ψ0 7 2 = φ 7 2 := congrArg sN hs0
      refine j_iload_3 (n' := 35) F dX7_digest_34 rfl ?_
      refine j_aload_0 (n' := 36) F dX7_digest_35 rfl ?_
      refine j_getR (n' := 39) F fl_X7_26 kap_0 rfl dX7_digest_36 rfl ?_
      refine j_cV0i (n' := 42) F kl_X7_123 (c_Txt_size) kap_7 rfl (by decide) (Nat.le_of_ble_eq_true rfl) dX7_digest_39 rfl (fun z1 φ1 h1 => ?_)
      obtain ⟨rfl, rfl⟩ := h1
      refine j_icmp_ge (t := 118) (n' := 45) F (by omega) (by omega) dX7_digest_42 (by decide) rfl (fun c42_1 => ?_) (fun c42_1 => ?_)
      · omega
      · refine j_lload_n (n' := 46) F (i := 1) rfl dX7_digest_45 rfl ?_
        refine j_aload_0 (n' := 47) F dX7_digest_46 rfl ?_
        refine j_iload_3 (n' := 48) F dX7_digest_47 rfl ?_
        refine j_cV1i (n' := 51) F kl_X7_210 (c_Cla_at hci0 (by omega)) kap_0 rfl (by decide) (Nat.le_of_ble_eq_true rfl) dX7_digest_48 rfl (fun z3 φ3 h3 => ?_)
        obtain ⟨hv3, hci3, hg3⟩ := h3
        rw [hs0] at hv3
        have hz3 : z3 = φ 8 p := (congrArg Prod.fst hv3).trans (by show (if _ then _ else _) = _; rw [if_pos (by show 0 ≤ p ∧ p < φ 7 2; omega)])
        have hs3 : pubC φ3 = pubC φ := congrArg Prod.snd hv3
        have hf3 : frC (fun a => a < 99) φ φ3 := hf0.tr hg3
        subst hz3
        refine j_i2lW (n' := 52) F dX7_digest_51 rfl ?_
        refine j_cS2l (n' := 55) F kl_X7_206 (c_Cla_mix) (by decide) (Nat.le_of_ble_eq_true rfl) dX7_digest_52 rfl (fun z4 φ4 h4 => ?_)
        obtain ⟨rfl, rfl⟩ := h4
        refine j_lstore_n (n' := 56) F (i := 1) rfl (by decide) (fun w h => by cases h) (fun w _ h => jc_r w (Option.some.inj h)) dX7_digest_55 rfl ?_
        refine j_iconst (n' := 57) F dX7_digest_56 rfl ?_
        refine j_istore_4 (n' := 59) F (by decide) jc_i dX7_digest_57 rfl ?_
        exact inL 2 0 _ φ3 (by omega) (by omega) hci3 hs3 hf3 (by rw [lpI_2, lpI_2]; exact h30)
  have lA : ∀ (m : Nat) (k h : Int), k + m = 18 → 0 ≤ k → tlA (pubC φ) k h = digV (pubC φ) → jJ X G B0 κF 113 0 0 Q 5 φ 6 [some (rf B0 0), some (lvv h), none, some (iv k), none] [] := by
    intro m
    induction m with
    | zero =>
      intro k h h1 h2 h3
      unfold tlA at h3
      rw [lpI_end (by omega)] at h3
      refine j_iload_3 (n' := 7) F dX7_digest_6 rfl ?_
      refine j_bipush (n' := 9) F dX7_digest_7 (by decide) rfl ?_
      refine j_icmp_ge (t := 32) (n' := 12) F (by omega) (by omega) dX7_digest_9 (by decide) rfl (fun c9_0 => ?_) (fun c9_0 => ?_)
      · refine j_iconst (n' := 33) F dX7_digest_32 rfl ?_
        refine j_istore_3 (n' := 34) F (by decide) jc_n dX7_digest_33 rfl ?_
        exact j_weak (by exact ⟨rfl, rfl, rfl, trivial⟩) (l0 (φ 7 2).toNat 0 h φ (by omega) (by omega) hc rfl frC.rf h3)
      · omega
    | succ m ih =>
      intro k h h1 h2 h3
      unfold tlA at h3
      rw [lpI_step (by omega)] at h3
      refine j_iload_3 (n' := 7) F dX7_digest_6 rfl ?_
      refine j_bipush (n' := 9) F dX7_digest_7 (by decide) rfl ?_
      refine j_icmp_ge (t := 32) (n' := 12) F (by omega) (by omega) dX7_digest_9 (by decide) rfl (fun c9_0 => ?_) (fun c9_0 => ?_)
      · omega
      · refine j_lload_n (n' := 13) F (i := 1) rfl dX7_digest_12 rfl ?_
        refine j_aload_0 (n' := 14) F dX7_digest_13 rfl ?_
        refine j_getR (n' := 17) F fl_X7_33 kap_0 rfl dX7_digest_14 rfl ?_
        refine j_iload_3 (n' := 18) F dX7_digest_17 rfl ?_
        refine j_cV1i (n' := 21) F kl_X7_145 (c_Pri_get kap_34 kap_35 (by omega)) kap_34 rfl (by decide) (Nat.le_of_ble_eq_true rfl) dX7_digest_18 rfl (fun z2 φ2 h2 => ?_)
        obtain ⟨rfl, rfl⟩ := h2
        rw [pget, if_pos (by omega)]
        refine j_i2lW (n' := 22) F dX7_digest_21 rfl ?_
        refine j_cS2l (n' := 25) F kl_X7_206 (c_Cla_mix) (by decide) (Nat.le_of_ble_eq_true rfl) dX7_digest_22 rfl (fun z3 φ3 h3 => ?_)
        obtain ⟨rfl, rfl⟩ := h3
        refine j_lstore_n (n' := 26) F (i := 1) rfl (by decide) (fun w h => by cases h) (fun w _ h => jc_r w (Option.some.inj h)) dX7_digest_25 rfl ?_
        refine j_iinc_3 (n' := 29) F (by decide) jc_n dX7_digest_26 rfl ?_
        refine j_goto (t := 6) F dX7_digest_29 (by decide) ?_
        exact ih (k + 1) _ (by omega) (by omega) h3
  refine j_ldc2 (n' := 3) F (z := 1747) rfl q_579 dX7_digest_0 rfl ?_
  refine j_lstore_n (n' := 4) F (i := 1) rfl (by decide) (fun w h => by cases h) (fun w _ h => jc_r w (Option.some.inj h)) dX7_digest_3 rfl ?_
  refine j_iconst (n' := 5) F dX7_digest_4 rfl ?_
  refine j_istore_3 (n' := 6) F (by decide) jc_n dX7_digest_5 rfl ?_
  exact j_weak (by exact ⟨rfl, rfl, rfl, trivial⟩) (lA 18 0 1747 (by omega) (by omega) (digV_tl _).symm)
