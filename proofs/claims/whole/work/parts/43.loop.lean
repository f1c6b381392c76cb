set_option maxRecDepth 20000 in
theorem law_loop {X : jX} {G : jG} {B0 kc ks : Nat} {Q : State → Prop} (F : jF X G cL_law 4 RL 10 kc ks) {b L : Nat} {xs : Nat → Int32} (hX : va_X b L xs X.s X.s.heap) (hb : b < X.s.heap.size) (hB : b < B0) (hL : L ≤ 1536) (hend : ∀ (φ : jPhi) (lv : List (Option Value)), jJ X G B0 κF 113 kc ks Q 4 φ 564 lv []) : ∀ (m : Nat) (i : Int) (ψ : jPhi), (L : Int) - i ≤ m → 0 ≤ i → i ≤ L + 3 → ciOk ψ → miOk ψ → pubC ψ = pubM ψ → jJ X G B0 κF 113 kc ks Q 4 ψ 18 [some (.ref b), some (rf B0 0), some (rf B0 99), some (iv i)] [] := by
  intro m
  induction m with
  | zero =>
    intro i ψ h1 h2 h3 hc hm hp
    refine j_iload_3 (n' := 19) F dL_law_18 rfl ?_
    refine j_aloadS (n' := 20) F rfl dL_law_19 rfl ?_
    refine j_slen (n' := 21) F hX hb hB (by omega) dL_law_20 rfl ?_
    refine j_iconst (n' := 22) F dL_law_21 rfl ?_
    refine j_isub (n' := 23) F dL_law_22 rfl ?_
    refine j_icmp_gt (t := 564) (n' := 26) F (by omega) (by omega) dL_law_23 (by decide) rfl (fun c => ?_) (fun c => ?_)
    · exact hend _ _
    · omega
  | succ m ih =>
    intro i ψ h1 h2 h3 hc hm hp
    refine j_iload_3 (n' := 19) F dL_law_18 rfl ?_
    refine j_aloadS (n' := 20) F rfl dL_law_19 rfl ?_
    refine j_slen (n' := 21) F hX hb hB (by omega) dL_law_20 rfl ?_
    refine j_iconst (n' := 22) F dL_law_21 rfl ?_
    refine j_isub (n' := 23) F dL_law_22 rfl ?_
    refine j_icmp_gt (t := 564) (n' := 26) F (by omega) (by omega) dL_law_23 (by decide) rfl (fun c => ?_) (fun c => ?_)
    · exact hend _ _
    · refine j_aloadS (n' := 27) F rfl dL_law_26 rfl ?_
      refine j_iload_3 (n' := 28) F dL_law_27 rfl ?_
      refine j_sld (n' := 29) F hX hb hB (by omega) (by omega) dL_law_28 rfl ?_
      refine j_bipush (n' := 31) F dL_law_29 (by decide) rfl ?_
      refine j_iand (n' := 32) F dL_law_31 rfl ?_
      have hv := b32 (zI (xs i.toNat).toInt &&& zI 31)
      generalize (zI (xs i.toNat).toInt &&& zI 31).toInt = v at hv ⊢
      by_cases hr : 0 ≤ v ∧ v ≤ 18
      · rcases (show v = 0 ∨ v = 1 ∨ v = 2 ∨ v = 3 ∨ v = 4 ∨ v = 5 ∨ v = 6 ∨ v = 7 ∨ v = 8 ∨ v = 9 ∨ v = 10 ∨ v = 11 ∨ v = 12 ∨ v = 13 ∨ v = 14 ∨ v = 15 ∨ v = 16 ∨ v = 17 ∨ v = 18 by omega) with rfl | rfl | rfl | rfl | rfl | rfl | rfl | rfl | rfl | rfl | rfl | rfl | rfl | rfl | rfl | rfl | rfl | rfl | rfl
        · refine j_tsIn (t := 124) F (by omega) dL_law_32 (by omega) (by omega) rfl (by decide) ?_
          refine j_aload_1 (n' := 125) F dL_law_124 rfl ?_
          refine j_aloadS (n' := 126) F rfl dL_law_125 rfl ?_
          refine j_iload_3 (n' := 127) F dL_law_126 rfl ?_
          refine j_iconst (n' := 128) F dL_law_127 rfl ?_
          refine j_iadd (n' := 129) F dL_law_128 rfl ?_
          refine j_sld (n' := 130) F hX hb hB (by omega) (by omega) dL_law_129 rfl ?_
          refine j_cV1i (n' := 133) F kl_L_13 (c_Cla_letter hc (b32 _)) kap_0 rfl (by decide) (Nat.le_of_ble_eq_true rfl) dL_law_130 rfl (fun z1 φ1 h1 => ?_)
          obtain ⟨p1, p2, p3⟩ := h1
          refine j_aload_2 (n' := 134) F dL_law_133 rfl ?_
          refine j_aloadS (n' := 135) F rfl dL_law_134 rfl ?_
          refine j_iload_3 (n' := 136) F dL_law_135 rfl ?_
          refine j_iconst (n' := 137) F dL_law_136 rfl ?_
          refine j_iadd (n' := 138) F dL_law_137 rfl ?_
          refine j_sld (n' := 139) F hX hb hB (by omega) (by omega) dL_law_138 rfl ?_
          refine j_cV1i (n' := 142) F kl_L_17 (c_Mod_letter (law_mi hm p3) (b32 _)) kap_99 rfl (by decide) (Nat.le_of_ble_eq_true rfl) dL_law_139 rfl (fun z2 φ2 h2 => ?_)
          obtain ⟨r1, r2, r3⟩ := h2
          obtain ⟨rfl, w1, w2, w3⟩ := law_st (f := (fun s => spLet s _)) hp p1 p2 p3 r1 r2 r3
          refine j_same (t := 558) F dL_law_142 (by decide) ?_
          refine j_iinc_3 (n' := 561) F (by decide) jc_r dL_law_558 rfl ?_
          refine j_goto (t := 18) F dL_law_561 (by decide) ?_
          exact ih (i + 3) _ (by omega) (by omega) (by omega) w1 w2 w3
        · refine j_tsIn (t := 147) F (by omega) dL_law_32 (by omega) (by omega) rfl (by decide) ?_
          refine j_aload_1 (n' := 148) F dL_law_147 rfl ?_
          refine j_cV0i (n' := 151) F kl_L_18 (c_Cla_blank hc ) kap_0 rfl (by decide) (Nat.le_of_ble_eq_true rfl) dL_law_148 rfl (fun z1 φ1 h1 => ?_)
          obtain ⟨p1, p2, p3⟩ := h1
          refine j_aload_2 (n' := 152) F dL_law_151 rfl ?_
          refine j_cV0i (n' := 155) F kl_L_22 (c_Mod_blank (law_mi hm p3) ) kap_99 rfl (by decide) (Nat.le_of_ble_eq_true rfl) dL_law_152 rfl (fun z2 φ2 h2 => ?_)
          obtain ⟨r1, r2, r3⟩ := h2
          obtain ⟨rfl, w1, w2, w3⟩ := law_st (f := (fun s => spBlank s)) hp p1 p2 p3 r1 r2 r3
          refine j_same (t := 558) F dL_law_155 (by decide) ?_
          refine j_iinc_3 (n' := 561) F (by decide) jc_r dL_law_558 rfl ?_
          refine j_goto (t := 18) F dL_law_561 (by decide) ?_
          exact ih (i + 3) _ (by omega) (by omega) (by omega) w1 w2 w3
        · refine j_tsIn (t := 160) F (by omega) dL_law_32 (by omega) (by omega) rfl (by decide) ?_
          refine j_aload_1 (n' := 161) F dL_law_160 rfl ?_
          refine j_aloadS (n' := 162) F rfl dL_law_161 rfl ?_
          refine j_iload_3 (n' := 163) F dL_law_162 rfl ?_
          refine j_iconst (n' := 164) F dL_law_163 rfl ?_
          refine j_iadd (n' := 165) F dL_law_164 rfl ?_
          refine j_sld (n' := 166) F hX hb hB (by omega) (by omega) dL_law_165 rfl ?_
          refine j_if_eq (t := 173) (n' := 169) F (b32 _) dL_law_166 (by decide) rfl (fun d1 => ?_) (fun d1 => ?_)
          · refine j_iconst (n' := 174) F dL_law_173 rfl ?_
            refine j_cV1i (n' := 177) F kl_L_23 (c_Cla_fault hc (by omega)) kap_0 rfl (by decide) (Nat.le_of_ble_eq_true rfl) dL_law_174 rfl (fun z1 φ1 h1 => ?_)
            obtain ⟨p1, p2, p3⟩ := h1
            refine j_aload_2 (n' := 178) F dL_law_177 rfl ?_
            refine j_aloadS (n' := 179) F rfl dL_law_178 rfl ?_
            refine j_iload_3 (n' := 180) F dL_law_179 rfl ?_
            refine j_iconst (n' := 181) F dL_law_180 rfl ?_
            refine j_iadd (n' := 182) F dL_law_181 rfl ?_
            refine j_sld (n' := 183) F hX hb hB (by omega) (by omega) dL_law_182 rfl ?_
            refine j_if_eq (t := 190) (n' := 186) F (b32 _) dL_law_183 (by decide) rfl (fun d2 => ?_) (fun d2 => ?_)
            · refine j_iconst (n' := 191) F dL_law_190 rfl ?_
              refine j_cV1i (n' := 194) F kl_L_27 (c_Mod_fault (law_mi hm p3) (by omega)) kap_99 rfl (by decide) (Nat.le_of_ble_eq_true rfl) dL_law_191 rfl (fun z2 φ2 h2 => ?_)
              obtain ⟨r1, r2, r3⟩ := h2
              obtain ⟨rfl, w1, w2, w3⟩ := law_st (f := (fun s => spFault s _)) hp p1 p2 p3 r1 r2 r3
              refine j_same (t := 558) F dL_law_194 (by decide) ?_
              refine j_iinc_3 (n' := 561) F (by decide) jc_r dL_law_558 rfl ?_
              refine j_goto (t := 18) F dL_law_561 (by decide) ?_
              exact ih (i + 3) _ (by omega) (by omega) (by omega) w1 w2 w3
            · omega
          · refine j_iconst (n' := 170) F dL_law_169 rfl ?_
            refine j_goto (t := 174) F dL_law_170 (by decide) ?_
            refine j_cV1i (n' := 177) F kl_L_23 (c_Cla_fault hc (by omega)) kap_0 rfl (by decide) (Nat.le_of_ble_eq_true rfl) dL_law_174 rfl (fun z1 φ1 h1 => ?_)
            obtain ⟨p1, p2, p3⟩ := h1
            refine j_aload_2 (n' := 178) F dL_law_177 rfl ?_
            refine j_aloadS (n' := 179) F rfl dL_law_178 rfl ?_
            refine j_iload_3 (n' := 180) F dL_law_179 rfl ?_
            refine j_iconst (n' := 181) F dL_law_180 rfl ?_
            refine j_iadd (n' := 182) F dL_law_181 rfl ?_
            refine j_sld (n' := 183) F hX hb hB (by omega) (by omega) dL_law_182 rfl ?_
            refine j_if_eq (t := 190) (n' := 186) F (b32 _) dL_law_183 (by decide) rfl (fun d3 => ?_) (fun d3 => ?_)
            · omega
            · refine j_iconst (n' := 187) F dL_law_186 rfl ?_
              refine j_goto (t := 191) F dL_law_187 (by decide) ?_
              refine j_cV1i (n' := 194) F kl_L_27 (c_Mod_fault (law_mi hm p3) (by omega)) kap_99 rfl (by decide) (Nat.le_of_ble_eq_true rfl) dL_law_191 rfl (fun z2 φ2 h2 => ?_)
              obtain ⟨r1, r2, r3⟩ := h2
              obtain ⟨rfl, w1, w2, w3⟩ := law_st (f := (fun s => spFault s _)) hp p1 p2 p3 r1 r2 r3
              refine j_same (t := 558) F dL_law_194 (by decide) ?_
              refine j_iinc_3 (n' := 561) F (by decide) jc_r dL_law_558 rfl ?_
              refine j_goto (t := 18) F dL_law_561 (by decide) ?_
              exact ih (i + 3) _ (by omega) (by omega) (by omega) w1 w2 w3
        · refine j_tsIn (t := 199) F (by omega) dL_law_32 (by omega) (by omega) rfl (by decide) ?_
          refine j_aload_1 (n' := 200) F dL_law_199 rfl ?_
          refine j_cV0i (n' := 203) F kl_L_28 (c_Cla_text hc ) kap_0 rfl (by decide) (Nat.le_of_ble_eq_true rfl) dL_law_200 rfl (fun z1 φ1 h1 => ?_)
          obtain ⟨p1, p2, p3⟩ := h1
          refine j_aload_2 (n' := 204) F dL_law_203 rfl ?_
          refine j_cV0i (n' := 207) F kl_L_31 (c_Mod_text (law_mi hm p3) ) kap_99 rfl (by decide) (Nat.le_of_ble_eq_true rfl) dL_law_204 rfl (fun z2 φ2 h2 => ?_)
          obtain ⟨r1, r2, r3⟩ := h2
          obtain ⟨rfl, w1, w2, w3⟩ := law_st (f := (fun s => spText s)) hp p1 p2 p3 r1 r2 r3
          refine j_same (t := 558) F dL_law_207 (by decide) ?_
          refine j_iinc_3 (n' := 561) F (by decide) jc_r dL_law_558 rfl ?_
          refine j_goto (t := 18) F dL_law_561 (by decide) ?_
          exact ih (i + 3) _ (by omega) (by omega) (by omega) w1 w2 w3
        · refine j_tsIn (t := 212) F (by omega) dL_law_32 (by omega) (by omega) rfl (by decide) ?_
          refine j_aload_1 (n' := 213) F dL_law_212 rfl ?_
          refine j_cV0i (n' := 216) F kl_L_32 (c_Cla_decode hc ) kap_0 rfl (by decide) (Nat.le_of_ble_eq_true rfl) dL_law_213 rfl (fun z1 φ1 h1 => ?_)
          obtain ⟨p1, p2, p3⟩ := h1
          refine j_aload_2 (n' := 217) F dL_law_216 rfl ?_
          refine j_cV0i (n' := 220) F kl_L_35 (c_Mod_decode (law_mi hm p3) ) kap_99 rfl (by decide) (Nat.le_of_ble_eq_true rfl) dL_law_217 rfl (fun z2 φ2 h2 => ?_)
          obtain ⟨r1, r2, r3⟩ := h2
          obtain ⟨rfl, w1, w2, w3⟩ := law_st (f := (fun s => spDec s)) hp p1 p2 p3 r1 r2 r3
          refine j_same (t := 558) F dL_law_220 (by decide) ?_
          refine j_iinc_3 (n' := 561) F (by decide) jc_r dL_law_558 rfl ?_
          refine j_goto (t := 18) F dL_law_561 (by decide) ?_
          exact ih (i + 3) _ (by omega) (by omega) (by omega) w1 w2 w3
        · refine j_tsIn (t := 225) F (by omega) dL_law_32 (by omega) (by omega) rfl (by decide) ?_
          refine j_aload_1 (n' := 226) F dL_law_225 rfl ?_
          refine j_cV0i (n' := 229) F kl_L_36 (c_Cla_priced hc ) kap_0 rfl (by decide) (Nat.le_of_ble_eq_true rfl) dL_law_226 rfl (fun z1 φ1 h1 => ?_)
          obtain ⟨p1, p2, p3⟩ := h1
          refine j_aload_2 (n' := 230) F dL_law_229 rfl ?_
          refine j_cV0i (n' := 233) F kl_L_39 (c_Mod_priced (law_mi hm p3) ) kap_99 rfl (by decide) (Nat.le_of_ble_eq_true rfl) dL_law_230 rfl (fun z2 φ2 h2 => ?_)
          obtain ⟨r1, r2, r3⟩ := h2
          obtain ⟨rfl, w1, w2, w3⟩ := law_st (f := (fun s => spPriced s)) hp p1 p2 p3 r1 r2 r3
          refine j_same (t := 558) F dL_law_233 (by decide) ?_
          refine j_iinc_3 (n' := 561) F (by decide) jc_r dL_law_558 rfl ?_
          refine j_goto (t := 18) F dL_law_561 (by decide) ?_
          exact ih (i + 3) _ (by omega) (by omega) (by omega) w1 w2 w3
        · refine j_tsIn (t := 238) F (by omega) dL_law_32 (by omega) (by omega) rfl (by decide) ?_
          refine j_aload_1 (n' := 239) F dL_law_238 rfl ?_
          refine j_aloadS (n' := 240) F rfl dL_law_239 rfl ?_
          refine j_iload_3 (n' := 241) F dL_law_240 rfl ?_
          refine j_iconst (n' := 242) F dL_law_241 rfl ?_
          refine j_iadd (n' := 243) F dL_law_242 rfl ?_
          refine j_sld (n' := 244) F hX hb hB (by omega) (by omega) dL_law_243 rfl ?_
          refine j_aloadS (n' := 245) F rfl dL_law_244 rfl ?_
          refine j_iload_3 (n' := 246) F dL_law_245 rfl ?_
          refine j_iconst (n' := 247) F dL_law_246 rfl ?_
          refine j_iadd (n' := 248) F dL_law_247 rfl ?_
          refine j_sld (n' := 249) F hX hb hB (by omega) (by omega) dL_law_248 rfl ?_
          refine j_cV2i (n' := 252) F kl_L_40 (c_Cla_price hc (b32 _) (b32 _)) kap_0 rfl (by decide) (Nat.le_of_ble_eq_true rfl) dL_law_249 rfl (fun z1 φ1 h1 => ?_)
          obtain ⟨p1, p2, p3⟩ := h1
          refine j_aload_2 (n' := 253) F dL_law_252 rfl ?_
          refine j_aloadS (n' := 254) F rfl dL_law_253 rfl ?_
          refine j_iload_3 (n' := 255) F dL_law_254 rfl ?_
          refine j_iconst (n' := 256) F dL_law_255 rfl ?_
          refine j_iadd (n' := 257) F dL_law_256 rfl ?_
          refine j_sld (n' := 258) F hX hb hB (by omega) (by omega) dL_law_257 rfl ?_
          refine j_aloadS (n' := 259) F rfl dL_law_258 rfl ?_
          refine j_iload_3 (n' := 260) F dL_law_259 rfl ?_
          refine j_iconst (n' := 261) F dL_law_260 rfl ?_
          refine j_iadd (n' := 262) F dL_law_261 rfl ?_
          refine j_sld (n' := 263) F hX hb hB (by omega) (by omega) dL_law_262 rfl ?_
          refine j_cV2i (n' := 266) F kl_L_44 (c_Mod_price (law_mi hm p3) (b32 _) (b32 _)) kap_99 rfl (by decide) (Nat.le_of_ble_eq_true rfl) dL_law_263 rfl (fun z2 φ2 h2 => ?_)
          obtain ⟨r1, r2, r3⟩ := h2
          obtain ⟨rfl, w1, w2, w3⟩ := law_st (f := (fun s => spPrice s _ _)) hp p1 p2 p3 r1 r2 r3
          refine j_same (t := 558) F dL_law_266 (by decide) ?_
          refine j_iinc_3 (n' := 561) F (by decide) jc_r dL_law_558 rfl ?_
          refine j_goto (t := 18) F dL_law_561 (by decide) ?_
          exact ih (i + 3) _ (by omega) (by omega) (by omega) w1 w2 w3
        · refine j_tsIn (t := 271) F (by omega) dL_law_32 (by omega) (by omega) rfl (by decide) ?_
          refine j_aload_1 (n' := 272) F dL_law_271 rfl ?_
          refine j_aloadS (n' := 273) F rfl dL_law_272 rfl ?_
          refine j_iload_3 (n' := 274) F dL_law_273 rfl ?_
          refine j_iconst (n' := 275) F dL_law_274 rfl ?_
          refine j_iadd (n' := 276) F dL_law_275 rfl ?_
          refine j_sld (n' := 277) F hX hb hB (by omega) (by omega) dL_law_276 rfl ?_
          refine j_cV1i (n' := 280) F kl_L_45 (c_Cla_priceOf hc (b32 _)) kap_0 rfl (by decide) (Nat.le_of_ble_eq_true rfl) dL_law_277 rfl (fun z1 φ1 h1 => ?_)
          obtain ⟨p1, p2, p3⟩ := h1
          refine j_aload_2 (n' := 281) F dL_law_280 rfl ?_
          refine j_aloadS (n' := 282) F rfl dL_law_281 rfl ?_
          refine j_iload_3 (n' := 283) F dL_law_282 rfl ?_
          refine j_iconst (n' := 284) F dL_law_283 rfl ?_
          refine j_iadd (n' := 285) F dL_law_284 rfl ?_
          refine j_sld (n' := 286) F hX hb hB (by omega) (by omega) dL_law_285 rfl ?_
          refine j_cV1i (n' := 289) F kl_L_48 (c_Mod_priceOf (law_mi hm p3) (b32 _)) kap_99 rfl (by decide) (Nat.le_of_ble_eq_true rfl) dL_law_286 rfl (fun z2 φ2 h2 => ?_)
          obtain ⟨r1, r2, r3⟩ := h2
          obtain ⟨rfl, w1, w2, w3⟩ := law_st (f := (fun s => spPriceOf s _)) hp p1 p2 p3 r1 r2 r3
          refine j_same (t := 558) F dL_law_289 (by decide) ?_
          refine j_iinc_3 (n' := 561) F (by decide) jc_r dL_law_558 rfl ?_
          refine j_goto (t := 18) F dL_law_561 (by decide) ?_
          exact ih (i + 3) _ (by omega) (by omega) (by omega) w1 w2 w3
        · refine j_tsIn (t := 294) F (by omega) dL_law_32 (by omega) (by omega) rfl (by decide) ?_
          refine j_aload_1 (n' := 295) F dL_law_294 rfl ?_
          refine j_cV0i (n' := 298) F kl_L_49 (c_Cla_round hc ) kap_0 rfl (by decide) (Nat.le_of_ble_eq_true rfl) dL_law_295 rfl (fun z1 φ1 h1 => ?_)
          obtain ⟨p1, p2, p3⟩ := h1
          refine j_aload_2 (n' := 299) F dL_law_298 rfl ?_
          refine j_cV0i (n' := 302) F kl_L_52 (c_Mod_round (law_mi hm p3) ) kap_99 rfl (by decide) (Nat.le_of_ble_eq_true rfl) dL_law_299 rfl (fun z2 φ2 h2 => ?_)
          obtain ⟨r1, r2, r3⟩ := h2
          obtain ⟨rfl, w1, w2, w3⟩ := law_st (f := (fun s => spRound s)) hp p1 p2 p3 r1 r2 r3
          refine j_same (t := 558) F dL_law_302 (by decide) ?_
          refine j_iinc_3 (n' := 561) F (by decide) jc_r dL_law_558 rfl ?_
          refine j_goto (t := 18) F dL_law_561 (by decide) ?_
          exact ih (i + 3) _ (by omega) (by omega) (by omega) w1 w2 w3
        · refine j_tsIn (t := 307) F (by omega) dL_law_32 (by omega) (by omega) rfl (by decide) ?_
          refine j_aload_1 (n' := 308) F dL_law_307 rfl ?_
          refine j_aloadS (n' := 309) F rfl dL_law_308 rfl ?_
          refine j_iload_3 (n' := 310) F dL_law_309 rfl ?_
          refine j_iconst (n' := 311) F dL_law_310 rfl ?_
          refine j_iadd (n' := 312) F dL_law_311 rfl ?_
          refine j_sld (n' := 313) F hX hb hB (by omega) (by omega) dL_law_312 rfl ?_
          refine j_cV1i (n' := 316) F kl_L_53 (c_Cla_rest hc (b32 _)) kap_0 rfl (by decide) (Nat.le_of_ble_eq_true rfl) dL_law_313 rfl (fun z1 φ1 h1 => ?_)
          obtain ⟨p1, p2, p3⟩ := h1
          refine j_aload_2 (n' := 317) F dL_law_316 rfl ?_
          refine j_aloadS (n' := 318) F rfl dL_law_317 rfl ?_
          refine j_iload_3 (n' := 319) F dL_law_318 rfl ?_
          refine j_iconst (n' := 320) F dL_law_319 rfl ?_
          refine j_iadd (n' := 321) F dL_law_320 rfl ?_
          refine j_sld (n' := 322) F hX hb hB (by omega) (by omega) dL_law_321 rfl ?_
          refine j_cV1i (n' := 325) F kl_L_56 (c_Mod_rest (law_mi hm p3) (b32 _)) kap_99 rfl (by decide) (Nat.le_of_ble_eq_true rfl) dL_law_322 rfl (fun z2 φ2 h2 => ?_)
          obtain ⟨r1, r2, r3⟩ := h2
          obtain ⟨rfl, w1, w2, w3⟩ := law_st (f := (fun s => spRest s _)) hp p1 p2 p3 r1 r2 r3
          refine j_same (t := 558) F dL_law_325 (by decide) ?_
          refine j_iinc_3 (n' := 561) F (by decide) jc_r dL_law_558 rfl ?_
          refine j_goto (t := 18) F dL_law_561 (by decide) ?_
          exact ih (i + 3) _ (by omega) (by omega) (by omega) w1 w2 w3
        · refine j_tsIn (t := 330) F (by omega) dL_law_32 (by omega) (by omega) rfl (by decide) ?_
          refine j_aload_1 (n' := 331) F dL_law_330 rfl ?_
          refine j_aloadS (n' := 332) F rfl dL_law_331 rfl ?_
          refine j_iload_3 (n' := 333) F dL_law_332 rfl ?_
          refine j_iconst (n' := 334) F dL_law_333 rfl ?_
          refine j_iadd (n' := 335) F dL_law_334 rfl ?_
          refine j_sld (n' := 336) F hX hb hB (by omega) (by omega) dL_law_335 rfl ?_
          refine j_cV1i (n' := 339) F kl_L_57 (c_Cla_at hc (b32 _)) kap_0 rfl (by decide) (Nat.le_of_ble_eq_true rfl) dL_law_336 rfl (fun z1 φ1 h1 => ?_)
          obtain ⟨p1, p2, p3⟩ := h1
          refine j_aload_2 (n' := 340) F dL_law_339 rfl ?_
          refine j_aloadS (n' := 341) F rfl dL_law_340 rfl ?_
          refine j_iload_3 (n' := 342) F dL_law_341 rfl ?_
          refine j_iconst (n' := 343) F dL_law_342 rfl ?_
          refine j_iadd (n' := 344) F dL_law_343 rfl ?_
          refine j_sld (n' := 345) F hX hb hB (by omega) (by omega) dL_law_344 rfl ?_
          refine j_cV1i (n' := 348) F kl_L_60 (c_Mod_at (law_mi hm p3) (b32 _)) kap_99 rfl (by decide) (Nat.le_of_ble_eq_true rfl) dL_law_345 rfl (fun z2 φ2 h2 => ?_)
          obtain ⟨r1, r2, r3⟩ := h2
          obtain ⟨rfl, w1, w2, w3⟩ := law_st (f := (fun s => spAt s _)) hp p1 p2 p3 r1 r2 r3
          refine j_same (t := 558) F dL_law_348 (by decide) ?_
          refine j_iinc_3 (n' := 561) F (by decide) jc_r dL_law_558 rfl ?_
          refine j_goto (t := 18) F dL_law_561 (by decide) ?_
          exact ih (i + 3) _ (by omega) (by omega) (by omega) w1 w2 w3
        · refine j_tsIn (t := 353) F (by omega) dL_law_32 (by omega) (by omega) rfl (by decide) ?_
          refine j_aload_1 (n' := 354) F dL_law_353 rfl ?_
          refine j_aloadS (n' := 355) F rfl dL_law_354 rfl ?_
          refine j_iload_3 (n' := 356) F dL_law_355 rfl ?_
          refine j_iconst (n' := 357) F dL_law_356 rfl ?_
          refine j_iadd (n' := 358) F dL_law_357 rfl ?_
          refine j_sld (n' := 359) F hX hb hB (by omega) (by omega) dL_law_358 rfl ?_
          refine j_aloadS (n' := 360) F rfl dL_law_359 rfl ?_
          refine j_iload_3 (n' := 361) F dL_law_360 rfl ?_
          refine j_iconst (n' := 362) F dL_law_361 rfl ?_
          refine j_iadd (n' := 363) F dL_law_362 rfl ?_
          refine j_sld (n' := 364) F hX hb hB (by omega) (by omega) dL_law_363 rfl ?_
          refine j_cV2i (n' := 367) F kl_L_61 (c_Cla_longest hc (b32 _) (b32 _)) kap_0 rfl (by decide) (Nat.le_of_ble_eq_true rfl) dL_law_364 rfl (fun z1 φ1 h1 => ?_)
          obtain ⟨p1, p2, p3⟩ := h1
          refine j_aload_2 (n' := 368) F dL_law_367 rfl ?_
          refine j_aloadS (n' := 369) F rfl dL_law_368 rfl ?_
          refine j_iload_3 (n' := 370) F dL_law_369 rfl ?_
          refine j_iconst (n' := 371) F dL_law_370 rfl ?_
          refine j_iadd (n' := 372) F dL_law_371 rfl ?_
          refine j_sld (n' := 373) F hX hb hB (by omega) (by omega) dL_law_372 rfl ?_
          refine j_aloadS (n' := 374) F rfl dL_law_373 rfl ?_
          refine j_iload_3 (n' := 375) F dL_law_374 rfl ?_
          refine j_iconst (n' := 376) F dL_law_375 rfl ?_
          refine j_iadd (n' := 377) F dL_law_376 rfl ?_
          refine j_sld (n' := 378) F hX hb hB (by omega) (by omega) dL_law_377 rfl ?_
          refine j_cV2i (n' := 381) F kl_L_64 (c_Mod_longest (law_mi hm p3) (b32 _) (b32 _)) kap_99 rfl (by decide) (Nat.le_of_ble_eq_true rfl) dL_law_378 rfl (fun z2 φ2 h2 => ?_)
          obtain ⟨r1, r2, r3⟩ := h2
          obtain ⟨rfl, w1, w2, w3⟩ := law_st (f := (fun s => spLon s _ _)) hp p1 p2 p3 r1 r2 r3
          refine j_same (t := 558) F dL_law_381 (by decide) ?_
          refine j_iinc_3 (n' := 561) F (by decide) jc_r dL_law_558 rfl ?_
          refine j_goto (t := 18) F dL_law_561 (by decide) ?_
          exact ih (i + 3) _ (by omega) (by omega) (by omega) w1 w2 w3
        · refine j_tsIn (t := 386) F (by omega) dL_law_32 (by omega) (by omega) rfl (by decide) ?_
          refine j_aload_1 (n' := 387) F dL_law_386 rfl ?_
          refine j_aloadS (n' := 388) F rfl dL_law_387 rfl ?_
          refine j_iload_3 (n' := 389) F dL_law_388 rfl ?_
          refine j_iconst (n' := 390) F dL_law_389 rfl ?_
          refine j_iadd (n' := 391) F dL_law_390 rfl ?_
          refine j_sld (n' := 392) F hX hb hB (by omega) (by omega) dL_law_391 rfl ?_
          refine j_aloadS (n' := 393) F rfl dL_law_392 rfl ?_
          refine j_iload_3 (n' := 394) F dL_law_393 rfl ?_
          refine j_iconst (n' := 395) F dL_law_394 rfl ?_
          refine j_iadd (n' := 396) F dL_law_395 rfl ?_
          refine j_sld (n' := 397) F hX hb hB (by omega) (by omega) dL_law_396 rfl ?_
          refine j_cV2i (n' := 400) F kl_L_65 (c_Cla_chain hc (b32 _) (b32 _)) kap_0 rfl (by decide) (Nat.le_of_ble_eq_true rfl) dL_law_397 rfl (fun z1 φ1 h1 => ?_)
          obtain ⟨p1, p2, p3⟩ := h1
          refine j_aload_2 (n' := 401) F dL_law_400 rfl ?_
          refine j_aloadS (n' := 402) F rfl dL_law_401 rfl ?_
          refine j_iload_3 (n' := 403) F dL_law_402 rfl ?_
          refine j_iconst (n' := 404) F dL_law_403 rfl ?_
          refine j_iadd (n' := 405) F dL_law_404 rfl ?_
          refine j_sld (n' := 406) F hX hb hB (by omega) (by omega) dL_law_405 rfl ?_
          refine j_aloadS (n' := 407) F rfl dL_law_406 rfl ?_
          refine j_iload_3 (n' := 408) F dL_law_407 rfl ?_
          refine j_iconst (n' := 409) F dL_law_408 rfl ?_
          refine j_iadd (n' := 410) F dL_law_409 rfl ?_
          refine j_sld (n' := 411) F hX hb hB (by omega) (by omega) dL_law_410 rfl ?_
          refine j_cV2i (n' := 414) F kl_L_68 (c_Mod_chain (law_mi hm p3) (b32 _) (b32 _)) kap_99 rfl (by decide) (Nat.le_of_ble_eq_true rfl) dL_law_411 rfl (fun z2 φ2 h2 => ?_)
          obtain ⟨r1, r2, r3⟩ := h2
          obtain ⟨rfl, w1, w2, w3⟩ := law_st (f := (fun s => spChn s _ _)) hp p1 p2 p3 r1 r2 r3
          refine j_same (t := 558) F dL_law_414 (by decide) ?_
          refine j_iinc_3 (n' := 561) F (by decide) jc_r dL_law_558 rfl ?_
          refine j_goto (t := 18) F dL_law_561 (by decide) ?_
          exact ih (i + 3) _ (by omega) (by omega) (by omega) w1 w2 w3
        · refine j_tsIn (t := 419) F (by omega) dL_law_32 (by omega) (by omega) rfl (by decide) ?_
          refine j_aload_1 (n' := 420) F dL_law_419 rfl ?_
          refine j_aloadS (n' := 421) F rfl dL_law_420 rfl ?_
          refine j_iload_3 (n' := 422) F dL_law_421 rfl ?_
          refine j_iconst (n' := 423) F dL_law_422 rfl ?_
          refine j_iadd (n' := 424) F dL_law_423 rfl ?_
          refine j_sld (n' := 425) F hX hb hB (by omega) (by omega) dL_law_424 rfl ?_
          refine j_cV1i (n' := 428) F kl_L_69 (c_Cla_cheapest hc (b32 _)) kap_0 rfl (by decide) (Nat.le_of_ble_eq_true rfl) dL_law_425 rfl (fun z1 φ1 h1 => ?_)
          obtain ⟨p1, p2, p3, -⟩ := h1
          refine j_aload_2 (n' := 429) F dL_law_428 rfl ?_
          refine j_aloadS (n' := 430) F rfl dL_law_429 rfl ?_
          refine j_iload_3 (n' := 431) F dL_law_430 rfl ?_
          refine j_iconst (n' := 432) F dL_law_431 rfl ?_
          refine j_iadd (n' := 433) F dL_law_432 rfl ?_
          refine j_sld (n' := 434) F hX hb hB (by omega) (by omega) dL_law_433 rfl ?_
          refine j_cV1i (n' := 437) F kl_L_72 (c_Mod_cheapest (law_mi hm p3) (b32 _)) kap_99 rfl (by decide) (Nat.le_of_ble_eq_true rfl) dL_law_434 rfl (fun z2 φ2 h2 => ?_)
          obtain ⟨r1, r2, r3⟩ := h2
          obtain ⟨rfl, w1, w2, w3⟩ := law_st (f := (fun s => spChe s _)) hp p1 p2 p3 r1 r2 r3
          refine j_same (t := 558) F dL_law_437 (by decide) ?_
          refine j_iinc_3 (n' := 561) F (by decide) jc_r dL_law_558 rfl ?_
          refine j_goto (t := 18) F dL_law_561 (by decide) ?_
          exact ih (i + 3) _ (by omega) (by omega) (by omega) w1 w2 w3
        · refine j_tsIn (t := 442) F (by omega) dL_law_32 (by omega) (by omega) rfl (by decide) ?_
          refine j_aload_1 (n' := 443) F dL_law_442 rfl ?_
          refine j_aloadS (n' := 444) F rfl dL_law_443 rfl ?_
          refine j_iload_3 (n' := 445) F dL_law_444 rfl ?_
          refine j_iconst (n' := 446) F dL_law_445 rfl ?_
          refine j_iadd (n' := 447) F dL_law_446 rfl ?_
          refine j_sld (n' := 448) F hX hb hB (by omega) (by omega) dL_law_447 rfl ?_
          refine j_cV1i (n' := 451) F kl_L_73 (c_Cla_codeOf hc (b32 _)) kap_0 rfl (by decide) (Nat.le_of_ble_eq_true rfl) dL_law_448 rfl (fun z1 φ1 h1 => ?_)
          obtain ⟨p1, p2, p3⟩ := h1
          refine j_aload_2 (n' := 452) F dL_law_451 rfl ?_
          refine j_aloadS (n' := 453) F rfl dL_law_452 rfl ?_
          refine j_iload_3 (n' := 454) F dL_law_453 rfl ?_
          refine j_iconst (n' := 455) F dL_law_454 rfl ?_
          refine j_iadd (n' := 456) F dL_law_455 rfl ?_
          refine j_sld (n' := 457) F hX hb hB (by omega) (by omega) dL_law_456 rfl ?_
          refine j_cV1i (n' := 460) F kl_L_76 (c_Mod_codeOf (law_mi hm p3) (b32 _)) kap_99 rfl (by decide) (Nat.le_of_ble_eq_true rfl) dL_law_457 rfl (fun z2 φ2 h2 => ?_)
          obtain ⟨r1, r2, r3⟩ := h2
          obtain ⟨rfl, w1, w2, w3⟩ := law_st (f := (fun s => spCod s _)) hp p1 p2 p3 r1 r2 r3
          refine j_same (t := 558) F dL_law_460 (by decide) ?_
          refine j_iinc_3 (n' := 561) F (by decide) jc_r dL_law_558 rfl ?_
          refine j_goto (t := 18) F dL_law_561 (by decide) ?_
          exact ih (i + 3) _ (by omega) (by omega) (by omega) w1 w2 w3
        · refine j_tsIn (t := 465) F (by omega) dL_law_32 (by omega) (by omega) rfl (by decide) ?_
          refine j_aload_1 (n' := 466) F dL_law_465 rfl ?_
          refine j_aloadS (n' := 467) F rfl dL_law_466 rfl ?_
          refine j_iload_3 (n' := 468) F dL_law_467 rfl ?_
          refine j_iconst (n' := 469) F dL_law_468 rfl ?_
          refine j_iadd (n' := 470) F dL_law_469 rfl ?_
          refine j_sld (n' := 471) F hX hb hB (by omega) (by omega) dL_law_470 rfl ?_
          refine j_cV1i (n' := 474) F kl_L_77 (c_Cla_greedy hc (b32 _)) kap_0 rfl (by decide) (Nat.le_of_ble_eq_true rfl) dL_law_471 rfl (fun z1 φ1 h1 => ?_)
          obtain ⟨p1, p2, p3⟩ := h1
          refine j_aload_2 (n' := 475) F dL_law_474 rfl ?_
          refine j_aloadS (n' := 476) F rfl dL_law_475 rfl ?_
          refine j_iload_3 (n' := 477) F dL_law_476 rfl ?_
          refine j_iconst (n' := 478) F dL_law_477 rfl ?_
          refine j_iadd (n' := 479) F dL_law_478 rfl ?_
          refine j_sld (n' := 480) F hX hb hB (by omega) (by omega) dL_law_479 rfl ?_
          refine j_cV1i (n' := 483) F kl_L_80 (c_Mod_greedy (law_mi hm p3) (b32 _)) kap_99 rfl (by decide) (Nat.le_of_ble_eq_true rfl) dL_law_480 rfl (fun z2 φ2 h2 => ?_)
          obtain ⟨r1, r2, r3⟩ := h2
          obtain ⟨rfl, w1, w2, w3⟩ := law_st (f := (fun s => spGre s _)) hp p1 p2 p3 r1 r2 r3
          refine j_same (t := 558) F dL_law_483 (by decide) ?_
          refine j_iinc_3 (n' := 561) F (by decide) jc_r dL_law_558 rfl ?_
          refine j_goto (t := 18) F dL_law_561 (by decide) ?_
          exact ih (i + 3) _ (by omega) (by omega) (by omega) w1 w2 w3
        · refine j_tsIn (t := 488) F (by omega) dL_law_32 (by omega) (by omega) rfl (by decide) ?_
          refine j_aload_1 (n' := 489) F dL_law_488 rfl ?_
          refine j_aloadS (n' := 490) F rfl dL_law_489 rfl ?_
          refine j_iload_3 (n' := 491) F dL_law_490 rfl ?_
          refine j_iconst (n' := 492) F dL_law_491 rfl ?_
          refine j_iadd (n' := 493) F dL_law_492 rfl ?_
          refine j_sld (n' := 494) F hX hb hB (by omega) (by omega) dL_law_493 rfl ?_
          refine j_aloadS (n' := 495) F rfl dL_law_494 rfl ?_
          refine j_iload_3 (n' := 496) F dL_law_495 rfl ?_
          refine j_iconst (n' := 497) F dL_law_496 rfl ?_
          refine j_iadd (n' := 498) F dL_law_497 rfl ?_
          refine j_sld (n' := 499) F hX hb hB (by omega) (by omega) dL_law_498 rfl ?_
          refine j_cV2i (n' := 502) F kl_L_81 (c_Cla_parts hc (b32 _) (b32 _)) kap_0 rfl (by decide) (Nat.le_of_ble_eq_true rfl) dL_law_499 rfl (fun z1 φ1 h1 => ?_)
          obtain ⟨p1, p2, p3⟩ := h1
          refine j_aload_2 (n' := 503) F dL_law_502 rfl ?_
          refine j_aloadS (n' := 504) F rfl dL_law_503 rfl ?_
          refine j_iload_3 (n' := 505) F dL_law_504 rfl ?_
          refine j_iconst (n' := 506) F dL_law_505 rfl ?_
          refine j_iadd (n' := 507) F dL_law_506 rfl ?_
          refine j_sld (n' := 508) F hX hb hB (by omega) (by omega) dL_law_507 rfl ?_
          refine j_aloadS (n' := 509) F rfl dL_law_508 rfl ?_
          refine j_iload_3 (n' := 510) F dL_law_509 rfl ?_
          refine j_iconst (n' := 511) F dL_law_510 rfl ?_
          refine j_iadd (n' := 512) F dL_law_511 rfl ?_
          refine j_sld (n' := 513) F hX hb hB (by omega) (by omega) dL_law_512 rfl ?_
          refine j_cV2i (n' := 516) F kl_L_84 (c_Mod_parts (law_mi hm p3) (b32 _) (b32 _)) kap_99 rfl (by decide) (Nat.le_of_ble_eq_true rfl) dL_law_513 rfl (fun z2 φ2 h2 => ?_)
          obtain ⟨r1, r2, r3⟩ := h2
          obtain ⟨rfl, w1, w2, w3⟩ := law_st (f := (fun s => spPar s _ _)) hp p1 p2 p3 r1 r2 r3
          refine j_same (t := 558) F dL_law_516 (by decide) ?_
          refine j_iinc_3 (n' := 561) F (by decide) jc_r dL_law_558 rfl ?_
          refine j_goto (t := 18) F dL_law_561 (by decide) ?_
          exact ih (i + 3) _ (by omega) (by omega) (by omega) w1 w2 w3
        · refine j_tsIn (t := 521) F (by omega) dL_law_32 (by omega) (by omega) rfl (by decide) ?_
          refine j_aload_1 (n' := 522) F dL_law_521 rfl ?_
          refine j_aloadS (n' := 523) F rfl dL_law_522 rfl ?_
          refine j_iload_3 (n' := 524) F dL_law_523 rfl ?_
          refine j_iconst (n' := 525) F dL_law_524 rfl ?_
          refine j_iadd (n' := 526) F dL_law_525 rfl ?_
          refine j_sld (n' := 527) F hX hb hB (by omega) (by omega) dL_law_526 rfl ?_
          refine j_cV1i (n' := 530) F kl_L_85 (c_Cla_count hc (b32 _)) kap_0 rfl (by decide) (Nat.le_of_ble_eq_true rfl) dL_law_527 rfl (fun z1 φ1 h1 => ?_)
          obtain ⟨p1, p2, p3⟩ := h1
          refine j_aload_2 (n' := 531) F dL_law_530 rfl ?_
          refine j_aloadS (n' := 532) F rfl dL_law_531 rfl ?_
          refine j_iload_3 (n' := 533) F dL_law_532 rfl ?_
          refine j_iconst (n' := 534) F dL_law_533 rfl ?_
          refine j_iadd (n' := 535) F dL_law_534 rfl ?_
          refine j_sld (n' := 536) F hX hb hB (by omega) (by omega) dL_law_535 rfl ?_
          refine j_cV1i (n' := 539) F kl_L_88 (c_Mod_count (law_mi hm p3) (b32 _)) kap_99 rfl (by decide) (Nat.le_of_ble_eq_true rfl) dL_law_536 rfl (fun z2 φ2 h2 => ?_)
          obtain ⟨r1, r2, r3⟩ := h2
          obtain ⟨rfl, w1, w2, w3⟩ := law_st (f := (fun s => spCou s _)) hp p1 p2 p3 r1 r2 r3
          refine j_same (t := 558) F dL_law_539 (by decide) ?_
          refine j_iinc_3 (n' := 561) F (by decide) jc_r dL_law_558 rfl ?_
          refine j_goto (t := 18) F dL_law_561 (by decide) ?_
          exact ih (i + 3) _ (by omega) (by omega) (by omega) w1 w2 w3
        · refine j_tsIn (t := 544) F (by omega) dL_law_32 (by omega) (by omega) rfl (by decide) ?_
          refine j_aload_1 (n' := 545) F dL_law_544 rfl ?_
          refine j_cV0l (n' := 548) F kl_L_89 (c_Cla_digest hc ) kap_0 rfl (by decide) (Nat.le_of_ble_eq_true rfl) dL_law_545 rfl (fun z1 φ1 h1 => ?_)
          obtain ⟨p1, p2, p3⟩ := h1
          refine j_aload_2 (n' := 549) F dL_law_548 rfl ?_
          refine j_cV0l (n' := 552) F kl_L_93 (c_Mod_digest (law_mi hm p3) ) kap_99 rfl (by decide) (Nat.le_of_ble_eq_true rfl) dL_law_549 rfl (fun z2 φ2 h2 => ?_)
          obtain ⟨r1, r2, r3⟩ := h2
          obtain ⟨rfl, w1, w2, w3⟩ := law_st (f := (fun s => spDig s)) hp p1 p2 p3 r1 r2 r3
          refine j_lcmpS (n' := 553) F dL_law_552 rfl ?_
          refine j_if_eq (t := 558) (n' := 556) F (by omega) dL_law_553 (by decide) rfl (fun _ => ?_) (fun q => absurd rfl q)
          refine j_iinc_3 (n' := 561) F (by decide) jc_r dL_law_558 rfl ?_
          refine j_goto (t := 18) F dL_law_561 (by decide) ?_
          exact ih (i + 3) _ (by omega) (by omega) (by omega) w1 w2 w3
      · refine j_tsOut (t := 558) F (by omega) dL_law_32 (by omega) (by decide) ?_
        refine j_iinc_3 (n' := 561) F (by decide) jc_r dL_law_558 rfl ?_
        refine j_goto (t := 18) F dL_law_561 (by decide) ?_
        exact ih (i + 3) _ (by omega) (by omega) (by omega) hc hm hp
