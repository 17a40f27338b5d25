/-! the law's loop -/
theorem xj_cmp_same {sc : Option (Nat × (Int → Int))} {d : Nat} {k : MI} {h : Hp} {pc pc2 tgt : Nat} {lo : Lo} {st : List Value} {Q : Int → Hp → Prop} {v off : Int} (hd : decode k.2.1 pc = .ok (.if_icmp .eq off, 3)) (hp : pc + 3 = pc2) (ht : (pc : Int) + off = tgt) (kk : XJ sc d k h tgt lo st Q) : XJ sc d k h pc lo (vi v :: vi v :: st) Q := by
  have e : vi v = vi ((Int32.ofInt v).toInt) := by unfold vi; rw [Int32.ofInt_toInt]
  have r : -2147483648 ≤ (Int32.ofInt v).toInt ∧ (Int32.ofInt v).toInt ≤ 2147483647 := ⟨Int32.le_toInt _, by have := Int32.toInt_lt (Int32.ofInt v); omega⟩
  rw [e]
  exact xj_cmp_eq hd ht hp r r (fun _ => kk) (fun q => absurd rfl q)
theorem law_loop {L : Nat} {xs : Int → Int} (hL : L ≤ 2560) (hx : ∀ j, -2147483648 ≤ xs j ∧ xs j ≤ 2147483647) {Q : Int → Hp → Prop} (hq : ∀ h, Q 1 h) {t : Tt} {h : Hp} (hK : KCt t h) (hM : KMt t h) (hN : KN 0 t) : XJ (some (L, xs)) 12 kL_law h 18 [some (.ref 1000), some (.ref 0), some (.ref 9), some (vi 0)] [] Q := by
  refine down (P := fun j => ∀ (t : Tt) (h : Hp), KCt t h → KMt t h → KN j t → XJ (some (L, xs)) 12 kL_law h 18 [some (.ref 1000), some (.ref 0), some (.ref 9), some (vi (5 * (j : Int)))] [] Q) (n := L / 5) ?_ ?_ t h hK hM hN
  · intro t h hK hM hN
    refine xj_iload_n (pc2 := 19) dL_law_18 rfl rfl rfl ?_
    refine xj_aload_n (pc2 := 20) dL_law_19 rfl rfl rfl ?_
    refine xj_slen (pc2 := 21) rfl dL_law_20 rfl rfl rfl ?_
    refine xj_iconst (pc2 := 22) dL_law_21 rfl ?_
    refine xj_isub (pc2 := 23) dL_law_22 rfl ?_
    refine xj_cmp_gt (pc2 := 26) (tgt := 756) dL_law_23 rfl rfl (by omega) (by omega) (fun c_23 => ?_) (fun c_23 => by exfalso; omega)
    refine xj_iconst (pc2 := 757) dL_law_756 rfl ?_
    refine xj_zret dL_law_757 rfl (by decide) ?_
    exact hq _
  · intro j hj ih t h hK hM hN
    have hj2 : j ≤ 512 := by omega
    have hr := band_rg (xs (5 * (j : Int))) 31
    have e5 : 5 * ((j + 1 : Nat) : Int) = 5 * (j : Int) + 5 := by omega
    rw [e5] at ih
    have fin : ∀ (t : Tt) (h : Hp), KCt t h → KMt t h → KN ((j : Int) + 1) t → XJ (some (L, xs)) 12 kL_law h 750 [some (.ref 1000), some (.ref 0), some (.ref 9), some (vi (5 * (j : Int)))] [] Q := by
      intro t h hK hM hN
      refine xj_iinc3 (pc2 := 753) dL_law_750 rfl (by decide) rfl ?_
      refine xj_goto (tgt := 18) dL_law_753 rfl ?_
      exact ih t h hK hM hN
    refine xj_iload_n (pc2 := 19) dL_law_18 rfl rfl rfl ?_
    refine xj_aload_n (pc2 := 20) dL_law_19 rfl rfl rfl ?_
    refine xj_slen (pc2 := 21) rfl dL_law_20 rfl rfl rfl ?_
    refine xj_iconst (pc2 := 22) dL_law_21 rfl ?_
    refine xj_isub (pc2 := 23) dL_law_22 rfl ?_
    refine xj_cmp_gt (pc2 := 26) (tgt := 756) dL_law_23 rfl rfl (by omega) (by omega) (fun c_23 => by exfalso; omega) (fun c_23 => ?_)
    refine xj_aload_n (pc2 := 27) dL_law_26 rfl rfl rfl ?_
    refine xj_iload_n (pc2 := 28) dL_law_27 rfl rfl rfl ?_
    refine xj_sld (pc2 := 29) rfl dL_law_28 rfl (by omega) (by omega) rfl rfl ?_
    refine xj_bipush (pc2 := 31) dL_law_29 rfl (by decide) ?_
    refine xj_iand (pc2 := 32) dL_law_31 rfl ?_
    refine tsw_L_law_32 (by omega) (fun c_32 => ?_) (fun c_32 => ?_) (fun c_32 => ?_) (fun c_32 => ?_) (fun c_32 => ?_) (fun c_32 => ?_) (fun c_32 => ?_) (fun c_32 => ?_) (fun c_32 => ?_) (fun c_32 => ?_) (fun c_32 => ?_) (fun c_32 => ?_) (fun c_32 => ?_) (fun c_32 => ?_) (fun c_32 => ?_) (fun c_32 => ?_) (fun c_32 => ?_) (fun c_32 => ?_) (fun c_32 => ?_) (fun c_32 => ?_) (fun c_32 => ?_) (fun c_32 => ?_) (fun c_32 => ?_) (fun c_32 => ?_)
    · -- 140
      refine xj_aload_n (pc2 := 141) dL_law_140 rfl rfl rfl ?_
      refine xj_aload_n (pc2 := 142) dL_law_141 rfl rfl rfl ?_
      refine xj_iload_n (pc2 := 143) dL_law_142 rfl rfl rfl ?_
      refine xj_iconst (pc2 := 144) dL_law_143 rfl ?_
      refine xj_iadd (pc2 := 145) dL_law_144 rfl ?_
      refine xj_sld (pc2 := 146) rfl dL_law_145 rfl (by omega) (by omega) rfl rfl ?_
      refine xj_V1I (pc2 := 149) (d2 := 2) mok_X6_letter ml_L_13 ima_yX6_letter sel_yX6_letter rfl rfl dL_law_146 rfl rfl (by decide) (by decide) (Nat.le_of_ble_eq_true rfl) (fun _ => rfl) ?_
      refine u6_letter hK hN.1 (hx _) ?_
      intro v t2 h2 hT hK2 hF2
      have hM2 := KMt_FrC hM hF2
      refine xj_aload_n (pc2 := 150) dL_law_149 rfl rfl rfl ?_
      refine xj_aload_n (pc2 := 151) dL_law_150 rfl rfl rfl ?_
      refine xj_iload_n (pc2 := 152) dL_law_151 rfl rfl rfl ?_
      refine xj_iconst (pc2 := 153) dL_law_152 rfl ?_
      refine xj_iadd (pc2 := 154) dL_law_153 rfl ?_
      refine xj_sld (pc2 := 155) rfl dL_law_154 rfl (by omega) (by omega) rfl rfl ?_
      refine xj_V1I (pc2 := 158) (d2 := 1) mok_X7_letter ml_L_17 ima_yX7_letter sel_yX7_letter rfl rfl dL_law_155 rfl rfl (by decide) (by decide) (Nat.le_of_ble_eq_true rfl) (fun _ => rfl) ?_
      refine u7_letter hT hM2 hN.1 (hx _) ?_
      intro h3 hM3 hF3
      have hK3 := KCt_FrM hK2 hF3
      have hN3 := p_letter hN hT
      refine xj_cmp_same (pc2 := 161) (tgt := 750) dL_law_158 rfl rfl ?_
      exact fin _ _ hK3 hM3 hN3
    · -- 163
      refine xj_aload_n (pc2 := 164) dL_law_163 rfl rfl rfl ?_
      refine xj_V0I (pc2 := 167) (d2 := 0) mok_X6_blank ml_L_18 ima_yX6_blank sel_yX6_blank rfl rfl dL_law_164 rfl rfl (by decide) (by decide) (Nat.le_of_ble_eq_true rfl) (fun _ => rfl) ?_
      refine u6_blank hK hN.1  ?_
      intro v t2 h2 hT hK2 hF2
      have hM2 := KMt_FrC hM hF2
      refine xj_aload_n (pc2 := 168) dL_law_167 rfl rfl rfl ?_
      refine xj_V0I (pc2 := 171) (d2 := 0) mok_X7_blank ml_L_22 ima_yX7_blank sel_yX7_blank rfl rfl dL_law_168 rfl rfl (by decide) (by decide) (Nat.le_of_ble_eq_true rfl) (fun _ => rfl) ?_
      refine u7_blank hT hM2 hN.1  ?_
      intro h3 hM3 hF3
      have hK3 := KCt_FrM hK2 hF3
      have hN3 := p_blank hN hT
      refine xj_cmp_same (pc2 := 174) (tgt := 750) dL_law_171 rfl rfl ?_
      exact fin _ _ hK3 hM3 hN3
    · -- 176
      refine xj_aload_n (pc2 := 177) dL_law_176 rfl rfl rfl ?_
      refine xj_V0I (pc2 := 180) (d2 := 4) mok_X6_fault ml_L_23 ima_yX6_fault sel_yX6_fault rfl rfl dL_law_177 rfl rfl (by decide) (by decide) (Nat.le_of_ble_eq_true rfl) (fun _ => rfl) ?_
      refine u6_fault hK hN.1  ?_
      intro v t2 h2 hT hK2 hF2
      have hM2 := KMt_FrC hM hF2
      refine xj_aload_n (pc2 := 181) dL_law_180 rfl rfl rfl ?_
      refine xj_V0I (pc2 := 184) (d2 := 4) mok_X7_fault ml_L_26 ima_yX7_fault sel_yX7_fault rfl rfl dL_law_181 rfl rfl (by decide) (by decide) (Nat.le_of_ble_eq_true rfl) (fun _ => rfl) ?_
      refine u7_fault hT hM2 hN.1  ?_
      intro h3 hM3 hF3
      have hK3 := KCt_FrM hK2 hF3
      have hN3 := p_fault hN hT
      refine xj_cmp_same (pc2 := 187) (tgt := 750) dL_law_184 rfl rfl ?_
      exact fin _ _ hK3 hM3 hN3
    · -- 189
      refine xj_aload_n (pc2 := 190) dL_law_189 rfl rfl rfl ?_
      refine xj_V0I (pc2 := 193) (d2 := 5) mok_X6_shop ml_L_27 ima_yX6_shop sel_yX6_shop rfl rfl dL_law_190 rfl rfl (by decide) (by decide) (Nat.le_of_ble_eq_true rfl) (fun _ => rfl) ?_
      refine u6_shop hK hN.1  ?_
      intro v t2 h2 hT hK2 hF2
      have hM2 := KMt_FrC hM hF2
      refine xj_aload_n (pc2 := 194) dL_law_193 rfl rfl rfl ?_
      refine xj_V0I (pc2 := 197) (d2 := 4) mok_X7_shop ml_L_30 ima_yX7_shop sel_yX7_shop rfl rfl dL_law_194 rfl rfl (by decide) (by decide) (Nat.le_of_ble_eq_true rfl) (fun _ => rfl) ?_
      refine u7_shop hT hM2 hN.1  ?_
      intro h3 hM3 hF3
      have hK3 := KCt_FrM hK2 hF3
      have hN3 := p_shop hN (by omega) hK.2.2.1.2.1.1 hT
      refine xj_cmp_same (pc2 := 200) (tgt := 750) dL_law_197 rfl rfl ?_
      exact fin _ _ hK3 hM3 hN3
    · -- 202
      refine xj_aload_n (pc2 := 203) dL_law_202 rfl rfl rfl ?_
      refine xj_aload_n (pc2 := 204) dL_law_203 rfl rfl rfl ?_
      refine xj_iload_n (pc2 := 205) dL_law_204 rfl rfl rfl ?_
      refine xj_iconst (pc2 := 206) dL_law_205 rfl ?_
      refine xj_iadd (pc2 := 207) dL_law_206 rfl ?_
      refine xj_sld (pc2 := 208) rfl dL_law_207 rfl (by omega) (by omega) rfl rfl ?_
      refine xj_aload_n (pc2 := 209) dL_law_208 rfl rfl rfl ?_
      refine xj_iload_n (pc2 := 210) dL_law_209 rfl rfl rfl ?_
      refine xj_iconst (pc2 := 211) dL_law_210 rfl ?_
      refine xj_iadd (pc2 := 212) dL_law_211 rfl ?_
      refine xj_sld (pc2 := 213) rfl dL_law_212 rfl (by omega) (by omega) rfl rfl ?_
      refine xj_V2I (pc2 := 216) (d2 := 4) mok_X6_glove ml_L_31 ima_yX6_glove sel_yX6_glove rfl rfl dL_law_213 rfl rfl (by decide) (by decide) (Nat.le_of_ble_eq_true rfl) (fun _ => rfl) ?_
      refine u6_glove hK hN.1 (hx _) (hx _) ?_
      intro v t2 h2 hT hK2 hF2
      have hM2 := KMt_FrC hM hF2
      refine xj_aload_n (pc2 := 217) dL_law_216 rfl rfl rfl ?_
      refine xj_aload_n (pc2 := 218) dL_law_217 rfl rfl rfl ?_
      refine xj_iload_n (pc2 := 219) dL_law_218 rfl rfl rfl ?_
      refine xj_iconst (pc2 := 220) dL_law_219 rfl ?_
      refine xj_iadd (pc2 := 221) dL_law_220 rfl ?_
      refine xj_sld (pc2 := 222) rfl dL_law_221 rfl (by omega) (by omega) rfl rfl ?_
      refine xj_aload_n (pc2 := 223) dL_law_222 rfl rfl rfl ?_
      refine xj_iload_n (pc2 := 224) dL_law_223 rfl rfl rfl ?_
      refine xj_iconst (pc2 := 225) dL_law_224 rfl ?_
      refine xj_iadd (pc2 := 226) dL_law_225 rfl ?_
      refine xj_sld (pc2 := 227) rfl dL_law_226 rfl (by omega) (by omega) rfl rfl ?_
      refine xj_V2I (pc2 := 230) (d2 := 5) mok_X7_glove ml_L_35 ima_yX7_glove sel_yX7_glove rfl rfl dL_law_227 rfl rfl (by decide) (by decide) (Nat.le_of_ble_eq_true rfl) (fun _ => rfl) ?_
      refine u7_glove hT hM2 hN.1 (hx _) (hx _) ?_
      intro h3 hM3 hF3
      have hK3 := KCt_FrM hK2 hF3
      have hN3 := p_glove hN hT
      refine xj_cmp_same (pc2 := 233) (tgt := 750) dL_law_230 rfl rfl ?_
      exact fin _ _ hK3 hM3 hN3
    · -- 235
      refine xj_aload_n (pc2 := 236) dL_law_235 rfl rfl rfl ?_
      refine xj_aload_n (pc2 := 237) dL_law_236 rfl rfl rfl ?_
      refine xj_iload_n (pc2 := 238) dL_law_237 rfl rfl rfl ?_
      refine xj_iconst (pc2 := 239) dL_law_238 rfl ?_
      refine xj_iadd (pc2 := 240) dL_law_239 rfl ?_
      refine xj_sld (pc2 := 241) rfl dL_law_240 rfl (by omega) (by omega) rfl rfl ?_
      refine xj_aload_n (pc2 := 242) dL_law_241 rfl rfl rfl ?_
      refine xj_iload_n (pc2 := 243) dL_law_242 rfl rfl rfl ?_
      refine xj_iconst (pc2 := 244) dL_law_243 rfl ?_
      refine xj_iadd (pc2 := 245) dL_law_244 rfl ?_
      refine xj_sld (pc2 := 246) rfl dL_law_245 rfl (by omega) (by omega) rfl rfl ?_
      refine xj_V2I (pc2 := 249) (d2 := 1) mok_X6_as ml_L_36 ima_yX6_as sel_yX6_as rfl rfl dL_law_246 rfl rfl (by decide) (by decide) (Nat.le_of_ble_eq_true rfl) (fun _ => rfl) ?_
      refine u6_as hK hN.1 (hx _) (hx _) ?_
      intro v t2 h2 hT hK2 hF2
      have hM2 := KMt_FrC hM hF2
      refine xj_aload_n (pc2 := 250) dL_law_249 rfl rfl rfl ?_
      refine xj_aload_n (pc2 := 251) dL_law_250 rfl rfl rfl ?_
      refine xj_iload_n (pc2 := 252) dL_law_251 rfl rfl rfl ?_
      refine xj_iconst (pc2 := 253) dL_law_252 rfl ?_
      refine xj_iadd (pc2 := 254) dL_law_253 rfl ?_
      refine xj_sld (pc2 := 255) rfl dL_law_254 rfl (by omega) (by omega) rfl rfl ?_
      refine xj_aload_n (pc2 := 256) dL_law_255 rfl rfl rfl ?_
      refine xj_iload_n (pc2 := 257) dL_law_256 rfl rfl rfl ?_
      refine xj_iconst (pc2 := 258) dL_law_257 rfl ?_
      refine xj_iadd (pc2 := 259) dL_law_258 rfl ?_
      refine xj_sld (pc2 := 260) rfl dL_law_259 rfl (by omega) (by omega) rfl rfl ?_
      refine xj_V2I (pc2 := 263) (d2 := 2) mok_X7_as ml_L_39 ima_yX7_as sel_yX7_as rfl rfl dL_law_260 rfl rfl (by decide) (by decide) (Nat.le_of_ble_eq_true rfl) (fun _ => rfl) ?_
      refine u7_as hT hM2 hN.1 (hx _) (hx _) ?_
      intro h3 hM3 hF3
      have hK3 := KCt_FrM hK2 hF3
      have hN3 := p_as hN hT
      refine xj_cmp_same (pc2 := 266) (tgt := 750) dL_law_263 rfl rfl ?_
      exact fin _ _ hK3 hM3 hN3
    · -- 268
      refine xj_aload_n (pc2 := 269) dL_law_268 rfl rfl rfl ?_
      refine xj_aload_n (pc2 := 270) dL_law_269 rfl rfl rfl ?_
      refine xj_iload_n (pc2 := 271) dL_law_270 rfl rfl rfl ?_
      refine xj_iconst (pc2 := 272) dL_law_271 rfl ?_
      refine xj_iadd (pc2 := 273) dL_law_272 rfl ?_
      refine xj_sld (pc2 := 274) rfl dL_law_273 rfl (by omega) (by omega) rfl rfl ?_
      refine xj_aload_n (pc2 := 275) dL_law_274 rfl rfl rfl ?_
      refine xj_iload_n (pc2 := 276) dL_law_275 rfl rfl rfl ?_
      refine xj_iconst (pc2 := 277) dL_law_276 rfl ?_
      refine xj_iadd (pc2 := 278) dL_law_277 rfl ?_
      refine xj_sld (pc2 := 279) rfl dL_law_278 rfl (by omega) (by omega) rfl rfl ?_
      refine xj_V2I (pc2 := 282) (d2 := 4) mok_X6_wearer ml_L_40 ima_yX6_wearer sel_yX6_wearer rfl rfl dL_law_279 rfl rfl (by decide) (by decide) (Nat.le_of_ble_eq_true rfl) (fun _ => rfl) ?_
      refine u6_wearer hK hN.1 (hx _) (hx _) ?_
      intro v t2 h2 hT hK2 hF2
      have hM2 := KMt_FrC hM hF2
      refine xj_aload_n (pc2 := 283) dL_law_282 rfl rfl rfl ?_
      refine xj_aload_n (pc2 := 284) dL_law_283 rfl rfl rfl ?_
      refine xj_iload_n (pc2 := 285) dL_law_284 rfl rfl rfl ?_
      refine xj_iconst (pc2 := 286) dL_law_285 rfl ?_
      refine xj_iadd (pc2 := 287) dL_law_286 rfl ?_
      refine xj_sld (pc2 := 288) rfl dL_law_287 rfl (by omega) (by omega) rfl rfl ?_
      refine xj_aload_n (pc2 := 289) dL_law_288 rfl rfl rfl ?_
      refine xj_iload_n (pc2 := 290) dL_law_289 rfl rfl rfl ?_
      refine xj_iconst (pc2 := 291) dL_law_290 rfl ?_
      refine xj_iadd (pc2 := 292) dL_law_291 rfl ?_
      refine xj_sld (pc2 := 293) rfl dL_law_292 rfl (by omega) (by omega) rfl rfl ?_
      refine xj_V2I (pc2 := 296) (d2 := 6) mok_X7_wearer ml_L_43 ima_yX7_wearer sel_yX7_wearer rfl rfl dL_law_293 rfl rfl (by decide) (by decide) (Nat.le_of_ble_eq_true rfl) (fun _ => rfl) ?_
      refine u7_wearer hT hM2 hN.1 (hx _) (hx _) ?_
      intro h3 hM3 hF3
      have hK3 := KCt_FrM hK2 hF3
      have hN3 := p_wearer hN hT
      refine xj_cmp_same (pc2 := 299) (tgt := 750) dL_law_296 rfl rfl ?_
      exact fin _ _ hK3 hM3 hN3
    · -- 301
      refine xj_aload_n (pc2 := 302) dL_law_301 rfl rfl rfl ?_
      refine xj_aload_n (pc2 := 303) dL_law_302 rfl rfl rfl ?_
      refine xj_iload_n (pc2 := 304) dL_law_303 rfl rfl rfl ?_
      refine xj_iconst (pc2 := 305) dL_law_304 rfl ?_
      refine xj_iadd (pc2 := 306) dL_law_305 rfl ?_
      refine xj_sld (pc2 := 307) rfl dL_law_306 rfl (by omega) (by omega) rfl rfl ?_
      refine xj_aload_n (pc2 := 308) dL_law_307 rfl rfl rfl ?_
      refine xj_iload_n (pc2 := 309) dL_law_308 rfl rfl rfl ?_
      refine xj_iconst (pc2 := 310) dL_law_309 rfl ?_
      refine xj_iadd (pc2 := 311) dL_law_310 rfl ?_
      refine xj_sld (pc2 := 312) rfl dL_law_311 rfl (by omega) (by omega) rfl rfl ?_
      refine xj_aload_n (pc2 := 313) dL_law_312 rfl rfl rfl ?_
      refine xj_iload_n (pc2 := 314) dL_law_313 rfl rfl rfl ?_
      refine xj_iconst (pc2 := 315) dL_law_314 rfl ?_
      refine xj_iadd (pc2 := 316) dL_law_315 rfl ?_
      refine xj_sld (pc2 := 317) rfl dL_law_316 rfl (by omega) (by omega) rfl rfl ?_
      refine xj_V3I (pc2 := 320) (d2 := 4) mok_X6_wear ml_L_44 ima_yX6_wear sel_yX6_wear rfl rfl dL_law_317 rfl rfl (by decide) (by decide) (Nat.le_of_ble_eq_true rfl) (fun _ => rfl) ?_
      refine u6_wear hK hN.1 (hx _) (hx _) (hx _) ?_
      intro v t2 h2 hT hK2 hF2
      have hM2 := KMt_FrC hM hF2
      refine xj_aload_n (pc2 := 321) dL_law_320 rfl rfl rfl ?_
      refine xj_aload_n (pc2 := 322) dL_law_321 rfl rfl rfl ?_
      refine xj_iload_n (pc2 := 323) dL_law_322 rfl rfl rfl ?_
      refine xj_iconst (pc2 := 324) dL_law_323 rfl ?_
      refine xj_iadd (pc2 := 325) dL_law_324 rfl ?_
      refine xj_sld (pc2 := 326) rfl dL_law_325 rfl (by omega) (by omega) rfl rfl ?_
      refine xj_aload_n (pc2 := 327) dL_law_326 rfl rfl rfl ?_
      refine xj_iload_n (pc2 := 328) dL_law_327 rfl rfl rfl ?_
      refine xj_iconst (pc2 := 329) dL_law_328 rfl ?_
      refine xj_iadd (pc2 := 330) dL_law_329 rfl ?_
      refine xj_sld (pc2 := 331) rfl dL_law_330 rfl (by omega) (by omega) rfl rfl ?_
      refine xj_aload_n (pc2 := 332) dL_law_331 rfl rfl rfl ?_
      refine xj_iload_n (pc2 := 333) dL_law_332 rfl rfl rfl ?_
      refine xj_iconst (pc2 := 334) dL_law_333 rfl ?_
      refine xj_iadd (pc2 := 335) dL_law_334 rfl ?_
      refine xj_sld (pc2 := 336) rfl dL_law_335 rfl (by omega) (by omega) rfl rfl ?_
      refine xj_V3I (pc2 := 339) (d2 := 5) mok_X7_wear ml_L_48 ima_yX7_wear sel_yX7_wear rfl rfl dL_law_336 rfl rfl (by decide) (by decide) (Nat.le_of_ble_eq_true rfl) (fun _ => rfl) ?_
      refine u7_wear hT hM2 hN.1 (hx _) (hx _) (hx _) ?_
      intro h3 hM3 hF3
      have hK3 := KCt_FrM hK2 hF3
      have hN3 := p_wear hN hT
      refine xj_cmp_same (pc2 := 342) (tgt := 750) dL_law_339 rfl rfl ?_
      exact fin _ _ hK3 hM3 hN3
    · -- 344
      refine xj_aload_n (pc2 := 345) dL_law_344 rfl rfl rfl ?_
      refine xj_aload_n (pc2 := 346) dL_law_345 rfl rfl rfl ?_
      refine xj_iload_n (pc2 := 347) dL_law_346 rfl rfl rfl ?_
      refine xj_iconst (pc2 := 348) dL_law_347 rfl ?_
      refine xj_iadd (pc2 := 349) dL_law_348 rfl ?_
      refine xj_sld (pc2 := 350) rfl dL_law_349 rfl (by omega) (by omega) rfl rfl ?_
      refine xj_V1I (pc2 := 353) (d2 := 2) mok_X6_off ml_L_49 ima_yX6_off sel_yX6_off rfl rfl dL_law_350 rfl rfl (by decide) (by decide) (Nat.le_of_ble_eq_true rfl) (fun _ => rfl) ?_
      refine u6_off hK hN.1 (hx _) ?_
      intro v t2 h2 hT hK2 hF2
      have hM2 := KMt_FrC hM hF2
      refine xj_aload_n (pc2 := 354) dL_law_353 rfl rfl rfl ?_
      refine xj_aload_n (pc2 := 355) dL_law_354 rfl rfl rfl ?_
      refine xj_iload_n (pc2 := 356) dL_law_355 rfl rfl rfl ?_
      refine xj_iconst (pc2 := 357) dL_law_356 rfl ?_
      refine xj_iadd (pc2 := 358) dL_law_357 rfl ?_
      refine xj_sld (pc2 := 359) rfl dL_law_358 rfl (by omega) (by omega) rfl rfl ?_
      refine xj_V1I (pc2 := 362) (d2 := 2) mok_X7_off ml_L_52 ima_yX7_off sel_yX7_off rfl rfl dL_law_359 rfl rfl (by decide) (by decide) (Nat.le_of_ble_eq_true rfl) (fun _ => rfl) ?_
      refine u7_off hT hM2 hN.1 (hx _) ?_
      intro h3 hM3 hF3
      have hK3 := KCt_FrM hK2 hF3
      have hN3 := p_off hN hT
      refine xj_cmp_same (pc2 := 365) (tgt := 750) dL_law_362 rfl rfl ?_
      exact fin _ _ hK3 hM3 hN3
    · -- 367
      refine xj_aload_n (pc2 := 368) dL_law_367 rfl rfl rfl ?_
      refine xj_V0I (pc2 := 371) (d2 := 2) mok_X6_hour ml_L_53 ima_yX6_hour sel_yX6_hour rfl rfl dL_law_368 rfl rfl (by decide) (by decide) (Nat.le_of_ble_eq_true rfl) (fun _ => rfl) ?_
      refine u6_hour hK hN.1  ?_
      intro v t2 h2 hT hK2 hF2
      have hM2 := KMt_FrC hM hF2
      refine xj_aload_n (pc2 := 372) dL_law_371 rfl rfl rfl ?_
      refine xj_V0I (pc2 := 375) (d2 := 2) mok_X7_hour ml_L_56 ima_yX7_hour sel_yX7_hour rfl rfl dL_law_372 rfl rfl (by decide) (by decide) (Nat.le_of_ble_eq_true rfl) (fun _ => rfl) ?_
      refine u7_hour hT hM2 hN.1  ?_
      intro h3 hM3 hF3
      have hK3 := KCt_FrM hK2 hF3
      have hN3 := p_hour hN hT
      refine xj_cmp_same (pc2 := 378) (tgt := 750) dL_law_375 rfl rfl ?_
      exact fin _ _ hK3 hM3 hN3
    · -- 380
      refine xj_aload_n (pc2 := 381) dL_law_380 rfl rfl rfl ?_
      refine xj_aload_n (pc2 := 382) dL_law_381 rfl rfl rfl ?_
      refine xj_iload_n (pc2 := 383) dL_law_382 rfl rfl rfl ?_
      refine xj_iconst (pc2 := 384) dL_law_383 rfl ?_
      refine xj_iadd (pc2 := 385) dL_law_384 rfl ?_
      refine xj_sld (pc2 := 386) rfl dL_law_385 rfl (by omega) (by omega) rfl rfl ?_
      refine xj_aload_n (pc2 := 387) dL_law_386 rfl rfl rfl ?_
      refine xj_iload_n (pc2 := 388) dL_law_387 rfl rfl rfl ?_
      refine xj_iconst (pc2 := 389) dL_law_388 rfl ?_
      refine xj_iadd (pc2 := 390) dL_law_389 rfl ?_
      refine xj_sld (pc2 := 391) rfl dL_law_390 rfl (by omega) (by omega) rfl rfl ?_
      refine xj_V2I (pc2 := 394) (d2 := 1) mok_X6_book ml_L_57 ima_yX6_book sel_yX6_book rfl rfl dL_law_391 rfl rfl (by decide) (by decide) (Nat.le_of_ble_eq_true rfl) (fun _ => rfl) ?_
      refine u6_book hK hN.1 (hx _) (hx _) ?_
      intro v t2 h2 hT hK2 hF2
      have hM2 := KMt_FrC hM hF2
      refine xj_aload_n (pc2 := 395) dL_law_394 rfl rfl rfl ?_
      refine xj_aload_n (pc2 := 396) dL_law_395 rfl rfl rfl ?_
      refine xj_iload_n (pc2 := 397) dL_law_396 rfl rfl rfl ?_
      refine xj_iconst (pc2 := 398) dL_law_397 rfl ?_
      refine xj_iadd (pc2 := 399) dL_law_398 rfl ?_
      refine xj_sld (pc2 := 400) rfl dL_law_399 rfl (by omega) (by omega) rfl rfl ?_
      refine xj_aload_n (pc2 := 401) dL_law_400 rfl rfl rfl ?_
      refine xj_iload_n (pc2 := 402) dL_law_401 rfl rfl rfl ?_
      refine xj_iconst (pc2 := 403) dL_law_402 rfl ?_
      refine xj_iadd (pc2 := 404) dL_law_403 rfl ?_
      refine xj_sld (pc2 := 405) rfl dL_law_404 rfl (by omega) (by omega) rfl rfl ?_
      refine xj_V2I (pc2 := 408) (d2 := 2) mok_X7_book ml_L_60 ima_yX7_book sel_yX7_book rfl rfl dL_law_405 rfl rfl (by decide) (by decide) (Nat.le_of_ble_eq_true rfl) (fun _ => rfl) ?_
      refine u7_book hT hM2 hN.1 (hx _) (hx _) ?_
      intro h3 hM3 hF3
      have hK3 := KCt_FrM hK2 hF3
      have hN3 := p_book hN hT
      refine xj_cmp_same (pc2 := 411) (tgt := 750) dL_law_408 rfl rfl ?_
      exact fin _ _ hK3 hM3 hN3
    · -- 413
      refine xj_aload_n (pc2 := 414) dL_law_413 rfl rfl rfl ?_
      refine xj_aload_n (pc2 := 415) dL_law_414 rfl rfl rfl ?_
      refine xj_iload_n (pc2 := 416) dL_law_415 rfl rfl rfl ?_
      refine xj_iconst (pc2 := 417) dL_law_416 rfl ?_
      refine xj_iadd (pc2 := 418) dL_law_417 rfl ?_
      refine xj_sld (pc2 := 419) rfl dL_law_418 rfl (by omega) (by omega) rfl rfl ?_
      refine xj_aload_n (pc2 := 420) dL_law_419 rfl rfl rfl ?_
      refine xj_iload_n (pc2 := 421) dL_law_420 rfl rfl rfl ?_
      refine xj_iconst (pc2 := 422) dL_law_421 rfl ?_
      refine xj_iadd (pc2 := 423) dL_law_422 rfl ?_
      refine xj_sld (pc2 := 424) rfl dL_law_423 rfl (by omega) (by omega) rfl rfl ?_
      refine xj_aload_n (pc2 := 425) dL_law_424 rfl rfl rfl ?_
      refine xj_iload_n (pc2 := 426) dL_law_425 rfl rfl rfl ?_
      refine xj_iconst (pc2 := 427) dL_law_426 rfl ?_
      refine xj_iadd (pc2 := 428) dL_law_427 rfl ?_
      refine xj_sld (pc2 := 429) rfl dL_law_428 rfl (by omega) (by omega) rfl rfl ?_
      refine xj_V3I (pc2 := 432) (d2 := 1) mok_X6_wish ml_L_61 ima_yX6_wish sel_yX6_wish rfl rfl dL_law_429 rfl rfl (by decide) (by decide) (Nat.le_of_ble_eq_true rfl) (fun _ => rfl) ?_
      refine u6_wish hK hN.1 (hx _) (hx _) (hx _) ?_
      intro v t2 h2 hT hK2 hF2
      have hM2 := KMt_FrC hM hF2
      refine xj_aload_n (pc2 := 433) dL_law_432 rfl rfl rfl ?_
      refine xj_aload_n (pc2 := 434) dL_law_433 rfl rfl rfl ?_
      refine xj_iload_n (pc2 := 435) dL_law_434 rfl rfl rfl ?_
      refine xj_iconst (pc2 := 436) dL_law_435 rfl ?_
      refine xj_iadd (pc2 := 437) dL_law_436 rfl ?_
      refine xj_sld (pc2 := 438) rfl dL_law_437 rfl (by omega) (by omega) rfl rfl ?_
      refine xj_aload_n (pc2 := 439) dL_law_438 rfl rfl rfl ?_
      refine xj_iload_n (pc2 := 440) dL_law_439 rfl rfl rfl ?_
      refine xj_iconst (pc2 := 441) dL_law_440 rfl ?_
      refine xj_iadd (pc2 := 442) dL_law_441 rfl ?_
      refine xj_sld (pc2 := 443) rfl dL_law_442 rfl (by omega) (by omega) rfl rfl ?_
      refine xj_aload_n (pc2 := 444) dL_law_443 rfl rfl rfl ?_
      refine xj_iload_n (pc2 := 445) dL_law_444 rfl rfl rfl ?_
      refine xj_iconst (pc2 := 446) dL_law_445 rfl ?_
      refine xj_iadd (pc2 := 447) dL_law_446 rfl ?_
      refine xj_sld (pc2 := 448) rfl dL_law_447 rfl (by omega) (by omega) rfl rfl ?_
      refine xj_V3I (pc2 := 451) (d2 := 2) mok_X7_wish ml_L_64 ima_yX7_wish sel_yX7_wish rfl rfl dL_law_448 rfl rfl (by decide) (by decide) (Nat.le_of_ble_eq_true rfl) (fun _ => rfl) ?_
      refine u7_wish hT hM2 hN.1 (hx _) (hx _) (hx _) ?_
      intro h3 hM3 hF3
      have hK3 := KCt_FrM hK2 hF3
      have hN3 := p_wish hN hT
      refine xj_cmp_same (pc2 := 454) (tgt := 750) dL_law_451 rfl rfl ?_
      exact fin _ _ hK3 hM3 hN3
    · -- 456
      refine xj_aload_n (pc2 := 457) dL_law_456 rfl rfl rfl ?_
      refine xj_aload_n (pc2 := 458) dL_law_457 rfl rfl rfl ?_
      refine xj_iload_n (pc2 := 459) dL_law_458 rfl rfl rfl ?_
      refine xj_iconst (pc2 := 460) dL_law_459 rfl ?_
      refine xj_iadd (pc2 := 461) dL_law_460 rfl ?_
      refine xj_sld (pc2 := 462) rfl dL_law_461 rfl (by omega) (by omega) rfl rfl ?_
      refine xj_aload_n (pc2 := 463) dL_law_462 rfl rfl rfl ?_
      refine xj_iload_n (pc2 := 464) dL_law_463 rfl rfl rfl ?_
      refine xj_iconst (pc2 := 465) dL_law_464 rfl ?_
      refine xj_iadd (pc2 := 466) dL_law_465 rfl ?_
      refine xj_sld (pc2 := 467) rfl dL_law_466 rfl (by omega) (by omega) rfl rfl ?_
      refine xj_V2I (pc2 := 470) (d2 := 4) mok_X6_mood ml_L_65 ima_yX6_mood sel_yX6_mood rfl rfl dL_law_467 rfl rfl (by decide) (by decide) (Nat.le_of_ble_eq_true rfl) (fun _ => rfl) ?_
      refine u6_mood hK hN.1 (hx _) (hx _) ?_
      intro v t2 h2 hT hK2 hF2
      have hM2 := KMt_FrC hM hF2
      refine xj_aload_n (pc2 := 471) dL_law_470 rfl rfl rfl ?_
      refine xj_aload_n (pc2 := 472) dL_law_471 rfl rfl rfl ?_
      refine xj_iload_n (pc2 := 473) dL_law_472 rfl rfl rfl ?_
      refine xj_iconst (pc2 := 474) dL_law_473 rfl ?_
      refine xj_iadd (pc2 := 475) dL_law_474 rfl ?_
      refine xj_sld (pc2 := 476) rfl dL_law_475 rfl (by omega) (by omega) rfl rfl ?_
      refine xj_aload_n (pc2 := 477) dL_law_476 rfl rfl rfl ?_
      refine xj_iload_n (pc2 := 478) dL_law_477 rfl rfl rfl ?_
      refine xj_iconst (pc2 := 479) dL_law_478 rfl ?_
      refine xj_iadd (pc2 := 480) dL_law_479 rfl ?_
      refine xj_sld (pc2 := 481) rfl dL_law_480 rfl (by omega) (by omega) rfl rfl ?_
      refine xj_V2I (pc2 := 484) (d2 := 4) mok_X7_mood ml_L_68 ima_yX7_mood sel_yX7_mood rfl rfl dL_law_481 rfl rfl (by decide) (by decide) (Nat.le_of_ble_eq_true rfl) (fun _ => rfl) ?_
      refine u7_mood hT hM2 hN.1 (hx _) (hx _) ?_
      intro h3 hM3 hF3
      have hK3 := KCt_FrM hK2 hF3
      have hN3 := p_mood hN hT
      refine xj_cmp_same (pc2 := 487) (tgt := 750) dL_law_484 rfl rfl ?_
      exact fin _ _ hK3 hM3 hN3
    · -- 489
      refine xj_aload_n (pc2 := 490) dL_law_489 rfl rfl rfl ?_
      refine xj_aload_n (pc2 := 491) dL_law_490 rfl rfl rfl ?_
      refine xj_iload_n (pc2 := 492) dL_law_491 rfl rfl rfl ?_
      refine xj_iconst (pc2 := 493) dL_law_492 rfl ?_
      refine xj_iadd (pc2 := 494) dL_law_493 rfl ?_
      refine xj_sld (pc2 := 495) rfl dL_law_494 rfl (by omega) (by omega) rfl rfl ?_
      refine xj_V1I (pc2 := 498) (d2 := (2 + 9)) mok_X6_dress ml_L_69 ima_yX6_dress sel_yX6_dress rfl rfl dL_law_495 rfl rfl (by decide) (by decide) (Nat.le_of_ble_eq_true rfl) (fun _ => rfl) ?_
      refine u6_dress hK hN.1 (hx _) ?_
      intro v t2 h2 hT hK2 hF2
      have hM2 := KMt_FrC hM hF2
      refine xj_aload_n (pc2 := 499) dL_law_498 rfl rfl rfl ?_
      refine xj_aload_n (pc2 := 500) dL_law_499 rfl rfl rfl ?_
      refine xj_iload_n (pc2 := 501) dL_law_500 rfl rfl rfl ?_
      refine xj_iconst (pc2 := 502) dL_law_501 rfl ?_
      refine xj_iadd (pc2 := 503) dL_law_502 rfl ?_
      refine xj_sld (pc2 := 504) rfl dL_law_503 rfl (by omega) (by omega) rfl rfl ?_
      refine xj_V1I (pc2 := 507) (d2 := 6) mok_X7_dress ml_L_72 ima_yX7_dress sel_yX7_dress rfl rfl dL_law_504 rfl rfl (by decide) (by decide) (Nat.le_of_ble_eq_true rfl) (fun _ => rfl) ?_
      refine u7_dress hT hM2 hN.1 (hx _) ?_
      intro h3 hM3 hF3
      have hK3 := KCt_FrM hK2 hF3
      have hN3 := p_dress hN hT
      refine xj_cmp_same (pc2 := 510) (tgt := 750) dL_law_507 rfl rfl ?_
      exact fin _ _ hK3 hM3 hN3
    · -- 512
      refine xj_aload_n (pc2 := 513) dL_law_512 rfl rfl rfl ?_
      refine xj_aload_n (pc2 := 514) dL_law_513 rfl rfl rfl ?_
      refine xj_iload_n (pc2 := 515) dL_law_514 rfl rfl rfl ?_
      refine xj_iconst (pc2 := 516) dL_law_515 rfl ?_
      refine xj_iadd (pc2 := 517) dL_law_516 rfl ?_
      refine xj_sld (pc2 := 518) rfl dL_law_517 rfl (by omega) (by omega) rfl rfl ?_
      refine xj_V1I (pc2 := 521) (d2 := (1 + 9)) mok_X6_boxes ml_L_73 ima_yX6_boxes sel_yX6_boxes rfl rfl dL_law_518 rfl rfl (by decide) (by decide) (Nat.le_of_ble_eq_true rfl) (fun _ => rfl) ?_
      refine u6_boxes hK hN.1 (hx _) ?_
      intro v t2 h2 hT hK2 hF2
      have hM2 := KMt_FrC hM hF2
      refine xj_aload_n (pc2 := 522) dL_law_521 rfl rfl rfl ?_
      refine xj_aload_n (pc2 := 523) dL_law_522 rfl rfl rfl ?_
      refine xj_iload_n (pc2 := 524) dL_law_523 rfl rfl rfl ?_
      refine xj_iconst (pc2 := 525) dL_law_524 rfl ?_
      refine xj_iadd (pc2 := 526) dL_law_525 rfl ?_
      refine xj_sld (pc2 := 527) rfl dL_law_526 rfl (by omega) (by omega) rfl rfl ?_
      refine xj_V1I (pc2 := 530) (d2 := 5) mok_X7_boxes ml_L_76 ima_yX7_boxes sel_yX7_boxes rfl rfl dL_law_527 rfl rfl (by decide) (by decide) (Nat.le_of_ble_eq_true rfl) (fun _ => rfl) ?_
      refine u7_boxes hT hM2 hN.1 (hx _) ?_
      intro h3 hM3 hF3
      have hK3 := KCt_FrM hK2 hF3
      have hN3 := p_boxes hN hT
      refine xj_cmp_same (pc2 := 533) (tgt := 750) dL_law_530 rfl rfl ?_
      exact fin _ _ hK3 hM3 hN3
    · -- 535
      refine xj_aload_n (pc2 := 536) dL_law_535 rfl rfl rfl ?_
      refine xj_aload_n (pc2 := 537) dL_law_536 rfl rfl rfl ?_
      refine xj_iload_n (pc2 := 538) dL_law_537 rfl rfl rfl ?_
      refine xj_iconst (pc2 := 539) dL_law_538 rfl ?_
      refine xj_iadd (pc2 := 540) dL_law_539 rfl ?_
      refine xj_sld (pc2 := 541) rfl dL_law_540 rfl (by omega) (by omega) rfl rfl ?_
      refine xj_aload_n (pc2 := 542) dL_law_541 rfl rfl rfl ?_
      refine xj_iload_n (pc2 := 543) dL_law_542 rfl rfl rfl ?_
      refine xj_iconst (pc2 := 544) dL_law_543 rfl ?_
      refine xj_iadd (pc2 := 545) dL_law_544 rfl ?_
      refine xj_sld (pc2 := 546) rfl dL_law_545 rfl (by omega) (by omega) rfl rfl ?_
      refine xj_aload_n (pc2 := 547) dL_law_546 rfl rfl rfl ?_
      refine xj_iload_n (pc2 := 548) dL_law_547 rfl rfl rfl ?_
      refine xj_iconst (pc2 := 549) dL_law_548 rfl ?_
      refine xj_iadd (pc2 := 550) dL_law_549 rfl ?_
      refine xj_sld (pc2 := 551) rfl dL_law_550 rfl (by omega) (by omega) rfl rfl ?_
      refine xj_aload_n (pc2 := 552) dL_law_551 rfl rfl rfl ?_
      refine xj_iload_n (pc2 := 553) dL_law_552 rfl rfl rfl ?_
      refine xj_iconst (pc2 := 554) dL_law_553 rfl ?_
      refine xj_iadd (pc2 := 555) dL_law_554 rfl ?_
      refine xj_sld (pc2 := 556) rfl dL_law_555 rfl (by omega) (by omega) rfl rfl ?_
      refine xj_V4I (pc2 := 559) (d2 := 4) mok_X6_odds ml_L_77 ima_yX6_odds sel_yX6_odds rfl rfl dL_law_556 rfl rfl (by decide) (by decide) (Nat.le_of_ble_eq_true rfl) (fun _ => rfl) ?_
      refine u6_odds hK hN.1 (hx _) (hx _) (hx _) (hx _) ?_
      intro v t2 h2 hT hK2 hF2
      have hM2 := KMt_FrC hM hF2
      refine xj_aload_n (pc2 := 560) dL_law_559 rfl rfl rfl ?_
      refine xj_aload_n (pc2 := 561) dL_law_560 rfl rfl rfl ?_
      refine xj_iload_n (pc2 := 562) dL_law_561 rfl rfl rfl ?_
      refine xj_iconst (pc2 := 563) dL_law_562 rfl ?_
      refine xj_iadd (pc2 := 564) dL_law_563 rfl ?_
      refine xj_sld (pc2 := 565) rfl dL_law_564 rfl (by omega) (by omega) rfl rfl ?_
      refine xj_aload_n (pc2 := 566) dL_law_565 rfl rfl rfl ?_
      refine xj_iload_n (pc2 := 567) dL_law_566 rfl rfl rfl ?_
      refine xj_iconst (pc2 := 568) dL_law_567 rfl ?_
      refine xj_iadd (pc2 := 569) dL_law_568 rfl ?_
      refine xj_sld (pc2 := 570) rfl dL_law_569 rfl (by omega) (by omega) rfl rfl ?_
      refine xj_aload_n (pc2 := 571) dL_law_570 rfl rfl rfl ?_
      refine xj_iload_n (pc2 := 572) dL_law_571 rfl rfl rfl ?_
      refine xj_iconst (pc2 := 573) dL_law_572 rfl ?_
      refine xj_iadd (pc2 := 574) dL_law_573 rfl ?_
      refine xj_sld (pc2 := 575) rfl dL_law_574 rfl (by omega) (by omega) rfl rfl ?_
      refine xj_aload_n (pc2 := 576) dL_law_575 rfl rfl rfl ?_
      refine xj_iload_n (pc2 := 577) dL_law_576 rfl rfl rfl ?_
      refine xj_iconst (pc2 := 578) dL_law_577 rfl ?_
      refine xj_iadd (pc2 := 579) dL_law_578 rfl ?_
      refine xj_sld (pc2 := 580) rfl dL_law_579 rfl (by omega) (by omega) rfl rfl ?_
      refine xj_V4I (pc2 := 583) (d2 := 5) mok_X7_odds ml_L_81 ima_yX7_odds sel_yX7_odds rfl rfl dL_law_580 rfl rfl (by decide) (by decide) (Nat.le_of_ble_eq_true rfl) (fun _ => rfl) ?_
      refine u7_odds hT hM2 hN.1 (hx _) (hx _) (hx _) (hx _) ?_
      intro h3 hM3 hF3
      have hK3 := KCt_FrM hK2 hF3
      have hN3 := p_odds hN hT
      refine xj_cmp_same (pc2 := 586) (tgt := 750) dL_law_583 rfl rfl ?_
      exact fin _ _ hK3 hM3 hN3
    · -- 588
      refine xj_aload_n (pc2 := 589) dL_law_588 rfl rfl rfl ?_
      refine xj_aload_n (pc2 := 590) dL_law_589 rfl rfl rfl ?_
      refine xj_iload_n (pc2 := 591) dL_law_590 rfl rfl rfl ?_
      refine xj_iconst (pc2 := 592) dL_law_591 rfl ?_
      refine xj_iadd (pc2 := 593) dL_law_592 rfl ?_
      refine xj_sld (pc2 := 594) rfl dL_law_593 rfl (by omega) (by omega) rfl rfl ?_
      refine xj_aload_n (pc2 := 595) dL_law_594 rfl rfl rfl ?_
      refine xj_iload_n (pc2 := 596) dL_law_595 rfl rfl rfl ?_
      refine xj_iconst (pc2 := 597) dL_law_596 rfl ?_
      refine xj_iadd (pc2 := 598) dL_law_597 rfl ?_
      refine xj_sld (pc2 := 599) rfl dL_law_598 rfl (by omega) (by omega) rfl rfl ?_
      refine xj_aload_n (pc2 := 600) dL_law_599 rfl rfl rfl ?_
      refine xj_iload_n (pc2 := 601) dL_law_600 rfl rfl rfl ?_
      refine xj_iconst (pc2 := 602) dL_law_601 rfl ?_
      refine xj_iadd (pc2 := 603) dL_law_602 rfl ?_
      refine xj_sld (pc2 := 604) rfl dL_law_603 rfl (by omega) (by omega) rfl rfl ?_
      refine xj_V3I (pc2 := 607) (d2 := 2) mok_X6_see ml_L_82 ima_yX6_see sel_yX6_see rfl rfl dL_law_604 rfl rfl (by decide) (by decide) (Nat.le_of_ble_eq_true rfl) (fun _ => rfl) ?_
      refine u6_see hK hN.1 (hx _) (hx _) (hx _) ?_
      intro v t2 h2 hT hK2 hF2
      have hM2 := KMt_FrC hM hF2
      refine xj_aload_n (pc2 := 608) dL_law_607 rfl rfl rfl ?_
      refine xj_aload_n (pc2 := 609) dL_law_608 rfl rfl rfl ?_
      refine xj_iload_n (pc2 := 610) dL_law_609 rfl rfl rfl ?_
      refine xj_iconst (pc2 := 611) dL_law_610 rfl ?_
      refine xj_iadd (pc2 := 612) dL_law_611 rfl ?_
      refine xj_sld (pc2 := 613) rfl dL_law_612 rfl (by omega) (by omega) rfl rfl ?_
      refine xj_aload_n (pc2 := 614) dL_law_613 rfl rfl rfl ?_
      refine xj_iload_n (pc2 := 615) dL_law_614 rfl rfl rfl ?_
      refine xj_iconst (pc2 := 616) dL_law_615 rfl ?_
      refine xj_iadd (pc2 := 617) dL_law_616 rfl ?_
      refine xj_sld (pc2 := 618) rfl dL_law_617 rfl (by omega) (by omega) rfl rfl ?_
      refine xj_aload_n (pc2 := 619) dL_law_618 rfl rfl rfl ?_
      refine xj_iload_n (pc2 := 620) dL_law_619 rfl rfl rfl ?_
      refine xj_iconst (pc2 := 621) dL_law_620 rfl ?_
      refine xj_iadd (pc2 := 622) dL_law_621 rfl ?_
      refine xj_sld (pc2 := 623) rfl dL_law_622 rfl (by omega) (by omega) rfl rfl ?_
      refine xj_V3I (pc2 := 626) (d2 := 2) mok_X7_see ml_L_85 ima_yX7_see sel_yX7_see rfl rfl dL_law_623 rfl rfl (by decide) (by decide) (Nat.le_of_ble_eq_true rfl) (fun _ => rfl) ?_
      refine u7_see hT hM2 hN.1 (hx _) (hx _) (hx _) ?_
      intro h3 hM3 hF3
      have hK3 := KCt_FrM hK2 hF3
      have hN3 := p_see hN hT
      refine xj_cmp_same (pc2 := 629) (tgt := 750) dL_law_626 rfl rfl ?_
      exact fin _ _ hK3 hM3 hN3
    · -- 631
      refine xj_aload_n (pc2 := 632) dL_law_631 rfl rfl rfl ?_
      refine xj_V0I (pc2 := 635) (d2 := 0) mok_X6_forget ml_L_86 ima_yX6_forget sel_yX6_forget rfl rfl dL_law_632 rfl rfl (by decide) (by decide) (Nat.le_of_ble_eq_true rfl) (fun _ => rfl) ?_
      refine u6_forget hK hN.1  ?_
      intro v t2 h2 hT hK2 hF2
      have hM2 := KMt_FrC hM hF2
      refine xj_aload_n (pc2 := 636) dL_law_635 rfl rfl rfl ?_
      refine xj_V0I (pc2 := 639) (d2 := 0) mok_X7_forget ml_L_89 ima_yX7_forget sel_yX7_forget rfl rfl dL_law_636 rfl rfl (by decide) (by decide) (Nat.le_of_ble_eq_true rfl) (fun _ => rfl) ?_
      refine u7_forget hT hM2 hN.1  ?_
      intro h3 hM3 hF3
      have hK3 := KCt_FrM hK2 hF3
      have hN3 := p_forget hN hT
      refine xj_cmp_same (pc2 := 642) (tgt := 750) dL_law_639 rfl rfl ?_
      exact fin _ _ hK3 hM3 hN3
    · -- 644
      refine xj_aload_n (pc2 := 645) dL_law_644 rfl rfl rfl ?_
      refine xj_aload_n (pc2 := 646) dL_law_645 rfl rfl rfl ?_
      refine xj_iload_n (pc2 := 647) dL_law_646 rfl rfl rfl ?_
      refine xj_iconst (pc2 := 648) dL_law_647 rfl ?_
      refine xj_iadd (pc2 := 649) dL_law_648 rfl ?_
      refine xj_sld (pc2 := 650) rfl dL_law_649 rfl (by omega) (by omega) rfl rfl ?_
      refine xj_aload_n (pc2 := 651) dL_law_650 rfl rfl rfl ?_
      refine xj_iload_n (pc2 := 652) dL_law_651 rfl rfl rfl ?_
      refine xj_iconst (pc2 := 653) dL_law_652 rfl ?_
      refine xj_iadd (pc2 := 654) dL_law_653 rfl ?_
      refine xj_sld (pc2 := 655) rfl dL_law_654 rfl (by omega) (by omega) rfl rfl ?_
      refine xj_aload_n (pc2 := 656) dL_law_655 rfl rfl rfl ?_
      refine xj_iload_n (pc2 := 657) dL_law_656 rfl rfl rfl ?_
      refine xj_iconst (pc2 := 658) dL_law_657 rfl ?_
      refine xj_iadd (pc2 := 659) dL_law_658 rfl ?_
      refine xj_sld (pc2 := 660) rfl dL_law_659 rfl (by omega) (by omega) rfl rfl ?_
      refine xj_V3I (pc2 := 663) (d2 := 5) mok_X6_teas ml_L_90 ima_yX6_teas sel_yX6_teas rfl rfl dL_law_660 rfl rfl (by decide) (by decide) (Nat.le_of_ble_eq_true rfl) (fun _ => rfl) ?_
      refine u6_teas hK hN.1 (hx _) (hx _) (hx _) ?_
      intro v t2 h2 hT hK2 hF2
      have hM2 := KMt_FrC hM hF2
      refine xj_aload_n (pc2 := 664) dL_law_663 rfl rfl rfl ?_
      refine xj_aload_n (pc2 := 665) dL_law_664 rfl rfl rfl ?_
      refine xj_iload_n (pc2 := 666) dL_law_665 rfl rfl rfl ?_
      refine xj_iconst (pc2 := 667) dL_law_666 rfl ?_
      refine xj_iadd (pc2 := 668) dL_law_667 rfl ?_
      refine xj_sld (pc2 := 669) rfl dL_law_668 rfl (by omega) (by omega) rfl rfl ?_
      refine xj_aload_n (pc2 := 670) dL_law_669 rfl rfl rfl ?_
      refine xj_iload_n (pc2 := 671) dL_law_670 rfl rfl rfl ?_
      refine xj_iconst (pc2 := 672) dL_law_671 rfl ?_
      refine xj_iadd (pc2 := 673) dL_law_672 rfl ?_
      refine xj_sld (pc2 := 674) rfl dL_law_673 rfl (by omega) (by omega) rfl rfl ?_
      refine xj_aload_n (pc2 := 675) dL_law_674 rfl rfl rfl ?_
      refine xj_iload_n (pc2 := 676) dL_law_675 rfl rfl rfl ?_
      refine xj_iconst (pc2 := 677) dL_law_676 rfl ?_
      refine xj_iadd (pc2 := 678) dL_law_677 rfl ?_
      refine xj_sld (pc2 := 679) rfl dL_law_678 rfl (by omega) (by omega) rfl rfl ?_
      refine xj_V3I (pc2 := 682) (d2 := 7) mok_X7_teas ml_L_93 ima_yX7_teas sel_yX7_teas rfl rfl dL_law_679 rfl rfl (by decide) (by decide) (Nat.le_of_ble_eq_true rfl) (fun _ => rfl) ?_
      refine u7_teas hT hM2 hN.1 (hx _) (hx _) (hx _) ?_
      intro h3 hM3 hF3
      have hK3 := KCt_FrM hK2 hF3
      have hN3 := p_teas hN hT
      refine xj_cmp_same (pc2 := 685) (tgt := 750) dL_law_682 rfl rfl ?_
      exact fin _ _ hK3 hM3 hN3
    · -- 687
      refine xj_aload_n (pc2 := 688) dL_law_687 rfl rfl rfl ?_
      refine xj_V0I (pc2 := 691) (d2 := 2) mok_X6_image ml_L_94 ima_yX6_image sel_yX6_image rfl rfl dL_law_688 rfl rfl (by decide) (by decide) (Nat.le_of_ble_eq_true rfl) (fun _ => rfl) ?_
      refine u6_image hK hN.1  ?_
      intro v t2 h2 hT hK2 hF2
      have hM2 := KMt_FrC hM hF2
      refine xj_aload_n (pc2 := 692) dL_law_691 rfl rfl rfl ?_
      refine xj_V0I (pc2 := 695) (d2 := 0) mok_X7_image ml_L_97 ima_yX7_image sel_yX7_image rfl rfl dL_law_692 rfl rfl (by decide) (by decide) (Nat.le_of_ble_eq_true rfl) (fun _ => rfl) ?_
      refine u7_image hT hM2 hN.1  ?_
      intro h3 hM3 hF3
      have hK3 := KCt_FrM hK2 hF3
      have hN3 := p_image hN hT
      refine xj_cmp_same (pc2 := 698) (tgt := 750) dL_law_695 rfl rfl ?_
      exact fin _ _ hK3 hM3 hN3
    · -- 700
      refine xj_aload_n (pc2 := 701) dL_law_700 rfl rfl rfl ?_
      refine xj_V0I (pc2 := 704) (d2 := 2) mok_X6_restore ml_L_98 ima_yX6_restore sel_yX6_restore rfl rfl dL_law_701 rfl rfl (by decide) (by decide) (Nat.le_of_ble_eq_true rfl) (fun _ => rfl) ?_
      refine u6_restore hK hN.1  ?_
      intro v t2 h2 hT hK2 hF2
      have hM2 := KMt_FrC hM hF2
      refine xj_aload_n (pc2 := 705) dL_law_704 rfl rfl rfl ?_
      refine xj_V0I (pc2 := 708) (d2 := 0) mok_X7_restore ml_L_101 ima_yX7_restore sel_yX7_restore rfl rfl dL_law_705 rfl rfl (by decide) (by decide) (Nat.le_of_ble_eq_true rfl) (fun _ => rfl) ?_
      refine u7_restore hT hM2 hN.1  ?_
      intro h3 hM3 hF3
      have hK3 := KCt_FrM hK2 hF3
      have hN3 := p_restore hN hT
      refine xj_cmp_same (pc2 := 711) (tgt := 750) dL_law_708 rfl rfl ?_
      exact fin _ _ hK3 hM3 hN3
    · -- 713
      refine xj_aload_n (pc2 := 714) dL_law_713 rfl rfl rfl ?_
      refine xj_aload_n (pc2 := 715) dL_law_714 rfl rfl rfl ?_
      refine xj_iload_n (pc2 := 716) dL_law_715 rfl rfl rfl ?_
      refine xj_iconst (pc2 := 717) dL_law_716 rfl ?_
      refine xj_iadd (pc2 := 718) dL_law_717 rfl ?_
      refine xj_sld (pc2 := 719) rfl dL_law_718 rfl (by omega) (by omega) rfl rfl ?_
      refine xj_V1I (pc2 := 722) (d2 := 5) mok_X6_count ml_L_102 ima_yX6_count sel_yX6_count rfl rfl dL_law_719 rfl rfl (by decide) (by decide) (Nat.le_of_ble_eq_true rfl) (fun _ => rfl) ?_
      refine u6_count hK hN.1 (hx _) ?_
      intro v t2 h2 hT hK2 hF2
      have hM2 := KMt_FrC hM hF2
      refine xj_aload_n (pc2 := 723) dL_law_722 rfl rfl rfl ?_
      refine xj_aload_n (pc2 := 724) dL_law_723 rfl rfl rfl ?_
      refine xj_iload_n (pc2 := 725) dL_law_724 rfl rfl rfl ?_
      refine xj_iconst (pc2 := 726) dL_law_725 rfl ?_
      refine xj_iadd (pc2 := 727) dL_law_726 rfl ?_
      refine xj_sld (pc2 := 728) rfl dL_law_727 rfl (by omega) (by omega) rfl rfl ?_
      refine xj_V1I (pc2 := 731) (d2 := 7) mok_X7_count ml_L_105 ima_yX7_count sel_yX7_count rfl rfl dL_law_728 rfl rfl (by decide) (by decide) (Nat.le_of_ble_eq_true rfl) (fun _ => rfl) ?_
      refine u7_count hT hM2 hN.1 (hx _) ?_
      intro h3 hM3 hF3
      have hK3 := KCt_FrM hK2 hF3
      have hN3 := p_count hN hT
      refine xj_cmp_same (pc2 := 734) (tgt := 750) dL_law_731 rfl rfl ?_
      exact fin _ _ hK3 hM3 hN3
    · -- 736
      refine xj_aload_n (pc2 := 737) dL_law_736 rfl rfl rfl ?_
      refine xj_V0J (pc2 := 740) (d2 := 10) mok_X6_digest ml_L_106 ima_yX6_digest sel_yX6_digest rfl rfl dL_law_737 rfl rfl (by decide) (by decide) (Nat.le_of_ble_eq_true rfl) (fun _ => rfl) ?_
      refine u6_digest hK hN.1  ?_
      intro v t2 h2 hT hK2 hF2
      have hM2 := KMt_FrC hM hF2
      refine xj_aload_n (pc2 := 741) dL_law_740 rfl rfl rfl ?_
      refine xj_V0J (pc2 := 744) (d2 := 7) mok_X7_digest ml_L_110 ima_yX7_digest sel_yX7_digest rfl rfl dL_law_741 rfl rfl (by decide) (by decide) (Nat.le_of_ble_eq_true rfl) (fun _ => rfl) ?_
      refine u7_digest hT hM2 hN.1  ?_
      intro h3 hM3 hF3
      have hK3 := KCt_FrM hK2 hF3
      have hN3 := p_digest hN hT
      refine xj_lcmp_eq (pc2 := 745) dL_law_744 rfl rfl ?_
      refine xj_if_eq (pc2 := 748) (tgt := 750) dL_law_745 rfl rfl (by omega) (fun c_745 => ?_) (fun c_745 => absurd c_745 (by decide))
      first
      | exact fin _ _ hK3 hM3 hN3
      | exact fin _ _ hK hM (kn_same hN)
    · -- 750
      first
      | exact fin _ _ hK3 hM3 hN3
      | exact fin _ _ hK hM (kn_same hN)
