section LAWLOOP
abbrev mLaw (nm : String) : PMI := (⟨RL, nm, "([I)Z"⟩, cL_law, 4, some .boolean)
abbrev LPo : PPost := fun v _ _ _ => v = some (.inl 1)
set_option maxRecDepth 100000 in
set_option maxHeartbeats 1000000 in
theorem PW.icmp_same {sc : PSc} {μ : PMI} {d kc ks : Nat} {post : PPost} {pc : Nat} {L : List (Option PV)} {st : List PV} {Γ : List PTy} {I : PIm} {R : PRm} {x : Int} {off : Int} {tgt : Nat} (hd : decode μ.2.1 pc = .ok (.if_icmp .eq off, 3)) (ht : (pc : Int) + off = (tgt : Int)) (kt : PW sc μ d kc ks post tgt L st Γ I R) : PW sc μ d kc ks post pc L (.inl x :: .inl x :: st) Γ I R := by
  intro w p l e RM s m args below meth c Q C fin H locs cells slots ls hR hS h1 h2 hl
  exact lv_icmp_eq C.1 C.2.1 hd ht (fun _ => kt w p l e RM s m args below meth c Q C fin H locs cells slots ls hR hS h1 h2 hl) (fun h => absurd rfl h)
set_option maxRecDepth 100000 in
set_option maxHeartbeats 1000000 in
theorem and31 (x : Int) : 0 ≤ pw_and x 31 ∧ pw_and x 31 ≤ 31 := by
  unfold pw_and
  show 0 ≤ ((Int32.ofInt x).toBitVec &&& (Int32.ofInt 31).toBitVec).toInt ∧ ((Int32.ofInt x).toBitVec &&& (Int32.ofInt 31).toBitVec).toInt ≤ 31
  rw [BitVec.toInt_and, show (Int32.ofInt 31).toBitVec.toNat = 2 ^ 5 - 1 by decide, Nat.and_two_pow_sub_one_eq_mod]
  have hlt : (Int32.ofInt x).toBitVec.toNat % 2 ^ 5 < 2 ^ 5 := Nat.mod_lt _ (by decide)
  have e5 : 2 ^ 5 = 32 := by decide
  have e32 : (((2 ^ 32 : Nat) : Int)) = 4294967296 := by decide
  rw [Int.bmod_eq_of_le (by omega) (by omega)]
  omega
variable {sc : PSc} {Γ : List PTy} {nm : String}
set_option maxRecDepth 100000 in
set_option maxHeartbeats 1000000 in
theorem law_loop (hL : sc.1 ≤ 3072) : ∀ (N : Nat) (i : Int) (s : CS) (I : PIm) (R : PRm), (6 + (sc.1 : Int) - i).toNat = N → 0 ≤ i → i ≤ 6 + (sc.1 : Int) → CRel Γ s I R → MAt Γ R → MVal s I → PW sc (mLaw nm) 31 0 0 LPo 18 [some (.inr (some 100000)), some (.inr (some 0)), some (.inr (some 112)), some (.inl i)] [] Γ I R := by
  intro N
  induction N using Nat.strongRecOn with
  | _ N ih =>
    intro i s I R hN i0 i1 h M V
    by_cases hi : i ≤ (sc.1 : Int) - 6
    · have g0 : Γ[0]? = some (.inl 10) := by obtain ⟨t, sp, ps, tb, hCA, -⟩ := h; exact hCA.1.1
      have g112 : Γ[112]? = some (.inl 11) := M.1
      have nx : ∀ (s' : CS) (I' : PIm) (R' : PRm), CRel Γ s' I' R' → MAt Γ R' → MVal s' I' → PW sc (mLaw nm) 31 0 0 LPo 743 [some (.inr (some 100000)), some (.inr (some 0)), some (.inr (some 112)), some (.inl i)] [] Γ I' R' := by
        intro s' I' R' h' M' V'
        have r := ih (6 + (sc.1 : Int) - (i + 6)).toNat (by omega) (i + 6) s' I' R' rfl (by omega) (by omega) h' M' V'
        refine PW.iinc (pc := 743) dL_law_743 rfl (Nat.le_of_ble_eq_true rfl) ?_
        refine PW.goto (pc := 746) (tgt := 18) dL_law_746 (by decide) ?_
        exact r
      have K0 : PW sc (mLaw nm) 31 0 0 LPo 148 [some (.inr (some 100000)), some (.inr (some 0)), some (.inr (some 112)), some (.inl i)] [] Γ I R := by
        refine PW.aload_n (pc := 148) dL_law_148 rfl ?_
        refine PW.aload_n (pc := 149) dL_law_149 rfl ?_
        refine PW.iload_n (pc := 150) dL_law_150 rfl ?_
        refine PW.iconst (pc := 151) dL_law_151 ?_
        refine PW.iadd (pc := 152) dL_law_152 ?_
        refine PW.sld (pc := 153) dL_law_153 (by omega) (by omega) (by omega) ?_
        refine PW.invV0 (pc := 154) dL_law_154 mv_L_13 (p_type _ h (rg_of _)) (by first | assumption | rfl) rfl rfl (Nat.le_of_ble_eq_true rfl) ?_
        (rintro v Γ' I1 R1 ⟨rfl, rfl, y1, r1, h1⟩)
        have M1 := M.hi (r1 112 (by omega))
        have V1 := V.hi y1
        refine PW.aload_n (pc := 157) dL_law_157 rfl ?_
        refine PW.aload_n (pc := 158) dL_law_158 rfl ?_
        refine PW.iload_n (pc := 159) dL_law_159 rfl ?_
        refine PW.iconst (pc := 160) dL_law_160 ?_
        refine PW.iadd (pc := 161) dL_law_161 ?_
        refine PW.sld (pc := 162) dL_law_162 (by omega) (by omega) (by omega) ?_
        refine PW.invV0 (pc := 163) dL_law_163 mv_L_17 (q_type _ M1 V1 (rg_of _)) (by first | assumption | rfl) rfl rfl (Nat.le_of_ble_eq_true rfl) ?_
        (rintro v Γ' I2 R2 ⟨rfl, rfl, rfl, y2, V2⟩)
        have h2 := h1.ext (fun _ _ q => q) y2 (fun _ _ => rfl)
        refine PW.icmp_same (pc := 166) (tgt := 743) dL_law_166 (by decide) ?_
        exact nx _ _ _ h2 M1 V2
      have K1 : PW sc (mLaw nm) 31 0 0 LPo 171 [some (.inr (some 100000)), some (.inr (some 0)), some (.inr (some 112)), some (.inl i)] [] Γ I R := by
        refine PW.aload_n (pc := 171) dL_law_171 rfl ?_
        refine PW.invV0 (pc := 172) dL_law_172 mv_L_18 (p_clear _ h) (by first | assumption | rfl) rfl rfl (Nat.le_of_ble_eq_true rfl) ?_
        (rintro v Γ' I1 R1 ⟨rfl, rfl, y1, r1, h1⟩)
        have M1 := M.hi (r1 112 (by omega))
        have V1 := V.hi y1
        refine PW.aload_n (pc := 175) dL_law_175 rfl ?_
        refine PW.invV0 (pc := 176) dL_law_176 mv_L_22 (q_clear _ M1 V1) (by first | assumption | rfl) rfl rfl (Nat.le_of_ble_eq_true rfl) ?_
        (rintro v Γ' I2 R2 ⟨rfl, rfl, rfl, y2, V2⟩)
        have h2 := h1.ext (fun _ _ q => q) y2 (fun _ _ => rfl)
        refine PW.icmp_same (pc := 179) (tgt := 743) dL_law_179 (by decide) ?_
        exact nx _ _ _ h2 M1 V2
      have K2 : PW sc (mLaw nm) 31 0 0 LPo 184 [some (.inr (some 100000)), some (.inr (some 0)), some (.inr (some 112)), some (.inl i)] [] Γ I R := by
        refine PW.aload_n (pc := 184) dL_law_184 rfl ?_
        refine PW.invV0 (pc := 185) dL_law_185 mv_L_23 (p_machine _ h) (by first | assumption | rfl) rfl rfl (Nat.le_of_ble_eq_true rfl) ?_
        (rintro v Γ' I1 R1 ⟨rfl, rfl, y1, r1, h1⟩)
        have M1 := M.hi (r1 112 (by omega))
        have V1 := V.hi y1
        refine PW.aload_n (pc := 188) dL_law_188 rfl ?_
        refine PW.invV0 (pc := 189) dL_law_189 mv_L_26 (q_machine _ M1 V1) (by first | assumption | rfl) rfl rfl (Nat.le_of_ble_eq_true rfl) ?_
        (rintro v Γ' I2 R2 ⟨rfl, rfl, rfl, y2, V2⟩)
        have h2 := h1.ext (fun _ _ q => q) y2 (fun _ _ => rfl)
        refine PW.icmp_same (pc := 192) (tgt := 743) dL_law_192 (by decide) ?_
        exact nx _ _ _ h2 M1 V2
      have K3 : PW sc (mLaw nm) 31 0 0 LPo 197 [some (.inr (some 100000)), some (.inr (some 0)), some (.inr (some 112)), some (.inl i)] [] Γ I R := by
        refine PW.aload_n (pc := 197) dL_law_197 rfl ?_
        refine PW.aload_n (pc := 198) dL_law_198 rfl ?_
        refine PW.iload_n (pc := 199) dL_law_199 rfl ?_
        refine PW.iconst (pc := 200) dL_law_200 ?_
        refine PW.iadd (pc := 201) dL_law_201 ?_
        refine PW.sld (pc := 202) dL_law_202 (by omega) (by omega) (by omega) ?_
        refine PW.aload_n (pc := 203) dL_law_203 rfl ?_
        refine PW.iload_n (pc := 204) dL_law_204 rfl ?_
        refine PW.iconst (pc := 205) dL_law_205 ?_
        refine PW.iadd (pc := 206) dL_law_206 ?_
        refine PW.sld (pc := 207) dL_law_207 (by omega) (by omega) (by omega) ?_
        refine PW.invV0 (pc := 208) dL_law_208 mv_L_27 (p_instruction _ h (rg_of _) (rg_of _)) (by first | assumption | rfl) rfl rfl (Nat.le_of_ble_eq_true rfl) ?_
        (rintro v Γ' I1 R1 ⟨rfl, rfl, y1, r1, h1⟩)
        have M1 := M.hi (r1 112 (by omega))
        have V1 := V.hi y1
        refine PW.aload_n (pc := 211) dL_law_211 rfl ?_
        refine PW.aload_n (pc := 212) dL_law_212 rfl ?_
        refine PW.iload_n (pc := 213) dL_law_213 rfl ?_
        refine PW.iconst (pc := 214) dL_law_214 ?_
        refine PW.iadd (pc := 215) dL_law_215 ?_
        refine PW.sld (pc := 216) dL_law_216 (by omega) (by omega) (by omega) ?_
        refine PW.aload_n (pc := 217) dL_law_217 rfl ?_
        refine PW.iload_n (pc := 218) dL_law_218 rfl ?_
        refine PW.iconst (pc := 219) dL_law_219 ?_
        refine PW.iadd (pc := 220) dL_law_220 ?_
        refine PW.sld (pc := 221) dL_law_221 (by omega) (by omega) (by omega) ?_
        refine PW.invV0 (pc := 222) dL_law_222 mv_L_31 (q_instruction _ M1 V1 (rg_of _) (rg_of _)) (by first | assumption | rfl) rfl rfl (Nat.le_of_ble_eq_true rfl) ?_
        (rintro v Γ' I2 R2 ⟨rfl, rfl, rfl, y2, V2⟩)
        have h2 := h1.ext (fun _ _ q => q) y2 (fun _ _ => rfl)
        refine PW.icmp_same (pc := 225) (tgt := 743) dL_law_225 (by decide) ?_
        exact nx _ _ _ h2 M1 V2
      have K4 : PW sc (mLaw nm) 31 0 0 LPo 230 [some (.inr (some 100000)), some (.inr (some 0)), some (.inr (some 112)), some (.inl i)] [] Γ I R := by
        refine PW.aload_n (pc := 230) dL_law_230 rfl ?_
        refine PW.aload_n (pc := 231) dL_law_231 rfl ?_
        refine PW.iload_n (pc := 232) dL_law_232 rfl ?_
        refine PW.iconst (pc := 233) dL_law_233 ?_
        refine PW.iadd (pc := 234) dL_law_234 ?_
        refine PW.sld (pc := 235) dL_law_235 (by omega) (by omega) (by omega) ?_
        refine PW.aload_n (pc := 236) dL_law_236 rfl ?_
        refine PW.iload_n (pc := 237) dL_law_237 rfl ?_
        refine PW.iconst (pc := 238) dL_law_238 ?_
        refine PW.iadd (pc := 239) dL_law_239 ?_
        refine PW.sld (pc := 240) dL_law_240 (by omega) (by omega) (by omega) ?_
        refine PW.aload_n (pc := 241) dL_law_241 rfl ?_
        refine PW.iload_n (pc := 242) dL_law_242 rfl ?_
        refine PW.iconst (pc := 243) dL_law_243 ?_
        refine PW.iadd (pc := 244) dL_law_244 ?_
        refine PW.sld (pc := 245) dL_law_245 (by omega) (by omega) (by omega) ?_
        refine PW.aload_n (pc := 246) dL_law_246 rfl ?_
        refine PW.iload_n (pc := 247) dL_law_247 rfl ?_
        refine PW.iconst (pc := 248) dL_law_248 ?_
        refine PW.iadd (pc := 249) dL_law_249 ?_
        refine PW.sld (pc := 250) dL_law_250 (by omega) (by omega) (by omega) ?_
        refine PW.aload_n (pc := 251) dL_law_251 rfl ?_
        refine PW.iload_n (pc := 252) dL_law_252 rfl ?_
        refine PW.iconst (pc := 253) dL_law_253 ?_
        refine PW.iadd (pc := 254) dL_law_254 ?_
        refine PW.sld (pc := 255) dL_law_255 (by omega) (by omega) (by omega) ?_
        refine PW.invV0 (pc := 256) dL_law_256 mv_L_32 (p_puts _ h (rg_of _) (rg_of _) (rg_of _) (rg_of _) (rg_of _)) (by first | assumption | rfl) rfl rfl (Nat.le_of_ble_eq_true rfl) ?_
        (rintro v Γ' I1 R1 ⟨rfl, rfl, y1, r1, h1⟩)
        have M1 := M.hi (r1 112 (by omega))
        have V1 := V.hi y1
        refine PW.aload_n (pc := 259) dL_law_259 rfl ?_
        refine PW.aload_n (pc := 260) dL_law_260 rfl ?_
        refine PW.iload_n (pc := 261) dL_law_261 rfl ?_
        refine PW.iconst (pc := 262) dL_law_262 ?_
        refine PW.iadd (pc := 263) dL_law_263 ?_
        refine PW.sld (pc := 264) dL_law_264 (by omega) (by omega) (by omega) ?_
        refine PW.aload_n (pc := 265) dL_law_265 rfl ?_
        refine PW.iload_n (pc := 266) dL_law_266 rfl ?_
        refine PW.iconst (pc := 267) dL_law_267 ?_
        refine PW.iadd (pc := 268) dL_law_268 ?_
        refine PW.sld (pc := 269) dL_law_269 (by omega) (by omega) (by omega) ?_
        refine PW.aload_n (pc := 270) dL_law_270 rfl ?_
        refine PW.iload_n (pc := 271) dL_law_271 rfl ?_
        refine PW.iconst (pc := 272) dL_law_272 ?_
        refine PW.iadd (pc := 273) dL_law_273 ?_
        refine PW.sld (pc := 274) dL_law_274 (by omega) (by omega) (by omega) ?_
        refine PW.aload_n (pc := 275) dL_law_275 rfl ?_
        refine PW.iload_n (pc := 276) dL_law_276 rfl ?_
        refine PW.iconst (pc := 277) dL_law_277 ?_
        refine PW.iadd (pc := 278) dL_law_278 ?_
        refine PW.sld (pc := 279) dL_law_279 (by omega) (by omega) (by omega) ?_
        refine PW.aload_n (pc := 280) dL_law_280 rfl ?_
        refine PW.iload_n (pc := 281) dL_law_281 rfl ?_
        refine PW.iconst (pc := 282) dL_law_282 ?_
        refine PW.iadd (pc := 283) dL_law_283 ?_
        refine PW.sld (pc := 284) dL_law_284 (by omega) (by omega) (by omega) ?_
        refine PW.invV0 (pc := 285) dL_law_285 mv_L_36 (q_puts _ M1 V1 (rg_of _) (rg_of _) (rg_of _) (rg_of _) (rg_of _)) (by first | assumption | rfl) rfl rfl (Nat.le_of_ble_eq_true rfl) ?_
        (rintro v Γ' I2 R2 ⟨rfl, rfl, rfl, y2, V2⟩)
        have h2 := h1.ext (fun _ _ q => q) y2 (fun _ _ => rfl)
        refine PW.icmp_same (pc := 288) (tgt := 743) dL_law_288 (by decide) ?_
        exact nx _ _ _ h2 M1 V2
      have K5 : PW sc (mLaw nm) 31 0 0 LPo 293 [some (.inr (some 100000)), some (.inr (some 0)), some (.inr (some 112)), some (.inl i)] [] Γ I R := by
        refine PW.aload_n (pc := 293) dL_law_293 rfl ?_
        refine PW.aload_n (pc := 294) dL_law_294 rfl ?_
        refine PW.iload_n (pc := 295) dL_law_295 rfl ?_
        refine PW.iconst (pc := 296) dL_law_296 ?_
        refine PW.iadd (pc := 297) dL_law_297 ?_
        refine PW.sld (pc := 298) dL_law_298 (by omega) (by omega) (by omega) ?_
        refine PW.invV0 (pc := 299) dL_law_299 mv_L_37 (p_leaves _ h (rg_of _)) (by first | assumption | rfl) rfl rfl (Nat.le_of_ble_eq_true rfl) ?_
        (rintro v Γ' I1 R1 ⟨rfl, rfl, y1, r1, h1⟩)
        have M1 := M.hi (r1 112 (by omega))
        have V1 := V.hi y1
        refine PW.aload_n (pc := 302) dL_law_302 rfl ?_
        refine PW.aload_n (pc := 303) dL_law_303 rfl ?_
        refine PW.iload_n (pc := 304) dL_law_304 rfl ?_
        refine PW.iconst (pc := 305) dL_law_305 ?_
        refine PW.iadd (pc := 306) dL_law_306 ?_
        refine PW.sld (pc := 307) dL_law_307 (by omega) (by omega) (by omega) ?_
        refine PW.invV0 (pc := 308) dL_law_308 mv_L_40 (q_leaves _ M1 V1 (rg_of _)) (by first | assumption | rfl) rfl rfl (Nat.le_of_ble_eq_true rfl) ?_
        (rintro v Γ' I2 R2 ⟨rfl, rfl, rfl, y2, V2⟩)
        have h2 := h1.ext (fun _ _ q => q) y2 (fun _ _ => rfl)
        refine PW.icmp_same (pc := 311) (tgt := 743) dL_law_311 (by decide) ?_
        exact nx _ _ _ h2 M1 V2
      have K6 : PW sc (mLaw nm) 31 0 0 LPo 316 [some (.inr (some 100000)), some (.inr (some 0)), some (.inr (some 112)), some (.inl i)] [] Γ I R := by
        refine PW.aload_n (pc := 316) dL_law_316 rfl ?_
        refine PW.aload_n (pc := 317) dL_law_317 rfl ?_
        refine PW.iload_n (pc := 318) dL_law_318 rfl ?_
        refine PW.iconst (pc := 319) dL_law_319 ?_
        refine PW.iadd (pc := 320) dL_law_320 ?_
        refine PW.sld (pc := 321) dL_law_321 (by omega) (by omega) (by omega) ?_
        refine PW.aload_n (pc := 322) dL_law_322 rfl ?_
        refine PW.iload_n (pc := 323) dL_law_323 rfl ?_
        refine PW.iconst (pc := 324) dL_law_324 ?_
        refine PW.iadd (pc := 325) dL_law_325 ?_
        refine PW.sld (pc := 326) dL_law_326 (by omega) (by omega) (by omega) ?_
        refine PW.aload_n (pc := 327) dL_law_327 rfl ?_
        refine PW.iload_n (pc := 328) dL_law_328 rfl ?_
        refine PW.iconst (pc := 329) dL_law_329 ?_
        refine PW.iadd (pc := 330) dL_law_330 ?_
        refine PW.sld (pc := 331) dL_law_331 (by omega) (by omega) (by omega) ?_
        refine PW.invV0 (pc := 332) dL_law_332 mv_L_41 (p_tells _ h (rg_of _) (rg_of _) (rg_of _)) (by first | assumption | rfl) rfl rfl (Nat.le_of_ble_eq_true rfl) ?_
        (rintro v Γ' I1 R1 ⟨rfl, rfl, y1, r1, h1⟩)
        have M1 := M.hi (r1 112 (by omega))
        have V1 := V.hi y1
        refine PW.aload_n (pc := 335) dL_law_335 rfl ?_
        refine PW.aload_n (pc := 336) dL_law_336 rfl ?_
        refine PW.iload_n (pc := 337) dL_law_337 rfl ?_
        refine PW.iconst (pc := 338) dL_law_338 ?_
        refine PW.iadd (pc := 339) dL_law_339 ?_
        refine PW.sld (pc := 340) dL_law_340 (by omega) (by omega) (by omega) ?_
        refine PW.aload_n (pc := 341) dL_law_341 rfl ?_
        refine PW.iload_n (pc := 342) dL_law_342 rfl ?_
        refine PW.iconst (pc := 343) dL_law_343 ?_
        refine PW.iadd (pc := 344) dL_law_344 ?_
        refine PW.sld (pc := 345) dL_law_345 (by omega) (by omega) (by omega) ?_
        refine PW.aload_n (pc := 346) dL_law_346 rfl ?_
        refine PW.iload_n (pc := 347) dL_law_347 rfl ?_
        refine PW.iconst (pc := 348) dL_law_348 ?_
        refine PW.iadd (pc := 349) dL_law_349 ?_
        refine PW.sld (pc := 350) dL_law_350 (by omega) (by omega) (by omega) ?_
        refine PW.invV0 (pc := 351) dL_law_351 mv_L_45 (q_tells _ M1 V1 (rg_of _) (rg_of _) (rg_of _)) (by first | assumption | rfl) rfl rfl (Nat.le_of_ble_eq_true rfl) ?_
        (rintro v Γ' I2 R2 ⟨rfl, rfl, rfl, y2, V2⟩)
        have h2 := h1.ext (fun _ _ q => q) y2 (fun _ _ => rfl)
        refine PW.icmp_same (pc := 354) (tgt := 743) dL_law_354 (by decide) ?_
        exact nx _ _ _ h2 M1 V2
      have K7 : PW sc (mLaw nm) 31 0 0 LPo 359 [some (.inr (some 100000)), some (.inr (some 0)), some (.inr (some 112)), some (.inl i)] [] Γ I R := by
        refine PW.aload_n (pc := 359) dL_law_359 rfl ?_
        refine PW.invV0 (pc := 360) dL_law_360 mv_L_46 (p_undo _ h) (by first | assumption | rfl) rfl rfl (Nat.le_of_ble_eq_true rfl) ?_
        (rintro v Γ' I1 R1 ⟨rfl, rfl, y1, r1, h1⟩)
        have M1 := M.hi (r1 112 (by omega))
        have V1 := V.hi y1
        refine PW.aload_n (pc := 363) dL_law_363 rfl ?_
        refine PW.invV0 (pc := 364) dL_law_364 mv_L_49 (q_undo _ M1 V1) (by first | assumption | rfl) rfl rfl (Nat.le_of_ble_eq_true rfl) ?_
        (rintro v Γ' I2 R2 ⟨rfl, rfl, rfl, y2, V2⟩)
        have h2 := h1.ext (fun _ _ q => q) y2 (fun _ _ => rfl)
        refine PW.icmp_same (pc := 367) (tgt := 743) dL_law_367 (by decide) ?_
        exact nx _ _ _ h2 M1 V2
      have K8 : PW sc (mLaw nm) 31 0 0 LPo 372 [some (.inr (some 100000)), some (.inr (some 0)), some (.inr (some 112)), some (.inl i)] [] Γ I R := by
        refine PW.aload_n (pc := 372) dL_law_372 rfl ?_
        refine PW.aload_n (pc := 373) dL_law_373 rfl ?_
        refine PW.iload_n (pc := 374) dL_law_374 rfl ?_
        refine PW.iconst (pc := 375) dL_law_375 ?_
        refine PW.iadd (pc := 376) dL_law_376 ?_
        refine PW.sld (pc := 377) dL_law_377 (by omega) (by omega) (by omega) ?_
        refine PW.invV0 (pc := 378) dL_law_378 mv_L_50 (p_fact _ h (rg_of _)) (by first | assumption | rfl) rfl rfl (Nat.le_of_ble_eq_true rfl) ?_
        (rintro v Γ' I1 R1 ⟨rfl, rfl, y1, r1, h1⟩)
        have M1 := M.hi (r1 112 (by omega))
        have V1 := V.hi y1
        refine PW.aload_n (pc := 381) dL_law_381 rfl ?_
        refine PW.aload_n (pc := 382) dL_law_382 rfl ?_
        refine PW.iload_n (pc := 383) dL_law_383 rfl ?_
        refine PW.iconst (pc := 384) dL_law_384 ?_
        refine PW.iadd (pc := 385) dL_law_385 ?_
        refine PW.sld (pc := 386) dL_law_386 (by omega) (by omega) (by omega) ?_
        refine PW.invV0 (pc := 387) dL_law_387 mv_L_53 (q_fact _ M1 V1 (rg_of _)) (by first | assumption | rfl) rfl rfl (Nat.le_of_ble_eq_true rfl) ?_
        (rintro v Γ' I2 R2 ⟨rfl, rfl, rfl, y2, V2⟩)
        have h2 := h1.ext (fun _ _ q => q) y2 (fun _ _ => rfl)
        refine PW.icmp_same (pc := 390) (tgt := 743) dL_law_390 (by decide) ?_
        exact nx _ _ _ h2 M1 V2
      have K9 : PW sc (mLaw nm) 31 0 0 LPo 395 [some (.inr (some 100000)), some (.inr (some 0)), some (.inr (some 112)), some (.inl i)] [] Γ I R := by
        refine PW.aload_n (pc := 395) dL_law_395 rfl ?_
        refine PW.invV0 (pc := 396) dL_law_396 mv_L_54 (p_ruled _ h) (by first | assumption | rfl) rfl rfl (Nat.le_of_ble_eq_true rfl) ?_
        (rintro v Γ' I1 R1 ⟨rfl, rfl, y1, r1, h1⟩)
        have M1 := M.hi (r1 112 (by omega))
        have V1 := V.hi y1
        refine PW.aload_n (pc := 399) dL_law_399 rfl ?_
        refine PW.invV0 (pc := 400) dL_law_400 mv_L_57 (q_ruled _ M1 V1) (by first | assumption | rfl) rfl rfl (Nat.le_of_ble_eq_true rfl) ?_
        (rintro v Γ' I2 R2 ⟨rfl, rfl, rfl, y2, V2⟩)
        have h2 := h1.ext (fun _ _ q => q) y2 (fun _ _ => rfl)
        refine PW.icmp_same (pc := 403) (tgt := 743) dL_law_403 (by decide) ?_
        exact nx _ _ _ h2 M1 V2
      have K10 : PW sc (mLaw nm) 31 0 0 LPo 408 [some (.inr (some 100000)), some (.inr (some 0)), some (.inr (some 112)), some (.inl i)] [] Γ I R := by
        refine PW.aload_n (pc := 408) dL_law_408 rfl ?_
        refine PW.aload_n (pc := 409) dL_law_409 rfl ?_
        refine PW.iload_n (pc := 410) dL_law_410 rfl ?_
        refine PW.iconst (pc := 411) dL_law_411 ?_
        refine PW.iadd (pc := 412) dL_law_412 ?_
        refine PW.sld (pc := 413) dL_law_413 (by omega) (by omega) (by omega) ?_
        refine PW.aload_n (pc := 414) dL_law_414 rfl ?_
        refine PW.iload_n (pc := 415) dL_law_415 rfl ?_
        refine PW.iconst (pc := 416) dL_law_416 ?_
        refine PW.iadd (pc := 417) dL_law_417 ?_
        refine PW.sld (pc := 418) dL_law_418 (by omega) (by omega) (by omega) ?_
        refine PW.aload_n (pc := 419) dL_law_419 rfl ?_
        refine PW.iload_n (pc := 420) dL_law_420 rfl ?_
        refine PW.iconst (pc := 421) dL_law_421 ?_
        refine PW.iadd (pc := 422) dL_law_422 ?_
        refine PW.sld (pc := 423) dL_law_423 (by omega) (by omega) (by omega) ?_
        refine PW.invV0 (pc := 424) dL_law_424 mv_L_58 (p_equal _ h (rg_of _) (rg_of _) (rg_of _)) (by first | assumption | rfl) rfl rfl (Nat.le_of_ble_eq_true rfl) ?_
        (rintro v Γ' I1 R1 ⟨rfl, rfl, y1, r1, h1⟩)
        have M1 := M.hi (r1 112 (by omega))
        have V1 := V.hi y1
        refine PW.aload_n (pc := 427) dL_law_427 rfl ?_
        refine PW.aload_n (pc := 428) dL_law_428 rfl ?_
        refine PW.iload_n (pc := 429) dL_law_429 rfl ?_
        refine PW.iconst (pc := 430) dL_law_430 ?_
        refine PW.iadd (pc := 431) dL_law_431 ?_
        refine PW.sld (pc := 432) dL_law_432 (by omega) (by omega) (by omega) ?_
        refine PW.aload_n (pc := 433) dL_law_433 rfl ?_
        refine PW.iload_n (pc := 434) dL_law_434 rfl ?_
        refine PW.iconst (pc := 435) dL_law_435 ?_
        refine PW.iadd (pc := 436) dL_law_436 ?_
        refine PW.sld (pc := 437) dL_law_437 (by omega) (by omega) (by omega) ?_
        refine PW.aload_n (pc := 438) dL_law_438 rfl ?_
        refine PW.iload_n (pc := 439) dL_law_439 rfl ?_
        refine PW.iconst (pc := 440) dL_law_440 ?_
        refine PW.iadd (pc := 441) dL_law_441 ?_
        refine PW.sld (pc := 442) dL_law_442 (by omega) (by omega) (by omega) ?_
        refine PW.invV0 (pc := 443) dL_law_443 mv_L_61 (q_equal _ M1 V1 (rg_of _) (rg_of _) (rg_of _)) (by first | assumption | rfl) rfl rfl (Nat.le_of_ble_eq_true rfl) ?_
        (rintro v Γ' I2 R2 ⟨rfl, rfl, rfl, y2, V2⟩)
        have h2 := h1.ext (fun _ _ q => q) y2 (fun _ _ => rfl)
        refine PW.icmp_same (pc := 446) (tgt := 743) dL_law_446 (by decide) ?_
        exact nx _ _ _ h2 M1 V2
      have K11 : PW sc (mLaw nm) 31 0 0 LPo 451 [some (.inr (some 100000)), some (.inr (some 0)), some (.inr (some 112)), some (.inl i)] [] Γ I R := by
        refine PW.aload_n (pc := 451) dL_law_451 rfl ?_
        refine PW.aload_n (pc := 452) dL_law_452 rfl ?_
        refine PW.iload_n (pc := 453) dL_law_453 rfl ?_
        refine PW.iconst (pc := 454) dL_law_454 ?_
        refine PW.iadd (pc := 455) dL_law_455 ?_
        refine PW.sld (pc := 456) dL_law_456 (by omega) (by omega) (by omega) ?_
        refine PW.aload_n (pc := 457) dL_law_457 rfl ?_
        refine PW.iload_n (pc := 458) dL_law_458 rfl ?_
        refine PW.iconst (pc := 459) dL_law_459 ?_
        refine PW.iadd (pc := 460) dL_law_460 ?_
        refine PW.sld (pc := 461) dL_law_461 (by omega) (by omega) (by omega) ?_
        refine PW.invV0 (pc := 462) dL_law_462 mv_L_62 (p_deep _ h (rg_of _) (rg_of _)) (by first | assumption | rfl) rfl rfl (Nat.le_of_ble_eq_true rfl) ?_
        (rintro v Γ' I1 R1 ⟨rfl, rfl, y1, r1, h1⟩)
        have M1 := M.hi (r1 112 (by omega))
        have V1 := V.hi y1
        refine PW.aload_n (pc := 465) dL_law_465 rfl ?_
        refine PW.aload_n (pc := 466) dL_law_466 rfl ?_
        refine PW.iload_n (pc := 467) dL_law_467 rfl ?_
        refine PW.iconst (pc := 468) dL_law_468 ?_
        refine PW.iadd (pc := 469) dL_law_469 ?_
        refine PW.sld (pc := 470) dL_law_470 (by omega) (by omega) (by omega) ?_
        refine PW.aload_n (pc := 471) dL_law_471 rfl ?_
        refine PW.iload_n (pc := 472) dL_law_472 rfl ?_
        refine PW.iconst (pc := 473) dL_law_473 ?_
        refine PW.iadd (pc := 474) dL_law_474 ?_
        refine PW.sld (pc := 475) dL_law_475 (by omega) (by omega) (by omega) ?_
        refine PW.invV0 (pc := 476) dL_law_476 mv_L_65 (q_deep _ M1 V1 (rg_of _) (rg_of _)) (by first | assumption | rfl) rfl rfl (Nat.le_of_ble_eq_true rfl) ?_
        (rintro v Γ' I2 R2 ⟨rfl, rfl, rfl, y2, V2⟩)
        have h2 := h1.ext (fun _ _ q => q) y2 (fun _ _ => rfl)
        refine PW.icmp_same (pc := 479) (tgt := 743) dL_law_479 (by decide) ?_
        exact nx _ _ _ h2 M1 V2
      have K12 : PW sc (mLaw nm) 31 0 0 LPo 484 [some (.inr (some 100000)), some (.inr (some 0)), some (.inr (some 112)), some (.inl i)] [] Γ I R := by
        refine PW.aload_n (pc := 484) dL_law_484 rfl ?_
        refine PW.aload_n (pc := 485) dL_law_485 rfl ?_
        refine PW.iload_n (pc := 486) dL_law_486 rfl ?_
        refine PW.iconst (pc := 487) dL_law_487 ?_
        refine PW.iadd (pc := 488) dL_law_488 ?_
        refine PW.sld (pc := 489) dL_law_489 (by omega) (by omega) (by omega) ?_
        refine PW.aload_n (pc := 490) dL_law_490 rfl ?_
        refine PW.iload_n (pc := 491) dL_law_491 rfl ?_
        refine PW.iconst (pc := 492) dL_law_492 ?_
        refine PW.iadd (pc := 493) dL_law_493 ?_
        refine PW.sld (pc := 494) dL_law_494 (by omega) (by omega) (by omega) ?_
        refine PW.aload_n (pc := 495) dL_law_495 rfl ?_
        refine PW.iload_n (pc := 496) dL_law_496 rfl ?_
        refine PW.iconst (pc := 497) dL_law_497 ?_
        refine PW.iadd (pc := 498) dL_law_498 ?_
        refine PW.sld (pc := 499) dL_law_499 (by omega) (by omega) (by omega) ?_
        refine PW.invV0 (pc := 500) dL_law_500 mv_L_66 (p_term _ h (rg_of _) (rg_of _) (rg_of _)) (by first | assumption | rfl) rfl rfl (Nat.le_of_ble_eq_true rfl) ?_
        (rintro v Γ' I1 R1 ⟨rfl, rfl, y1, r1, h1⟩)
        have M1 := M.hi (r1 112 (by omega))
        have V1 := V.hi y1
        refine PW.aload_n (pc := 503) dL_law_503 rfl ?_
        refine PW.aload_n (pc := 504) dL_law_504 rfl ?_
        refine PW.iload_n (pc := 505) dL_law_505 rfl ?_
        refine PW.iconst (pc := 506) dL_law_506 ?_
        refine PW.iadd (pc := 507) dL_law_507 ?_
        refine PW.sld (pc := 508) dL_law_508 (by omega) (by omega) (by omega) ?_
        refine PW.aload_n (pc := 509) dL_law_509 rfl ?_
        refine PW.iload_n (pc := 510) dL_law_510 rfl ?_
        refine PW.iconst (pc := 511) dL_law_511 ?_
        refine PW.iadd (pc := 512) dL_law_512 ?_
        refine PW.sld (pc := 513) dL_law_513 (by omega) (by omega) (by omega) ?_
        refine PW.aload_n (pc := 514) dL_law_514 rfl ?_
        refine PW.iload_n (pc := 515) dL_law_515 rfl ?_
        refine PW.iconst (pc := 516) dL_law_516 ?_
        refine PW.iadd (pc := 517) dL_law_517 ?_
        refine PW.sld (pc := 518) dL_law_518 (by omega) (by omega) (by omega) ?_
        refine PW.invV0 (pc := 519) dL_law_519 mv_L_69 (q_term _ M1 V1 (rg_of _) (rg_of _) (rg_of _)) (by first | assumption | rfl) rfl rfl (Nat.le_of_ble_eq_true rfl) ?_
        (rintro v Γ' I2 R2 ⟨rfl, rfl, rfl, y2, V2⟩)
        have h2 := h1.ext (fun _ _ q => q) y2 (fun _ _ => rfl)
        refine PW.icmp_same (pc := 522) (tgt := 743) dL_law_522 (by decide) ?_
        exact nx _ _ _ h2 M1 V2
      have K13 : PW sc (mLaw nm) 31 0 0 LPo 527 [some (.inr (some 100000)), some (.inr (some 0)), some (.inr (some 112)), some (.inl i)] [] Γ I R := by
        refine PW.aload_n (pc := 527) dL_law_527 rfl ?_
        refine PW.aload_n (pc := 528) dL_law_528 rfl ?_
        refine PW.iload_n (pc := 529) dL_law_529 rfl ?_
        refine PW.iconst (pc := 530) dL_law_530 ?_
        refine PW.iadd (pc := 531) dL_law_531 ?_
        refine PW.sld (pc := 532) dL_law_532 (by omega) (by omega) (by omega) ?_
        refine PW.invV0 (pc := 533) dL_law_533 mv_L_70 (p_step _ h (rg_of _)) (by first | assumption | rfl) rfl rfl (Nat.le_of_ble_eq_true rfl) ?_
        (rintro v Γ' I1 R1 ⟨rfl, rfl, y1, r1, h1⟩)
        have M1 := M.hi (r1 112 (by omega))
        have V1 := V.hi y1
        refine PW.aload_n (pc := 536) dL_law_536 rfl ?_
        refine PW.aload_n (pc := 537) dL_law_537 rfl ?_
        refine PW.iload_n (pc := 538) dL_law_538 rfl ?_
        refine PW.iconst (pc := 539) dL_law_539 ?_
        refine PW.iadd (pc := 540) dL_law_540 ?_
        refine PW.sld (pc := 541) dL_law_541 (by omega) (by omega) (by omega) ?_
        refine PW.invV0 (pc := 542) dL_law_542 mv_L_73 (q_step _ M1 V1 (rg_of _)) (by first | assumption | rfl) rfl rfl (Nat.le_of_ble_eq_true rfl) ?_
        (rintro v Γ' I2 R2 ⟨rfl, rfl, rfl, y2, V2⟩)
        have h2 := h1.ext (fun _ _ q => q) y2 (fun _ _ => rfl)
        refine PW.icmp_same (pc := 545) (tgt := 743) dL_law_545 (by decide) ?_
        exact nx _ _ _ h2 M1 V2
      have K14 : PW sc (mLaw nm) 31 0 0 LPo 550 [some (.inr (some 100000)), some (.inr (some 0)), some (.inr (some 112)), some (.inl i)] [] Γ I R := by
        refine PW.aload_n (pc := 550) dL_law_550 rfl ?_
        refine PW.invV0 (pc := 551) dL_law_551 mv_L_74 (p_length _ h) (by first | assumption | rfl) rfl rfl (Nat.le_of_ble_eq_true rfl) ?_
        (rintro v Γ' I1 R1 ⟨rfl, rfl, y1, r1, h1⟩)
        have M1 := M.hi (r1 112 (by omega))
        have V1 := V.hi y1
        refine PW.aload_n (pc := 554) dL_law_554 rfl ?_
        refine PW.invV0 (pc := 555) dL_law_555 mv_L_77 (q_length _ M1 V1) (by first | assumption | rfl) rfl rfl (Nat.le_of_ble_eq_true rfl) ?_
        (rintro v Γ' I2 R2 ⟨rfl, rfl, rfl, y2, V2⟩)
        have h2 := h1.ext (fun _ _ q => q) y2 (fun _ _ => rfl)
        refine PW.icmp_same (pc := 558) (tgt := 743) dL_law_558 (by decide) ?_
        exact nx _ _ _ h2 M1 V2
      have K15 : PW sc (mLaw nm) 31 0 0 LPo 563 [some (.inr (some 100000)), some (.inr (some 0)), some (.inr (some 112)), some (.inl i)] [] Γ I R := by
        refine PW.aload_n (pc := 563) dL_law_563 rfl ?_
        refine PW.invV0 (pc := 564) dL_law_564 mv_L_78 (p_wrong _ h) (by first | assumption | rfl) rfl rfl (Nat.le_of_ble_eq_true rfl) ?_
        (rintro v Γ' I1 R1 ⟨rfl, rfl, y1, r1, h1⟩)
        have M1 := M.hi (r1 112 (by omega))
        have V1 := V.hi y1
        refine PW.aload_n (pc := 567) dL_law_567 rfl ?_
        refine PW.invV0 (pc := 568) dL_law_568 mv_L_81 (q_wrong _ M1 V1) (by first | assumption | rfl) rfl rfl (Nat.le_of_ble_eq_true rfl) ?_
        (rintro v Γ' I2 R2 ⟨rfl, rfl, rfl, y2, V2⟩)
        have h2 := h1.ext (fun _ _ q => q) y2 (fun _ _ => rfl)
        refine PW.icmp_same (pc := 571) (tgt := 743) dL_law_571 (by decide) ?_
        exact nx _ _ _ h2 M1 V2
      have K16 : PW sc (mLaw nm) 31 0 0 LPo 576 [some (.inr (some 100000)), some (.inr (some 0)), some (.inr (some 112)), some (.inl i)] [] Γ I R := by
        refine PW.aload_n (pc := 576) dL_law_576 rfl ?_
        refine PW.invV0 (pc := 577) dL_law_577 mv_L_82 (p_needed _ h) (by first | assumption | rfl) rfl rfl (Nat.le_of_ble_eq_true rfl) ?_
        (rintro v Γ' I1 R1 ⟨rfl, rfl, y1, r1, h1⟩)
        have M1 := M.hi (r1 112 (by omega))
        have V1 := V.hi y1
        refine PW.aload_n (pc := 580) dL_law_580 rfl ?_
        refine PW.invV0 (pc := 581) dL_law_581 mv_L_85 (q_needed _ M1 V1) (by first | assumption | rfl) rfl rfl (Nat.le_of_ble_eq_true rfl) ?_
        (rintro v Γ' I2 R2 ⟨rfl, rfl, rfl, y2, V2⟩)
        have h2 := h1.ext (fun _ _ q => q) y2 (fun _ _ => rfl)
        refine PW.icmp_same (pc := 584) (tgt := 743) dL_law_584 (by decide) ?_
        exact nx _ _ _ h2 M1 V2
      have K17 : PW sc (mLaw nm) 31 0 0 LPo 589 [some (.inr (some 100000)), some (.inr (some 0)), some (.inr (some 112)), some (.inl i)] [] Γ I R := by
        refine PW.aload_n (pc := 589) dL_law_589 rfl ?_
        refine PW.invV0 (pc := 590) dL_law_590 mv_L_86 (p_fewest _ h) (by first | assumption | rfl) rfl rfl (Nat.le_of_ble_eq_true rfl) ?_
        (rintro v Γ' I1 R1 ⟨rfl, rfl, y1, r1, h1⟩)
        have M1 := M.hi (r1 112 (by omega))
        have V1 := V.hi y1
        refine PW.aload_n (pc := 593) dL_law_593 rfl ?_
        refine PW.invV0 (pc := 594) dL_law_594 mv_L_89 (q_fewest _ M1 V1) (by first | assumption | rfl) rfl rfl (Nat.le_of_ble_eq_true rfl) ?_
        (rintro v Γ' I2 R2 ⟨rfl, rfl, rfl, y2, V2⟩)
        have h2 := h1.ext (fun _ _ q => q) y2 (fun _ _ => rfl)
        refine PW.icmp_same (pc := 597) (tgt := 743) dL_law_597 (by decide) ?_
        exact nx _ _ _ h2 M1 V2
      have K18 : PW sc (mLaw nm) 31 0 0 LPo 602 [some (.inr (some 100000)), some (.inr (some 0)), some (.inr (some 112)), some (.inl i)] [] Γ I R := by
        refine PW.aload_n (pc := 602) dL_law_602 rfl ?_
        refine PW.aload_n (pc := 603) dL_law_603 rfl ?_
        refine PW.iload_n (pc := 604) dL_law_604 rfl ?_
        refine PW.iconst (pc := 605) dL_law_605 ?_
        refine PW.iadd (pc := 606) dL_law_606 ?_
        refine PW.sld (pc := 607) dL_law_607 (by omega) (by omega) (by omega) ?_
        refine PW.invV0 (pc := 608) dL_law_608 mv_L_90 (p_broken _ h (rg_of _)) (by first | assumption | rfl) rfl rfl (Nat.le_of_ble_eq_true rfl) ?_
        (rintro v Γ' I1 R1 ⟨rfl, rfl, y1, r1, h1⟩)
        have M1 := M.hi (r1 112 (by omega))
        have V1 := V.hi y1
        refine PW.aload_n (pc := 611) dL_law_611 rfl ?_
        refine PW.aload_n (pc := 612) dL_law_612 rfl ?_
        refine PW.iload_n (pc := 613) dL_law_613 rfl ?_
        refine PW.iconst (pc := 614) dL_law_614 ?_
        refine PW.iadd (pc := 615) dL_law_615 ?_
        refine PW.sld (pc := 616) dL_law_616 (by omega) (by omega) (by omega) ?_
        refine PW.invV0 (pc := 617) dL_law_617 mv_L_93 (q_broken _ M1 V1 (rg_of _)) (by first | assumption | rfl) rfl rfl (Nat.le_of_ble_eq_true rfl) ?_
        (rintro v Γ' I2 R2 ⟨rfl, rfl, rfl, y2, V2⟩)
        have h2 := h1.ext (fun _ _ q => q) y2 (fun _ _ => rfl)
        refine PW.icmp_same (pc := 620) (tgt := 743) dL_law_620 (by decide) ?_
        exact nx _ _ _ h2 M1 V2
      have K19 : PW sc (mLaw nm) 31 0 0 LPo 625 [some (.inr (some 100000)), some (.inr (some 0)), some (.inr (some 112)), some (.inl i)] [] Γ I R := by
        refine PW.aload_n (pc := 625) dL_law_625 rfl ?_
        refine PW.aload_n (pc := 626) dL_law_626 rfl ?_
        refine PW.iload_n (pc := 627) dL_law_627 rfl ?_
        refine PW.iconst (pc := 628) dL_law_628 ?_
        refine PW.iadd (pc := 629) dL_law_629 ?_
        refine PW.sld (pc := 630) dL_law_630 (by omega) (by omega) (by omega) ?_
        refine PW.invV0 (pc := 631) dL_law_631 mv_L_94 (p_sees _ h (rg_of _)) (by first | assumption | rfl) rfl rfl (Nat.le_of_ble_eq_true rfl) ?_
        (rintro v Γ' I1 R1 ⟨rfl, rfl, y1, r1, h1⟩)
        have M1 := M.hi (r1 112 (by omega))
        have V1 := V.hi y1
        refine PW.aload_n (pc := 634) dL_law_634 rfl ?_
        refine PW.aload_n (pc := 635) dL_law_635 rfl ?_
        refine PW.iload_n (pc := 636) dL_law_636 rfl ?_
        refine PW.iconst (pc := 637) dL_law_637 ?_
        refine PW.iadd (pc := 638) dL_law_638 ?_
        refine PW.sld (pc := 639) dL_law_639 (by omega) (by omega) (by omega) ?_
        refine PW.invV0 (pc := 640) dL_law_640 mv_L_97 (q_sees _ M1 V1 (rg_of _)) (by first | assumption | rfl) rfl rfl (Nat.le_of_ble_eq_true rfl) ?_
        (rintro v Γ' I2 R2 ⟨rfl, rfl, rfl, y2, V2⟩)
        have h2 := h1.ext (fun _ _ q => q) y2 (fun _ _ => rfl)
        refine PW.icmp_same (pc := 643) (tgt := 743) dL_law_643 (by decide) ?_
        exact nx _ _ _ h2 M1 V2
      have K20 : PW sc (mLaw nm) 31 0 0 LPo 648 [some (.inr (some 100000)), some (.inr (some 0)), some (.inr (some 112)), some (.inl i)] [] Γ I R := by
        refine PW.aload_n (pc := 648) dL_law_648 rfl ?_
        refine PW.invV0 (pc := 649) dL_law_649 mv_L_98 (p_forget _ h) (by first | assumption | rfl) rfl rfl (Nat.le_of_ble_eq_true rfl) ?_
        (rintro v Γ' I1 R1 ⟨rfl, rfl, y1, r1, h1⟩)
        have M1 := M.hi (r1 112 (by omega))
        have V1 := V.hi y1
        refine PW.aload_n (pc := 652) dL_law_652 rfl ?_
        refine PW.invV0 (pc := 653) dL_law_653 mv_L_101 (q_forget _ M1 V1) (by first | assumption | rfl) rfl rfl (Nat.le_of_ble_eq_true rfl) ?_
        (rintro v Γ' I2 R2 ⟨rfl, rfl, rfl, y2, V2⟩)
        have h2 := h1.ext (fun _ _ q => q) y2 (fun _ _ => rfl)
        refine PW.icmp_same (pc := 656) (tgt := 743) dL_law_656 (by decide) ?_
        exact nx _ _ _ h2 M1 V2
      have K21 : PW sc (mLaw nm) 31 0 0 LPo 661 [some (.inr (some 100000)), some (.inr (some 0)), some (.inr (some 112)), some (.inl i)] [] Γ I R := by
        refine PW.aload_n (pc := 661) dL_law_661 rfl ?_
        refine PW.invV0 (pc := 662) dL_law_662 mv_L_102 (p_unseen _ h) (by first | assumption | rfl) rfl rfl (Nat.le_of_ble_eq_true rfl) ?_
        (rintro v Γ' I1 R1 ⟨rfl, rfl, y1, r1, h1⟩)
        have M1 := M.hi (r1 112 (by omega))
        have V1 := V.hi y1
        refine PW.aload_n (pc := 665) dL_law_665 rfl ?_
        refine PW.invV0 (pc := 666) dL_law_666 mv_L_105 (q_unseen _ M1 V1) (by first | assumption | rfl) rfl rfl (Nat.le_of_ble_eq_true rfl) ?_
        (rintro v Γ' I2 R2 ⟨rfl, rfl, rfl, y2, V2⟩)
        have h2 := h1.ext (fun _ _ q => q) y2 (fun _ _ => rfl)
        refine PW.icmp_same (pc := 669) (tgt := 743) dL_law_669 (by decide) ?_
        exact nx _ _ _ h2 M1 V2
      have K22 : PW sc (mLaw nm) 31 0 0 LPo 674 [some (.inr (some 100000)), some (.inr (some 0)), some (.inr (some 112)), some (.inl i)] [] Γ I R := by
        refine PW.aload_n (pc := 674) dL_law_674 rfl ?_
        refine PW.aload_n (pc := 675) dL_law_675 rfl ?_
        refine PW.iload_n (pc := 676) dL_law_676 rfl ?_
        refine PW.iconst (pc := 677) dL_law_677 ?_
        refine PW.iadd (pc := 678) dL_law_678 ?_
        refine PW.sld (pc := 679) dL_law_679 (by omega) (by omega) (by omega) ?_
        refine PW.invV0 (pc := 680) dL_law_680 mv_L_106 (p_keep _ h (rg_of _)) (by first | assumption | rfl) rfl rfl (Nat.le_of_ble_eq_true rfl) ?_
        (rintro v Γ' I1 R1 ⟨rfl, rfl, y1, r1, h1⟩)
        have M1 := M.hi (r1 112 (by omega))
        have V1 := V.hi y1
        refine PW.aload_n (pc := 683) dL_law_683 rfl ?_
        refine PW.aload_n (pc := 684) dL_law_684 rfl ?_
        refine PW.iload_n (pc := 685) dL_law_685 rfl ?_
        refine PW.iconst (pc := 686) dL_law_686 ?_
        refine PW.iadd (pc := 687) dL_law_687 ?_
        refine PW.sld (pc := 688) dL_law_688 (by omega) (by omega) (by omega) ?_
        refine PW.invV0 (pc := 689) dL_law_689 mv_L_109 (q_keep _ M1 V1 (rg_of _)) (by first | assumption | rfl) rfl rfl (Nat.le_of_ble_eq_true rfl) ?_
        (rintro v Γ' I2 R2 ⟨rfl, rfl, rfl, y2, V2⟩)
        have h2 := h1.ext (fun _ _ q => q) y2 (fun _ _ => rfl)
        refine PW.icmp_same (pc := 692) (tgt := 743) dL_law_692 (by decide) ?_
        exact nx _ _ _ h2 M1 V2
      have K23 : PW sc (mLaw nm) 31 0 0 LPo 697 [some (.inr (some 100000)), some (.inr (some 0)), some (.inr (some 112)), some (.inl i)] [] Γ I R := by
        refine PW.aload_n (pc := 697) dL_law_697 rfl ?_
        refine PW.aload_n (pc := 698) dL_law_698 rfl ?_
        refine PW.iload_n (pc := 699) dL_law_699 rfl ?_
        refine PW.iconst (pc := 700) dL_law_700 ?_
        refine PW.iadd (pc := 701) dL_law_701 ?_
        refine PW.sld (pc := 702) dL_law_702 (by omega) (by omega) (by omega) ?_
        refine PW.invV0 (pc := 703) dL_law_703 mv_L_110 (p_back _ h (rg_of _)) (by first | assumption | rfl) rfl rfl (Nat.le_of_ble_eq_true rfl) ?_
        (rintro v Γ' I1 R1 ⟨rfl, rfl, y1, r1, h1⟩)
        have M1 := M.hi (r1 112 (by omega))
        have V1 := V.hi y1
        refine PW.aload_n (pc := 706) dL_law_706 rfl ?_
        refine PW.aload_n (pc := 707) dL_law_707 rfl ?_
        refine PW.iload_n (pc := 708) dL_law_708 rfl ?_
        refine PW.iconst (pc := 709) dL_law_709 ?_
        refine PW.iadd (pc := 710) dL_law_710 ?_
        refine PW.sld (pc := 711) dL_law_711 (by omega) (by omega) (by omega) ?_
        refine PW.invV0 (pc := 712) dL_law_712 mv_L_113 (q_back _ M1 V1 (rg_of _)) (by first | assumption | rfl) rfl rfl (Nat.le_of_ble_eq_true rfl) ?_
        (rintro v Γ' I2 R2 ⟨rfl, rfl, rfl, y2, V2⟩)
        have h2 := h1.ext (fun _ _ q => q) y2 (fun _ _ => rfl)
        refine PW.icmp_same (pc := 715) (tgt := 743) dL_law_715 (by decide) ?_
        exact nx _ _ _ h2 M1 V2
      have K24 : PW sc (mLaw nm) 31 0 0 LPo 720 [some (.inr (some 100000)), some (.inr (some 0)), some (.inr (some 112)), some (.inl i)] [] Γ I R := by
        refine PW.aload_n (pc := 720) dL_law_720 rfl ?_
        refine PW.aload_n (pc := 721) dL_law_721 rfl ?_
        refine PW.iload_n (pc := 722) dL_law_722 rfl ?_
        refine PW.iconst (pc := 723) dL_law_723 ?_
        refine PW.iadd (pc := 724) dL_law_724 ?_
        refine PW.sld (pc := 725) dL_law_725 (by omega) (by omega) (by omega) ?_
        refine PW.invV0 (pc := 726) dL_law_726 mv_L_114 (p_count _ h (rg_of _)) (by first | assumption | rfl) rfl rfl (Nat.le_of_ble_eq_true rfl) ?_
        (rintro v Γ' I1 R1 ⟨rfl, rfl, y1, r1, h1⟩)
        have M1 := M.hi (r1 112 (by omega))
        have V1 := V.hi y1
        refine PW.aload_n (pc := 729) dL_law_729 rfl ?_
        refine PW.aload_n (pc := 730) dL_law_730 rfl ?_
        refine PW.iload_n (pc := 731) dL_law_731 rfl ?_
        refine PW.iconst (pc := 732) dL_law_732 ?_
        refine PW.iadd (pc := 733) dL_law_733 ?_
        refine PW.sld (pc := 734) dL_law_734 (by omega) (by omega) (by omega) ?_
        refine PW.invV0 (pc := 735) dL_law_735 mv_L_117 (q_count _ M1 V1 (rg_of _)) (by first | assumption | rfl) rfl rfl (Nat.le_of_ble_eq_true rfl) ?_
        (rintro v Γ' I2 R2 ⟨rfl, rfl, rfl, y2, V2⟩)
        have h2 := h1.ext (fun _ _ q => q) y2 (fun _ _ => rfl)
        refine PW.icmp_same (pc := 738) (tgt := 743) dL_law_738 (by decide) ?_
        exact nx _ _ _ h2 M1 V2
      have sw : ∀ v : Int, 0 ≤ v → v ≤ 31 → PW sc (mLaw nm) 31 0 0 LPo 33 [some (.inr (some 100000)), some (.inr (some 0)), some (.inr (some 112)), some (.inl i)] [.inl v] Γ I R := by
        intro v v0 v1
        rcases (show v = 0 ∨ v = 1 ∨ v = 2 ∨ v = 3 ∨ v = 4 ∨ v = 5 ∨ v = 6 ∨ v = 7 ∨ v = 8 ∨ v = 9 ∨ v = 10 ∨ v = 11 ∨ v = 12 ∨ v = 13 ∨ v = 14 ∨ v = 15 ∨ v = 16 ∨ v = 17 ∨ v = 18 ∨ v = 19 ∨ v = 20 ∨ v = 21 ∨ v = 22 ∨ v = 23 ∨ v = 24 ∨ 24 < v by omega) with rfl | rfl | rfl | rfl | rfl | rfl | rfl | rfl | rfl | rfl | rfl | rfl | rfl | rfl | rfl | rfl | rfl | rfl | rfl | rfl | rfl | rfl | rfl | rfl | rfl | g
        · exact PW.tableIn (pc := 33) (tgt := 148) dL_law_33 (by omega) (by omega) (by omega) (off := 115) rfl (by decide) K0
        · exact PW.tableIn (pc := 33) (tgt := 171) dL_law_33 (by omega) (by omega) (by omega) (off := 138) rfl (by decide) K1
        · exact PW.tableIn (pc := 33) (tgt := 184) dL_law_33 (by omega) (by omega) (by omega) (off := 151) rfl (by decide) K2
        · exact PW.tableIn (pc := 33) (tgt := 197) dL_law_33 (by omega) (by omega) (by omega) (off := 164) rfl (by decide) K3
        · exact PW.tableIn (pc := 33) (tgt := 230) dL_law_33 (by omega) (by omega) (by omega) (off := 197) rfl (by decide) K4
        · exact PW.tableIn (pc := 33) (tgt := 293) dL_law_33 (by omega) (by omega) (by omega) (off := 260) rfl (by decide) K5
        · exact PW.tableIn (pc := 33) (tgt := 316) dL_law_33 (by omega) (by omega) (by omega) (off := 283) rfl (by decide) K6
        · exact PW.tableIn (pc := 33) (tgt := 359) dL_law_33 (by omega) (by omega) (by omega) (off := 326) rfl (by decide) K7
        · exact PW.tableIn (pc := 33) (tgt := 372) dL_law_33 (by omega) (by omega) (by omega) (off := 339) rfl (by decide) K8
        · exact PW.tableIn (pc := 33) (tgt := 395) dL_law_33 (by omega) (by omega) (by omega) (off := 362) rfl (by decide) K9
        · exact PW.tableIn (pc := 33) (tgt := 408) dL_law_33 (by omega) (by omega) (by omega) (off := 375) rfl (by decide) K10
        · exact PW.tableIn (pc := 33) (tgt := 451) dL_law_33 (by omega) (by omega) (by omega) (off := 418) rfl (by decide) K11
        · exact PW.tableIn (pc := 33) (tgt := 484) dL_law_33 (by omega) (by omega) (by omega) (off := 451) rfl (by decide) K12
        · exact PW.tableIn (pc := 33) (tgt := 527) dL_law_33 (by omega) (by omega) (by omega) (off := 494) rfl (by decide) K13
        · exact PW.tableIn (pc := 33) (tgt := 550) dL_law_33 (by omega) (by omega) (by omega) (off := 517) rfl (by decide) K14
        · exact PW.tableIn (pc := 33) (tgt := 563) dL_law_33 (by omega) (by omega) (by omega) (off := 530) rfl (by decide) K15
        · exact PW.tableIn (pc := 33) (tgt := 576) dL_law_33 (by omega) (by omega) (by omega) (off := 543) rfl (by decide) K16
        · exact PW.tableIn (pc := 33) (tgt := 589) dL_law_33 (by omega) (by omega) (by omega) (off := 556) rfl (by decide) K17
        · exact PW.tableIn (pc := 33) (tgt := 602) dL_law_33 (by omega) (by omega) (by omega) (off := 569) rfl (by decide) K18
        · exact PW.tableIn (pc := 33) (tgt := 625) dL_law_33 (by omega) (by omega) (by omega) (off := 592) rfl (by decide) K19
        · exact PW.tableIn (pc := 33) (tgt := 648) dL_law_33 (by omega) (by omega) (by omega) (off := 615) rfl (by decide) K20
        · exact PW.tableIn (pc := 33) (tgt := 661) dL_law_33 (by omega) (by omega) (by omega) (off := 628) rfl (by decide) K21
        · exact PW.tableIn (pc := 33) (tgt := 674) dL_law_33 (by omega) (by omega) (by omega) (off := 641) rfl (by decide) K22
        · exact PW.tableIn (pc := 33) (tgt := 697) dL_law_33 (by omega) (by omega) (by omega) (off := 664) rfl (by decide) K23
        · exact PW.tableIn (pc := 33) (tgt := 720) dL_law_33 (by omega) (by omega) (by omega) (off := 687) rfl (by decide) K24
        · exact PW.tableOut (pc := 33) (tgt := 743) dL_law_33 (by omega) (Or.inr g) (by decide) (nx s I R h M V)
      refine PW.iload_n (pc := 18) dL_law_18 rfl ?_
      refine PW.aload_n (pc := 19) dL_law_19 rfl ?_
      refine PW.slen (pc := 20) dL_law_20 ?_
      refine PW.bipush (pc := 21) dL_law_21 (by decide) ?_
      refine PW.isub (pc := 23) dL_law_23 ?_
      refine PW.icmp_gt (pc := 24) (tgt := 749) dL_law_24 (by decide) (by first | omega | exact rg_of _) (by first | omega | exact rg_of _) (fun c_24 => ?_) (fun c_24 => ?_)
      · omega
      · refine PW.aload_n (pc := 27) dL_law_27 rfl ?_
        refine PW.iload_n (pc := 28) dL_law_28 rfl ?_
        refine PW.sld (pc := 29) dL_law_29 (by omega) (by omega) (by omega) ?_
        refine PW.bipush (pc := 30) dL_law_30 (by decide) ?_
        refine PW.iand (pc := 32) dL_law_32 ?_
        exact sw _ (and31 _).1 (and31 _).2
    · refine PW.iload_n (pc := 18) dL_law_18 rfl ?_
      refine PW.aload_n (pc := 19) dL_law_19 rfl ?_
      refine PW.slen (pc := 20) dL_law_20 ?_
      refine PW.bipush (pc := 21) dL_law_21 (by decide) ?_
      refine PW.isub (pc := 23) dL_law_23 ?_
      refine PW.icmp_gt (pc := 24) (tgt := 749) dL_law_24 (by decide) (by first | omega | exact rg_of _) (by first | omega | exact rg_of _) (fun c_24 => ?_) (fun c_24 => ?_)
      · refine PW.iconst (pc := 749) dL_law_749 ?_
        exact PW.zreturn (pc := 750) dL_law_750 rfl (by first | exact Or.inl rfl | exact Or.inr rfl | omega) (rfl)
      · omega
end LAWLOOP
