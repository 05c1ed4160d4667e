/-! THE LAW: a case each -/
set_option maxRecDepth 100000 in
set_option maxHeartbeats 4000000 in
theorem w_feed (L : Nat) (f : Nat → Int) (hL : L ≤ 2048) (hf : ∀ j, x_in (f j)) (i : Int) (hi : 0 ≤ i ∧ i + 4 ≤ L) (ν : xM) (h : LR ν) (K : ∀ ν2, LR ν2 → X (EL L f) shL 20 yL_law cL_law 4 (some .boolean) 766 [some (.inr (.inl (1000 + 2))), some (.inr (.inl 0)), some (.inr (.inl 51)), some (.inl i)] [] ν2 (fun r _ => r = some (.inl 1))) : X (EL L f) shL 20 yL_law cL_law 4 (some .boolean) 152 [some (.inr (.inl (1000 + 2))), some (.inr (.inl 0)), some (.inr (.inl 51)), some (.inl i)] [] ν (fun r _ => r = some (.inl 1)) := by
  refine x_aload_n (i := 1) dL_law_152 rfl rfl ?_
  refine x_aload_n (i := 0) dL_law_153 rfl rfl ?_
  refine x_iload_n (i := 3) dL_law_154 rfl rfl ?_
  refine x_iconst dL_law_155 ?_
  refine x_iadd dL_law_156 ?_
  refine x_roald dL_law_157 rfl (by omega) (by omega) (by omega) ?_
  refine x_aload_n (i := 0) dL_law_158 rfl rfl ?_
  refine x_iload_n (i := 3) dL_law_159 rfl rfl ?_
  refine x_iconst dL_law_160 ?_
  refine x_iadd dL_law_161 ?_
  refine x_roald dL_law_162 rfl (by omega) (by omega) (by omega) ?_
  refine x_i2l dL_law_163 ?_
  refine x_bipush dL_law_164 (by decide) ?_
  refine x_lshl dL_law_166 ?_
  refine x_aload_n (i := 0) dL_law_167 rfl rfl ?_
  refine x_iload_n (i := 3) dL_law_168 rfl rfl ?_
  refine x_iconst dL_law_169 ?_
  refine x_iadd dL_law_170 ?_
  refine x_roald dL_law_171 rfl (by omega) (by omega) (by omega) ?_
  refine x_i2l dL_law_172 ?_
  refine x_ldc2 dL_law_173 ck_RL_13 ?_
  refine x_land dL_law_176 ?_
  refine x_lor dL_law_177 ?_
  refine x_cI_IL (o := 0) IS1 lk_RL_15 xm_X5_feed dL_law_178 (x_atR (s5_feed _ (hf _) _ ν (NM ν) h) 51) (fun a ν1 hq => ?_) (he := he5)
  obtain ⟨ea, hc⟩ := hq
  replace ea := Sum.inl.inj (Option.some.inj ea)
  subst ea
  refine x_aload_n (i := 2) dL_law_181 rfl rfl ?_
  refine x_aload_n (i := 0) dL_law_182 rfl rfl ?_
  refine x_iload_n (i := 3) dL_law_183 rfl rfl ?_
  refine x_iconst dL_law_184 ?_
  refine x_iadd dL_law_185 ?_
  refine x_roald dL_law_186 rfl (by omega) (by omega) (by omega) ?_
  skip
  refine x_aload_n (i := 0) dL_law_187 rfl rfl ?_
  refine x_iload_n (i := 3) dL_law_188 rfl rfl ?_
  refine x_iconst dL_law_189 ?_
  refine x_iadd dL_law_190 ?_
  refine x_roald dL_law_191 rfl (by omega) (by omega) (by omega) ?_
  skip
  refine x_i2l dL_law_192 ?_
  refine x_bipush dL_law_193 (by decide) ?_
  refine x_lshl dL_law_195 ?_
  refine x_aload_n (i := 0) dL_law_196 rfl rfl ?_
  refine x_iload_n (i := 3) dL_law_197 rfl rfl ?_
  refine x_iconst dL_law_198 ?_
  refine x_iadd dL_law_199 ?_
  refine x_roald dL_law_200 rfl (by omega) (by omega) (by omega) ?_
  skip
  refine x_i2l dL_law_201 ?_
  refine x_ldc2 dL_law_202 ck_RL_13 ?_
  refine x_land dL_law_205 ?_
  refine x_lor dL_law_206 ?_
  refine x_cI_IL (o := 51) IS2 lk_RL_19 xm_X6_feed dL_law_207 (X_congr (NM_ct ν ν1) (s6_feed _ _ (hf _) (NM ν) h.gi)) (fun b κ2 hr => ?_) (he := he6)
  obtain ⟨eb, ha⟩ := hr
  replace eb := Sum.inl.inj (Option.some.inj eb)
  subst eb
  refine x_icmp_same (tgt := 766) dL_law_210 (by decide) ?_
  exact K _ (LR_step hc ha)
set_option maxRecDepth 100000 in
set_option maxHeartbeats 4000000 in
theorem w_line (L : Nat) (f : Nat → Int) (hL : L ≤ 2048) (hf : ∀ j, x_in (f j)) (i : Int) (hi : 0 ≤ i ∧ i + 4 ≤ L) (ν : xM) (h : LR ν) (K : ∀ ν2, LR ν2 → X (EL L f) shL 20 yL_law cL_law 4 (some .boolean) 766 [some (.inr (.inl (1000 + 2))), some (.inr (.inl 0)), some (.inr (.inl 51)), some (.inl i)] [] ν2 (fun r _ => r = some (.inl 1))) : X (EL L f) shL 20 yL_law cL_law 4 (some .boolean) 215 [some (.inr (.inl (1000 + 2))), some (.inr (.inl 0)), some (.inr (.inl 51)), some (.inl i)] [] ν (fun r _ => r = some (.inl 1)) := by
  refine x_aload_n (i := 1) dL_law_215 rfl rfl ?_
  refine x_cI_0 (o := 0) IS1 lk_RL_20 xm_X5_line dL_law_216 (x_atR (s5_line  ν (NM ν) h) 51) (fun a ν1 hq => ?_) (he := he5)
  obtain ⟨ea, hc⟩ := hq
  replace ea := Sum.inl.inj (Option.some.inj ea)
  subst ea
  refine x_aload_n (i := 2) dL_law_219 rfl rfl ?_
  refine x_cI_0 (o := 51) IS2 lk_RL_24 xm_X6_line dL_law_220 (X_congr (NM_ct ν ν1) (s6_line   (NM ν) h.gi)) (fun b κ2 hr => ?_) (he := he6)
  obtain ⟨eb, ha⟩ := hr
  replace eb := Sum.inl.inj (Option.some.inj eb)
  subst eb
  refine x_icmp_same (tgt := 766) dL_law_223 (by decide) ?_
  exact K _ (LR_step hc ha)
set_option maxRecDepth 100000 in
set_option maxHeartbeats 4000000 in
theorem w_piece (L : Nat) (f : Nat → Int) (hL : L ≤ 2048) (hf : ∀ j, x_in (f j)) (i : Int) (hi : 0 ≤ i ∧ i + 4 ≤ L) (ν : xM) (h : LR ν) (K : ∀ ν2, LR ν2 → X (EL L f) shL 20 yL_law cL_law 4 (some .boolean) 766 [some (.inr (.inl (1000 + 2))), some (.inr (.inl 0)), some (.inr (.inl 51)), some (.inl i)] [] ν2 (fun r _ => r = some (.inl 1))) : X (EL L f) shL 20 yL_law cL_law 4 (some .boolean) 228 [some (.inr (.inl (1000 + 2))), some (.inr (.inl 0)), some (.inr (.inl 51)), some (.inl i)] [] ν (fun r _ => r = some (.inl 1)) := by
  refine x_aload_n (i := 1) dL_law_228 rfl rfl ?_
  refine x_aload_n (i := 0) dL_law_229 rfl rfl ?_
  refine x_iload_n (i := 3) dL_law_230 rfl rfl ?_
  refine x_iconst dL_law_231 ?_
  refine x_iadd dL_law_232 ?_
  refine x_roald dL_law_233 rfl (by omega) (by omega) (by omega) ?_
  refine x_aload_n (i := 0) dL_law_234 rfl rfl ?_
  refine x_iload_n (i := 3) dL_law_235 rfl rfl ?_
  refine x_iconst dL_law_236 ?_
  refine x_iadd dL_law_237 ?_
  refine x_roald dL_law_238 rfl (by omega) (by omega) (by omega) ?_
  refine x_cI_2 (o := 0) IS1 lk_RL_25 xm_X5_piece dL_law_239 (x_atR (s5_piece _ (hf _) _ (hf _) ν (NM ν) h) 51) (fun a ν1 hq => ?_) (he := he5)
  obtain ⟨ea, hc⟩ := hq
  replace ea := Sum.inl.inj (Option.some.inj ea)
  subst ea
  refine x_aload_n (i := 2) dL_law_242 rfl rfl ?_
  refine x_aload_n (i := 0) dL_law_243 rfl rfl ?_
  refine x_iload_n (i := 3) dL_law_244 rfl rfl ?_
  refine x_iconst dL_law_245 ?_
  refine x_iadd dL_law_246 ?_
  refine x_roald dL_law_247 rfl (by omega) (by omega) (by omega) ?_
  skip
  refine x_aload_n (i := 0) dL_law_248 rfl rfl ?_
  refine x_iload_n (i := 3) dL_law_249 rfl rfl ?_
  refine x_iconst dL_law_250 ?_
  refine x_iadd dL_law_251 ?_
  refine x_roald dL_law_252 rfl (by omega) (by omega) (by omega) ?_
  skip
  refine x_cI_2 (o := 51) IS2 lk_RL_29 xm_X6_piece dL_law_253 (X_congr (NM_ct ν ν1) (s6_piece _ _ (hf _) (hf _) (NM ν) h.gi)) (fun b κ2 hr => ?_) (he := he6)
  obtain ⟨eb, ha⟩ := hr
  replace eb := Sum.inl.inj (Option.some.inj eb)
  subst eb
  refine x_icmp_same (tgt := 766) dL_law_256 (by decide) ?_
  exact K _ (LR_step hc ha)
set_option maxRecDepth 100000 in
set_option maxHeartbeats 4000000 in
theorem w_train (L : Nat) (f : Nat → Int) (hL : L ≤ 2048) (hf : ∀ j, x_in (f j)) (i : Int) (hi : 0 ≤ i ∧ i + 4 ≤ L) (ν : xM) (h : LR ν) (K : ∀ ν2, LR ν2 → X (EL L f) shL 20 yL_law cL_law 4 (some .boolean) 766 [some (.inr (.inl (1000 + 2))), some (.inr (.inl 0)), some (.inr (.inl 51)), some (.inl i)] [] ν2 (fun r _ => r = some (.inl 1))) : X (EL L f) shL 20 yL_law cL_law 4 (some .boolean) 261 [some (.inr (.inl (1000 + 2))), some (.inr (.inl 0)), some (.inr (.inl 51)), some (.inl i)] [] ν (fun r _ => r = some (.inl 1)) := by
  refine x_aload_n (i := 1) dL_law_261 rfl rfl ?_
  refine x_aload_n (i := 0) dL_law_262 rfl rfl ?_
  refine x_iload_n (i := 3) dL_law_263 rfl rfl ?_
  refine x_iconst dL_law_264 ?_
  refine x_iadd dL_law_265 ?_
  refine x_roald dL_law_266 rfl (by omega) (by omega) (by omega) ?_
  refine x_aload_n (i := 0) dL_law_267 rfl rfl ?_
  refine x_iload_n (i := 3) dL_law_268 rfl rfl ?_
  refine x_iconst dL_law_269 ?_
  refine x_iadd dL_law_270 ?_
  refine x_roald dL_law_271 rfl (by omega) (by omega) (by omega) ?_
  refine x_cI_2 (o := 0) IS1 lk_RL_30 xm_X5_train dL_law_272 (x_atR (s5_train _ (hf _) _ (hf _) ν (NM ν) h) 51) (fun a ν1 hq => ?_) (he := he5)
  obtain ⟨ea, hc⟩ := hq
  replace ea := Sum.inl.inj (Option.some.inj ea)
  subst ea
  refine x_aload_n (i := 2) dL_law_275 rfl rfl ?_
  refine x_aload_n (i := 0) dL_law_276 rfl rfl ?_
  refine x_iload_n (i := 3) dL_law_277 rfl rfl ?_
  refine x_iconst dL_law_278 ?_
  refine x_iadd dL_law_279 ?_
  refine x_roald dL_law_280 rfl (by omega) (by omega) (by omega) ?_
  skip
  refine x_aload_n (i := 0) dL_law_281 rfl rfl ?_
  refine x_iload_n (i := 3) dL_law_282 rfl rfl ?_
  refine x_iconst dL_law_283 ?_
  refine x_iadd dL_law_284 ?_
  refine x_roald dL_law_285 rfl (by omega) (by omega) (by omega) ?_
  skip
  refine x_cI_2 (o := 51) IS2 lk_RL_33 xm_X6_train dL_law_286 (X_congr (NM_ct ν ν1) (s6_train _ _ (hf _) (hf _) (NM ν) h.gi)) (fun b κ2 hr => ?_) (he := he6)
  obtain ⟨eb, ha⟩ := hr
  replace eb := Sum.inl.inj (Option.some.inj eb)
  subst eb
  refine x_icmp_same (tgt := 766) dL_law_289 (by decide) ?_
  exact K _ (LR_step hc ha)
set_option maxRecDepth 100000 in
set_option maxHeartbeats 4000000 in
theorem w_set (L : Nat) (f : Nat → Int) (hL : L ≤ 2048) (hf : ∀ j, x_in (f j)) (i : Int) (hi : 0 ≤ i ∧ i + 4 ≤ L) (ν : xM) (h : LR ν) (K : ∀ ν2, LR ν2 → X (EL L f) shL 20 yL_law cL_law 4 (some .boolean) 766 [some (.inr (.inl (1000 + 2))), some (.inr (.inl 0)), some (.inr (.inl 51)), some (.inl i)] [] ν2 (fun r _ => r = some (.inl 1))) : X (EL L f) shL 20 yL_law cL_law 4 (some .boolean) 294 [some (.inr (.inl (1000 + 2))), some (.inr (.inl 0)), some (.inr (.inl 51)), some (.inl i)] [] ν (fun r _ => r = some (.inl 1)) := by
  refine x_aload_n (i := 1) dL_law_294 rfl rfl ?_
  refine x_aload_n (i := 0) dL_law_295 rfl rfl ?_
  refine x_iload_n (i := 3) dL_law_296 rfl rfl ?_
  refine x_iconst dL_law_297 ?_
  refine x_iadd dL_law_298 ?_
  refine x_roald dL_law_299 rfl (by omega) (by omega) (by omega) ?_
  refine x_aload_n (i := 0) dL_law_300 rfl rfl ?_
  refine x_iload_n (i := 3) dL_law_301 rfl rfl ?_
  refine x_iconst dL_law_302 ?_
  refine x_iadd dL_law_303 ?_
  refine x_roald dL_law_304 rfl (by omega) (by omega) (by omega) ?_
  refine x_cI_2 (o := 0) IS1 lk_RL_34 xm_X5_set dL_law_305 (x_atR (s5_set (EL L f) ⟨rfl, rfl, rfl, rfl⟩ _ _ (hf _) (hf _) ν (NM ν) h) 51) (fun a ν1 hq => ?_) (he := he5)
  obtain ⟨ea, hc⟩ := hq
  replace ea := Sum.inl.inj (Option.some.inj ea)
  subst ea
  refine x_aload_n (i := 2) dL_law_308 rfl rfl ?_
  refine x_aload_n (i := 0) dL_law_309 rfl rfl ?_
  refine x_iload_n (i := 3) dL_law_310 rfl rfl ?_
  refine x_iconst dL_law_311 ?_
  refine x_iadd dL_law_312 ?_
  refine x_roald dL_law_313 rfl (by omega) (by omega) (by omega) ?_
  skip
  refine x_aload_n (i := 0) dL_law_314 rfl rfl ?_
  refine x_iload_n (i := 3) dL_law_315 rfl rfl ?_
  refine x_iconst dL_law_316 ?_
  refine x_iadd dL_law_317 ?_
  refine x_roald dL_law_318 rfl (by omega) (by omega) (by omega) ?_
  skip
  refine x_cI_2 (o := 51) IS2 lk_RL_37 xm_X6_set dL_law_319 (X_congr (NM_ct ν ν1) (s6_set _ _ (hf _) (hf _) (NM ν) h.gi)) (fun b κ2 hr => ?_) (he := he6)
  obtain ⟨eb, ha⟩ := hr
  replace eb := Sum.inl.inj (Option.some.inj eb)
  subst eb
  refine x_icmp_same (tgt := 766) dL_law_322 (by decide) ?_
  exact K _ (LR_step hc ha)
set_option maxRecDepth 100000 in
set_option maxHeartbeats 4000000 in
theorem w_makeDouble (L : Nat) (f : Nat → Int) (hL : L ≤ 2048) (hf : ∀ j, x_in (f j)) (i : Int) (hi : 0 ≤ i ∧ i + 4 ≤ L) (ν : xM) (h : LR ν) (K : ∀ ν2, LR ν2 → X (EL L f) shL 20 yL_law cL_law 4 (some .boolean) 766 [some (.inr (.inl (1000 + 2))), some (.inr (.inl 0)), some (.inr (.inl 51)), some (.inl i)] [] ν2 (fun r _ => r = some (.inl 1))) : X (EL L f) shL 20 yL_law cL_law 4 (some .boolean) 327 [some (.inr (.inl (1000 + 2))), some (.inr (.inl 0)), some (.inr (.inl 51)), some (.inl i)] [] ν (fun r _ => r = some (.inl 1)) := by
  refine x_aload_n (i := 1) dL_law_327 rfl rfl ?_
  refine x_aload_n (i := 0) dL_law_328 rfl rfl ?_
  refine x_iload_n (i := 3) dL_law_329 rfl rfl ?_
  refine x_iconst dL_law_330 ?_
  refine x_iadd dL_law_331 ?_
  refine x_roald dL_law_332 rfl (by omega) (by omega) (by omega) ?_
  refine x_aload_n (i := 0) dL_law_333 rfl rfl ?_
  refine x_iload_n (i := 3) dL_law_334 rfl rfl ?_
  refine x_iconst dL_law_335 ?_
  refine x_iadd dL_law_336 ?_
  refine x_roald dL_law_337 rfl (by omega) (by omega) (by omega) ?_
  refine x_if_eq (tgt := 345) dL_law_338 (by decide) (by exact hf _) (fun c1 => ?_) (fun c1 => ?_)
  · refine x_iconst dL_law_345 ?_
    refine x_cI_2 (o := 0) IS1 lk_RL_38 xm_X5_makeDouble dL_law_346 (x_atR (s5_makeDouble _ _ (hf _) (by first | exact Or.inl rfl | exact Or.inr rfl) ν (NM ν) h) 51) (fun a ν1 hq => ?_) (he := he5)
    obtain ⟨ea, hc⟩ := hq
    replace ea := Sum.inl.inj (Option.some.inj ea)
    subst ea
    refine x_aload_n (i := 2) dL_law_349 rfl rfl ?_
    refine x_aload_n (i := 0) dL_law_350 rfl rfl ?_
    refine x_iload_n (i := 3) dL_law_351 rfl rfl ?_
    refine x_iconst dL_law_352 ?_
    refine x_iadd dL_law_353 ?_
    refine x_roald dL_law_354 rfl (by omega) (by omega) (by omega) ?_
    skip
    refine x_aload_n (i := 0) dL_law_355 rfl rfl ?_
    refine x_iload_n (i := 3) dL_law_356 rfl rfl ?_
    refine x_iconst dL_law_357 ?_
    refine x_iadd dL_law_358 ?_
    refine x_roald dL_law_359 rfl (by omega) (by omega) (by omega) ?_
    skip
    refine x_if_eq (tgt := 367) dL_law_360 (by decide) (by exact hf _) (fun c2 => ?_) (fun c2 => ?_)
    · refine x_iconst dL_law_367 ?_
      refine x_cI_2 (o := 51) IS2 lk_RL_42 xm_X6_makeDouble dL_law_368 (X_congr (NM_ct ν ν1) (s6_makeDouble _ _ (hf _) (by first | exact Or.inl rfl | exact Or.inr rfl) (NM ν) h.gi)) (fun b κ2 hr => ?_) (he := he6)
      obtain ⟨eb, ha⟩ := hr
      replace eb := Sum.inl.inj (Option.some.inj eb)
      subst eb
      first | exact absurd c2 c1 | exact absurd c1 c2 | (refine x_icmp_same (tgt := 766) dL_law_371 (by decide) ?_; exact K _ (LR_step hc ha))
    · refine x_iconst dL_law_363 ?_
      refine x_goto (tgt := 368) dL_law_364 (by decide) ?_
      refine x_cI_2 (o := 51) IS2 lk_RL_42 xm_X6_makeDouble dL_law_368 (X_congr (NM_ct ν ν1) (s6_makeDouble _ _ (hf _) (by first | exact Or.inl rfl | exact Or.inr rfl) (NM ν) h.gi)) (fun b κ2 hr => ?_) (he := he6)
      obtain ⟨eb, ha⟩ := hr
      replace eb := Sum.inl.inj (Option.some.inj eb)
      subst eb
      first | exact absurd c2 c1 | exact absurd c1 c2 | (refine x_icmp_same (tgt := 766) dL_law_371 (by decide) ?_; exact K _ (LR_step hc ha))
  · refine x_iconst dL_law_341 ?_
    refine x_goto (tgt := 346) dL_law_342 (by decide) ?_
    refine x_cI_2 (o := 0) IS1 lk_RL_38 xm_X5_makeDouble dL_law_346 (x_atR (s5_makeDouble _ _ (hf _) (by first | exact Or.inl rfl | exact Or.inr rfl) ν (NM ν) h) 51) (fun a ν1 hq => ?_) (he := he5)
    obtain ⟨ea, hc⟩ := hq
    replace ea := Sum.inl.inj (Option.some.inj ea)
    subst ea
    refine x_aload_n (i := 2) dL_law_349 rfl rfl ?_
    refine x_aload_n (i := 0) dL_law_350 rfl rfl ?_
    refine x_iload_n (i := 3) dL_law_351 rfl rfl ?_
    refine x_iconst dL_law_352 ?_
    refine x_iadd dL_law_353 ?_
    refine x_roald dL_law_354 rfl (by omega) (by omega) (by omega) ?_
    skip
    refine x_aload_n (i := 0) dL_law_355 rfl rfl ?_
    refine x_iload_n (i := 3) dL_law_356 rfl rfl ?_
    refine x_iconst dL_law_357 ?_
    refine x_iadd dL_law_358 ?_
    refine x_roald dL_law_359 rfl (by omega) (by omega) (by omega) ?_
    skip
    refine x_if_eq (tgt := 367) dL_law_360 (by decide) (by exact hf _) (fun c2 => ?_) (fun c2 => ?_)
    · refine x_iconst dL_law_367 ?_
      refine x_cI_2 (o := 51) IS2 lk_RL_42 xm_X6_makeDouble dL_law_368 (X_congr (NM_ct ν ν1) (s6_makeDouble _ _ (hf _) (by first | exact Or.inl rfl | exact Or.inr rfl) (NM ν) h.gi)) (fun b κ2 hr => ?_) (he := he6)
      obtain ⟨eb, ha⟩ := hr
      replace eb := Sum.inl.inj (Option.some.inj eb)
      subst eb
      first | exact absurd c2 c1 | exact absurd c1 c2 | (refine x_icmp_same (tgt := 766) dL_law_371 (by decide) ?_; exact K _ (LR_step hc ha))
    · refine x_iconst dL_law_363 ?_
      refine x_goto (tgt := 368) dL_law_364 (by decide) ?_
      refine x_cI_2 (o := 51) IS2 lk_RL_42 xm_X6_makeDouble dL_law_368 (X_congr (NM_ct ν ν1) (s6_makeDouble _ _ (hf _) (by first | exact Or.inl rfl | exact Or.inr rfl) (NM ν) h.gi)) (fun b κ2 hr => ?_) (he := he6)
      obtain ⟨eb, ha⟩ := hr
      replace eb := Sum.inl.inj (Option.some.inj eb)
      subst eb
      first | exact absurd c2 c1 | exact absurd c1 c2 | (refine x_icmp_same (tgt := 766) dL_law_371 (by decide) ?_; exact K _ (LR_step hc ha))
set_option maxRecDepth 100000 in
set_option maxHeartbeats 4000000 in
theorem w_order (L : Nat) (f : Nat → Int) (hL : L ≤ 2048) (hf : ∀ j, x_in (f j)) (i : Int) (hi : 0 ≤ i ∧ i + 4 ≤ L) (ν : xM) (h : LR ν) (K : ∀ ν2, LR ν2 → X (EL L f) shL 20 yL_law cL_law 4 (some .boolean) 766 [some (.inr (.inl (1000 + 2))), some (.inr (.inl 0)), some (.inr (.inl 51)), some (.inl i)] [] ν2 (fun r _ => r = some (.inl 1))) : X (EL L f) shL 20 yL_law cL_law 4 (some .boolean) 376 [some (.inr (.inl (1000 + 2))), some (.inr (.inl 0)), some (.inr (.inl 51)), some (.inl i)] [] ν (fun r _ => r = some (.inl 1)) := by
  refine x_aload_n (i := 1) dL_law_376 rfl rfl ?_
  refine x_aload_n (i := 0) dL_law_377 rfl rfl ?_
  refine x_iload_n (i := 3) dL_law_378 rfl rfl ?_
  refine x_iconst dL_law_379 ?_
  refine x_iadd dL_law_380 ?_
  refine x_roald dL_law_381 rfl (by omega) (by omega) (by omega) ?_
  refine x_aload_n (i := 0) dL_law_382 rfl rfl ?_
  refine x_iload_n (i := 3) dL_law_383 rfl rfl ?_
  refine x_iconst dL_law_384 ?_
  refine x_iadd dL_law_385 ?_
  refine x_roald dL_law_386 rfl (by omega) (by omega) (by omega) ?_
  refine x_cI_2 (o := 0) IS1 lk_RL_43 xm_X5_order dL_law_387 (x_atR (s5_order _ (hf _) _ (hf _) ν (NM ν) h) 51) (fun a ν1 hq => ?_) (he := he5)
  obtain ⟨ea, hc⟩ := hq
  replace ea := Sum.inl.inj (Option.some.inj ea)
  subst ea
  refine x_aload_n (i := 2) dL_law_390 rfl rfl ?_
  refine x_aload_n (i := 0) dL_law_391 rfl rfl ?_
  refine x_iload_n (i := 3) dL_law_392 rfl rfl ?_
  refine x_iconst dL_law_393 ?_
  refine x_iadd dL_law_394 ?_
  refine x_roald dL_law_395 rfl (by omega) (by omega) (by omega) ?_
  skip
  refine x_aload_n (i := 0) dL_law_396 rfl rfl ?_
  refine x_iload_n (i := 3) dL_law_397 rfl rfl ?_
  refine x_iconst dL_law_398 ?_
  refine x_iadd dL_law_399 ?_
  refine x_roald dL_law_400 rfl (by omega) (by omega) (by omega) ?_
  skip
  refine x_cI_2 (o := 51) IS2 lk_RL_46 xm_X6_order dL_law_401 (X_congr (NM_ct ν ν1) (s6_order _ _ (hf _) (hf _) (NM ν) h.gi)) (fun b κ2 hr => ?_) (he := he6)
  obtain ⟨eb, ha⟩ := hr
  replace eb := Sum.inl.inj (Option.some.inj eb)
  subst eb
  refine x_icmp_same (tgt := 766) dL_law_404 (by decide) ?_
  exact K _ (LR_step hc ha)
set_option maxRecDepth 100000 in
set_option maxHeartbeats 4000000 in
theorem w_climbs (L : Nat) (f : Nat → Int) (hL : L ≤ 2048) (hf : ∀ j, x_in (f j)) (i : Int) (hi : 0 ≤ i ∧ i + 4 ≤ L) (ν : xM) (h : LR ν) (K : ∀ ν2, LR ν2 → X (EL L f) shL 20 yL_law cL_law 4 (some .boolean) 766 [some (.inr (.inl (1000 + 2))), some (.inr (.inl 0)), some (.inr (.inl 51)), some (.inl i)] [] ν2 (fun r _ => r = some (.inl 1))) : X (EL L f) shL 20 yL_law cL_law 4 (some .boolean) 409 [some (.inr (.inl (1000 + 2))), some (.inr (.inl 0)), some (.inr (.inl 51)), some (.inl i)] [] ν (fun r _ => r = some (.inl 1)) := by
  refine x_aload_n (i := 1) dL_law_409 rfl rfl ?_
  refine x_aload_n (i := 0) dL_law_410 rfl rfl ?_
  refine x_iload_n (i := 3) dL_law_411 rfl rfl ?_
  refine x_iconst dL_law_412 ?_
  refine x_iadd dL_law_413 ?_
  refine x_roald dL_law_414 rfl (by omega) (by omega) (by omega) ?_
  refine x_cI_1 (o := 0) IS1 lk_RL_47 xm_X5_climbs dL_law_415 (x_atR (s5_climbs _ (hf _) ν (NM ν) h) 51) (fun a ν1 hq => ?_) (he := he5)
  obtain ⟨ea, hc⟩ := hq
  replace ea := Sum.inl.inj (Option.some.inj ea)
  subst ea
  refine x_aload_n (i := 2) dL_law_418 rfl rfl ?_
  refine x_aload_n (i := 0) dL_law_419 rfl rfl ?_
  refine x_iload_n (i := 3) dL_law_420 rfl rfl ?_
  refine x_iconst dL_law_421 ?_
  refine x_iadd dL_law_422 ?_
  refine x_roald dL_law_423 rfl (by omega) (by omega) (by omega) ?_
  skip
  refine x_cI_1 (o := 51) IS2 lk_RL_51 xm_X6_climbs dL_law_424 (X_congr (NM_ct ν ν1) ((s6_climbs _ (hf _) (NM ν) h.mi).mono (fun r μ' q => p6_q (GI_if h.gi _) q))) (fun b κ2 hr => ?_) (he := he6)
  obtain ⟨eb, ha⟩ := hr
  replace eb := Sum.inl.inj (Option.some.inj eb)
  subst eb
  refine x_icmp_same (tgt := 766) dL_law_427 (by decide) ?_
  exact K _ (LR_step hc ha)
set_option maxRecDepth 100000 in
set_option maxHeartbeats 4000000 in
theorem w_takes (L : Nat) (f : Nat → Int) (hL : L ≤ 2048) (hf : ∀ j, x_in (f j)) (i : Int) (hi : 0 ≤ i ∧ i + 4 ≤ L) (ν : xM) (h : LR ν) (K : ∀ ν2, LR ν2 → X (EL L f) shL 20 yL_law cL_law 4 (some .boolean) 766 [some (.inr (.inl (1000 + 2))), some (.inr (.inl 0)), some (.inr (.inl 51)), some (.inl i)] [] ν2 (fun r _ => r = some (.inl 1))) : X (EL L f) shL 20 yL_law cL_law 4 (some .boolean) 432 [some (.inr (.inl (1000 + 2))), some (.inr (.inl 0)), some (.inr (.inl 51)), some (.inl i)] [] ν (fun r _ => r = some (.inl 1)) := by
  refine x_aload_n (i := 1) dL_law_432 rfl rfl ?_
  refine x_aload_n (i := 0) dL_law_433 rfl rfl ?_
  refine x_iload_n (i := 3) dL_law_434 rfl rfl ?_
  refine x_iconst dL_law_435 ?_
  refine x_iadd dL_law_436 ?_
  refine x_roald dL_law_437 rfl (by omega) (by omega) (by omega) ?_
  refine x_cI_1 (o := 0) IS1 lk_RL_52 xm_X5_takes dL_law_438 (x_atR (s5_takes _ (hf _) ν (NM ν) h) 51) (fun a ν1 hq => ?_) (he := he5)
  obtain ⟨ea, hc⟩ := hq
  replace ea := Sum.inl.inj (Option.some.inj ea)
  subst ea
  refine x_aload_n (i := 2) dL_law_441 rfl rfl ?_
  refine x_aload_n (i := 0) dL_law_442 rfl rfl ?_
  refine x_iload_n (i := 3) dL_law_443 rfl rfl ?_
  refine x_iconst dL_law_444 ?_
  refine x_iadd dL_law_445 ?_
  refine x_roald dL_law_446 rfl (by omega) (by omega) (by omega) ?_
  skip
  refine x_cI_1 (o := 51) IS2 lk_RL_55 xm_X6_takes dL_law_447 (X_congr (NM_ct ν ν1) ((s6_takes _ (hf _) (NM ν) h.mi).mono (fun r μ' q => p6_q (GI_if h.gi _) q))) (fun b κ2 hr => ?_) (he := he6)
  obtain ⟨eb, ha⟩ := hr
  replace eb := Sum.inl.inj (Option.some.inj eb)
  subst eb
  refine x_icmp_same (tgt := 766) dL_law_450 (by decide) ?_
  exact K _ (LR_step hc ha)
set_option maxRecDepth 100000 in
set_option maxHeartbeats 4000000 in
theorem w_base (L : Nat) (f : Nat → Int) (hL : L ≤ 2048) (hf : ∀ j, x_in (f j)) (i : Int) (hi : 0 ≤ i ∧ i + 4 ≤ L) (ν : xM) (h : LR ν) (K : ∀ ν2, LR ν2 → X (EL L f) shL 20 yL_law cL_law 4 (some .boolean) 766 [some (.inr (.inl (1000 + 2))), some (.inr (.inl 0)), some (.inr (.inl 51)), some (.inl i)] [] ν2 (fun r _ => r = some (.inl 1))) : X (EL L f) shL 20 yL_law cL_law 4 (some .boolean) 455 [some (.inr (.inl (1000 + 2))), some (.inr (.inl 0)), some (.inr (.inl 51)), some (.inl i)] [] ν (fun r _ => r = some (.inl 1)) := by
  refine x_aload_n (i := 1) dL_law_455 rfl rfl ?_
  refine x_cI_0 (o := 0) IS1 lk_RL_56 xm_X5_base dL_law_456 (x_atR (s5_base  ν (NM ν) h) 51) (fun a ν1 hq => ?_) (he := he5)
  obtain ⟨ea, hc⟩ := hq
  replace ea := Sum.inl.inj (Option.some.inj ea)
  subst ea
  refine x_aload_n (i := 2) dL_law_459 rfl rfl ?_
  refine x_cI_0 (o := 51) IS2 lk_RL_59 xm_X6_base dL_law_460 (X_congr (NM_ct ν ν1) ((s6_base  (NM ν) h.mi).mono (fun r μ' q => p6_q (h.gi) q))) (fun b κ2 hr => ?_) (he := he6)
  obtain ⟨eb, ha⟩ := hr
  replace eb := Sum.inl.inj (Option.some.inj eb)
  subst eb
  refine x_icmp_same (tgt := 766) dL_law_463 (by decide) ?_
  exact K _ (LR_step hc ha)
set_option maxRecDepth 100000 in
set_option maxHeartbeats 4000000 in
theorem w_waited (L : Nat) (f : Nat → Int) (hL : L ≤ 2048) (hf : ∀ j, x_in (f j)) (i : Int) (hi : 0 ≤ i ∧ i + 4 ≤ L) (ν : xM) (h : LR ν) (K : ∀ ν2, LR ν2 → X (EL L f) shL 20 yL_law cL_law 4 (some .boolean) 766 [some (.inr (.inl (1000 + 2))), some (.inr (.inl 0)), some (.inr (.inl 51)), some (.inl i)] [] ν2 (fun r _ => r = some (.inl 1))) : X (EL L f) shL 20 yL_law cL_law 4 (some .boolean) 468 [some (.inr (.inl (1000 + 2))), some (.inr (.inl 0)), some (.inr (.inl 51)), some (.inl i)] [] ν (fun r _ => r = some (.inl 1)) := by
  refine x_aload_n (i := 1) dL_law_468 rfl rfl ?_
  refine x_aload_n (i := 0) dL_law_469 rfl rfl ?_
  refine x_iload_n (i := 3) dL_law_470 rfl rfl ?_
  refine x_iconst dL_law_471 ?_
  refine x_iadd dL_law_472 ?_
  refine x_roald dL_law_473 rfl (by omega) (by omega) (by omega) ?_
  refine x_cI_1 (o := 0) IS1 lk_RL_60 xm_X5_waited dL_law_474 (x_atR (s5_waited _ (hf _) ν (NM ν) h) 51) (fun a ν1 hq => ?_) (he := he5)
  obtain ⟨ea, hc⟩ := hq
  replace ea := Sum.inl.inj (Option.some.inj ea)
  subst ea
  refine x_aload_n (i := 2) dL_law_477 rfl rfl ?_
  refine x_aload_n (i := 0) dL_law_478 rfl rfl ?_
  refine x_iload_n (i := 3) dL_law_479 rfl rfl ?_
  refine x_iconst dL_law_480 ?_
  refine x_iadd dL_law_481 ?_
  refine x_roald dL_law_482 rfl (by omega) (by omega) (by omega) ?_
  skip
  refine x_cI_1 (o := 51) IS2 lk_RL_63 xm_X6_waited dL_law_483 (X_congr (NM_ct ν ν1) (s6_waited _ (hf _) (NM ν) h.gi)) (fun b κ2 hr => ?_) (he := he6)
  obtain ⟨eb, ha⟩ := hr
  replace eb := Sum.inl.inj (Option.some.inj eb)
  subst eb
  refine x_icmp_same (tgt := 766) dL_law_486 (by decide) ?_
  exact K _ (LR_step hc ha)
set_option maxRecDepth 100000 in
set_option maxHeartbeats 4000000 in
theorem w_began (L : Nat) (f : Nat → Int) (hL : L ≤ 2048) (hf : ∀ j, x_in (f j)) (i : Int) (hi : 0 ≤ i ∧ i + 4 ≤ L) (ν : xM) (h : LR ν) (K : ∀ ν2, LR ν2 → X (EL L f) shL 20 yL_law cL_law 4 (some .boolean) 766 [some (.inr (.inl (1000 + 2))), some (.inr (.inl 0)), some (.inr (.inl 51)), some (.inl i)] [] ν2 (fun r _ => r = some (.inl 1))) : X (EL L f) shL 20 yL_law cL_law 4 (some .boolean) 491 [some (.inr (.inl (1000 + 2))), some (.inr (.inl 0)), some (.inr (.inl 51)), some (.inl i)] [] ν (fun r _ => r = some (.inl 1)) := by
  refine x_aload_n (i := 1) dL_law_491 rfl rfl ?_
  refine x_aload_n (i := 0) dL_law_492 rfl rfl ?_
  refine x_iload_n (i := 3) dL_law_493 rfl rfl ?_
  refine x_iconst dL_law_494 ?_
  refine x_iadd dL_law_495 ?_
  refine x_roald dL_law_496 rfl (by omega) (by omega) (by omega) ?_
  refine x_cI_1 (o := 0) IS1 lk_RL_64 xm_X5_began dL_law_497 (x_atR (s5_began _ (hf _) ν (NM ν) h) 51) (fun a ν1 hq => ?_) (he := he5)
  obtain ⟨ea, hc⟩ := hq
  replace ea := Sum.inl.inj (Option.some.inj ea)
  subst ea
  refine x_aload_n (i := 2) dL_law_500 rfl rfl ?_
  refine x_aload_n (i := 0) dL_law_501 rfl rfl ?_
  refine x_iload_n (i := 3) dL_law_502 rfl rfl ?_
  refine x_iconst dL_law_503 ?_
  refine x_iadd dL_law_504 ?_
  refine x_roald dL_law_505 rfl (by omega) (by omega) (by omega) ?_
  skip
  refine x_cI_1 (o := 51) IS2 lk_RL_67 xm_X6_began dL_law_506 (X_congr (NM_ct ν ν1) (s6_began _ (hf _) (NM ν) h.gi)) (fun b κ2 hr => ?_) (he := he6)
  obtain ⟨eb, ha⟩ := hr
  replace eb := Sum.inl.inj (Option.some.inj eb)
  subst eb
  refine x_icmp_same (tgt := 766) dL_law_509 (by decide) ?_
  exact K _ (LR_step hc ha)
set_option maxRecDepth 100000 in
set_option maxHeartbeats 4000000 in
theorem w_allWaited (L : Nat) (f : Nat → Int) (hL : L ≤ 2048) (hf : ∀ j, x_in (f j)) (i : Int) (hi : 0 ≤ i ∧ i + 4 ≤ L) (ν : xM) (h : LR ν) (K : ∀ ν2, LR ν2 → X (EL L f) shL 20 yL_law cL_law 4 (some .boolean) 766 [some (.inr (.inl (1000 + 2))), some (.inr (.inl 0)), some (.inr (.inl 51)), some (.inl i)] [] ν2 (fun r _ => r = some (.inl 1))) : X (EL L f) shL 20 yL_law cL_law 4 (some .boolean) 514 [some (.inr (.inl (1000 + 2))), some (.inr (.inl 0)), some (.inr (.inl 51)), some (.inl i)] [] ν (fun r _ => r = some (.inl 1)) := by
  refine x_aload_n (i := 1) dL_law_514 rfl rfl ?_
  refine x_cI_0 (o := 0) IS1 lk_RL_68 xm_X5_allWaited dL_law_515 (x_atR (s5_allWaited  ν (NM ν) h) 51) (fun a ν1 hq => ?_) (he := he5)
  obtain ⟨ea, hc⟩ := hq
  replace ea := Sum.inl.inj (Option.some.inj ea)
  subst ea
  refine x_aload_n (i := 2) dL_law_518 rfl rfl ?_
  refine x_cI_0 (o := 51) IS2 lk_RL_71 xm_X6_allWaited dL_law_519 (X_congr (NM_ct ν ν1) (s6_allWaited   (NM ν) h.gi)) (fun b κ2 hr => ?_) (he := he6)
  obtain ⟨eb, ha⟩ := hr
  replace eb := Sum.inl.inj (Option.some.inj eb)
  subst eb
  refine x_icmp_same (tgt := 766) dL_law_522 (by decide) ?_
  exact K _ (LR_step hc ha)
set_option maxRecDepth 100000 in
set_option maxHeartbeats 4000000 in
theorem w_downs (L : Nat) (f : Nat → Int) (hL : L ≤ 2048) (hf : ∀ j, x_in (f j)) (i : Int) (hi : 0 ≤ i ∧ i + 4 ≤ L) (ν : xM) (h : LR ν) (K : ∀ ν2, LR ν2 → X (EL L f) shL 20 yL_law cL_law 4 (some .boolean) 766 [some (.inr (.inl (1000 + 2))), some (.inr (.inl 0)), some (.inr (.inl 51)), some (.inl i)] [] ν2 (fun r _ => r = some (.inl 1))) : X (EL L f) shL 20 yL_law cL_law 4 (some .boolean) 527 [some (.inr (.inl (1000 + 2))), some (.inr (.inl 0)), some (.inr (.inl 51)), some (.inl i)] [] ν (fun r _ => r = some (.inl 1)) := by
  have h5 := s5_downs ν (NM ν) h
  have h6 := s6_downs (NM ν) h.gi
  generalize dDowns (NM ν 2) = V at h5 h6
  refine x_aload_n (i := 1) dL_law_527 rfl rfl ?_
  refine x_cI_0 (o := 0) IS1 lk_RL_72 xm_X5_downs dL_law_528 (x_atR (h5) 51) (fun a ν1 hq => ?_) (he := he5)
  obtain ⟨ea, hc⟩ := hq
  replace ea := Sum.inl.inj (Option.some.inj ea)
  subst ea
  refine x_aload_n (i := 2) dL_law_531 rfl rfl ?_
  refine x_cI_0 (o := 51) IS2 lk_RL_75 xm_X6_downs dL_law_532 (X_congr (NM_ct ν ν1) (h6)) (fun b κ2 hr => ?_) (he := he6)
  obtain ⟨eb, ha⟩ := hr
  replace eb := Sum.inl.inj (Option.some.inj eb)
  subst eb
  refine x_icmp_same (tgt := 766) dL_law_535 (by decide) ?_
  exact K _ (LR_step hc ha)
set_option maxRecDepth 100000 in
set_option maxHeartbeats 4000000 in
theorem w_best (L : Nat) (f : Nat → Int) (hL : L ≤ 2048) (hf : ∀ j, x_in (f j)) (i : Int) (hi : 0 ≤ i ∧ i + 4 ≤ L) (ν : xM) (h : LR ν) (K : ∀ ν2, LR ν2 → X (EL L f) shL 20 yL_law cL_law 4 (some .boolean) 766 [some (.inr (.inl (1000 + 2))), some (.inr (.inl 0)), some (.inr (.inl 51)), some (.inl i)] [] ν2 (fun r _ => r = some (.inl 1))) : X (EL L f) shL 20 yL_law cL_law 4 (some .boolean) 540 [some (.inr (.inl (1000 + 2))), some (.inr (.inl 0)), some (.inr (.inl 51)), some (.inl i)] [] ν (fun r _ => r = some (.inl 1)) := by
  refine x_aload_n (i := 1) dL_law_540 rfl rfl ?_
  refine x_aload_n (i := 0) dL_law_541 rfl rfl ?_
  refine x_iload_n (i := 3) dL_law_542 rfl rfl ?_
  refine x_iconst dL_law_543 ?_
  refine x_iadd dL_law_544 ?_
  refine x_roald dL_law_545 rfl (by omega) (by omega) (by omega) ?_
  refine x_cI_1 (o := 0) IS1 lk_RL_76 xm_X5_best dL_law_546 (x_atR (s5_best _ (hf _) ν (NM ν) h) 51) (fun a ν1 hq => ?_) (he := he5)
  obtain ⟨ea, hc⟩ := hq
  replace ea := Sum.inl.inj (Option.some.inj ea)
  subst ea
  refine x_aload_n (i := 2) dL_law_549 rfl rfl ?_
  refine x_aload_n (i := 0) dL_law_550 rfl rfl ?_
  refine x_iload_n (i := 3) dL_law_551 rfl rfl ?_
  refine x_iconst dL_law_552 ?_
  refine x_iadd dL_law_553 ?_
  refine x_roald dL_law_554 rfl (by omega) (by omega) (by omega) ?_
  skip
  refine x_cI_1 (o := 51) IS2 lk_RL_79 xm_X6_best dL_law_555 (X_congr (NM_ct ν ν1) (s6_best _ (hf _) (NM ν) h.gi)) (fun b κ2 hr => ?_) (he := he6)
  obtain ⟨eb, ha⟩ := hr
  replace eb := Sum.inl.inj (Option.some.inj eb)
  subst eb
  refine x_icmp_same (tgt := 766) dL_law_558 (by decide) ?_
  exact K _ (LR_step hc ha)
set_option maxRecDepth 100000 in
set_option maxHeartbeats 4000000 in
theorem w_fewest (L : Nat) (f : Nat → Int) (hL : L ≤ 2048) (hf : ∀ j, x_in (f j)) (i : Int) (hi : 0 ≤ i ∧ i + 4 ≤ L) (ν : xM) (h : LR ν) (K : ∀ ν2, LR ν2 → X (EL L f) shL 20 yL_law cL_law 4 (some .boolean) 766 [some (.inr (.inl (1000 + 2))), some (.inr (.inl 0)), some (.inr (.inl 51)), some (.inl i)] [] ν2 (fun r _ => r = some (.inl 1))) : X (EL L f) shL 20 yL_law cL_law 4 (some .boolean) 563 [some (.inr (.inl (1000 + 2))), some (.inr (.inl 0)), some (.inr (.inl 51)), some (.inl i)] [] ν (fun r _ => r = some (.inl 1)) := by
  refine x_aload_n (i := 1) dL_law_563 rfl rfl ?_
  refine x_aload_n (i := 0) dL_law_564 rfl rfl ?_
  refine x_iload_n (i := 3) dL_law_565 rfl rfl ?_
  refine x_iconst dL_law_566 ?_
  refine x_iadd dL_law_567 ?_
  refine x_roald dL_law_568 rfl (by omega) (by omega) (by omega) ?_
  refine x_cI_1 (o := 0) IS1 lk_RL_80 xm_X5_fewest dL_law_569 (x_atR (s5_fewest _ (hf _) ν (NM ν) h) 51) (fun a ν1 hq => ?_) (he := he5)
  obtain ⟨ea, hc⟩ := hq
  replace ea := Sum.inl.inj (Option.some.inj ea)
  subst ea
  refine x_aload_n (i := 2) dL_law_572 rfl rfl ?_
  refine x_aload_n (i := 0) dL_law_573 rfl rfl ?_
  refine x_iload_n (i := 3) dL_law_574 rfl rfl ?_
  refine x_iconst dL_law_575 ?_
  refine x_iadd dL_law_576 ?_
  refine x_roald dL_law_577 rfl (by omega) (by omega) (by omega) ?_
  skip
  refine x_cI_1 (o := 51) IS2 lk_RL_83 xm_X6_fewest dL_law_578 (X_congr (NM_ct ν ν1) (s6_fewest _ (hf _) (NM ν) h.gi)) (fun b κ2 hr => ?_) (he := he6)
  obtain ⟨eb, ha⟩ := hr
  replace eb := Sum.inl.inj (Option.some.inj eb)
  subst eb
  refine x_icmp_same (tgt := 766) dL_law_581 (by decide) ?_
  exact K _ (LR_step hc ha)
set_option maxRecDepth 100000 in
set_option maxHeartbeats 4000000 in
theorem w_which (L : Nat) (f : Nat → Int) (hL : L ≤ 2048) (hf : ∀ j, x_in (f j)) (i : Int) (hi : 0 ≤ i ∧ i + 4 ≤ L) (ν : xM) (h : LR ν) (K : ∀ ν2, LR ν2 → X (EL L f) shL 20 yL_law cL_law 4 (some .boolean) 766 [some (.inr (.inl (1000 + 2))), some (.inr (.inl 0)), some (.inr (.inl 51)), some (.inl i)] [] ν2 (fun r _ => r = some (.inl 1))) : X (EL L f) shL 20 yL_law cL_law 4 (some .boolean) 586 [some (.inr (.inl (1000 + 2))), some (.inr (.inl 0)), some (.inr (.inl 51)), some (.inl i)] [] ν (fun r _ => r = some (.inl 1)) := by
  refine x_aload_n (i := 1) dL_law_586 rfl rfl ?_
  refine x_cI_0 (o := 0) IS1 lk_RL_84 xm_X5_which dL_law_587 (x_atR (s5_which  ν (NM ν) h) 51) (fun a ν1 hq => ?_) (he := he5)
  obtain ⟨ea, hc⟩ := hq
  replace ea := Sum.inl.inj (Option.some.inj ea)
  subst ea
  refine x_aload_n (i := 2) dL_law_590 rfl rfl ?_
  refine x_cI_0 (o := 51) IS2 lk_RL_87 xm_X6_which dL_law_591 (X_congr (NM_ct ν ν1) (s6_which   (NM ν) h.gi)) (fun b κ2 hr => ?_) (he := he6)
  obtain ⟨eb, ha⟩ := hr
  replace eb := Sum.inl.inj (Option.some.inj eb)
  subst eb
  refine x_icmp_same (tgt := 766) dL_law_594 (by decide) ?_
  exact K _ (LR_step hc ha)
set_option maxRecDepth 100000 in
set_option maxHeartbeats 4000000 in
theorem w_edge (L : Nat) (f : Nat → Int) (hL : L ≤ 2048) (hf : ∀ j, x_in (f j)) (i : Int) (hi : 0 ≤ i ∧ i + 4 ≤ L) (ν : xM) (h : LR ν) (K : ∀ ν2, LR ν2 → X (EL L f) shL 20 yL_law cL_law 4 (some .boolean) 766 [some (.inr (.inl (1000 + 2))), some (.inr (.inl 0)), some (.inr (.inl 51)), some (.inl i)] [] ν2 (fun r _ => r = some (.inl 1))) : X (EL L f) shL 20 yL_law cL_law 4 (some .boolean) 599 [some (.inr (.inl (1000 + 2))), some (.inr (.inl 0)), some (.inr (.inl 51)), some (.inl i)] [] ν (fun r _ => r = some (.inl 1)) := by
  refine x_aload_n (i := 1) dL_law_599 rfl rfl ?_
  refine x_aload_n (i := 0) dL_law_600 rfl rfl ?_
  refine x_iload_n (i := 3) dL_law_601 rfl rfl ?_
  refine x_iconst dL_law_602 ?_
  refine x_iadd dL_law_603 ?_
  refine x_roald dL_law_604 rfl (by omega) (by omega) (by omega) ?_
  refine x_cI_1 (o := 0) IS1 lk_RL_88 xm_X5_edge dL_law_605 (x_atR (s5_edge _ (hf _) ν (NM ν) h) 51) (fun a ν1 hq => ?_) (he := he5)
  obtain ⟨ea, hc⟩ := hq
  replace ea := Sum.inl.inj (Option.some.inj ea)
  subst ea
  refine x_aload_n (i := 2) dL_law_608 rfl rfl ?_
  refine x_aload_n (i := 0) dL_law_609 rfl rfl ?_
  refine x_iload_n (i := 3) dL_law_610 rfl rfl ?_
  refine x_iconst dL_law_611 ?_
  refine x_iadd dL_law_612 ?_
  refine x_roald dL_law_613 rfl (by omega) (by omega) (by omega) ?_
  skip
  refine x_cI_1 (o := 51) IS2 lk_RL_91 xm_X6_edge dL_law_614 (X_congr (NM_ct ν ν1) (s6_edge _ (hf _) (NM ν) h.gi)) (fun b κ2 hr => ?_) (he := he6)
  obtain ⟨eb, ha⟩ := hr
  replace eb := Sum.inl.inj (Option.some.inj eb)
  subst eb
  refine x_icmp_same (tgt := 766) dL_law_617 (by decide) ?_
  exact K _ (LR_step hc ha)
set_option maxRecDepth 100000 in
set_option maxHeartbeats 4000000 in
theorem w_chance (L : Nat) (f : Nat → Int) (hL : L ≤ 2048) (hf : ∀ j, x_in (f j)) (i : Int) (hi : 0 ≤ i ∧ i + 4 ≤ L) (ν : xM) (h : LR ν) (K : ∀ ν2, LR ν2 → X (EL L f) shL 20 yL_law cL_law 4 (some .boolean) 766 [some (.inr (.inl (1000 + 2))), some (.inr (.inl 0)), some (.inr (.inl 51)), some (.inl i)] [] ν2 (fun r _ => r = some (.inl 1))) : X (EL L f) shL 20 yL_law cL_law 4 (some .boolean) 622 [some (.inr (.inl (1000 + 2))), some (.inr (.inl 0)), some (.inr (.inl 51)), some (.inl i)] [] ν (fun r _ => r = some (.inl 1)) := by
  refine x_aload_n (i := 1) dL_law_622 rfl rfl ?_
  refine x_aload_n (i := 0) dL_law_623 rfl rfl ?_
  refine x_iload_n (i := 3) dL_law_624 rfl rfl ?_
  refine x_iconst dL_law_625 ?_
  refine x_iadd dL_law_626 ?_
  refine x_roald dL_law_627 rfl (by omega) (by omega) (by omega) ?_
  refine x_cI_1 (o := 0) IS1 lk_RL_92 xm_X5_chance dL_law_628 (x_atR (s5_chance _ (hf _) ν (NM ν) h) 51) (fun a ν1 hq => ?_) (he := he5)
  obtain ⟨ea, hc⟩ := hq
  replace ea := Sum.inl.inj (Option.some.inj ea)
  subst ea
  refine x_aload_n (i := 2) dL_law_631 rfl rfl ?_
  refine x_aload_n (i := 0) dL_law_632 rfl rfl ?_
  refine x_iload_n (i := 3) dL_law_633 rfl rfl ?_
  refine x_iconst dL_law_634 ?_
  refine x_iadd dL_law_635 ?_
  refine x_roald dL_law_636 rfl (by omega) (by omega) (by omega) ?_
  skip
  refine x_cI_1 (o := 51) IS2 lk_RL_95 xm_X6_chance dL_law_637 (X_congr (NM_ct ν ν1) (s6_chance _ (hf _) (NM ν) h.gi)) (fun b κ2 hr => ?_) (he := he6)
  obtain ⟨eb, ha⟩ := hr
  replace eb := Sum.inl.inj (Option.some.inj eb)
  subst eb
  refine x_icmp_same (tgt := 766) dL_law_640 (by decide) ?_
  exact K _ (LR_step hc ha)
set_option maxRecDepth 100000 in
set_option maxHeartbeats 4000000 in
theorem w_heaviest (L : Nat) (f : Nat → Int) (hL : L ≤ 2048) (hf : ∀ j, x_in (f j)) (i : Int) (hi : 0 ≤ i ∧ i + 4 ≤ L) (ν : xM) (h : LR ν) (K : ∀ ν2, LR ν2 → X (EL L f) shL 20 yL_law cL_law 4 (some .boolean) 766 [some (.inr (.inl (1000 + 2))), some (.inr (.inl 0)), some (.inr (.inl 51)), some (.inl i)] [] ν2 (fun r _ => r = some (.inl 1))) : X (EL L f) shL 20 yL_law cL_law 4 (some .boolean) 645 [some (.inr (.inl (1000 + 2))), some (.inr (.inl 0)), some (.inr (.inl 51)), some (.inl i)] [] ν (fun r _ => r = some (.inl 1)) := by
  refine x_aload_n (i := 1) dL_law_645 rfl rfl ?_
  refine x_cI_0 (o := 0) IS1 lk_RL_96 xm_X5_heaviest dL_law_646 (x_atR (s5_heaviest  ν (NM ν) h) 51) (fun a ν1 hq => ?_) (he := he5)
  obtain ⟨ea, hc⟩ := hq
  replace ea := Sum.inl.inj (Option.some.inj ea)
  subst ea
  refine x_aload_n (i := 2) dL_law_649 rfl rfl ?_
  refine x_cI_0 (o := 51) IS2 lk_RL_99 xm_X6_heaviest dL_law_650 (X_congr (NM_ct ν ν1) (s6_heaviest   (NM ν) h.gi)) (fun b κ2 hr => ?_) (he := he6)
  obtain ⟨eb, ha⟩ := hr
  replace eb := Sum.inl.inj (Option.some.inj eb)
  subst eb
  refine x_icmp_same (tgt := 766) dL_law_653 (by decide) ?_
  exact K _ (LR_step hc ha)
set_option maxRecDepth 100000 in
set_option maxHeartbeats 4000000 in
theorem w_yard (L : Nat) (f : Nat → Int) (hL : L ≤ 2048) (hf : ∀ j, x_in (f j)) (i : Int) (hi : 0 ≤ i ∧ i + 4 ≤ L) (ν : xM) (h : LR ν) (K : ∀ ν2, LR ν2 → X (EL L f) shL 20 yL_law cL_law 4 (some .boolean) 766 [some (.inr (.inl (1000 + 2))), some (.inr (.inl 0)), some (.inr (.inl 51)), some (.inl i)] [] ν2 (fun r _ => r = some (.inl 1))) : X (EL L f) shL 20 yL_law cL_law 4 (some .boolean) 658 [some (.inr (.inl (1000 + 2))), some (.inr (.inl 0)), some (.inr (.inl 51)), some (.inl i)] [] ν (fun r _ => r = some (.inl 1)) := by
  refine x_aload_n (i := 1) dL_law_658 rfl rfl ?_
  refine x_cI_0 (o := 0) IS1 lk_RL_100 xm_X5_yard dL_law_659 (x_atR (s5_yard  ν (NM ν) h) 51) (fun a ν1 hq => ?_) (he := he5)
  obtain ⟨ea, hc⟩ := hq
  replace ea := Sum.inl.inj (Option.some.inj ea)
  subst ea
  refine x_aload_n (i := 2) dL_law_662 rfl rfl ?_
  refine x_cI_0 (o := 51) IS2 lk_RL_103 xm_X6_yard dL_law_663 (X_congr (NM_ct ν ν1) (s6_yard   (NM ν) h.gi)) (fun b κ2 hr => ?_) (he := he6)
  obtain ⟨eb, ha⟩ := hr
  replace eb := Sum.inl.inj (Option.some.inj eb)
  subst eb
  refine x_icmp_same (tgt := 766) dL_law_666 (by decide) ?_
  exact K _ (LR_step hc ha)
set_option maxRecDepth 100000 in
set_option maxHeartbeats 4000000 in
theorem w_row (L : Nat) (f : Nat → Int) (hL : L ≤ 2048) (hf : ∀ j, x_in (f j)) (i : Int) (hi : 0 ≤ i ∧ i + 4 ≤ L) (ν : xM) (h : LR ν) (K : ∀ ν2, LR ν2 → X (EL L f) shL 20 yL_law cL_law 4 (some .boolean) 766 [some (.inr (.inl (1000 + 2))), some (.inr (.inl 0)), some (.inr (.inl 51)), some (.inl i)] [] ν2 (fun r _ => r = some (.inl 1))) : X (EL L f) shL 20 yL_law cL_law 4 (some .boolean) 671 [some (.inr (.inl (1000 + 2))), some (.inr (.inl 0)), some (.inr (.inl 51)), some (.inl i)] [] ν (fun r _ => r = some (.inl 1)) := by
  refine x_aload_n (i := 1) dL_law_671 rfl rfl ?_
  refine x_aload_n (i := 0) dL_law_672 rfl rfl ?_
  refine x_iload_n (i := 3) dL_law_673 rfl rfl ?_
  refine x_iconst dL_law_674 ?_
  refine x_iadd dL_law_675 ?_
  refine x_roald dL_law_676 rfl (by omega) (by omega) (by omega) ?_
  refine x_cI_1 (o := 0) IS1 lk_RL_104 xm_X5_row dL_law_677 (x_atR (s5_row _ (hf _) ν (NM ν) h) 51) (fun a ν1 hq => ?_) (he := he5)
  obtain ⟨ea, hc⟩ := hq
  replace ea := Sum.inl.inj (Option.some.inj ea)
  subst ea
  refine x_aload_n (i := 2) dL_law_680 rfl rfl ?_
  refine x_aload_n (i := 0) dL_law_681 rfl rfl ?_
  refine x_iload_n (i := 3) dL_law_682 rfl rfl ?_
  refine x_iconst dL_law_683 ?_
  refine x_iadd dL_law_684 ?_
  refine x_roald dL_law_685 rfl (by omega) (by omega) (by omega) ?_
  skip
  refine x_cI_1 (o := 51) IS2 lk_RL_107 xm_X6_row dL_law_686 (X_congr (NM_ct ν ν1) (s6_row _ (hf _) (NM ν) h.gi)) (fun b κ2 hr => ?_) (he := he6)
  obtain ⟨eb, ha⟩ := hr
  replace eb := Sum.inl.inj (Option.some.inj eb)
  subst eb
  refine x_icmp_same (tgt := 766) dL_law_689 (by decide) ?_
  exact K _ (LR_step hc ha)
set_option maxRecDepth 100000 in
set_option maxHeartbeats 4000000 in
theorem w_judge (L : Nat) (f : Nat → Int) (hL : L ≤ 2048) (hf : ∀ j, x_in (f j)) (i : Int) (hi : 0 ≤ i ∧ i + 4 ≤ L) (ν : xM) (h : LR ν) (K : ∀ ν2, LR ν2 → X (EL L f) shL 20 yL_law cL_law 4 (some .boolean) 766 [some (.inr (.inl (1000 + 2))), some (.inr (.inl 0)), some (.inr (.inl 51)), some (.inl i)] [] ν2 (fun r _ => r = some (.inl 1))) : X (EL L f) shL 20 yL_law cL_law 4 (some .boolean) 694 [some (.inr (.inl (1000 + 2))), some (.inr (.inl 0)), some (.inr (.inl 51)), some (.inl i)] [] ν (fun r _ => r = some (.inl 1)) := by
  refine x_aload_n (i := 1) dL_law_694 rfl rfl ?_
  refine x_aload_n (i := 0) dL_law_695 rfl rfl ?_
  refine x_iload_n (i := 3) dL_law_696 rfl rfl ?_
  refine x_iconst dL_law_697 ?_
  refine x_iadd dL_law_698 ?_
  refine x_roald dL_law_699 rfl (by omega) (by omega) (by omega) ?_
  refine x_cI_1 (o := 0) IS1 lk_RL_108 xm_X5_judge dL_law_700 (x_atR (s5_judge _ (hf _) ν (NM ν) h) 51) (fun a ν1 hq => ?_) (he := he5)
  obtain ⟨ea, hc⟩ := hq
  replace ea := Sum.inl.inj (Option.some.inj ea)
  subst ea
  refine x_aload_n (i := 2) dL_law_703 rfl rfl ?_
  refine x_aload_n (i := 0) dL_law_704 rfl rfl ?_
  refine x_iload_n (i := 3) dL_law_705 rfl rfl ?_
  refine x_iconst dL_law_706 ?_
  refine x_iadd dL_law_707 ?_
  refine x_roald dL_law_708 rfl (by omega) (by omega) (by omega) ?_
  skip
  refine x_cI_1 (o := 51) IS2 lk_RL_111 xm_X6_judge dL_law_709 (X_congr (NM_ct ν ν1) (s6_judge _ (hf _) (NM ν) h.gi)) (fun b κ2 hr => ?_) (he := he6)
  obtain ⟨eb, ha⟩ := hr
  replace eb := Sum.inl.inj (Option.some.inj eb)
  subst eb
  refine x_icmp_same (tgt := 766) dL_law_712 (by decide) ?_
  exact K _ (LR_step hc ha)
set_option maxRecDepth 100000 in
set_option maxHeartbeats 4000000 in
theorem w_image (L : Nat) (f : Nat → Int) (hL : L ≤ 2048) (hf : ∀ j, x_in (f j)) (i : Int) (hi : 0 ≤ i ∧ i + 4 ≤ L) (ν : xM) (h : LR ν) (K : ∀ ν2, LR ν2 → X (EL L f) shL 20 yL_law cL_law 4 (some .boolean) 766 [some (.inr (.inl (1000 + 2))), some (.inr (.inl 0)), some (.inr (.inl 51)), some (.inl i)] [] ν2 (fun r _ => r = some (.inl 1))) : X (EL L f) shL 20 yL_law cL_law 4 (some .boolean) 717 [some (.inr (.inl (1000 + 2))), some (.inr (.inl 0)), some (.inr (.inl 51)), some (.inl i)] [] ν (fun r _ => r = some (.inl 1)) := by
  refine x_aload_n (i := 1) dL_law_717 rfl rfl ?_
  refine x_cI_0 (o := 0) IS1 lk_RL_112 xm_X5_image dL_law_718 (x_atR (s5_image  ν (NM ν) h) 51) (fun a ν1 hq => ?_) (he := he5)
  obtain ⟨ea, hc⟩ := hq
  replace ea := Sum.inl.inj (Option.some.inj ea)
  subst ea
  refine x_aload_n (i := 2) dL_law_721 rfl rfl ?_
  refine x_cI_0 (o := 51) IS2 lk_RL_115 xm_X6_image dL_law_722 (X_congr (NM_ct ν ν1) (s6_image   (NM ν) h.gi)) (fun b κ2 hr => ?_) (he := he6)
  obtain ⟨eb, ha⟩ := hr
  replace eb := Sum.inl.inj (Option.some.inj eb)
  subst eb
  refine x_icmp_same (tgt := 766) dL_law_725 (by decide) ?_
  exact K _ (LR_step hc ha)
set_option maxRecDepth 100000 in
set_option maxHeartbeats 4000000 in
theorem w_on (L : Nat) (f : Nat → Int) (hL : L ≤ 2048) (hf : ∀ j, x_in (f j)) (i : Int) (hi : 0 ≤ i ∧ i + 4 ≤ L) (ν : xM) (h : LR ν) (K : ∀ ν2, LR ν2 → X (EL L f) shL 20 yL_law cL_law 4 (some .boolean) 766 [some (.inr (.inl (1000 + 2))), some (.inr (.inl 0)), some (.inr (.inl 51)), some (.inl i)] [] ν2 (fun r _ => r = some (.inl 1))) : X (EL L f) shL 20 yL_law cL_law 4 (some .boolean) 730 [some (.inr (.inl (1000 + 2))), some (.inr (.inl 0)), some (.inr (.inl 51)), some (.inl i)] [] ν (fun r _ => r = some (.inl 1)) := by
  refine x_aload_n (i := 1) dL_law_730 rfl rfl ?_
  refine x_cI_0 (o := 0) IS1 lk_RL_116 xm_X5_on dL_law_731 (x_atR (s5_on  ν (NM ν) h) 51) (fun a ν1 hq => ?_) (he := he5)
  obtain ⟨ea, hc⟩ := hq
  replace ea := Sum.inl.inj (Option.some.inj ea)
  subst ea
  refine x_aload_n (i := 2) dL_law_734 rfl rfl ?_
  refine x_cI_0 (o := 51) IS2 lk_RL_119 xm_X6_on dL_law_735 (X_congr (NM_ct ν ν1) (s6_on   (NM ν) h.gi)) (fun b κ2 hr => ?_) (he := he6)
  obtain ⟨eb, ha⟩ := hr
  replace eb := Sum.inl.inj (Option.some.inj eb)
  subst eb
  refine x_icmp_same (tgt := 766) dL_law_738 (by decide) ?_
  exact K _ (LR_step hc ha)
set_option maxRecDepth 100000 in
set_option maxHeartbeats 4000000 in
theorem w_count (L : Nat) (f : Nat → Int) (hL : L ≤ 2048) (hf : ∀ j, x_in (f j)) (i : Int) (hi : 0 ≤ i ∧ i + 4 ≤ L) (ν : xM) (h : LR ν) (K : ∀ ν2, LR ν2 → X (EL L f) shL 20 yL_law cL_law 4 (some .boolean) 766 [some (.inr (.inl (1000 + 2))), some (.inr (.inl 0)), some (.inr (.inl 51)), some (.inl i)] [] ν2 (fun r _ => r = some (.inl 1))) : X (EL L f) shL 20 yL_law cL_law 4 (some .boolean) 743 [some (.inr (.inl (1000 + 2))), some (.inr (.inl 0)), some (.inr (.inl 51)), some (.inl i)] [] ν (fun r _ => r = some (.inl 1)) := by
  refine x_aload_n (i := 1) dL_law_743 rfl rfl ?_
  refine x_aload_n (i := 0) dL_law_744 rfl rfl ?_
  refine x_iload_n (i := 3) dL_law_745 rfl rfl ?_
  refine x_iconst dL_law_746 ?_
  refine x_iadd dL_law_747 ?_
  refine x_roald dL_law_748 rfl (by omega) (by omega) (by omega) ?_
  refine x_cI_1 (o := 0) IS1 lk_RL_120 xm_X5_count dL_law_749 (x_atR (s5_count _ (hf _) ν (NM ν) h) 51) (fun a ν1 hq => ?_) (he := he5)
  obtain ⟨ea, hc⟩ := hq
  replace ea := Sum.inl.inj (Option.some.inj ea)
  subst ea
  refine x_aload_n (i := 2) dL_law_752 rfl rfl ?_
  refine x_aload_n (i := 0) dL_law_753 rfl rfl ?_
  refine x_iload_n (i := 3) dL_law_754 rfl rfl ?_
  refine x_iconst dL_law_755 ?_
  refine x_iadd dL_law_756 ?_
  refine x_roald dL_law_757 rfl (by omega) (by omega) (by omega) ?_
  skip
  refine x_cI_1 (o := 51) IS2 lk_RL_123 xm_X6_count dL_law_758 (X_congr (NM_ct ν ν1) (s6_count _ (hf _) (NM ν) h.gi)) (fun b κ2 hr => ?_) (he := he6)
  obtain ⟨eb, ha⟩ := hr
  replace eb := Sum.inl.inj (Option.some.inj eb)
  subst eb
  refine x_icmp_same (tgt := 766) dL_law_761 (by decide) ?_
  exact K _ (LR_step hc ha)
