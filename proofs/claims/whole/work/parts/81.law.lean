/-! THE LAW -/
def Pair (Rl : St → Sm → Prop) (yc : MethodName) (cc : ByteArray) (mx : Nat) (yr : MethodName) (cr : ByteArray) (mx' : Nat) (args : List Value) : Prop := ∀ (D : va_G) (tc : Tc) (A B : Nat → Nat) (σ : St) (τ : Sm), Rl σ τ → ∃ (d d' : Nat) (v : Int32) (Qs : St → Prop) (Qt : Sm → Prop), (d ≤ 7 ∧ d' ≤ 7) ∧ OkR d yc cc mx (some .int) D tc (.ref (A 0) :: args) (cW A tc σ) (fun r w => ∃ σ', w = cW A tc σ' ∧ r = some (.int v) ∧ Qs σ') ∧ OkR d' yr cr mx' (some .int) D tc (.ref (B 0) :: args) (mW B tc τ) (fun r w => ∃ τ', w = mW B tc τ' ∧ r = some (.int v) ∧ Qt τ') ∧ ∀ σ' τ', Qs σ' → Qt τ' → Rl σ' τ'
def PairL (Rl : St → Sm → Prop) (yc : MethodName) (cc : ByteArray) (mx : Nat) (yr : MethodName) (cr : ByteArray) (mx' : Nat) (args : List Value) : Prop := ∀ (D : va_G) (tc : Tc) (A B : Nat → Nat) (σ : St) (τ : Sm), Rl σ τ → ∃ (d d' : Nat) (v : Int64) (Qs : St → Prop) (Qt : Sm → Prop), (d ≤ 7 ∧ d' ≤ 7) ∧ OkR d yc cc mx (some .long) D tc (.ref (A 0) :: args) (cW A tc σ) (fun r w => ∃ σ', w = cW A tc σ' ∧ r = some (.long v) ∧ Qs σ') ∧ OkR d' yr cr mx' (some .long) D tc (.ref (B 0) :: args) (mW B tc τ) (fun r w => ∃ τ', w = mW B tc τ' ∧ r = some (.long v) ∧ Qt τ') ∧ ∀ σ' τ', Qs σ' → Qt τ' → Rl σ' τ'
section VSCR
variable {X : Cx} {D : va_G} {tc : Tc} {cc : ByteArray} {own : String} {nL pc : Nat} {L : List (Option Value)} {st : List Value} {ws : va_W} {b Ls : Nat} {xs : Nat → Int32}
def Scr (X : Cx) (b Ls : Nat) (xs : Nat → Int32) : Prop := va_X b Ls xs X.1.2.2.2.2 X.1.2.2.2.2.heap ∧ b < X.1.2.2.2.2.heap.size ∧ ¬ X.2.2.1.1 b
theorem V_sldk {k : Nat} (hs : Scr X b Ls xs) (hd : decode cc pc = .ok (.iaload, 1)) (hin : k < Ls ∧ Ls < 2 ^ 31) (kk : V X D tc cc own nL (pc + 1) L (.int (xs k) :: st) ws) : V X D tc cc own nL pc L (.int (nI k) :: .ref b :: st) ws := by
  intro F H locs ls hP hD hS hl
  refine va_sld F.1 F.2.1 hs.1 hs.2.1 hs.2.2 hS (vp_in_nI hin.1 hin.2) hd ?_
  rw [nI_clamp (Nat.lt_trans hin.1 hin.2)]
  exact kk F H locs ls hP hD hS hl
theorem V_slen (hs : Scr X b Ls xs) (hd : decode cc pc = .ok (.arraylength, 1)) (kk : V X D tc cc own nL (pc + 1) L (.int (nI Ls) :: st) ws) : V X D tc cc own nL pc L (.ref b :: st) ws := by
  intro F H locs ls hP hD hS hl
  exact va_slen F.1 F.2.1 hs.1 hs.2.1 hs.2.2 hS hd (kk F H locs ls hP hD hS hl)
theorem dep8 {X : Cx} {d mx : Nat} (h8 : X.2.2.2.1 = 8) (h : d ≤ 7) (hm : mx ≤ 16) : d + 1 ≤ X.2.2.2.1 ∧ mx ≤ 16 := by rw [h8]; exact ⟨by omega, hm⟩
end VSCR
theorem ltL {L i : Nat} (hL : L ≤ 384) (hi : i ≤ 1000) : nI L - 6 < nI i ↔ L < i + 6 := by
  rw [Int32.lt_iff_toInt_lt, show (6 : Int32) = nI 6 by decide, pk_sub_toInt (by omega) (by decide), nI_toInt (by omega)]
  omega

section LAW
variable {X : Cx} {D : va_G} {tc : Tc} {b Ls i : Nat} {xs : Nat → Int32} {A B : Nat → Nat} {σ : St} {τ : Sm} {Rl : St → Sm → Prop}
set_option maxRecDepth 100000 in
set_option maxHeartbeats 4000000 in
theorem law_c0 (hs : Scr X b Ls xs) (h8 : X.2.2.2.1 = 8) (hL : Ls ≤ 384) (hi : i + 6 ≤ Ls) (hR : Rl σ τ) (hp : Pair Rl yX5_market cX5_market 7 yX6_market cX6_market 7 [.int (xs (i + 1)), .int (xs (i + 2)), .int (xs (i + 3)), .int (xs (i + 4))]) (kk : ∀ σ' τ', Rl σ' τ' → V X D tc cL_law RL 4 1251 [some (.ref b), some (.ref (A 0)), some (.ref (B 0)), some (.int (nI i))] [] (cW A tc σ' ++ mW B tc τ')) : V X D tc cL_law RL 4 180 [some (.ref b), some (.ref (A 0)), some (.ref (B 0)), some (.int (nI i))] [] (cW A tc σ ++ mW B tc τ) := by
  obtain ⟨d, d', v, Qs, Qt, h7, ok1, ok2, hQ⟩ := hp D tc A B σ τ hR
  refine V_ald1 dL_law_180 ?_
  refine V_ald0 dL_law_181 ?_
  refine V_ild3 dL_law_182 ?_
  refine V_iconst 1 dL_law_183 (by decide) ?_
  refine V_iadd dL_law_184 ?_
  refine V_top (y := nI (i + 1)) (nI_add i 1) ?_
  refine V_sldk hs dL_law_185 ⟨by omega, by omega⟩ ?_
  refine V_ald0 dL_law_186 ?_
  refine V_ild3 dL_law_187 ?_
  refine V_iconst 2 dL_law_188 (by decide) ?_
  refine V_iadd dL_law_189 ?_
  refine V_top (y := nI (i + 2)) (nI_add i 2) ?_
  refine V_sldk hs dL_law_190 ⟨by omega, by omega⟩ ?_
  refine V_ald0 dL_law_191 ?_
  refine V_ild3 dL_law_192 ?_
  refine V_iconst 3 dL_law_193 (by decide) ?_
  refine V_iadd dL_law_194 ?_
  refine V_top (y := nI (i + 3)) (nI_add i 3) ?_
  refine V_sldk hs dL_law_195 ⟨by omega, by omega⟩ ?_
  refine V_ald0 dL_law_196 ?_
  refine V_ild3 dL_law_197 ?_
  refine V_iconst 4 dL_law_198 (by decide) ?_
  refine V_iadd dL_law_199 ?_
  refine V_top (y := nI (i + 4)) (nI_add i 4) ?_
  refine V_sldk hs dL_law_200 ⟨by omega, by omega⟩ ?_
  refine V_callVR lm_L_13 (ok1.fr (mW B tc τ)) dL_law_201 (q0 := 0) rfl rfl (dep8 h8 h7.1 (by decide)) rfl (Nat.le_of_ble_eq_true rfl) (fun r ws' hq => ?_)
  obtain ⟨w1, rfl, σ1, rfl, rfl, hs1⟩ := hq
  refine V_ald2 dL_law_204 ?_
  refine V_ald0 dL_law_205 ?_
  refine V_ild3 dL_law_206 ?_
  refine V_iconst 1 dL_law_207 (by decide) ?_
  refine V_iadd dL_law_208 ?_
  refine V_top (y := nI (i + 1)) (nI_add i 1) ?_
  refine V_sldk hs dL_law_209 ⟨by omega, by omega⟩ ?_
  refine V_ald0 dL_law_210 ?_
  refine V_ild3 dL_law_211 ?_
  refine V_iconst 2 dL_law_212 (by decide) ?_
  refine V_iadd dL_law_213 ?_
  refine V_top (y := nI (i + 2)) (nI_add i 2) ?_
  refine V_sldk hs dL_law_214 ⟨by omega, by omega⟩ ?_
  refine V_ald0 dL_law_215 ?_
  refine V_ild3 dL_law_216 ?_
  refine V_iconst 3 dL_law_217 (by decide) ?_
  refine V_iadd dL_law_218 ?_
  refine V_top (y := nI (i + 3)) (nI_add i 3) ?_
  refine V_sldk hs dL_law_219 ⟨by omega, by omega⟩ ?_
  refine V_ald0 dL_law_220 ?_
  refine V_ild3 dL_law_221 ?_
  refine V_iconst 4 dL_law_222 (by decide) ?_
  refine V_iadd dL_law_223 ?_
  refine V_top (y := nI (i + 4)) (nI_add i 4) ?_
  refine V_sldk hs dL_law_224 ⟨by omega, by omega⟩ ?_
  refine V_callVR lm_L_17 (ok2.fl (cW A tc σ1)) dL_law_225 (q0 := 34) rfl rfl (dep8 h8 h7.2 (by decide)) rfl (Nat.le_of_ble_eq_true rfl) (fun r ws' hq => ?_)
  obtain ⟨w2, rfl, τ1, rfl, rfl, ht1⟩ := hq
  exact V_icmp_eq 1251 dL_law_228 (by decide) (fun _ => kk σ1 τ1 (hQ σ1 τ1 hs1 ht1)) (fun c => absurd rfl c)
set_option maxRecDepth 100000 in
set_option maxHeartbeats 4000000 in
theorem law_c1 (hs : Scr X b Ls xs) (h8 : X.2.2.2.1 = 8) (hL : Ls ≤ 384) (hi : i + 6 ≤ Ls) (hR : Rl σ τ) (hp : Pair Rl yX5_ofMorning cX5_ofMorning 3 yX6_ofMorning cX6_ofMorning 3 [.int (xs (i + 1)), .int (xs (i + 2))]) (kk : ∀ σ' τ', Rl σ' τ' → V X D tc cL_law RL 4 1251 [some (.ref b), some (.ref (A 0)), some (.ref (B 0)), some (.int (nI i))] [] (cW A tc σ' ++ mW B tc τ')) : V X D tc cL_law RL 4 233 [some (.ref b), some (.ref (A 0)), some (.ref (B 0)), some (.int (nI i))] [] (cW A tc σ ++ mW B tc τ) := by
  obtain ⟨d, d', v, Qs, Qt, h7, ok1, ok2, hQ⟩ := hp D tc A B σ τ hR
  refine V_ald1 dL_law_233 ?_
  refine V_ald0 dL_law_234 ?_
  refine V_ild3 dL_law_235 ?_
  refine V_iconst 1 dL_law_236 (by decide) ?_
  refine V_iadd dL_law_237 ?_
  refine V_top (y := nI (i + 1)) (nI_add i 1) ?_
  refine V_sldk hs dL_law_238 ⟨by omega, by omega⟩ ?_
  refine V_ald0 dL_law_239 ?_
  refine V_ild3 dL_law_240 ?_
  refine V_iconst 2 dL_law_241 (by decide) ?_
  refine V_iadd dL_law_242 ?_
  refine V_top (y := nI (i + 2)) (nI_add i 2) ?_
  refine V_sldk hs dL_law_243 ⟨by omega, by omega⟩ ?_
  refine V_callVR lm_L_18 (ok1.fr (mW B tc τ)) dL_law_244 (q0 := 0) rfl rfl (dep8 h8 h7.1 (by decide)) rfl (Nat.le_of_ble_eq_true rfl) (fun r ws' hq => ?_)
  obtain ⟨w1, rfl, σ1, rfl, rfl, hs1⟩ := hq
  refine V_ald2 dL_law_247 ?_
  refine V_ald0 dL_law_248 ?_
  refine V_ild3 dL_law_249 ?_
  refine V_iconst 1 dL_law_250 (by decide) ?_
  refine V_iadd dL_law_251 ?_
  refine V_top (y := nI (i + 1)) (nI_add i 1) ?_
  refine V_sldk hs dL_law_252 ⟨by omega, by omega⟩ ?_
  refine V_ald0 dL_law_253 ?_
  refine V_ild3 dL_law_254 ?_
  refine V_iconst 2 dL_law_255 (by decide) ?_
  refine V_iadd dL_law_256 ?_
  refine V_top (y := nI (i + 2)) (nI_add i 2) ?_
  refine V_sldk hs dL_law_257 ⟨by omega, by omega⟩ ?_
  refine V_callVR lm_L_22 (ok2.fl (cW A tc σ1)) dL_law_258 (q0 := 34) rfl rfl (dep8 h8 h7.2 (by decide)) rfl (Nat.le_of_ble_eq_true rfl) (fun r ws' hq => ?_)
  obtain ⟨w2, rfl, τ1, rfl, rfl, ht1⟩ := hq
  exact V_icmp_eq 1251 dL_law_261 (by decide) (fun _ => kk σ1 τ1 (hQ σ1 τ1 hs1 ht1)) (fun c => absurd rfl c)
set_option maxRecDepth 100000 in
set_option maxHeartbeats 4000000 in
theorem law_c2 (hs : Scr X b Ls xs) (h8 : X.2.2.2.1 = 8) (hL : Ls ≤ 384) (hi : i + 6 ≤ Ls) (hR : Rl σ τ) (hp : Pair Rl yX5_ofPerson cX5_ofPerson 3 yX6_ofPerson cX6_ofPerson 3 [.int (xs (i + 1)), .int (xs (i + 2))]) (kk : ∀ σ' τ', Rl σ' τ' → V X D tc cL_law RL 4 1251 [some (.ref b), some (.ref (A 0)), some (.ref (B 0)), some (.int (nI i))] [] (cW A tc σ' ++ mW B tc τ')) : V X D tc cL_law RL 4 266 [some (.ref b), some (.ref (A 0)), some (.ref (B 0)), some (.int (nI i))] [] (cW A tc σ ++ mW B tc τ) := by
  obtain ⟨d, d', v, Qs, Qt, h7, ok1, ok2, hQ⟩ := hp D tc A B σ τ hR
  refine V_ald1 dL_law_266 ?_
  refine V_ald0 dL_law_267 ?_
  refine V_ild3 dL_law_268 ?_
  refine V_iconst 1 dL_law_269 (by decide) ?_
  refine V_iadd dL_law_270 ?_
  refine V_top (y := nI (i + 1)) (nI_add i 1) ?_
  refine V_sldk hs dL_law_271 ⟨by omega, by omega⟩ ?_
  refine V_ald0 dL_law_272 ?_
  refine V_ild3 dL_law_273 ?_
  refine V_iconst 2 dL_law_274 (by decide) ?_
  refine V_iadd dL_law_275 ?_
  refine V_top (y := nI (i + 2)) (nI_add i 2) ?_
  refine V_sldk hs dL_law_276 ⟨by omega, by omega⟩ ?_
  refine V_callVR lm_L_23 (ok1.fr (mW B tc τ)) dL_law_277 (q0 := 0) rfl rfl (dep8 h8 h7.1 (by decide)) rfl (Nat.le_of_ble_eq_true rfl) (fun r ws' hq => ?_)
  obtain ⟨w1, rfl, σ1, rfl, rfl, hs1⟩ := hq
  refine V_ald2 dL_law_280 ?_
  refine V_ald0 dL_law_281 ?_
  refine V_ild3 dL_law_282 ?_
  refine V_iconst 1 dL_law_283 (by decide) ?_
  refine V_iadd dL_law_284 ?_
  refine V_top (y := nI (i + 1)) (nI_add i 1) ?_
  refine V_sldk hs dL_law_285 ⟨by omega, by omega⟩ ?_
  refine V_ald0 dL_law_286 ?_
  refine V_ild3 dL_law_287 ?_
  refine V_iconst 2 dL_law_288 (by decide) ?_
  refine V_iadd dL_law_289 ?_
  refine V_top (y := nI (i + 2)) (nI_add i 2) ?_
  refine V_sldk hs dL_law_290 ⟨by omega, by omega⟩ ?_
  refine V_callVR lm_L_26 (ok2.fl (cW A tc σ1)) dL_law_291 (q0 := 34) rfl rfl (dep8 h8 h7.2 (by decide)) rfl (Nat.le_of_ble_eq_true rfl) (fun r ws' hq => ?_)
  obtain ⟨w2, rfl, τ1, rfl, rfl, ht1⟩ := hq
  exact V_icmp_eq 1251 dL_law_294 (by decide) (fun _ => kk σ1 τ1 (hQ σ1 τ1 hs1 ht1)) (fun c => absurd rfl c)
set_option maxRecDepth 100000 in
set_option maxHeartbeats 4000000 in
theorem law_c3 (hs : Scr X b Ls xs) (h8 : X.2.2.2.1 = 8) (hL : Ls ≤ 384) (hi : i + 6 ≤ Ls) (hR : Rl σ τ) (hp : Pair Rl yX5_fill cX5_fill 4 yX6_fill cX6_fill 4 [.int (xs (i + 1)), .int (xs (i + 2))]) (kk : ∀ σ' τ', Rl σ' τ' → V X D tc cL_law RL 4 1251 [some (.ref b), some (.ref (A 0)), some (.ref (B 0)), some (.int (nI i))] [] (cW A tc σ' ++ mW B tc τ')) : V X D tc cL_law RL 4 299 [some (.ref b), some (.ref (A 0)), some (.ref (B 0)), some (.int (nI i))] [] (cW A tc σ ++ mW B tc τ) := by
  obtain ⟨d, d', v, Qs, Qt, h7, ok1, ok2, hQ⟩ := hp D tc A B σ τ hR
  refine V_ald1 dL_law_299 ?_
  refine V_ald0 dL_law_300 ?_
  refine V_ild3 dL_law_301 ?_
  refine V_iconst 1 dL_law_302 (by decide) ?_
  refine V_iadd dL_law_303 ?_
  refine V_top (y := nI (i + 1)) (nI_add i 1) ?_
  refine V_sldk hs dL_law_304 ⟨by omega, by omega⟩ ?_
  refine V_ald0 dL_law_305 ?_
  refine V_ild3 dL_law_306 ?_
  refine V_iconst 2 dL_law_307 (by decide) ?_
  refine V_iadd dL_law_308 ?_
  refine V_top (y := nI (i + 2)) (nI_add i 2) ?_
  refine V_sldk hs dL_law_309 ⟨by omega, by omega⟩ ?_
  refine V_callVR lm_L_27 (ok1.fr (mW B tc τ)) dL_law_310 (q0 := 0) rfl rfl (dep8 h8 h7.1 (by decide)) rfl (Nat.le_of_ble_eq_true rfl) (fun r ws' hq => ?_)
  obtain ⟨w1, rfl, σ1, rfl, rfl, hs1⟩ := hq
  refine V_ald2 dL_law_313 ?_
  refine V_ald0 dL_law_314 ?_
  refine V_ild3 dL_law_315 ?_
  refine V_iconst 1 dL_law_316 (by decide) ?_
  refine V_iadd dL_law_317 ?_
  refine V_top (y := nI (i + 1)) (nI_add i 1) ?_
  refine V_sldk hs dL_law_318 ⟨by omega, by omega⟩ ?_
  refine V_ald0 dL_law_319 ?_
  refine V_ild3 dL_law_320 ?_
  refine V_iconst 2 dL_law_321 (by decide) ?_
  refine V_iadd dL_law_322 ?_
  refine V_top (y := nI (i + 2)) (nI_add i 2) ?_
  refine V_sldk hs dL_law_323 ⟨by omega, by omega⟩ ?_
  refine V_callVR lm_L_30 (ok2.fl (cW A tc σ1)) dL_law_324 (q0 := 34) rfl rfl (dep8 h8 h7.2 (by decide)) rfl (Nat.le_of_ble_eq_true rfl) (fun r ws' hq => ?_)
  obtain ⟨w2, rfl, τ1, rfl, rfl, ht1⟩ := hq
  exact V_icmp_eq 1251 dL_law_327 (by decide) (fun _ => kk σ1 τ1 (hQ σ1 τ1 hs1 ht1)) (fun c => absurd rfl c)
set_option maxRecDepth 100000 in
set_option maxHeartbeats 4000000 in
theorem law_c4 (hs : Scr X b Ls xs) (h8 : X.2.2.2.1 = 8) (hL : Ls ≤ 384) (hi : i + 6 ≤ Ls) (hR : Rl σ τ) (hp : Pair Rl yX5_rate cX5_rate 3 yX6_rate cX6_rate 3 [.int (xs (i + 1))]) (kk : ∀ σ' τ', Rl σ' τ' → V X D tc cL_law RL 4 1251 [some (.ref b), some (.ref (A 0)), some (.ref (B 0)), some (.int (nI i))] [] (cW A tc σ' ++ mW B tc τ')) : V X D tc cL_law RL 4 332 [some (.ref b), some (.ref (A 0)), some (.ref (B 0)), some (.int (nI i))] [] (cW A tc σ ++ mW B tc τ) := by
  obtain ⟨d, d', v, Qs, Qt, h7, ok1, ok2, hQ⟩ := hp D tc A B σ τ hR
  refine V_ald1 dL_law_332 ?_
  refine V_ald0 dL_law_333 ?_
  refine V_ild3 dL_law_334 ?_
  refine V_iconst 1 dL_law_335 (by decide) ?_
  refine V_iadd dL_law_336 ?_
  refine V_top (y := nI (i + 1)) (nI_add i 1) ?_
  refine V_sldk hs dL_law_337 ⟨by omega, by omega⟩ ?_
  refine V_callVR lm_L_31 (ok1.fr (mW B tc τ)) dL_law_338 (q0 := 0) rfl rfl (dep8 h8 h7.1 (by decide)) rfl (Nat.le_of_ble_eq_true rfl) (fun r ws' hq => ?_)
  obtain ⟨w1, rfl, σ1, rfl, rfl, hs1⟩ := hq
  refine V_ald2 dL_law_341 ?_
  refine V_ald0 dL_law_342 ?_
  refine V_ild3 dL_law_343 ?_
  refine V_iconst 1 dL_law_344 (by decide) ?_
  refine V_iadd dL_law_345 ?_
  refine V_top (y := nI (i + 1)) (nI_add i 1) ?_
  refine V_sldk hs dL_law_346 ⟨by omega, by omega⟩ ?_
  refine V_callVR lm_L_35 (ok2.fl (cW A tc σ1)) dL_law_347 (q0 := 34) rfl rfl (dep8 h8 h7.2 (by decide)) rfl (Nat.le_of_ble_eq_true rfl) (fun r ws' hq => ?_)
  obtain ⟨w2, rfl, τ1, rfl, rfl, ht1⟩ := hq
  exact V_icmp_eq 1251 dL_law_350 (by decide) (fun _ => kk σ1 τ1 (hQ σ1 τ1 hs1 ht1)) (fun c => absurd rfl c)
set_option maxRecDepth 100000 in
set_option maxHeartbeats 4000000 in
theorem law_c5 (hs : Scr X b Ls xs) (h8 : X.2.2.2.1 = 8) (hL : Ls ≤ 384) (hi : i + 6 ≤ Ls) (hR : Rl σ τ) (hp : Pair Rl yX5_fresh cX5_fresh 3 yX6_fresh cX6_fresh 3 [.int (xs (i + 1)), .int (xs (i + 2))]) (kk : ∀ σ' τ', Rl σ' τ' → V X D tc cL_law RL 4 1251 [some (.ref b), some (.ref (A 0)), some (.ref (B 0)), some (.int (nI i))] [] (cW A tc σ' ++ mW B tc τ')) : V X D tc cL_law RL 4 355 [some (.ref b), some (.ref (A 0)), some (.ref (B 0)), some (.int (nI i))] [] (cW A tc σ ++ mW B tc τ) := by
  obtain ⟨d, d', v, Qs, Qt, h7, ok1, ok2, hQ⟩ := hp D tc A B σ τ hR
  refine V_ald1 dL_law_355 ?_
  refine V_ald0 dL_law_356 ?_
  refine V_ild3 dL_law_357 ?_
  refine V_iconst 1 dL_law_358 (by decide) ?_
  refine V_iadd dL_law_359 ?_
  refine V_top (y := nI (i + 1)) (nI_add i 1) ?_
  refine V_sldk hs dL_law_360 ⟨by omega, by omega⟩ ?_
  refine V_ald0 dL_law_361 ?_
  refine V_ild3 dL_law_362 ?_
  refine V_iconst 2 dL_law_363 (by decide) ?_
  refine V_iadd dL_law_364 ?_
  refine V_top (y := nI (i + 2)) (nI_add i 2) ?_
  refine V_sldk hs dL_law_365 ⟨by omega, by omega⟩ ?_
  refine V_callVR lm_L_36 (ok1.fr (mW B tc τ)) dL_law_366 (q0 := 0) rfl rfl (dep8 h8 h7.1 (by decide)) rfl (Nat.le_of_ble_eq_true rfl) (fun r ws' hq => ?_)
  obtain ⟨w1, rfl, σ1, rfl, rfl, hs1⟩ := hq
  refine V_ald2 dL_law_369 ?_
  refine V_ald0 dL_law_370 ?_
  refine V_ild3 dL_law_371 ?_
  refine V_iconst 1 dL_law_372 (by decide) ?_
  refine V_iadd dL_law_373 ?_
  refine V_top (y := nI (i + 1)) (nI_add i 1) ?_
  refine V_sldk hs dL_law_374 ⟨by omega, by omega⟩ ?_
  refine V_ald0 dL_law_375 ?_
  refine V_ild3 dL_law_376 ?_
  refine V_iconst 2 dL_law_377 (by decide) ?_
  refine V_iadd dL_law_378 ?_
  refine V_top (y := nI (i + 2)) (nI_add i 2) ?_
  refine V_sldk hs dL_law_379 ⟨by omega, by omega⟩ ?_
  refine V_callVR lm_L_39 (ok2.fl (cW A tc σ1)) dL_law_380 (q0 := 34) rfl rfl (dep8 h8 h7.2 (by decide)) rfl (Nat.le_of_ble_eq_true rfl) (fun r ws' hq => ?_)
  obtain ⟨w2, rfl, τ1, rfl, rfl, ht1⟩ := hq
  exact V_icmp_eq 1251 dL_law_383 (by decide) (fun _ => kk σ1 τ1 (hQ σ1 τ1 hs1 ht1)) (fun c => absurd rfl c)
set_option maxRecDepth 100000 in
set_option maxHeartbeats 4000000 in
theorem law_c6 (hs : Scr X b Ls xs) (h8 : X.2.2.2.1 = 8) (hL : Ls ≤ 384) (hi : i + 6 ≤ Ls) (hR : Rl σ τ) (hp : Pair Rl yX5_price cX5_price 2 yX6_price cX6_price 2 [.int (xs (i + 1))]) (kk : ∀ σ' τ', Rl σ' τ' → V X D tc cL_law RL 4 1251 [some (.ref b), some (.ref (A 0)), some (.ref (B 0)), some (.int (nI i))] [] (cW A tc σ' ++ mW B tc τ')) : V X D tc cL_law RL 4 388 [some (.ref b), some (.ref (A 0)), some (.ref (B 0)), some (.int (nI i))] [] (cW A tc σ ++ mW B tc τ) := by
  obtain ⟨d, d', v, Qs, Qt, h7, ok1, ok2, hQ⟩ := hp D tc A B σ τ hR
  refine V_ald1 dL_law_388 ?_
  refine V_ald0 dL_law_389 ?_
  refine V_ild3 dL_law_390 ?_
  refine V_iconst 1 dL_law_391 (by decide) ?_
  refine V_iadd dL_law_392 ?_
  refine V_top (y := nI (i + 1)) (nI_add i 1) ?_
  refine V_sldk hs dL_law_393 ⟨by omega, by omega⟩ ?_
  refine V_callVR lm_L_40 (ok1.fr (mW B tc τ)) dL_law_394 (q0 := 0) rfl rfl (dep8 h8 h7.1 (by decide)) rfl (Nat.le_of_ble_eq_true rfl) (fun r ws' hq => ?_)
  obtain ⟨w1, rfl, σ1, rfl, rfl, hs1⟩ := hq
  refine V_ald2 dL_law_397 ?_
  refine V_ald0 dL_law_398 ?_
  refine V_ild3 dL_law_399 ?_
  refine V_iconst 1 dL_law_400 (by decide) ?_
  refine V_iadd dL_law_401 ?_
  refine V_top (y := nI (i + 1)) (nI_add i 1) ?_
  refine V_sldk hs dL_law_402 ⟨by omega, by omega⟩ ?_
  refine V_callVR lm_L_43 (ok2.fl (cW A tc σ1)) dL_law_403 (q0 := 34) rfl rfl (dep8 h8 h7.2 (by decide)) rfl (Nat.le_of_ble_eq_true rfl) (fun r ws' hq => ?_)
  obtain ⟨w2, rfl, τ1, rfl, rfl, ht1⟩ := hq
  exact V_icmp_eq 1251 dL_law_406 (by decide) (fun _ => kk σ1 τ1 (hQ σ1 τ1 hs1 ht1)) (fun c => absurd rfl c)
set_option maxRecDepth 100000 in
set_option maxHeartbeats 4000000 in
theorem law_c7 (hs : Scr X b Ls xs) (h8 : X.2.2.2.1 = 8) (hL : Ls ≤ 384) (hi : i + 6 ≤ Ls) (hR : Rl σ τ) (hp : Pair Rl yX5_sell cX5_sell 3 yX6_sell cX6_sell 4 [.int (xs (i + 1)), .int (xs (i + 2))]) (kk : ∀ σ' τ', Rl σ' τ' → V X D tc cL_law RL 4 1251 [some (.ref b), some (.ref (A 0)), some (.ref (B 0)), some (.int (nI i))] [] (cW A tc σ' ++ mW B tc τ')) : V X D tc cL_law RL 4 411 [some (.ref b), some (.ref (A 0)), some (.ref (B 0)), some (.int (nI i))] [] (cW A tc σ ++ mW B tc τ) := by
  obtain ⟨d, d', v, Qs, Qt, h7, ok1, ok2, hQ⟩ := hp D tc A B σ τ hR
  refine V_ald1 dL_law_411 ?_
  refine V_ald0 dL_law_412 ?_
  refine V_ild3 dL_law_413 ?_
  refine V_iconst 1 dL_law_414 (by decide) ?_
  refine V_iadd dL_law_415 ?_
  refine V_top (y := nI (i + 1)) (nI_add i 1) ?_
  refine V_sldk hs dL_law_416 ⟨by omega, by omega⟩ ?_
  refine V_ald0 dL_law_417 ?_
  refine V_ild3 dL_law_418 ?_
  refine V_iconst 2 dL_law_419 (by decide) ?_
  refine V_iadd dL_law_420 ?_
  refine V_top (y := nI (i + 2)) (nI_add i 2) ?_
  refine V_sldk hs dL_law_421 ⟨by omega, by omega⟩ ?_
  refine V_callVR lm_L_44 (ok1.fr (mW B tc τ)) dL_law_422 (q0 := 0) rfl rfl (dep8 h8 h7.1 (by decide)) rfl (Nat.le_of_ble_eq_true rfl) (fun r ws' hq => ?_)
  obtain ⟨w1, rfl, σ1, rfl, rfl, hs1⟩ := hq
  refine V_ald2 dL_law_425 ?_
  refine V_ald0 dL_law_426 ?_
  refine V_ild3 dL_law_427 ?_
  refine V_iconst 1 dL_law_428 (by decide) ?_
  refine V_iadd dL_law_429 ?_
  refine V_top (y := nI (i + 1)) (nI_add i 1) ?_
  refine V_sldk hs dL_law_430 ⟨by omega, by omega⟩ ?_
  refine V_ald0 dL_law_431 ?_
  refine V_ild3 dL_law_432 ?_
  refine V_iconst 2 dL_law_433 (by decide) ?_
  refine V_iadd dL_law_434 ?_
  refine V_top (y := nI (i + 2)) (nI_add i 2) ?_
  refine V_sldk hs dL_law_435 ⟨by omega, by omega⟩ ?_
  refine V_callVR lm_L_47 (ok2.fl (cW A tc σ1)) dL_law_436 (q0 := 34) rfl rfl (dep8 h8 h7.2 (by decide)) rfl (Nat.le_of_ble_eq_true rfl) (fun r ws' hq => ?_)
  obtain ⟨w2, rfl, τ1, rfl, rfl, ht1⟩ := hq
  exact V_icmp_eq 1251 dL_law_439 (by decide) (fun _ => kk σ1 τ1 (hQ σ1 τ1 hs1 ht1)) (fun c => absurd rfl c)
set_option maxRecDepth 100000 in
set_option maxHeartbeats 4000000 in
theorem law_c8 (hs : Scr X b Ls xs) (h8 : X.2.2.2.1 = 8) (hL : Ls ≤ 384) (hi : i + 6 ≤ Ls) (hR : Rl σ τ) (hp : Pair Rl yX5_open cX5_open 2 yX6_open cX6_open 2 [.int (xs (i + 1))]) (kk : ∀ σ' τ', Rl σ' τ' → V X D tc cL_law RL 4 1251 [some (.ref b), some (.ref (A 0)), some (.ref (B 0)), some (.int (nI i))] [] (cW A tc σ' ++ mW B tc τ')) : V X D tc cL_law RL 4 444 [some (.ref b), some (.ref (A 0)), some (.ref (B 0)), some (.int (nI i))] [] (cW A tc σ ++ mW B tc τ) := by
  obtain ⟨d, d', v, Qs, Qt, h7, ok1, ok2, hQ⟩ := hp D tc A B σ τ hR
  refine V_ald1 dL_law_444 ?_
  refine V_ald0 dL_law_445 ?_
  refine V_ild3 dL_law_446 ?_
  refine V_iconst 1 dL_law_447 (by decide) ?_
  refine V_iadd dL_law_448 ?_
  refine V_top (y := nI (i + 1)) (nI_add i 1) ?_
  refine V_sldk hs dL_law_449 ⟨by omega, by omega⟩ ?_
  refine V_callVR lm_L_48 (ok1.fr (mW B tc τ)) dL_law_450 (q0 := 0) rfl rfl (dep8 h8 h7.1 (by decide)) rfl (Nat.le_of_ble_eq_true rfl) (fun r ws' hq => ?_)
  obtain ⟨w1, rfl, σ1, rfl, rfl, hs1⟩ := hq
  refine V_ald2 dL_law_453 ?_
  refine V_ald0 dL_law_454 ?_
  refine V_ild3 dL_law_455 ?_
  refine V_iconst 1 dL_law_456 (by decide) ?_
  refine V_iadd dL_law_457 ?_
  refine V_top (y := nI (i + 1)) (nI_add i 1) ?_
  refine V_sldk hs dL_law_458 ⟨by omega, by omega⟩ ?_
  refine V_callVR lm_L_51 (ok2.fl (cW A tc σ1)) dL_law_459 (q0 := 34) rfl rfl (dep8 h8 h7.2 (by decide)) rfl (Nat.le_of_ble_eq_true rfl) (fun r ws' hq => ?_)
  obtain ⟨w2, rfl, τ1, rfl, rfl, ht1⟩ := hq
  exact V_icmp_eq 1251 dL_law_462 (by decide) (fun _ => kk σ1 τ1 (hQ σ1 τ1 hs1 ht1)) (fun c => absurd rfl c)
set_option maxRecDepth 100000 in
set_option maxHeartbeats 4000000 in
theorem law_c9 (hs : Scr X b Ls xs) (h8 : X.2.2.2.1 = 8) (hL : Ls ≤ 384) (hi : i + 6 ≤ Ls) (hR : Rl σ τ) (hp : Pair Rl yX5_sleep cX5_sleep 2 yX6_sleep cX6_sleep 2 [.int (xs (i + 1))]) (kk : ∀ σ' τ', Rl σ' τ' → V X D tc cL_law RL 4 1251 [some (.ref b), some (.ref (A 0)), some (.ref (B 0)), some (.int (nI i))] [] (cW A tc σ' ++ mW B tc τ')) : V X D tc cL_law RL 4 467 [some (.ref b), some (.ref (A 0)), some (.ref (B 0)), some (.int (nI i))] [] (cW A tc σ ++ mW B tc τ) := by
  obtain ⟨d, d', v, Qs, Qt, h7, ok1, ok2, hQ⟩ := hp D tc A B σ τ hR
  refine V_ald1 dL_law_467 ?_
  refine V_ald0 dL_law_468 ?_
  refine V_ild3 dL_law_469 ?_
  refine V_iconst 1 dL_law_470 (by decide) ?_
  refine V_iadd dL_law_471 ?_
  refine V_top (y := nI (i + 1)) (nI_add i 1) ?_
  refine V_sldk hs dL_law_472 ⟨by omega, by omega⟩ ?_
  refine V_callVR lm_L_52 (ok1.fr (mW B tc τ)) dL_law_473 (q0 := 0) rfl rfl (dep8 h8 h7.1 (by decide)) rfl (Nat.le_of_ble_eq_true rfl) (fun r ws' hq => ?_)
  obtain ⟨w1, rfl, σ1, rfl, rfl, hs1⟩ := hq
  refine V_ald2 dL_law_476 ?_
  refine V_ald0 dL_law_477 ?_
  refine V_ild3 dL_law_478 ?_
  refine V_iconst 1 dL_law_479 (by decide) ?_
  refine V_iadd dL_law_480 ?_
  refine V_top (y := nI (i + 1)) (nI_add i 1) ?_
  refine V_sldk hs dL_law_481 ⟨by omega, by omega⟩ ?_
  refine V_callVR lm_L_55 (ok2.fl (cW A tc σ1)) dL_law_482 (q0 := 34) rfl rfl (dep8 h8 h7.2 (by decide)) rfl (Nat.le_of_ble_eq_true rfl) (fun r ws' hq => ?_)
  obtain ⟨w2, rfl, τ1, rfl, rfl, ht1⟩ := hq
  exact V_icmp_eq 1251 dL_law_485 (by decide) (fun _ => kk σ1 τ1 (hQ σ1 τ1 hs1 ht1)) (fun c => absurd rfl c)
set_option maxRecDepth 100000 in
set_option maxHeartbeats 4000000 in
theorem law_c10 (hs : Scr X b Ls xs) (h8 : X.2.2.2.1 = 8) (hL : Ls ≤ 384) (hi : i + 6 ≤ Ls) (hR : Rl σ τ) (hp : Pair Rl yX5_year cX5_year 9 yX6_year cX6_year 11 [.int (xs (i + 1)), .int (xs (i + 2)), .int (xs (i + 3)), .int (xs (i + 4)), .int (xs (i + 5))]) (kk : ∀ σ' τ', Rl σ' τ' → V X D tc cL_law RL 4 1251 [some (.ref b), some (.ref (A 0)), some (.ref (B 0)), some (.int (nI i))] [] (cW A tc σ' ++ mW B tc τ')) : V X D tc cL_law RL 4 490 [some (.ref b), some (.ref (A 0)), some (.ref (B 0)), some (.int (nI i))] [] (cW A tc σ ++ mW B tc τ) := by
  obtain ⟨d, d', v, Qs, Qt, h7, ok1, ok2, hQ⟩ := hp D tc A B σ τ hR
  refine V_ald1 dL_law_490 ?_
  refine V_ald0 dL_law_491 ?_
  refine V_ild3 dL_law_492 ?_
  refine V_iconst 1 dL_law_493 (by decide) ?_
  refine V_iadd dL_law_494 ?_
  refine V_top (y := nI (i + 1)) (nI_add i 1) ?_
  refine V_sldk hs dL_law_495 ⟨by omega, by omega⟩ ?_
  refine V_ald0 dL_law_496 ?_
  refine V_ild3 dL_law_497 ?_
  refine V_iconst 2 dL_law_498 (by decide) ?_
  refine V_iadd dL_law_499 ?_
  refine V_top (y := nI (i + 2)) (nI_add i 2) ?_
  refine V_sldk hs dL_law_500 ⟨by omega, by omega⟩ ?_
  refine V_ald0 dL_law_501 ?_
  refine V_ild3 dL_law_502 ?_
  refine V_iconst 3 dL_law_503 (by decide) ?_
  refine V_iadd dL_law_504 ?_
  refine V_top (y := nI (i + 3)) (nI_add i 3) ?_
  refine V_sldk hs dL_law_505 ⟨by omega, by omega⟩ ?_
  refine V_ald0 dL_law_506 ?_
  refine V_ild3 dL_law_507 ?_
  refine V_iconst 4 dL_law_508 (by decide) ?_
  refine V_iadd dL_law_509 ?_
  refine V_top (y := nI (i + 4)) (nI_add i 4) ?_
  refine V_sldk hs dL_law_510 ⟨by omega, by omega⟩ ?_
  refine V_ald0 dL_law_511 ?_
  refine V_ild3 dL_law_512 ?_
  refine V_iconst 5 dL_law_513 (by decide) ?_
  refine V_iadd dL_law_514 ?_
  refine V_top (y := nI (i + 5)) (nI_add i 5) ?_
  refine V_sldk hs dL_law_515 ⟨by omega, by omega⟩ ?_
  refine V_callVR lm_L_56 (ok1.fr (mW B tc τ)) dL_law_516 (q0 := 0) rfl rfl (dep8 h8 h7.1 (by decide)) rfl (Nat.le_of_ble_eq_true rfl) (fun r ws' hq => ?_)
  obtain ⟨w1, rfl, σ1, rfl, rfl, hs1⟩ := hq
  refine V_ald2 dL_law_519 ?_
  refine V_ald0 dL_law_520 ?_
  refine V_ild3 dL_law_521 ?_
  refine V_iconst 1 dL_law_522 (by decide) ?_
  refine V_iadd dL_law_523 ?_
  refine V_top (y := nI (i + 1)) (nI_add i 1) ?_
  refine V_sldk hs dL_law_524 ⟨by omega, by omega⟩ ?_
  refine V_ald0 dL_law_525 ?_
  refine V_ild3 dL_law_526 ?_
  refine V_iconst 2 dL_law_527 (by decide) ?_
  refine V_iadd dL_law_528 ?_
  refine V_top (y := nI (i + 2)) (nI_add i 2) ?_
  refine V_sldk hs dL_law_529 ⟨by omega, by omega⟩ ?_
  refine V_ald0 dL_law_530 ?_
  refine V_ild3 dL_law_531 ?_
  refine V_iconst 3 dL_law_532 (by decide) ?_
  refine V_iadd dL_law_533 ?_
  refine V_top (y := nI (i + 3)) (nI_add i 3) ?_
  refine V_sldk hs dL_law_534 ⟨by omega, by omega⟩ ?_
  refine V_ald0 dL_law_535 ?_
  refine V_ild3 dL_law_536 ?_
  refine V_iconst 4 dL_law_537 (by decide) ?_
  refine V_iadd dL_law_538 ?_
  refine V_top (y := nI (i + 4)) (nI_add i 4) ?_
  refine V_sldk hs dL_law_539 ⟨by omega, by omega⟩ ?_
  refine V_ald0 dL_law_540 ?_
  refine V_ild3 dL_law_541 ?_
  refine V_iconst 5 dL_law_542 (by decide) ?_
  refine V_iadd dL_law_543 ?_
  refine V_top (y := nI (i + 5)) (nI_add i 5) ?_
  refine V_sldk hs dL_law_544 ⟨by omega, by omega⟩ ?_
  refine V_callVR lm_L_60 (ok2.fl (cW A tc σ1)) dL_law_545 (q0 := 34) rfl rfl (dep8 h8 h7.2 (by decide)) rfl (Nat.le_of_ble_eq_true rfl) (fun r ws' hq => ?_)
  obtain ⟨w2, rfl, τ1, rfl, rfl, ht1⟩ := hq
  exact V_icmp_eq 1251 dL_law_548 (by decide) (fun _ => kk σ1 τ1 (hQ σ1 τ1 hs1 ht1)) (fun c => absurd rfl c)
set_option maxRecDepth 100000 in
set_option maxHeartbeats 4000000 in
theorem law_c11 (hs : Scr X b Ls xs) (h8 : X.2.2.2.1 = 8) (hL : Ls ≤ 384) (hi : i + 6 ≤ Ls) (hR : Rl σ τ) (hp : Pair Rl yX5_feast cX5_feast 2 yX6_feast cX6_feast 2 [.int (xs (i + 1))]) (kk : ∀ σ' τ', Rl σ' τ' → V X D tc cL_law RL 4 1251 [some (.ref b), some (.ref (A 0)), some (.ref (B 0)), some (.int (nI i))] [] (cW A tc σ' ++ mW B tc τ')) : V X D tc cL_law RL 4 553 [some (.ref b), some (.ref (A 0)), some (.ref (B 0)), some (.int (nI i))] [] (cW A tc σ ++ mW B tc τ) := by
  obtain ⟨d, d', v, Qs, Qt, h7, ok1, ok2, hQ⟩ := hp D tc A B σ τ hR
  refine V_ald1 dL_law_553 ?_
  refine V_ald0 dL_law_554 ?_
  refine V_ild3 dL_law_555 ?_
  refine V_iconst 1 dL_law_556 (by decide) ?_
  refine V_iadd dL_law_557 ?_
  refine V_top (y := nI (i + 1)) (nI_add i 1) ?_
  refine V_sldk hs dL_law_558 ⟨by omega, by omega⟩ ?_
  refine V_callVR lm_L_61 (ok1.fr (mW B tc τ)) dL_law_559 (q0 := 0) rfl rfl (dep8 h8 h7.1 (by decide)) rfl (Nat.le_of_ble_eq_true rfl) (fun r ws' hq => ?_)
  obtain ⟨w1, rfl, σ1, rfl, rfl, hs1⟩ := hq
  refine V_ald2 dL_law_562 ?_
  refine V_ald0 dL_law_563 ?_
  refine V_ild3 dL_law_564 ?_
  refine V_iconst 1 dL_law_565 (by decide) ?_
  refine V_iadd dL_law_566 ?_
  refine V_top (y := nI (i + 1)) (nI_add i 1) ?_
  refine V_sldk hs dL_law_567 ⟨by omega, by omega⟩ ?_
  refine V_callVR lm_L_64 (ok2.fl (cW A tc σ1)) dL_law_568 (q0 := 34) rfl rfl (dep8 h8 h7.2 (by decide)) rfl (Nat.le_of_ble_eq_true rfl) (fun r ws' hq => ?_)
  obtain ⟨w2, rfl, τ1, rfl, rfl, ht1⟩ := hq
  exact V_icmp_eq 1251 dL_law_571 (by decide) (fun _ => kk σ1 τ1 (hQ σ1 τ1 hs1 ht1)) (fun c => absurd rfl c)
set_option maxRecDepth 100000 in
set_option maxHeartbeats 4000000 in
theorem law_c12 (hs : Scr X b Ls xs) (h8 : X.2.2.2.1 = 8) (hL : Ls ≤ 384) (hi : i + 6 ≤ Ls) (hR : Rl σ τ) (hp : Pair Rl yX5_keep cX5_keep 4 yX6_keep cX6_keep 5 [.int (xs (i + 1)), .int (xs (i + 2)), .int (xs (i + 3))]) (kk : ∀ σ' τ', Rl σ' τ' → V X D tc cL_law RL 4 1251 [some (.ref b), some (.ref (A 0)), some (.ref (B 0)), some (.int (nI i))] [] (cW A tc σ' ++ mW B tc τ')) : V X D tc cL_law RL 4 576 [some (.ref b), some (.ref (A 0)), some (.ref (B 0)), some (.int (nI i))] [] (cW A tc σ ++ mW B tc τ) := by
  obtain ⟨d, d', v, Qs, Qt, h7, ok1, ok2, hQ⟩ := hp D tc A B σ τ hR
  refine V_ald1 dL_law_576 ?_
  refine V_ald0 dL_law_577 ?_
  refine V_ild3 dL_law_578 ?_
  refine V_iconst 1 dL_law_579 (by decide) ?_
  refine V_iadd dL_law_580 ?_
  refine V_top (y := nI (i + 1)) (nI_add i 1) ?_
  refine V_sldk hs dL_law_581 ⟨by omega, by omega⟩ ?_
  refine V_ald0 dL_law_582 ?_
  refine V_ild3 dL_law_583 ?_
  refine V_iconst 2 dL_law_584 (by decide) ?_
  refine V_iadd dL_law_585 ?_
  refine V_top (y := nI (i + 2)) (nI_add i 2) ?_
  refine V_sldk hs dL_law_586 ⟨by omega, by omega⟩ ?_
  refine V_ald0 dL_law_587 ?_
  refine V_ild3 dL_law_588 ?_
  refine V_iconst 3 dL_law_589 (by decide) ?_
  refine V_iadd dL_law_590 ?_
  refine V_top (y := nI (i + 3)) (nI_add i 3) ?_
  refine V_sldk hs dL_law_591 ⟨by omega, by omega⟩ ?_
  refine V_callVR lm_L_65 (ok1.fr (mW B tc τ)) dL_law_592 (q0 := 0) rfl rfl (dep8 h8 h7.1 (by decide)) rfl (Nat.le_of_ble_eq_true rfl) (fun r ws' hq => ?_)
  obtain ⟨w1, rfl, σ1, rfl, rfl, hs1⟩ := hq
  refine V_ald2 dL_law_595 ?_
  refine V_ald0 dL_law_596 ?_
  refine V_ild3 dL_law_597 ?_
  refine V_iconst 1 dL_law_598 (by decide) ?_
  refine V_iadd dL_law_599 ?_
  refine V_top (y := nI (i + 1)) (nI_add i 1) ?_
  refine V_sldk hs dL_law_600 ⟨by omega, by omega⟩ ?_
  refine V_ald0 dL_law_601 ?_
  refine V_ild3 dL_law_602 ?_
  refine V_iconst 2 dL_law_603 (by decide) ?_
  refine V_iadd dL_law_604 ?_
  refine V_top (y := nI (i + 2)) (nI_add i 2) ?_
  refine V_sldk hs dL_law_605 ⟨by omega, by omega⟩ ?_
  refine V_ald0 dL_law_606 ?_
  refine V_ild3 dL_law_607 ?_
  refine V_iconst 3 dL_law_608 (by decide) ?_
  refine V_iadd dL_law_609 ?_
  refine V_top (y := nI (i + 3)) (nI_add i 3) ?_
  refine V_sldk hs dL_law_610 ⟨by omega, by omega⟩ ?_
  refine V_callVR lm_L_69 (ok2.fl (cW A tc σ1)) dL_law_611 (q0 := 34) rfl rfl (dep8 h8 h7.2 (by decide)) rfl (Nat.le_of_ble_eq_true rfl) (fun r ws' hq => ?_)
  obtain ⟨w2, rfl, τ1, rfl, rfl, ht1⟩ := hq
  exact V_icmp_eq 1251 dL_law_614 (by decide) (fun _ => kk σ1 τ1 (hQ σ1 τ1 hs1 ht1)) (fun c => absurd rfl c)
set_option maxRecDepth 100000 in
set_option maxHeartbeats 4000000 in
theorem law_c13 (hs : Scr X b Ls xs) (h8 : X.2.2.2.1 = 8) (hL : Ls ≤ 384) (hi : i + 6 ≤ Ls) (hR : Rl σ τ) (hp : Pair Rl yX5_buy cX5_buy 5 yX6_buy cX6_buy 8 [.int (xs (i + 1)), .int (xs (i + 2)), .int (xs (i + 3))]) (kk : ∀ σ' τ', Rl σ' τ' → V X D tc cL_law RL 4 1251 [some (.ref b), some (.ref (A 0)), some (.ref (B 0)), some (.int (nI i))] [] (cW A tc σ' ++ mW B tc τ')) : V X D tc cL_law RL 4 619 [some (.ref b), some (.ref (A 0)), some (.ref (B 0)), some (.int (nI i))] [] (cW A tc σ ++ mW B tc τ) := by
  obtain ⟨d, d', v, Qs, Qt, h7, ok1, ok2, hQ⟩ := hp D tc A B σ τ hR
  refine V_ald1 dL_law_619 ?_
  refine V_ald0 dL_law_620 ?_
  refine V_ild3 dL_law_621 ?_
  refine V_iconst 1 dL_law_622 (by decide) ?_
  refine V_iadd dL_law_623 ?_
  refine V_top (y := nI (i + 1)) (nI_add i 1) ?_
  refine V_sldk hs dL_law_624 ⟨by omega, by omega⟩ ?_
  refine V_ald0 dL_law_625 ?_
  refine V_ild3 dL_law_626 ?_
  refine V_iconst 2 dL_law_627 (by decide) ?_
  refine V_iadd dL_law_628 ?_
  refine V_top (y := nI (i + 2)) (nI_add i 2) ?_
  refine V_sldk hs dL_law_629 ⟨by omega, by omega⟩ ?_
  refine V_ald0 dL_law_630 ?_
  refine V_ild3 dL_law_631 ?_
  refine V_iconst 3 dL_law_632 (by decide) ?_
  refine V_iadd dL_law_633 ?_
  refine V_top (y := nI (i + 3)) (nI_add i 3) ?_
  refine V_sldk hs dL_law_634 ⟨by omega, by omega⟩ ?_
  refine V_callVR lm_L_70 (ok1.fr (mW B tc τ)) dL_law_635 (q0 := 0) rfl rfl (dep8 h8 h7.1 (by decide)) rfl (Nat.le_of_ble_eq_true rfl) (fun r ws' hq => ?_)
  obtain ⟨w1, rfl, σ1, rfl, rfl, hs1⟩ := hq
  refine V_ald2 dL_law_638 ?_
  refine V_ald0 dL_law_639 ?_
  refine V_ild3 dL_law_640 ?_
  refine V_iconst 1 dL_law_641 (by decide) ?_
  refine V_iadd dL_law_642 ?_
  refine V_top (y := nI (i + 1)) (nI_add i 1) ?_
  refine V_sldk hs dL_law_643 ⟨by omega, by omega⟩ ?_
  refine V_ald0 dL_law_644 ?_
  refine V_ild3 dL_law_645 ?_
  refine V_iconst 2 dL_law_646 (by decide) ?_
  refine V_iadd dL_law_647 ?_
  refine V_top (y := nI (i + 2)) (nI_add i 2) ?_
  refine V_sldk hs dL_law_648 ⟨by omega, by omega⟩ ?_
  refine V_ald0 dL_law_649 ?_
  refine V_ild3 dL_law_650 ?_
  refine V_iconst 3 dL_law_651 (by decide) ?_
  refine V_iadd dL_law_652 ?_
  refine V_top (y := nI (i + 3)) (nI_add i 3) ?_
  refine V_sldk hs dL_law_653 ⟨by omega, by omega⟩ ?_
  refine V_callVR lm_L_73 (ok2.fl (cW A tc σ1)) dL_law_654 (q0 := 34) rfl rfl (dep8 h8 h7.2 (by decide)) rfl (Nat.le_of_ble_eq_true rfl) (fun r ws' hq => ?_)
  obtain ⟨w2, rfl, τ1, rfl, rfl, ht1⟩ := hq
  exact V_icmp_eq 1251 dL_law_657 (by decide) (fun _ => kk σ1 τ1 (hQ σ1 τ1 hs1 ht1)) (fun c => absurd rfl c)
set_option maxRecDepth 100000 in
set_option maxHeartbeats 4000000 in
theorem law_c14 (hs : Scr X b Ls xs) (h8 : X.2.2.2.1 = 8) (hL : Ls ≤ 384) (hi : i + 6 ≤ Ls) (hR : Rl σ τ) (hp : Pair Rl yX5_debt cX5_debt 5 yX6_debt cX6_debt 10 [.int (xs (i + 1)), .int (xs (i + 2)), .int (xs (i + 3))]) (kk : ∀ σ' τ', Rl σ' τ' → V X D tc cL_law RL 4 1251 [some (.ref b), some (.ref (A 0)), some (.ref (B 0)), some (.int (nI i))] [] (cW A tc σ' ++ mW B tc τ')) : V X D tc cL_law RL 4 662 [some (.ref b), some (.ref (A 0)), some (.ref (B 0)), some (.int (nI i))] [] (cW A tc σ ++ mW B tc τ) := by
  obtain ⟨d, d', v, Qs, Qt, h7, ok1, ok2, hQ⟩ := hp D tc A B σ τ hR
  refine V_ald1 dL_law_662 ?_
  refine V_ald0 dL_law_663 ?_
  refine V_ild3 dL_law_664 ?_
  refine V_iconst 1 dL_law_665 (by decide) ?_
  refine V_iadd dL_law_666 ?_
  refine V_top (y := nI (i + 1)) (nI_add i 1) ?_
  refine V_sldk hs dL_law_667 ⟨by omega, by omega⟩ ?_
  refine V_ald0 dL_law_668 ?_
  refine V_ild3 dL_law_669 ?_
  refine V_iconst 2 dL_law_670 (by decide) ?_
  refine V_iadd dL_law_671 ?_
  refine V_top (y := nI (i + 2)) (nI_add i 2) ?_
  refine V_sldk hs dL_law_672 ⟨by omega, by omega⟩ ?_
  refine V_ald0 dL_law_673 ?_
  refine V_ild3 dL_law_674 ?_
  refine V_iconst 3 dL_law_675 (by decide) ?_
  refine V_iadd dL_law_676 ?_
  refine V_top (y := nI (i + 3)) (nI_add i 3) ?_
  refine V_sldk hs dL_law_677 ⟨by omega, by omega⟩ ?_
  refine V_callVR lm_L_74 (ok1.fr (mW B tc τ)) dL_law_678 (q0 := 0) rfl rfl (dep8 h8 h7.1 (by decide)) rfl (Nat.le_of_ble_eq_true rfl) (fun r ws' hq => ?_)
  obtain ⟨w1, rfl, σ1, rfl, rfl, hs1⟩ := hq
  refine V_ald2 dL_law_681 ?_
  refine V_ald0 dL_law_682 ?_
  refine V_ild3 dL_law_683 ?_
  refine V_iconst 1 dL_law_684 (by decide) ?_
  refine V_iadd dL_law_685 ?_
  refine V_top (y := nI (i + 1)) (nI_add i 1) ?_
  refine V_sldk hs dL_law_686 ⟨by omega, by omega⟩ ?_
  refine V_ald0 dL_law_687 ?_
  refine V_ild3 dL_law_688 ?_
  refine V_iconst 2 dL_law_689 (by decide) ?_
  refine V_iadd dL_law_690 ?_
  refine V_top (y := nI (i + 2)) (nI_add i 2) ?_
  refine V_sldk hs dL_law_691 ⟨by omega, by omega⟩ ?_
  refine V_ald0 dL_law_692 ?_
  refine V_ild3 dL_law_693 ?_
  refine V_iconst 3 dL_law_694 (by decide) ?_
  refine V_iadd dL_law_695 ?_
  refine V_top (y := nI (i + 3)) (nI_add i 3) ?_
  refine V_sldk hs dL_law_696 ⟨by omega, by omega⟩ ?_
  refine V_callVR lm_L_77 (ok2.fl (cW A tc σ1)) dL_law_697 (q0 := 34) rfl rfl (dep8 h8 h7.2 (by decide)) rfl (Nat.le_of_ble_eq_true rfl) (fun r ws' hq => ?_)
  obtain ⟨w2, rfl, τ1, rfl, rfl, ht1⟩ := hq
  exact V_icmp_eq 1251 dL_law_700 (by decide) (fun _ => kk σ1 τ1 (hQ σ1 τ1 hs1 ht1)) (fun c => absurd rfl c)
set_option maxRecDepth 100000 in
set_option maxHeartbeats 4000000 in
theorem law_c15 (hs : Scr X b Ls xs) (h8 : X.2.2.2.1 = 8) (hL : Ls ≤ 384) (hi : i + 6 ≤ Ls) (hR : Rl σ τ) (hp : Pair Rl yX5_swap cX5_swap 8 yX6_swap cX6_swap 3 [.int (xs (i + 1))]) (kk : ∀ σ' τ', Rl σ' τ' → V X D tc cL_law RL 4 1251 [some (.ref b), some (.ref (A 0)), some (.ref (B 0)), some (.int (nI i))] [] (cW A tc σ' ++ mW B tc τ')) : V X D tc cL_law RL 4 705 [some (.ref b), some (.ref (A 0)), some (.ref (B 0)), some (.int (nI i))] [] (cW A tc σ ++ mW B tc τ) := by
  obtain ⟨d, d', v, Qs, Qt, h7, ok1, ok2, hQ⟩ := hp D tc A B σ τ hR
  refine V_ald1 dL_law_705 ?_
  refine V_ald0 dL_law_706 ?_
  refine V_ild3 dL_law_707 ?_
  refine V_iconst 1 dL_law_708 (by decide) ?_
  refine V_iadd dL_law_709 ?_
  refine V_top (y := nI (i + 1)) (nI_add i 1) ?_
  refine V_sldk hs dL_law_710 ⟨by omega, by omega⟩ ?_
  refine V_callVR lm_L_78 (ok1.fr (mW B tc τ)) dL_law_711 (q0 := 0) rfl rfl (dep8 h8 h7.1 (by decide)) rfl (Nat.le_of_ble_eq_true rfl) (fun r ws' hq => ?_)
  obtain ⟨w1, rfl, σ1, rfl, rfl, hs1⟩ := hq
  refine V_ald2 dL_law_714 ?_
  refine V_ald0 dL_law_715 ?_
  refine V_ild3 dL_law_716 ?_
  refine V_iconst 1 dL_law_717 (by decide) ?_
  refine V_iadd dL_law_718 ?_
  refine V_top (y := nI (i + 1)) (nI_add i 1) ?_
  refine V_sldk hs dL_law_719 ⟨by omega, by omega⟩ ?_
  refine V_callVR lm_L_81 (ok2.fl (cW A tc σ1)) dL_law_720 (q0 := 34) rfl rfl (dep8 h8 h7.2 (by decide)) rfl (Nat.le_of_ble_eq_true rfl) (fun r ws' hq => ?_)
  obtain ⟨w2, rfl, τ1, rfl, rfl, ht1⟩ := hq
  exact V_icmp_eq 1251 dL_law_723 (by decide) (fun _ => kk σ1 τ1 (hQ σ1 τ1 hs1 ht1)) (fun c => absurd rfl c)
set_option maxRecDepth 100000 in
set_option maxHeartbeats 4000000 in
theorem law_c16 (hs : Scr X b Ls xs) (h8 : X.2.2.2.1 = 8) (hL : Ls ≤ 384) (hi : i + 6 ≤ Ls) (hR : Rl σ τ) (hp : Pair Rl yX5_reading cX5_reading 4 yX6_reading cX6_reading 4 [.int (xs (i + 1)), .int (xs (i + 2)), .int (xs (i + 3))]) (kk : ∀ σ' τ', Rl σ' τ' → V X D tc cL_law RL 4 1251 [some (.ref b), some (.ref (A 0)), some (.ref (B 0)), some (.int (nI i))] [] (cW A tc σ' ++ mW B tc τ')) : V X D tc cL_law RL 4 728 [some (.ref b), some (.ref (A 0)), some (.ref (B 0)), some (.int (nI i))] [] (cW A tc σ ++ mW B tc τ) := by
  obtain ⟨d, d', v, Qs, Qt, h7, ok1, ok2, hQ⟩ := hp D tc A B σ τ hR
  refine V_ald1 dL_law_728 ?_
  refine V_ald0 dL_law_729 ?_
  refine V_ild3 dL_law_730 ?_
  refine V_iconst 1 dL_law_731 (by decide) ?_
  refine V_iadd dL_law_732 ?_
  refine V_top (y := nI (i + 1)) (nI_add i 1) ?_
  refine V_sldk hs dL_law_733 ⟨by omega, by omega⟩ ?_
  refine V_ald0 dL_law_734 ?_
  refine V_ild3 dL_law_735 ?_
  refine V_iconst 2 dL_law_736 (by decide) ?_
  refine V_iadd dL_law_737 ?_
  refine V_top (y := nI (i + 2)) (nI_add i 2) ?_
  refine V_sldk hs dL_law_738 ⟨by omega, by omega⟩ ?_
  refine V_ald0 dL_law_739 ?_
  refine V_ild3 dL_law_740 ?_
  refine V_iconst 3 dL_law_741 (by decide) ?_
  refine V_iadd dL_law_742 ?_
  refine V_top (y := nI (i + 3)) (nI_add i 3) ?_
  refine V_sldk hs dL_law_743 ⟨by omega, by omega⟩ ?_
  refine V_callVR lm_L_82 (ok1.fr (mW B tc τ)) dL_law_744 (q0 := 0) rfl rfl (dep8 h8 h7.1 (by decide)) rfl (Nat.le_of_ble_eq_true rfl) (fun r ws' hq => ?_)
  obtain ⟨w1, rfl, σ1, rfl, rfl, hs1⟩ := hq
  refine V_ald2 dL_law_747 ?_
  refine V_ald0 dL_law_748 ?_
  refine V_ild3 dL_law_749 ?_
  refine V_iconst 1 dL_law_750 (by decide) ?_
  refine V_iadd dL_law_751 ?_
  refine V_top (y := nI (i + 1)) (nI_add i 1) ?_
  refine V_sldk hs dL_law_752 ⟨by omega, by omega⟩ ?_
  refine V_ald0 dL_law_753 ?_
  refine V_ild3 dL_law_754 ?_
  refine V_iconst 2 dL_law_755 (by decide) ?_
  refine V_iadd dL_law_756 ?_
  refine V_top (y := nI (i + 2)) (nI_add i 2) ?_
  refine V_sldk hs dL_law_757 ⟨by omega, by omega⟩ ?_
  refine V_ald0 dL_law_758 ?_
  refine V_ild3 dL_law_759 ?_
  refine V_iconst 3 dL_law_760 (by decide) ?_
  refine V_iadd dL_law_761 ?_
  refine V_top (y := nI (i + 3)) (nI_add i 3) ?_
  refine V_sldk hs dL_law_762 ⟨by omega, by omega⟩ ?_
  refine V_callVR lm_L_85 (ok2.fl (cW A tc σ1)) dL_law_763 (q0 := 34) rfl rfl (dep8 h8 h7.2 (by decide)) rfl (Nat.le_of_ble_eq_true rfl) (fun r ws' hq => ?_)
  obtain ⟨w2, rfl, τ1, rfl, rfl, ht1⟩ := hq
  exact V_icmp_eq 1251 dL_law_766 (by decide) (fun _ => kk σ1 τ1 (hQ σ1 τ1 hs1 ht1)) (fun c => absurd rfl c)
set_option maxRecDepth 100000 in
set_option maxHeartbeats 4000000 in
theorem law_c17 (hs : Scr X b Ls xs) (h8 : X.2.2.2.1 = 8) (hL : Ls ≤ 384) (hi : i + 6 ≤ Ls) (hR : Rl σ τ) (hp : Pair Rl yX5_back cX5_back 2 yX6_back cX6_back 2 [.int (xs (i + 1))]) (kk : ∀ σ' τ', Rl σ' τ' → V X D tc cL_law RL 4 1251 [some (.ref b), some (.ref (A 0)), some (.ref (B 0)), some (.int (nI i))] [] (cW A tc σ' ++ mW B tc τ')) : V X D tc cL_law RL 4 771 [some (.ref b), some (.ref (A 0)), some (.ref (B 0)), some (.int (nI i))] [] (cW A tc σ ++ mW B tc τ) := by
  obtain ⟨d, d', v, Qs, Qt, h7, ok1, ok2, hQ⟩ := hp D tc A B σ τ hR
  refine V_ald1 dL_law_771 ?_
  refine V_ald0 dL_law_772 ?_
  refine V_ild3 dL_law_773 ?_
  refine V_iconst 1 dL_law_774 (by decide) ?_
  refine V_iadd dL_law_775 ?_
  refine V_top (y := nI (i + 1)) (nI_add i 1) ?_
  refine V_sldk hs dL_law_776 ⟨by omega, by omega⟩ ?_
  refine V_callVR lm_L_86 (ok1.fr (mW B tc τ)) dL_law_777 (q0 := 0) rfl rfl (dep8 h8 h7.1 (by decide)) rfl (Nat.le_of_ble_eq_true rfl) (fun r ws' hq => ?_)
  obtain ⟨w1, rfl, σ1, rfl, rfl, hs1⟩ := hq
  refine V_ald2 dL_law_780 ?_
  refine V_ald0 dL_law_781 ?_
  refine V_ild3 dL_law_782 ?_
  refine V_iconst 1 dL_law_783 (by decide) ?_
  refine V_iadd dL_law_784 ?_
  refine V_top (y := nI (i + 1)) (nI_add i 1) ?_
  refine V_sldk hs dL_law_785 ⟨by omega, by omega⟩ ?_
  refine V_callVR lm_L_89 (ok2.fl (cW A tc σ1)) dL_law_786 (q0 := 34) rfl rfl (dep8 h8 h7.2 (by decide)) rfl (Nat.le_of_ble_eq_true rfl) (fun r ws' hq => ?_)
  obtain ⟨w2, rfl, τ1, rfl, rfl, ht1⟩ := hq
  exact V_icmp_eq 1251 dL_law_789 (by decide) (fun _ => kk σ1 τ1 (hQ σ1 τ1 hs1 ht1)) (fun c => absurd rfl c)
set_option maxRecDepth 100000 in
set_option maxHeartbeats 4000000 in
theorem law_c18 (hs : Scr X b Ls xs) (h8 : X.2.2.2.1 = 8) (hL : Ls ≤ 384) (hi : i + 6 ≤ Ls) (hR : Rl σ τ) (hp : Pair Rl yX5_dews cX5_dews 4 yX6_dews cX6_dews 5 [.int (xs (i + 1))]) (kk : ∀ σ' τ', Rl σ' τ' → V X D tc cL_law RL 4 1251 [some (.ref b), some (.ref (A 0)), some (.ref (B 0)), some (.int (nI i))] [] (cW A tc σ' ++ mW B tc τ')) : V X D tc cL_law RL 4 794 [some (.ref b), some (.ref (A 0)), some (.ref (B 0)), some (.int (nI i))] [] (cW A tc σ ++ mW B tc τ) := by
  obtain ⟨d, d', v, Qs, Qt, h7, ok1, ok2, hQ⟩ := hp D tc A B σ τ hR
  refine V_ald1 dL_law_794 ?_
  refine V_ald0 dL_law_795 ?_
  refine V_ild3 dL_law_796 ?_
  refine V_iconst 1 dL_law_797 (by decide) ?_
  refine V_iadd dL_law_798 ?_
  refine V_top (y := nI (i + 1)) (nI_add i 1) ?_
  refine V_sldk hs dL_law_799 ⟨by omega, by omega⟩ ?_
  refine V_callVR lm_L_90 (ok1.fr (mW B tc τ)) dL_law_800 (q0 := 0) rfl rfl (dep8 h8 h7.1 (by decide)) rfl (Nat.le_of_ble_eq_true rfl) (fun r ws' hq => ?_)
  obtain ⟨w1, rfl, σ1, rfl, rfl, hs1⟩ := hq
  refine V_ald2 dL_law_803 ?_
  refine V_ald0 dL_law_804 ?_
  refine V_ild3 dL_law_805 ?_
  refine V_iconst 1 dL_law_806 (by decide) ?_
  refine V_iadd dL_law_807 ?_
  refine V_top (y := nI (i + 1)) (nI_add i 1) ?_
  refine V_sldk hs dL_law_808 ⟨by omega, by omega⟩ ?_
  refine V_callVR lm_L_93 (ok2.fl (cW A tc σ1)) dL_law_809 (q0 := 34) rfl rfl (dep8 h8 h7.2 (by decide)) rfl (Nat.le_of_ble_eq_true rfl) (fun r ws' hq => ?_)
  obtain ⟨w2, rfl, τ1, rfl, rfl, ht1⟩ := hq
  exact V_icmp_eq 1251 dL_law_812 (by decide) (fun _ => kk σ1 τ1 (hQ σ1 τ1 hs1 ht1)) (fun c => absurd rfl c)
set_option maxRecDepth 100000 in
set_option maxHeartbeats 4000000 in
theorem law_c19 (hs : Scr X b Ls xs) (h8 : X.2.2.2.1 = 8) (hL : Ls ≤ 384) (hi : i + 6 ≤ Ls) (hR : Rl σ τ) (hp : Pair Rl yX5_kinds cX5_kinds 4 yX6_kinds cX6_kinds 5 [.int (xs (i + 1))]) (kk : ∀ σ' τ', Rl σ' τ' → V X D tc cL_law RL 4 1251 [some (.ref b), some (.ref (A 0)), some (.ref (B 0)), some (.int (nI i))] [] (cW A tc σ' ++ mW B tc τ')) : V X D tc cL_law RL 4 817 [some (.ref b), some (.ref (A 0)), some (.ref (B 0)), some (.int (nI i))] [] (cW A tc σ ++ mW B tc τ) := by
  obtain ⟨d, d', v, Qs, Qt, h7, ok1, ok2, hQ⟩ := hp D tc A B σ τ hR
  refine V_ald1 dL_law_817 ?_
  refine V_ald0 dL_law_818 ?_
  refine V_ild3 dL_law_819 ?_
  refine V_iconst 1 dL_law_820 (by decide) ?_
  refine V_iadd dL_law_821 ?_
  refine V_top (y := nI (i + 1)) (nI_add i 1) ?_
  refine V_sldk hs dL_law_822 ⟨by omega, by omega⟩ ?_
  refine V_callVR lm_L_94 (ok1.fr (mW B tc τ)) dL_law_823 (q0 := 0) rfl rfl (dep8 h8 h7.1 (by decide)) rfl (Nat.le_of_ble_eq_true rfl) (fun r ws' hq => ?_)
  obtain ⟨w1, rfl, σ1, rfl, rfl, hs1⟩ := hq
  refine V_ald2 dL_law_826 ?_
  refine V_ald0 dL_law_827 ?_
  refine V_ild3 dL_law_828 ?_
  refine V_iconst 1 dL_law_829 (by decide) ?_
  refine V_iadd dL_law_830 ?_
  refine V_top (y := nI (i + 1)) (nI_add i 1) ?_
  refine V_sldk hs dL_law_831 ⟨by omega, by omega⟩ ?_
  refine V_callVR lm_L_97 (ok2.fl (cW A tc σ1)) dL_law_832 (q0 := 34) rfl rfl (dep8 h8 h7.2 (by decide)) rfl (Nat.le_of_ble_eq_true rfl) (fun r ws' hq => ?_)
  obtain ⟨w2, rfl, τ1, rfl, rfl, ht1⟩ := hq
  exact V_icmp_eq 1251 dL_law_835 (by decide) (fun _ => kk σ1 τ1 (hQ σ1 τ1 hs1 ht1)) (fun c => absurd rfl c)
set_option maxRecDepth 100000 in
set_option maxHeartbeats 4000000 in
theorem law_c20 (hs : Scr X b Ls xs) (h8 : X.2.2.2.1 = 8) (hL : Ls ≤ 384) (hi : i + 6 ≤ Ls) (hR : Rl σ τ) (hp : Pair Rl yX5_takens cX5_takens 4 yX6_takens cX6_takens 5 [.int (xs (i + 1))]) (kk : ∀ σ' τ', Rl σ' τ' → V X D tc cL_law RL 4 1251 [some (.ref b), some (.ref (A 0)), some (.ref (B 0)), some (.int (nI i))] [] (cW A tc σ' ++ mW B tc τ')) : V X D tc cL_law RL 4 840 [some (.ref b), some (.ref (A 0)), some (.ref (B 0)), some (.int (nI i))] [] (cW A tc σ ++ mW B tc τ) := by
  obtain ⟨d, d', v, Qs, Qt, h7, ok1, ok2, hQ⟩ := hp D tc A B σ τ hR
  refine V_ald1 dL_law_840 ?_
  refine V_ald0 dL_law_841 ?_
  refine V_ild3 dL_law_842 ?_
  refine V_iconst 1 dL_law_843 (by decide) ?_
  refine V_iadd dL_law_844 ?_
  refine V_top (y := nI (i + 1)) (nI_add i 1) ?_
  refine V_sldk hs dL_law_845 ⟨by omega, by omega⟩ ?_
  refine V_callVR lm_L_98 (ok1.fr (mW B tc τ)) dL_law_846 (q0 := 0) rfl rfl (dep8 h8 h7.1 (by decide)) rfl (Nat.le_of_ble_eq_true rfl) (fun r ws' hq => ?_)
  obtain ⟨w1, rfl, σ1, rfl, rfl, hs1⟩ := hq
  refine V_ald2 dL_law_849 ?_
  refine V_ald0 dL_law_850 ?_
  refine V_ild3 dL_law_851 ?_
  refine V_iconst 1 dL_law_852 (by decide) ?_
  refine V_iadd dL_law_853 ?_
  refine V_top (y := nI (i + 1)) (nI_add i 1) ?_
  refine V_sldk hs dL_law_854 ⟨by omega, by omega⟩ ?_
  refine V_callVR lm_L_101 (ok2.fl (cW A tc σ1)) dL_law_855 (q0 := 34) rfl rfl (dep8 h8 h7.2 (by decide)) rfl (Nat.le_of_ble_eq_true rfl) (fun r ws' hq => ?_)
  obtain ⟨w2, rfl, τ1, rfl, rfl, ht1⟩ := hq
  exact V_icmp_eq 1251 dL_law_858 (by decide) (fun _ => kk σ1 τ1 (hQ σ1 τ1 hs1 ht1)) (fun c => absurd rfl c)
set_option maxRecDepth 100000 in
set_option maxHeartbeats 4000000 in
theorem law_c21 (hs : Scr X b Ls xs) (h8 : X.2.2.2.1 = 8) (hL : Ls ≤ 384) (hi : i + 6 ≤ Ls) (hR : Rl σ τ) (hp : PairL Rl yX5_odds cX5_odds 8 yX6_odds cX6_odds 8 [.int (xs (i + 1)), .int (xs (i + 2)), .int (xs (i + 3))]) (kk : ∀ σ' τ', Rl σ' τ' → V X D tc cL_law RL 4 1251 [some (.ref b), some (.ref (A 0)), some (.ref (B 0)), some (.int (nI i))] [] (cW A tc σ' ++ mW B tc τ')) : V X D tc cL_law RL 4 863 [some (.ref b), some (.ref (A 0)), some (.ref (B 0)), some (.int (nI i))] [] (cW A tc σ ++ mW B tc τ) := by
  obtain ⟨d, d', v, Qs, Qt, h7, ok1, ok2, hQ⟩ := hp D tc A B σ τ hR
  refine V_ald1 dL_law_863 ?_
  refine V_ald0 dL_law_864 ?_
  refine V_ild3 dL_law_865 ?_
  refine V_iconst 1 dL_law_866 (by decide) ?_
  refine V_iadd dL_law_867 ?_
  refine V_top (y := nI (i + 1)) (nI_add i 1) ?_
  refine V_sldk hs dL_law_868 ⟨by omega, by omega⟩ ?_
  refine V_ald0 dL_law_869 ?_
  refine V_ild3 dL_law_870 ?_
  refine V_iconst 2 dL_law_871 (by decide) ?_
  refine V_iadd dL_law_872 ?_
  refine V_top (y := nI (i + 2)) (nI_add i 2) ?_
  refine V_sldk hs dL_law_873 ⟨by omega, by omega⟩ ?_
  refine V_ald0 dL_law_874 ?_
  refine V_ild3 dL_law_875 ?_
  refine V_iconst 3 dL_law_876 (by decide) ?_
  refine V_iadd dL_law_877 ?_
  refine V_top (y := nI (i + 3)) (nI_add i 3) ?_
  refine V_sldk hs dL_law_878 ⟨by omega, by omega⟩ ?_
  refine V_callVR lm_L_102 (ok1.fr (mW B tc τ)) dL_law_879 (q0 := 0) rfl rfl (dep8 h8 h7.1 (by decide)) rfl (Nat.le_of_ble_eq_true rfl) (fun r ws' hq => ?_)
  obtain ⟨w1, rfl, σ1, rfl, rfl, hs1⟩ := hq
  refine V_ald2 dL_law_882 ?_
  refine V_ald0 dL_law_883 ?_
  refine V_ild3 dL_law_884 ?_
  refine V_iconst 1 dL_law_885 (by decide) ?_
  refine V_iadd dL_law_886 ?_
  refine V_top (y := nI (i + 1)) (nI_add i 1) ?_
  refine V_sldk hs dL_law_887 ⟨by omega, by omega⟩ ?_
  refine V_ald0 dL_law_888 ?_
  refine V_ild3 dL_law_889 ?_
  refine V_iconst 2 dL_law_890 (by decide) ?_
  refine V_iadd dL_law_891 ?_
  refine V_top (y := nI (i + 2)) (nI_add i 2) ?_
  refine V_sldk hs dL_law_892 ⟨by omega, by omega⟩ ?_
  refine V_ald0 dL_law_893 ?_
  refine V_ild3 dL_law_894 ?_
  refine V_iconst 3 dL_law_895 (by decide) ?_
  refine V_iadd dL_law_896 ?_
  refine V_top (y := nI (i + 3)) (nI_add i 3) ?_
  refine V_sldk hs dL_law_897 ⟨by omega, by omega⟩ ?_
  refine V_callVR lm_L_106 (ok2.fl (cW A tc σ1)) dL_law_898 (q0 := 34) rfl rfl (dep8 h8 h7.2 (by decide)) rfl (Nat.le_of_ble_eq_true rfl) (fun r ws' hq => ?_)
  obtain ⟨w2, rfl, τ1, rfl, rfl, ht1⟩ := hq
  refine V_lcmp dL_law_901 ?_
  exact V_if_eq 1251 dL_law_902 (by decide) (fun _ => kk σ1 τ1 (hQ σ1 τ1 hs1 ht1)) (fun c => absurd ((lg_cmp_eq v v).mpr rfl) c)
set_option maxRecDepth 100000 in
set_option maxHeartbeats 4000000 in
theorem law_c22 (hs : Scr X b Ls xs) (h8 : X.2.2.2.1 = 8) (hL : Ls ≤ 384) (hi : i + 6 ≤ Ls) (hR : Rl σ τ) (hp : Pair Rl yX5_sheet cX5_sheet 5 yX6_sheet cX6_sheet 5 [.int (xs (i + 1)), .int (xs (i + 2)), .int (xs (i + 3))]) (kk : ∀ σ' τ', Rl σ' τ' → V X D tc cL_law RL 4 1251 [some (.ref b), some (.ref (A 0)), some (.ref (B 0)), some (.int (nI i))] [] (cW A tc σ' ++ mW B tc τ')) : V X D tc cL_law RL 4 907 [some (.ref b), some (.ref (A 0)), some (.ref (B 0)), some (.int (nI i))] [] (cW A tc σ ++ mW B tc τ) := by
  obtain ⟨d, d', v, Qs, Qt, h7, ok1, ok2, hQ⟩ := hp D tc A B σ τ hR
  refine V_ald1 dL_law_907 ?_
  refine V_ald0 dL_law_908 ?_
  refine V_ild3 dL_law_909 ?_
  refine V_iconst 1 dL_law_910 (by decide) ?_
  refine V_iadd dL_law_911 ?_
  refine V_top (y := nI (i + 1)) (nI_add i 1) ?_
  refine V_sldk hs dL_law_912 ⟨by omega, by omega⟩ ?_
  refine V_ald0 dL_law_913 ?_
  refine V_ild3 dL_law_914 ?_
  refine V_iconst 2 dL_law_915 (by decide) ?_
  refine V_iadd dL_law_916 ?_
  refine V_top (y := nI (i + 2)) (nI_add i 2) ?_
  refine V_sldk hs dL_law_917 ⟨by omega, by omega⟩ ?_
  refine V_ald0 dL_law_918 ?_
  refine V_ild3 dL_law_919 ?_
  refine V_iconst 3 dL_law_920 (by decide) ?_
  refine V_iadd dL_law_921 ?_
  refine V_top (y := nI (i + 3)) (nI_add i 3) ?_
  refine V_sldk hs dL_law_922 ⟨by omega, by omega⟩ ?_
  refine V_callVR lm_L_107 (ok1.fr (mW B tc τ)) dL_law_923 (q0 := 0) rfl rfl (dep8 h8 h7.1 (by decide)) rfl (Nat.le_of_ble_eq_true rfl) (fun r ws' hq => ?_)
  obtain ⟨w1, rfl, σ1, rfl, rfl, hs1⟩ := hq
  refine V_ald2 dL_law_926 ?_
  refine V_ald0 dL_law_927 ?_
  refine V_ild3 dL_law_928 ?_
  refine V_iconst 1 dL_law_929 (by decide) ?_
  refine V_iadd dL_law_930 ?_
  refine V_top (y := nI (i + 1)) (nI_add i 1) ?_
  refine V_sldk hs dL_law_931 ⟨by omega, by omega⟩ ?_
  refine V_ald0 dL_law_932 ?_
  refine V_ild3 dL_law_933 ?_
  refine V_iconst 2 dL_law_934 (by decide) ?_
  refine V_iadd dL_law_935 ?_
  refine V_top (y := nI (i + 2)) (nI_add i 2) ?_
  refine V_sldk hs dL_law_936 ⟨by omega, by omega⟩ ?_
  refine V_ald0 dL_law_937 ?_
  refine V_ild3 dL_law_938 ?_
  refine V_iconst 3 dL_law_939 (by decide) ?_
  refine V_iadd dL_law_940 ?_
  refine V_top (y := nI (i + 3)) (nI_add i 3) ?_
  refine V_sldk hs dL_law_941 ⟨by omega, by omega⟩ ?_
  refine V_callVR lm_L_110 (ok2.fl (cW A tc σ1)) dL_law_942 (q0 := 34) rfl rfl (dep8 h8 h7.2 (by decide)) rfl (Nat.le_of_ble_eq_true rfl) (fun r ws' hq => ?_)
  obtain ⟨w2, rfl, τ1, rfl, rfl, ht1⟩ := hq
  exact V_icmp_eq 1251 dL_law_945 (by decide) (fun _ => kk σ1 τ1 (hQ σ1 τ1 hs1 ht1)) (fun c => absurd rfl c)
set_option maxRecDepth 100000 in
set_option maxHeartbeats 4000000 in
theorem law_c23 (hs : Scr X b Ls xs) (h8 : X.2.2.2.1 = 8) (hL : Ls ≤ 384) (hi : i + 6 ≤ Ls) (hR : Rl σ τ) (hp : Pair Rl yX5_lose cX5_lose 4 yX6_lose cX6_lose 3 [.int (xs (i + 1))]) (kk : ∀ σ' τ', Rl σ' τ' → V X D tc cL_law RL 4 1251 [some (.ref b), some (.ref (A 0)), some (.ref (B 0)), some (.int (nI i))] [] (cW A tc σ' ++ mW B tc τ')) : V X D tc cL_law RL 4 950 [some (.ref b), some (.ref (A 0)), some (.ref (B 0)), some (.int (nI i))] [] (cW A tc σ ++ mW B tc τ) := by
  obtain ⟨d, d', v, Qs, Qt, h7, ok1, ok2, hQ⟩ := hp D tc A B σ τ hR
  refine V_ald1 dL_law_950 ?_
  refine V_ald0 dL_law_951 ?_
  refine V_ild3 dL_law_952 ?_
  refine V_iconst 1 dL_law_953 (by decide) ?_
  refine V_iadd dL_law_954 ?_
  refine V_top (y := nI (i + 1)) (nI_add i 1) ?_
  refine V_sldk hs dL_law_955 ⟨by omega, by omega⟩ ?_
  refine V_callVR lm_L_111 (ok1.fr (mW B tc τ)) dL_law_956 (q0 := 0) rfl rfl (dep8 h8 h7.1 (by decide)) rfl (Nat.le_of_ble_eq_true rfl) (fun r ws' hq => ?_)
  obtain ⟨w1, rfl, σ1, rfl, rfl, hs1⟩ := hq
  refine V_ald2 dL_law_959 ?_
  refine V_ald0 dL_law_960 ?_
  refine V_ild3 dL_law_961 ?_
  refine V_iconst 1 dL_law_962 (by decide) ?_
  refine V_iadd dL_law_963 ?_
  refine V_top (y := nI (i + 1)) (nI_add i 1) ?_
  refine V_sldk hs dL_law_964 ⟨by omega, by omega⟩ ?_
  refine V_callVR lm_L_114 (ok2.fl (cW A tc σ1)) dL_law_965 (q0 := 34) rfl rfl (dep8 h8 h7.2 (by decide)) rfl (Nat.le_of_ble_eq_true rfl) (fun r ws' hq => ?_)
  obtain ⟨w2, rfl, τ1, rfl, rfl, ht1⟩ := hq
  exact V_icmp_eq 1251 dL_law_968 (by decide) (fun _ => kk σ1 τ1 (hQ σ1 τ1 hs1 ht1)) (fun c => absurd rfl c)
set_option maxRecDepth 100000 in
set_option maxHeartbeats 4000000 in
theorem law_c24 (hs : Scr X b Ls xs) (h8 : X.2.2.2.1 = 8) (hL : Ls ≤ 384) (hi : i + 6 ≤ Ls) (hR : Rl σ τ) (hp : Pair Rl yX5_put cX5_put 5 yX6_put cX6_put 4 [.int (xs (i + 1)), .int (xs (i + 2)), .int (xs (i + 3))]) (kk : ∀ σ' τ', Rl σ' τ' → V X D tc cL_law RL 4 1251 [some (.ref b), some (.ref (A 0)), some (.ref (B 0)), some (.int (nI i))] [] (cW A tc σ' ++ mW B tc τ')) : V X D tc cL_law RL 4 973 [some (.ref b), some (.ref (A 0)), some (.ref (B 0)), some (.int (nI i))] [] (cW A tc σ ++ mW B tc τ) := by
  obtain ⟨d, d', v, Qs, Qt, h7, ok1, ok2, hQ⟩ := hp D tc A B σ τ hR
  refine V_ald1 dL_law_973 ?_
  refine V_ald0 dL_law_974 ?_
  refine V_ild3 dL_law_975 ?_
  refine V_iconst 1 dL_law_976 (by decide) ?_
  refine V_iadd dL_law_977 ?_
  refine V_top (y := nI (i + 1)) (nI_add i 1) ?_
  refine V_sldk hs dL_law_978 ⟨by omega, by omega⟩ ?_
  refine V_ald0 dL_law_979 ?_
  refine V_ild3 dL_law_980 ?_
  refine V_iconst 2 dL_law_981 (by decide) ?_
  refine V_iadd dL_law_982 ?_
  refine V_top (y := nI (i + 2)) (nI_add i 2) ?_
  refine V_sldk hs dL_law_983 ⟨by omega, by omega⟩ ?_
  refine V_ald0 dL_law_984 ?_
  refine V_ild3 dL_law_985 ?_
  refine V_iconst 3 dL_law_986 (by decide) ?_
  refine V_iadd dL_law_987 ?_
  refine V_top (y := nI (i + 3)) (nI_add i 3) ?_
  refine V_sldk hs dL_law_988 ⟨by omega, by omega⟩ ?_
  refine V_callVR lm_L_115 (ok1.fr (mW B tc τ)) dL_law_989 (q0 := 0) rfl rfl (dep8 h8 h7.1 (by decide)) rfl (Nat.le_of_ble_eq_true rfl) (fun r ws' hq => ?_)
  obtain ⟨w1, rfl, σ1, rfl, rfl, hs1⟩ := hq
  refine V_ald2 dL_law_992 ?_
  refine V_ald0 dL_law_993 ?_
  refine V_ild3 dL_law_994 ?_
  refine V_iconst 1 dL_law_995 (by decide) ?_
  refine V_iadd dL_law_996 ?_
  refine V_top (y := nI (i + 1)) (nI_add i 1) ?_
  refine V_sldk hs dL_law_997 ⟨by omega, by omega⟩ ?_
  refine V_ald0 dL_law_998 ?_
  refine V_ild3 dL_law_999 ?_
  refine V_iconst 2 dL_law_1000 (by decide) ?_
  refine V_iadd dL_law_1001 ?_
  refine V_top (y := nI (i + 2)) (nI_add i 2) ?_
  refine V_sldk hs dL_law_1002 ⟨by omega, by omega⟩ ?_
  refine V_ald0 dL_law_1003 ?_
  refine V_ild3 dL_law_1004 ?_
  refine V_iconst 3 dL_law_1005 (by decide) ?_
  refine V_iadd dL_law_1006 ?_
  refine V_top (y := nI (i + 3)) (nI_add i 3) ?_
  refine V_sldk hs dL_law_1007 ⟨by omega, by omega⟩ ?_
  refine V_callVR lm_L_118 (ok2.fl (cW A tc σ1)) dL_law_1008 (q0 := 34) rfl rfl (dep8 h8 h7.2 (by decide)) rfl (Nat.le_of_ble_eq_true rfl) (fun r ws' hq => ?_)
  obtain ⟨w2, rfl, τ1, rfl, rfl, ht1⟩ := hq
  exact V_icmp_eq 1251 dL_law_1011 (by decide) (fun _ => kk σ1 τ1 (hQ σ1 τ1 hs1 ht1)) (fun c => absurd rfl c)
set_option maxRecDepth 100000 in
set_option maxHeartbeats 4000000 in
theorem law_c25 (hs : Scr X b Ls xs) (h8 : X.2.2.2.1 = 8) (hL : Ls ≤ 384) (hi : i + 6 ≤ Ls) (hR : Rl σ τ) (hp : PairL Rl yX5_cell cX5_cell 5 yX6_cell cX6_cell 4 [.int (xs (i + 1)), .int (xs (i + 2)), .int (xs (i + 3))]) (kk : ∀ σ' τ', Rl σ' τ' → V X D tc cL_law RL 4 1251 [some (.ref b), some (.ref (A 0)), some (.ref (B 0)), some (.int (nI i))] [] (cW A tc σ' ++ mW B tc τ')) : V X D tc cL_law RL 4 1016 [some (.ref b), some (.ref (A 0)), some (.ref (B 0)), some (.int (nI i))] [] (cW A tc σ ++ mW B tc τ) := by
  obtain ⟨d, d', v, Qs, Qt, h7, ok1, ok2, hQ⟩ := hp D tc A B σ τ hR
  refine V_ald1 dL_law_1016 ?_
  refine V_ald0 dL_law_1017 ?_
  refine V_ild3 dL_law_1018 ?_
  refine V_iconst 1 dL_law_1019 (by decide) ?_
  refine V_iadd dL_law_1020 ?_
  refine V_top (y := nI (i + 1)) (nI_add i 1) ?_
  refine V_sldk hs dL_law_1021 ⟨by omega, by omega⟩ ?_
  refine V_ald0 dL_law_1022 ?_
  refine V_ild3 dL_law_1023 ?_
  refine V_iconst 2 dL_law_1024 (by decide) ?_
  refine V_iadd dL_law_1025 ?_
  refine V_top (y := nI (i + 2)) (nI_add i 2) ?_
  refine V_sldk hs dL_law_1026 ⟨by omega, by omega⟩ ?_
  refine V_ald0 dL_law_1027 ?_
  refine V_ild3 dL_law_1028 ?_
  refine V_iconst 3 dL_law_1029 (by decide) ?_
  refine V_iadd dL_law_1030 ?_
  refine V_top (y := nI (i + 3)) (nI_add i 3) ?_
  refine V_sldk hs dL_law_1031 ⟨by omega, by omega⟩ ?_
  refine V_callVR lm_L_119 (ok1.fr (mW B tc τ)) dL_law_1032 (q0 := 0) rfl rfl (dep8 h8 h7.1 (by decide)) rfl (Nat.le_of_ble_eq_true rfl) (fun r ws' hq => ?_)
  obtain ⟨w1, rfl, σ1, rfl, rfl, hs1⟩ := hq
  refine V_ald2 dL_law_1035 ?_
  refine V_ald0 dL_law_1036 ?_
  refine V_ild3 dL_law_1037 ?_
  refine V_iconst 1 dL_law_1038 (by decide) ?_
  refine V_iadd dL_law_1039 ?_
  refine V_top (y := nI (i + 1)) (nI_add i 1) ?_
  refine V_sldk hs dL_law_1040 ⟨by omega, by omega⟩ ?_
  refine V_ald0 dL_law_1041 ?_
  refine V_ild3 dL_law_1042 ?_
  refine V_iconst 2 dL_law_1043 (by decide) ?_
  refine V_iadd dL_law_1044 ?_
  refine V_top (y := nI (i + 2)) (nI_add i 2) ?_
  refine V_sldk hs dL_law_1045 ⟨by omega, by omega⟩ ?_
  refine V_ald0 dL_law_1046 ?_
  refine V_ild3 dL_law_1047 ?_
  refine V_iconst 3 dL_law_1048 (by decide) ?_
  refine V_iadd dL_law_1049 ?_
  refine V_top (y := nI (i + 3)) (nI_add i 3) ?_
  refine V_sldk hs dL_law_1050 ⟨by omega, by omega⟩ ?_
  refine V_callVR lm_L_122 (ok2.fl (cW A tc σ1)) dL_law_1051 (q0 := 34) rfl rfl (dep8 h8 h7.2 (by decide)) rfl (Nat.le_of_ble_eq_true rfl) (fun r ws' hq => ?_)
  obtain ⟨w2, rfl, τ1, rfl, rfl, ht1⟩ := hq
  refine V_lcmp dL_law_1054 ?_
  exact V_if_eq 1251 dL_law_1055 (by decide) (fun _ => kk σ1 τ1 (hQ σ1 τ1 hs1 ht1)) (fun c => absurd ((lg_cmp_eq v v).mpr rfl) c)
set_option maxRecDepth 100000 in
set_option maxHeartbeats 4000000 in
theorem law_c26 (hs : Scr X b Ls xs) (h8 : X.2.2.2.1 = 8) (hL : Ls ≤ 384) (hi : i + 6 ≤ Ls) (hR : Rl σ τ) (hp : Pair Rl yX5_copy cX5_copy 8 yX6_copy cX6_copy 10 [.int (xs (i + 1)), .int (xs (i + 2)), .int (xs (i + 3)), .int (xs (i + 4)), .int (xs (i + 5))]) (kk : ∀ σ' τ', Rl σ' τ' → V X D tc cL_law RL 4 1251 [some (.ref b), some (.ref (A 0)), some (.ref (B 0)), some (.int (nI i))] [] (cW A tc σ' ++ mW B tc τ')) : V X D tc cL_law RL 4 1060 [some (.ref b), some (.ref (A 0)), some (.ref (B 0)), some (.int (nI i))] [] (cW A tc σ ++ mW B tc τ) := by
  obtain ⟨d, d', v, Qs, Qt, h7, ok1, ok2, hQ⟩ := hp D tc A B σ τ hR
  refine V_ald1 dL_law_1060 ?_
  refine V_ald0 dL_law_1061 ?_
  refine V_ild3 dL_law_1062 ?_
  refine V_iconst 1 dL_law_1063 (by decide) ?_
  refine V_iadd dL_law_1064 ?_
  refine V_top (y := nI (i + 1)) (nI_add i 1) ?_
  refine V_sldk hs dL_law_1065 ⟨by omega, by omega⟩ ?_
  refine V_ald0 dL_law_1066 ?_
  refine V_ild3 dL_law_1067 ?_
  refine V_iconst 2 dL_law_1068 (by decide) ?_
  refine V_iadd dL_law_1069 ?_
  refine V_top (y := nI (i + 2)) (nI_add i 2) ?_
  refine V_sldk hs dL_law_1070 ⟨by omega, by omega⟩ ?_
  refine V_ald0 dL_law_1071 ?_
  refine V_ild3 dL_law_1072 ?_
  refine V_iconst 3 dL_law_1073 (by decide) ?_
  refine V_iadd dL_law_1074 ?_
  refine V_top (y := nI (i + 3)) (nI_add i 3) ?_
  refine V_sldk hs dL_law_1075 ⟨by omega, by omega⟩ ?_
  refine V_ald0 dL_law_1076 ?_
  refine V_ild3 dL_law_1077 ?_
  refine V_iconst 4 dL_law_1078 (by decide) ?_
  refine V_iadd dL_law_1079 ?_
  refine V_top (y := nI (i + 4)) (nI_add i 4) ?_
  refine V_sldk hs dL_law_1080 ⟨by omega, by omega⟩ ?_
  refine V_ald0 dL_law_1081 ?_
  refine V_ild3 dL_law_1082 ?_
  refine V_iconst 5 dL_law_1083 (by decide) ?_
  refine V_iadd dL_law_1084 ?_
  refine V_top (y := nI (i + 5)) (nI_add i 5) ?_
  refine V_sldk hs dL_law_1085 ⟨by omega, by omega⟩ ?_
  refine V_callVR lm_L_123 (ok1.fr (mW B tc τ)) dL_law_1086 (q0 := 0) rfl rfl (dep8 h8 h7.1 (by decide)) rfl (Nat.le_of_ble_eq_true rfl) (fun r ws' hq => ?_)
  obtain ⟨w1, rfl, σ1, rfl, rfl, hs1⟩ := hq
  refine V_ald2 dL_law_1089 ?_
  refine V_ald0 dL_law_1090 ?_
  refine V_ild3 dL_law_1091 ?_
  refine V_iconst 1 dL_law_1092 (by decide) ?_
  refine V_iadd dL_law_1093 ?_
  refine V_top (y := nI (i + 1)) (nI_add i 1) ?_
  refine V_sldk hs dL_law_1094 ⟨by omega, by omega⟩ ?_
  refine V_ald0 dL_law_1095 ?_
  refine V_ild3 dL_law_1096 ?_
  refine V_iconst 2 dL_law_1097 (by decide) ?_
  refine V_iadd dL_law_1098 ?_
  refine V_top (y := nI (i + 2)) (nI_add i 2) ?_
  refine V_sldk hs dL_law_1099 ⟨by omega, by omega⟩ ?_
  refine V_ald0 dL_law_1100 ?_
  refine V_ild3 dL_law_1101 ?_
  refine V_iconst 3 dL_law_1102 (by decide) ?_
  refine V_iadd dL_law_1103 ?_
  refine V_top (y := nI (i + 3)) (nI_add i 3) ?_
  refine V_sldk hs dL_law_1104 ⟨by omega, by omega⟩ ?_
  refine V_ald0 dL_law_1105 ?_
  refine V_ild3 dL_law_1106 ?_
  refine V_iconst 4 dL_law_1107 (by decide) ?_
  refine V_iadd dL_law_1108 ?_
  refine V_top (y := nI (i + 4)) (nI_add i 4) ?_
  refine V_sldk hs dL_law_1109 ⟨by omega, by omega⟩ ?_
  refine V_ald0 dL_law_1110 ?_
  refine V_ild3 dL_law_1111 ?_
  refine V_iconst 5 dL_law_1112 (by decide) ?_
  refine V_iadd dL_law_1113 ?_
  refine V_top (y := nI (i + 5)) (nI_add i 5) ?_
  refine V_sldk hs dL_law_1114 ⟨by omega, by omega⟩ ?_
  refine V_callVR lm_L_126 (ok2.fl (cW A tc σ1)) dL_law_1115 (q0 := 34) rfl rfl (dep8 h8 h7.2 (by decide)) rfl (Nat.le_of_ble_eq_true rfl) (fun r ws' hq => ?_)
  obtain ⟨w2, rfl, τ1, rfl, rfl, ht1⟩ := hq
  exact V_icmp_eq 1251 dL_law_1118 (by decide) (fun _ => kk σ1 τ1 (hQ σ1 τ1 hs1 ht1)) (fun c => absurd rfl c)
set_option maxRecDepth 100000 in
set_option maxHeartbeats 4000000 in
theorem law_c27 (hs : Scr X b Ls xs) (h8 : X.2.2.2.1 = 8) (hL : Ls ≤ 384) (hi : i + 6 ≤ Ls) (hR : Rl σ τ) (hp : Pair Rl yX5_tell cX5_tell 2 yX6_tell cX6_tell 3 [.int (xs (i + 1))]) (kk : ∀ σ' τ', Rl σ' τ' → V X D tc cL_law RL 4 1251 [some (.ref b), some (.ref (A 0)), some (.ref (B 0)), some (.int (nI i))] [] (cW A tc σ' ++ mW B tc τ')) : V X D tc cL_law RL 4 1123 [some (.ref b), some (.ref (A 0)), some (.ref (B 0)), some (.int (nI i))] [] (cW A tc σ ++ mW B tc τ) := by
  obtain ⟨d, d', v, Qs, Qt, h7, ok1, ok2, hQ⟩ := hp D tc A B σ τ hR
  refine V_ald1 dL_law_1123 ?_
  refine V_ald0 dL_law_1124 ?_
  refine V_ild3 dL_law_1125 ?_
  refine V_iconst 1 dL_law_1126 (by decide) ?_
  refine V_iadd dL_law_1127 ?_
  refine V_top (y := nI (i + 1)) (nI_add i 1) ?_
  refine V_sldk hs dL_law_1128 ⟨by omega, by omega⟩ ?_
  refine V_callVR lm_L_127 (ok1.fr (mW B tc τ)) dL_law_1129 (q0 := 0) rfl rfl (dep8 h8 h7.1 (by decide)) rfl (Nat.le_of_ble_eq_true rfl) (fun r ws' hq => ?_)
  obtain ⟨w1, rfl, σ1, rfl, rfl, hs1⟩ := hq
  refine V_ald2 dL_law_1132 ?_
  refine V_ald0 dL_law_1133 ?_
  refine V_ild3 dL_law_1134 ?_
  refine V_iconst 1 dL_law_1135 (by decide) ?_
  refine V_iadd dL_law_1136 ?_
  refine V_top (y := nI (i + 1)) (nI_add i 1) ?_
  refine V_sldk hs dL_law_1137 ⟨by omega, by omega⟩ ?_
  refine V_callVR lm_L_130 (ok2.fl (cW A tc σ1)) dL_law_1138 (q0 := 34) rfl rfl (dep8 h8 h7.2 (by decide)) rfl (Nat.le_of_ble_eq_true rfl) (fun r ws' hq => ?_)
  obtain ⟨w2, rfl, τ1, rfl, rfl, ht1⟩ := hq
  exact V_icmp_eq 1251 dL_law_1141 (by decide) (fun _ => kk σ1 τ1 (hQ σ1 τ1 hs1 ht1)) (fun c => absurd rfl c)
set_option maxRecDepth 100000 in
set_option maxHeartbeats 4000000 in
theorem law_c28 (hs : Scr X b Ls xs) (h8 : X.2.2.2.1 = 8) (hL : Ls ≤ 384) (hi : i + 6 ≤ Ls) (hR : Rl σ τ) (hp : Pair Rl yX5_crow cX5_crow 2 yX6_crow cX6_crow 2 [.int (xs (i + 1))]) (kk : ∀ σ' τ', Rl σ' τ' → V X D tc cL_law RL 4 1251 [some (.ref b), some (.ref (A 0)), some (.ref (B 0)), some (.int (nI i))] [] (cW A tc σ' ++ mW B tc τ')) : V X D tc cL_law RL 4 1146 [some (.ref b), some (.ref (A 0)), some (.ref (B 0)), some (.int (nI i))] [] (cW A tc σ ++ mW B tc τ) := by
  obtain ⟨d, d', v, Qs, Qt, h7, ok1, ok2, hQ⟩ := hp D tc A B σ τ hR
  refine V_ald1 dL_law_1146 ?_
  refine V_ald0 dL_law_1147 ?_
  refine V_ild3 dL_law_1148 ?_
  refine V_iconst 1 dL_law_1149 (by decide) ?_
  refine V_iadd dL_law_1150 ?_
  refine V_top (y := nI (i + 1)) (nI_add i 1) ?_
  refine V_sldk hs dL_law_1151 ⟨by omega, by omega⟩ ?_
  refine V_callVR lm_L_131 (ok1.fr (mW B tc τ)) dL_law_1152 (q0 := 0) rfl rfl (dep8 h8 h7.1 (by decide)) rfl (Nat.le_of_ble_eq_true rfl) (fun r ws' hq => ?_)
  obtain ⟨w1, rfl, σ1, rfl, rfl, hs1⟩ := hq
  refine V_ald2 dL_law_1155 ?_
  refine V_ald0 dL_law_1156 ?_
  refine V_ild3 dL_law_1157 ?_
  refine V_iconst 1 dL_law_1158 (by decide) ?_
  refine V_iadd dL_law_1159 ?_
  refine V_top (y := nI (i + 1)) (nI_add i 1) ?_
  refine V_sldk hs dL_law_1160 ⟨by omega, by omega⟩ ?_
  refine V_callVR lm_L_134 (ok2.fl (cW A tc σ1)) dL_law_1161 (q0 := 34) rfl rfl (dep8 h8 h7.2 (by decide)) rfl (Nat.le_of_ble_eq_true rfl) (fun r ws' hq => ?_)
  obtain ⟨w2, rfl, τ1, rfl, rfl, ht1⟩ := hq
  exact V_icmp_eq 1251 dL_law_1164 (by decide) (fun _ => kk σ1 τ1 (hQ σ1 τ1 hs1 ht1)) (fun c => absurd rfl c)
set_option maxRecDepth 100000 in
set_option maxHeartbeats 4000000 in
theorem law_c29 (hs : Scr X b Ls xs) (h8 : X.2.2.2.1 = 8) (hL : Ls ≤ 384) (hi : i + 6 ≤ Ls) (hR : Rl σ τ) (hp : Pair Rl yX5_as cX5_as 3 yX6_as cX6_as 3 [.int (xs (i + 1)), .int (xs (i + 2))]) (kk : ∀ σ' τ', Rl σ' τ' → V X D tc cL_law RL 4 1251 [some (.ref b), some (.ref (A 0)), some (.ref (B 0)), some (.int (nI i))] [] (cW A tc σ' ++ mW B tc τ')) : V X D tc cL_law RL 4 1169 [some (.ref b), some (.ref (A 0)), some (.ref (B 0)), some (.int (nI i))] [] (cW A tc σ ++ mW B tc τ) := by
  obtain ⟨d, d', v, Qs, Qt, h7, ok1, ok2, hQ⟩ := hp D tc A B σ τ hR
  refine V_ald1 dL_law_1169 ?_
  refine V_ald0 dL_law_1170 ?_
  refine V_ild3 dL_law_1171 ?_
  refine V_iconst 1 dL_law_1172 (by decide) ?_
  refine V_iadd dL_law_1173 ?_
  refine V_top (y := nI (i + 1)) (nI_add i 1) ?_
  refine V_sldk hs dL_law_1174 ⟨by omega, by omega⟩ ?_
  refine V_ald0 dL_law_1175 ?_
  refine V_ild3 dL_law_1176 ?_
  refine V_iconst 2 dL_law_1177 (by decide) ?_
  refine V_iadd dL_law_1178 ?_
  refine V_top (y := nI (i + 2)) (nI_add i 2) ?_
  refine V_sldk hs dL_law_1179 ⟨by omega, by omega⟩ ?_
  refine V_callVR lm_L_135 (ok1.fr (mW B tc τ)) dL_law_1180 (q0 := 0) rfl rfl (dep8 h8 h7.1 (by decide)) rfl (Nat.le_of_ble_eq_true rfl) (fun r ws' hq => ?_)
  obtain ⟨w1, rfl, σ1, rfl, rfl, hs1⟩ := hq
  refine V_ald2 dL_law_1183 ?_
  refine V_ald0 dL_law_1184 ?_
  refine V_ild3 dL_law_1185 ?_
  refine V_iconst 1 dL_law_1186 (by decide) ?_
  refine V_iadd dL_law_1187 ?_
  refine V_top (y := nI (i + 1)) (nI_add i 1) ?_
  refine V_sldk hs dL_law_1188 ⟨by omega, by omega⟩ ?_
  refine V_ald0 dL_law_1189 ?_
  refine V_ild3 dL_law_1190 ?_
  refine V_iconst 2 dL_law_1191 (by decide) ?_
  refine V_iadd dL_law_1192 ?_
  refine V_top (y := nI (i + 2)) (nI_add i 2) ?_
  refine V_sldk hs dL_law_1193 ⟨by omega, by omega⟩ ?_
  refine V_callVR lm_L_138 (ok2.fl (cW A tc σ1)) dL_law_1194 (q0 := 34) rfl rfl (dep8 h8 h7.2 (by decide)) rfl (Nat.le_of_ble_eq_true rfl) (fun r ws' hq => ?_)
  obtain ⟨w2, rfl, τ1, rfl, rfl, ht1⟩ := hq
  exact V_icmp_eq 1251 dL_law_1197 (by decide) (fun _ => kk σ1 τ1 (hQ σ1 τ1 hs1 ht1)) (fun c => absurd rfl c)
set_option maxRecDepth 100000 in
set_option maxHeartbeats 4000000 in
theorem law_c30 (hs : Scr X b Ls xs) (h8 : X.2.2.2.1 = 8) (hL : Ls ≤ 384) (hi : i + 6 ≤ Ls) (hR : Rl σ τ) (hp : Pair Rl yX5_trace cX5_trace 1 yX6_trace cX6_trace 1 []) (kk : ∀ σ' τ', Rl σ' τ' → V X D tc cL_law RL 4 1251 [some (.ref b), some (.ref (A 0)), some (.ref (B 0)), some (.int (nI i))] [] (cW A tc σ' ++ mW B tc τ')) : V X D tc cL_law RL 4 1202 [some (.ref b), some (.ref (A 0)), some (.ref (B 0)), some (.int (nI i))] [] (cW A tc σ ++ mW B tc τ) := by
  obtain ⟨d, d', v, Qs, Qt, h7, ok1, ok2, hQ⟩ := hp D tc A B σ τ hR
  refine V_ald1 dL_law_1202 ?_
  refine V_callVR lm_L_139 (ok1.fr (mW B tc τ)) dL_law_1203 (q0 := 0) rfl rfl (dep8 h8 h7.1 (by decide)) rfl (Nat.le_of_ble_eq_true rfl) (fun r ws' hq => ?_)
  obtain ⟨w1, rfl, σ1, rfl, rfl, hs1⟩ := hq
  refine V_ald2 dL_law_1206 ?_
  refine V_callVR lm_L_143 (ok2.fl (cW A tc σ1)) dL_law_1207 (q0 := 34) rfl rfl (dep8 h8 h7.2 (by decide)) rfl (Nat.le_of_ble_eq_true rfl) (fun r ws' hq => ?_)
  obtain ⟨w2, rfl, τ1, rfl, rfl, ht1⟩ := hq
  exact V_icmp_eq 1251 dL_law_1210 (by decide) (fun _ => kk σ1 τ1 (hQ σ1 τ1 hs1 ht1)) (fun c => absurd rfl c)
set_option maxRecDepth 100000 in
set_option maxHeartbeats 4000000 in
theorem law_c31 (hs : Scr X b Ls xs) (h8 : X.2.2.2.1 = 8) (hL : Ls ≤ 384) (hi : i + 6 ≤ Ls) (hR : Rl σ τ) (hp : Pair Rl yX5_fault cX5_fault 1 yX6_fault cX6_fault 1 []) (kk : ∀ σ' τ', Rl σ' τ' → V X D tc cL_law RL 4 1251 [some (.ref b), some (.ref (A 0)), some (.ref (B 0)), some (.int (nI i))] [] (cW A tc σ' ++ mW B tc τ')) : V X D tc cL_law RL 4 1215 [some (.ref b), some (.ref (A 0)), some (.ref (B 0)), some (.int (nI i))] [] (cW A tc σ ++ mW B tc τ) := by
  obtain ⟨d, d', v, Qs, Qt, h7, ok1, ok2, hQ⟩ := hp D tc A B σ τ hR
  refine V_ald1 dL_law_1215 ?_
  refine V_callVR lm_L_144 (ok1.fr (mW B tc τ)) dL_law_1216 (q0 := 0) rfl rfl (dep8 h8 h7.1 (by decide)) rfl (Nat.le_of_ble_eq_true rfl) (fun r ws' hq => ?_)
  obtain ⟨w1, rfl, σ1, rfl, rfl, hs1⟩ := hq
  refine V_ald2 dL_law_1219 ?_
  refine V_callVR lm_L_147 (ok2.fl (cW A tc σ1)) dL_law_1220 (q0 := 34) rfl rfl (dep8 h8 h7.2 (by decide)) rfl (Nat.le_of_ble_eq_true rfl) (fun r ws' hq => ?_)
  obtain ⟨w2, rfl, τ1, rfl, rfl, ht1⟩ := hq
  exact V_icmp_eq 1251 dL_law_1223 (by decide) (fun _ => kk σ1 τ1 (hQ σ1 τ1 hs1 ht1)) (fun c => absurd rfl c)
set_option maxRecDepth 100000 in
set_option maxHeartbeats 4000000 in
theorem law_c32 (hs : Scr X b Ls xs) (h8 : X.2.2.2.1 = 8) (hL : Ls ≤ 384) (hi : i + 6 ≤ Ls) (hR : Rl σ τ) (hp : Pair Rl yX5_many cX5_many 2 yX6_many cX6_many 2 [.int (xs (i + 1))]) (kk : ∀ σ' τ', Rl σ' τ' → V X D tc cL_law RL 4 1251 [some (.ref b), some (.ref (A 0)), some (.ref (B 0)), some (.int (nI i))] [] (cW A tc σ' ++ mW B tc τ')) : V X D tc cL_law RL 4 1228 [some (.ref b), some (.ref (A 0)), some (.ref (B 0)), some (.int (nI i))] [] (cW A tc σ ++ mW B tc τ) := by
  obtain ⟨d, d', v, Qs, Qt, h7, ok1, ok2, hQ⟩ := hp D tc A B σ τ hR
  refine V_ald1 dL_law_1228 ?_
  refine V_ald0 dL_law_1229 ?_
  refine V_ild3 dL_law_1230 ?_
  refine V_iconst 1 dL_law_1231 (by decide) ?_
  refine V_iadd dL_law_1232 ?_
  refine V_top (y := nI (i + 1)) (nI_add i 1) ?_
  refine V_sldk hs dL_law_1233 ⟨by omega, by omega⟩ ?_
  refine V_callVR lm_L_148 (ok1.fr (mW B tc τ)) dL_law_1234 (q0 := 0) rfl rfl (dep8 h8 h7.1 (by decide)) rfl (Nat.le_of_ble_eq_true rfl) (fun r ws' hq => ?_)
  obtain ⟨w1, rfl, σ1, rfl, rfl, hs1⟩ := hq
  refine V_ald2 dL_law_1237 ?_
  refine V_ald0 dL_law_1238 ?_
  refine V_ild3 dL_law_1239 ?_
  refine V_iconst 1 dL_law_1240 (by decide) ?_
  refine V_iadd dL_law_1241 ?_
  refine V_top (y := nI (i + 1)) (nI_add i 1) ?_
  refine V_sldk hs dL_law_1242 ⟨by omega, by omega⟩ ?_
  refine V_callVR lm_L_151 (ok2.fl (cW A tc σ1)) dL_law_1243 (q0 := 34) rfl rfl (dep8 h8 h7.2 (by decide)) rfl (Nat.le_of_ble_eq_true rfl) (fun r ws' hq => ?_)
  obtain ⟨w2, rfl, τ1, rfl, rfl, ht1⟩ := hq
  exact V_icmp_eq 1251 dL_law_1246 (by decide) (fun _ => kk σ1 τ1 (hQ σ1 τ1 hs1 ht1)) (fun c => absurd rfl c)
end LAW
def AllP (Rl : St → Sm → Prop) : Prop := (∀ a0 a1 a2 a3 : Int32, Pair Rl yX5_market cX5_market 7 yX6_market cX6_market 7 [.int a0, .int a1, .int a2, .int a3]) ∧
  (∀ a0 a1 : Int32, Pair Rl yX5_ofMorning cX5_ofMorning 3 yX6_ofMorning cX6_ofMorning 3 [.int a0, .int a1]) ∧
  (∀ a0 a1 : Int32, Pair Rl yX5_ofPerson cX5_ofPerson 3 yX6_ofPerson cX6_ofPerson 3 [.int a0, .int a1]) ∧
  (∀ a0 a1 : Int32, Pair Rl yX5_fill cX5_fill 4 yX6_fill cX6_fill 4 [.int a0, .int a1]) ∧
  (∀ a0 : Int32, Pair Rl yX5_rate cX5_rate 3 yX6_rate cX6_rate 3 [.int a0]) ∧
  (∀ a0 a1 : Int32, Pair Rl yX5_fresh cX5_fresh 3 yX6_fresh cX6_fresh 3 [.int a0, .int a1]) ∧
  (∀ a0 : Int32, Pair Rl yX5_price cX5_price 2 yX6_price cX6_price 2 [.int a0]) ∧
  (∀ a0 a1 : Int32, Pair Rl yX5_sell cX5_sell 3 yX6_sell cX6_sell 4 [.int a0, .int a1]) ∧
  (∀ a0 : Int32, Pair Rl yX5_open cX5_open 2 yX6_open cX6_open 2 [.int a0]) ∧
  (∀ a0 : Int32, Pair Rl yX5_sleep cX5_sleep 2 yX6_sleep cX6_sleep 2 [.int a0]) ∧
  (∀ a0 a1 a2 a3 a4 : Int32, Pair Rl yX5_year cX5_year 9 yX6_year cX6_year 11 [.int a0, .int a1, .int a2, .int a3, .int a4]) ∧
  (∀ a0 : Int32, Pair Rl yX5_feast cX5_feast 2 yX6_feast cX6_feast 2 [.int a0]) ∧
  (∀ a0 a1 a2 : Int32, Pair Rl yX5_keep cX5_keep 4 yX6_keep cX6_keep 5 [.int a0, .int a1, .int a2]) ∧
  (∀ a0 a1 a2 : Int32, Pair Rl yX5_buy cX5_buy 5 yX6_buy cX6_buy 8 [.int a0, .int a1, .int a2]) ∧
  (∀ a0 a1 a2 : Int32, Pair Rl yX5_debt cX5_debt 5 yX6_debt cX6_debt 10 [.int a0, .int a1, .int a2]) ∧
  (∀ a0 : Int32, Pair Rl yX5_swap cX5_swap 8 yX6_swap cX6_swap 3 [.int a0]) ∧
  (∀ a0 a1 a2 : Int32, Pair Rl yX5_reading cX5_reading 4 yX6_reading cX6_reading 4 [.int a0, .int a1, .int a2]) ∧
  (∀ a0 : Int32, Pair Rl yX5_back cX5_back 2 yX6_back cX6_back 2 [.int a0]) ∧
  (∀ a0 : Int32, Pair Rl yX5_dews cX5_dews 4 yX6_dews cX6_dews 5 [.int a0]) ∧
  (∀ a0 : Int32, Pair Rl yX5_kinds cX5_kinds 4 yX6_kinds cX6_kinds 5 [.int a0]) ∧
  (∀ a0 : Int32, Pair Rl yX5_takens cX5_takens 4 yX6_takens cX6_takens 5 [.int a0]) ∧
  (∀ a0 a1 a2 : Int32, PairL Rl yX5_odds cX5_odds 8 yX6_odds cX6_odds 8 [.int a0, .int a1, .int a2]) ∧
  (∀ a0 a1 a2 : Int32, Pair Rl yX5_sheet cX5_sheet 5 yX6_sheet cX6_sheet 5 [.int a0, .int a1, .int a2]) ∧
  (∀ a0 : Int32, Pair Rl yX5_lose cX5_lose 4 yX6_lose cX6_lose 3 [.int a0]) ∧
  (∀ a0 a1 a2 : Int32, Pair Rl yX5_put cX5_put 5 yX6_put cX6_put 4 [.int a0, .int a1, .int a2]) ∧
  (∀ a0 a1 a2 : Int32, PairL Rl yX5_cell cX5_cell 5 yX6_cell cX6_cell 4 [.int a0, .int a1, .int a2]) ∧
  (∀ a0 a1 a2 a3 a4 : Int32, Pair Rl yX5_copy cX5_copy 8 yX6_copy cX6_copy 10 [.int a0, .int a1, .int a2, .int a3, .int a4]) ∧
  (∀ a0 : Int32, Pair Rl yX5_tell cX5_tell 2 yX6_tell cX6_tell 3 [.int a0]) ∧
  (∀ a0 : Int32, Pair Rl yX5_crow cX5_crow 2 yX6_crow cX6_crow 2 [.int a0]) ∧
  (∀ a0 a1 : Int32, Pair Rl yX5_as cX5_as 3 yX6_as cX6_as 3 [.int a0, .int a1]) ∧
  (Pair Rl yX5_trace cX5_trace 1 yX6_trace cX6_trace 1 []) ∧
  (Pair Rl yX5_fault cX5_fault 1 yX6_fault cX6_fault 1 []) ∧
  (∀ a0 : Int32, Pair Rl yX5_many cX5_many 2 yX6_many cX6_many 2 [.int a0])
theorem swOut33 {x : Int32} (e0 : ¬ x = 0) (e1 : ¬ x = 1) (e2 : ¬ x = 2) (e3 : ¬ x = 3) (e4 : ¬ x = 4) (e5 : ¬ x = 5) (e6 : ¬ x = 6) (e7 : ¬ x = 7) (e8 : ¬ x = 8) (e9 : ¬ x = 9) (e10 : ¬ x = 10) (e11 : ¬ x = 11) (e12 : ¬ x = 12) (e13 : ¬ x = 13) (e14 : ¬ x = 14) (e15 : ¬ x = 15) (e16 : ¬ x = 16) (e17 : ¬ x = 17) (e18 : ¬ x = 18) (e19 : ¬ x = 19) (e20 : ¬ x = 20) (e21 : ¬ x = 21) (e22 : ¬ x = 22) (e23 : ¬ x = 23) (e24 : ¬ x = 24) (e25 : ¬ x = 25) (e26 : ¬ x = 26) (e27 : ¬ x = 27) (e28 : ¬ x = 28) (e29 : ¬ x = 29) (e30 : ¬ x = 30) (e31 : ¬ x = 31) (e32 : ¬ x = 32) : x.toInt < 0 ∨ 32 < x.toInt := by
  have h0 := swNe e0 (a := 0) (by decide); have h1 := swNe e1 (a := 1) (by decide); have h2 := swNe e2 (a := 2) (by decide); have h3 := swNe e3 (a := 3) (by decide); have h4 := swNe e4 (a := 4) (by decide); have h5 := swNe e5 (a := 5) (by decide); have h6 := swNe e6 (a := 6) (by decide); have h7 := swNe e7 (a := 7) (by decide); have h8 := swNe e8 (a := 8) (by decide); have h9 := swNe e9 (a := 9) (by decide); have h10 := swNe e10 (a := 10) (by decide); have h11 := swNe e11 (a := 11) (by decide); have h12 := swNe e12 (a := 12) (by decide); have h13 := swNe e13 (a := 13) (by decide); have h14 := swNe e14 (a := 14) (by decide); have h15 := swNe e15 (a := 15) (by decide); have h16 := swNe e16 (a := 16) (by decide); have h17 := swNe e17 (a := 17) (by decide); have h18 := swNe e18 (a := 18) (by decide); have h19 := swNe e19 (a := 19) (by decide); have h20 := swNe e20 (a := 20) (by decide); have h21 := swNe e21 (a := 21) (by decide); have h22 := swNe e22 (a := 22) (by decide); have h23 := swNe e23 (a := 23) (by decide); have h24 := swNe e24 (a := 24) (by decide); have h25 := swNe e25 (a := 25) (by decide); have h26 := swNe e26 (a := 26) (by decide); have h27 := swNe e27 (a := 27) (by decide); have h28 := swNe e28 (a := 28) (by decide); have h29 := swNe e29 (a := 29) (by decide); have h30 := swNe e30 (a := 30) (by decide); have h31 := swNe e31 (a := 31) (by decide); have h32 := swNe e32 (a := 32) (by decide)
  omega
section LAW2
variable {X : Cx} {D : va_G} {tc : Tc} {b Ls : Nat} {xs : Nat → Int32} {A B : Nat → Nat} {Rl : St → Sm → Prop}
set_option maxRecDepth 100000 in
set_option maxHeartbeats 8000000 in
theorem law_body (hP : AllP Rl) (hs : Scr X b Ls xs) (h8 : X.2.2.2.1 = 8) (hL : Ls ≤ 384) {i : Nat} {σ : St} {τ : Sm} (hi : i + 6 ≤ Ls) (hR : Rl σ τ) (kk : ∀ σ' τ', Rl σ' τ' → V X D tc cL_law RL 4 1251 [some (.ref b), some (.ref (A 0)), some (.ref (B 0)), some (.int (nI i))] [] (cW A tc σ' ++ mW B tc τ')) : V X D tc cL_law RL 4 27 [some (.ref b), some (.ref (A 0)), some (.ref (B 0)), some (.int (nI i))] [] (cW A tc σ ++ mW B tc τ) := by
  refine V_ald0 dL_law_27 ?_
  refine V_ild3 dL_law_28 ?_
  refine V_sldk hs dL_law_29 ⟨by omega, by omega⟩ ?_
  refine V_bipush 63 dL_law_30 (by decide) ?_
  refine V_iand dL_law_32 ?_
  generalize xs i &&& 63 = x
  obtain ⟨p0, p1, p2, p3, p4, p5, p6, p7, p8, p9, p10, p11, p12, p13, p14, p15, p16, p17, p18, p19, p20, p21, p22, p23, p24, p25, p26, p27, p28, p29, p30, p31, p32⟩ := hP
  by_cases e0 : x = 0
  · subst e0
    refine V_tableIn (off := 147) 180 dL_law_33 (by decide) (by decide) (by decide) (by decide) ?_
    exact law_c0 hs h8 hL hi hR (p0 _ _ _ _) kk
  by_cases e1 : x = 1
  · subst e1
    refine V_tableIn (off := 200) 233 dL_law_33 (by decide) (by decide) (by decide) (by decide) ?_
    exact law_c1 hs h8 hL hi hR (p1 _ _) kk
  by_cases e2 : x = 2
  · subst e2
    refine V_tableIn (off := 233) 266 dL_law_33 (by decide) (by decide) (by decide) (by decide) ?_
    exact law_c2 hs h8 hL hi hR (p2 _ _) kk
  by_cases e3 : x = 3
  · subst e3
    refine V_tableIn (off := 266) 299 dL_law_33 (by decide) (by decide) (by decide) (by decide) ?_
    exact law_c3 hs h8 hL hi hR (p3 _ _) kk
  by_cases e4 : x = 4
  · subst e4
    refine V_tableIn (off := 299) 332 dL_law_33 (by decide) (by decide) (by decide) (by decide) ?_
    exact law_c4 hs h8 hL hi hR (p4 _) kk
  by_cases e5 : x = 5
  · subst e5
    refine V_tableIn (off := 322) 355 dL_law_33 (by decide) (by decide) (by decide) (by decide) ?_
    exact law_c5 hs h8 hL hi hR (p5 _ _) kk
  by_cases e6 : x = 6
  · subst e6
    refine V_tableIn (off := 355) 388 dL_law_33 (by decide) (by decide) (by decide) (by decide) ?_
    exact law_c6 hs h8 hL hi hR (p6 _) kk
  by_cases e7 : x = 7
  · subst e7
    refine V_tableIn (off := 378) 411 dL_law_33 (by decide) (by decide) (by decide) (by decide) ?_
    exact law_c7 hs h8 hL hi hR (p7 _ _) kk
  by_cases e8 : x = 8
  · subst e8
    refine V_tableIn (off := 411) 444 dL_law_33 (by decide) (by decide) (by decide) (by decide) ?_
    exact law_c8 hs h8 hL hi hR (p8 _) kk
  by_cases e9 : x = 9
  · subst e9
    refine V_tableIn (off := 434) 467 dL_law_33 (by decide) (by decide) (by decide) (by decide) ?_
    exact law_c9 hs h8 hL hi hR (p9 _) kk
  by_cases e10 : x = 10
  · subst e10
    refine V_tableIn (off := 457) 490 dL_law_33 (by decide) (by decide) (by decide) (by decide) ?_
    exact law_c10 hs h8 hL hi hR (p10 _ _ _ _ _) kk
  by_cases e11 : x = 11
  · subst e11
    refine V_tableIn (off := 520) 553 dL_law_33 (by decide) (by decide) (by decide) (by decide) ?_
    exact law_c11 hs h8 hL hi hR (p11 _) kk
  by_cases e12 : x = 12
  · subst e12
    refine V_tableIn (off := 543) 576 dL_law_33 (by decide) (by decide) (by decide) (by decide) ?_
    exact law_c12 hs h8 hL hi hR (p12 _ _ _) kk
  by_cases e13 : x = 13
  · subst e13
    refine V_tableIn (off := 586) 619 dL_law_33 (by decide) (by decide) (by decide) (by decide) ?_
    exact law_c13 hs h8 hL hi hR (p13 _ _ _) kk
  by_cases e14 : x = 14
  · subst e14
    refine V_tableIn (off := 629) 662 dL_law_33 (by decide) (by decide) (by decide) (by decide) ?_
    exact law_c14 hs h8 hL hi hR (p14 _ _ _) kk
  by_cases e15 : x = 15
  · subst e15
    refine V_tableIn (off := 672) 705 dL_law_33 (by decide) (by decide) (by decide) (by decide) ?_
    exact law_c15 hs h8 hL hi hR (p15 _) kk
  by_cases e16 : x = 16
  · subst e16
    refine V_tableIn (off := 695) 728 dL_law_33 (by decide) (by decide) (by decide) (by decide) ?_
    exact law_c16 hs h8 hL hi hR (p16 _ _ _) kk
  by_cases e17 : x = 17
  · subst e17
    refine V_tableIn (off := 738) 771 dL_law_33 (by decide) (by decide) (by decide) (by decide) ?_
    exact law_c17 hs h8 hL hi hR (p17 _) kk
  by_cases e18 : x = 18
  · subst e18
    refine V_tableIn (off := 761) 794 dL_law_33 (by decide) (by decide) (by decide) (by decide) ?_
    exact law_c18 hs h8 hL hi hR (p18 _) kk
  by_cases e19 : x = 19
  · subst e19
    refine V_tableIn (off := 784) 817 dL_law_33 (by decide) (by decide) (by decide) (by decide) ?_
    exact law_c19 hs h8 hL hi hR (p19 _) kk
  by_cases e20 : x = 20
  · subst e20
    refine V_tableIn (off := 807) 840 dL_law_33 (by decide) (by decide) (by decide) (by decide) ?_
    exact law_c20 hs h8 hL hi hR (p20 _) kk
  by_cases e21 : x = 21
  · subst e21
    refine V_tableIn (off := 830) 863 dL_law_33 (by decide) (by decide) (by decide) (by decide) ?_
    exact law_c21 hs h8 hL hi hR (p21 _ _ _) kk
  by_cases e22 : x = 22
  · subst e22
    refine V_tableIn (off := 874) 907 dL_law_33 (by decide) (by decide) (by decide) (by decide) ?_
    exact law_c22 hs h8 hL hi hR (p22 _ _ _) kk
  by_cases e23 : x = 23
  · subst e23
    refine V_tableIn (off := 917) 950 dL_law_33 (by decide) (by decide) (by decide) (by decide) ?_
    exact law_c23 hs h8 hL hi hR (p23 _) kk
  by_cases e24 : x = 24
  · subst e24
    refine V_tableIn (off := 940) 973 dL_law_33 (by decide) (by decide) (by decide) (by decide) ?_
    exact law_c24 hs h8 hL hi hR (p24 _ _ _) kk
  by_cases e25 : x = 25
  · subst e25
    refine V_tableIn (off := 983) 1016 dL_law_33 (by decide) (by decide) (by decide) (by decide) ?_
    exact law_c25 hs h8 hL hi hR (p25 _ _ _) kk
  by_cases e26 : x = 26
  · subst e26
    refine V_tableIn (off := 1027) 1060 dL_law_33 (by decide) (by decide) (by decide) (by decide) ?_
    exact law_c26 hs h8 hL hi hR (p26 _ _ _ _ _) kk
  by_cases e27 : x = 27
  · subst e27
    refine V_tableIn (off := 1090) 1123 dL_law_33 (by decide) (by decide) (by decide) (by decide) ?_
    exact law_c27 hs h8 hL hi hR (p27 _) kk
  by_cases e28 : x = 28
  · subst e28
    refine V_tableIn (off := 1113) 1146 dL_law_33 (by decide) (by decide) (by decide) (by decide) ?_
    exact law_c28 hs h8 hL hi hR (p28 _) kk
  by_cases e29 : x = 29
  · subst e29
    refine V_tableIn (off := 1136) 1169 dL_law_33 (by decide) (by decide) (by decide) (by decide) ?_
    exact law_c29 hs h8 hL hi hR (p29 _ _) kk
  by_cases e30 : x = 30
  · subst e30
    refine V_tableIn (off := 1169) 1202 dL_law_33 (by decide) (by decide) (by decide) (by decide) ?_
    exact law_c30 hs h8 hL hi hR p30 kk
  by_cases e31 : x = 31
  · subst e31
    refine V_tableIn (off := 1182) 1215 dL_law_33 (by decide) (by decide) (by decide) (by decide) ?_
    exact law_c31 hs h8 hL hi hR p31 kk
  by_cases e32 : x = 32
  · subst e32
    refine V_tableIn (off := 1195) 1228 dL_law_33 (by decide) (by decide) (by decide) (by decide) ?_
    exact law_c32 hs h8 hL hi hR (p32 _) kk
  refine V_tableOut 1251 dL_law_33 (swOut33 e0 e1 e2 e3 e4 e5 e6 e7 e8 e9 e10 e11 e12 e13 e14 e15 e16 e17 e18 e19 e20 e21 e22 e23 e24 e25 e26 e27 e28 e29 e30 e31 e32) (by decide) ?_
  exact kk σ τ hR
set_option maxRecDepth 100000 in
set_option maxHeartbeats 4000000 in
theorem law_loop (hP : AllP Rl) (hs : Scr X b Ls xs) (h8 : X.2.2.2.1 = 8) (hL : Ls ≤ 384) (hend : ∀ (i : Nat) (σ : St) (τ : Sm), V X D tc cL_law RL 4 1257 [some (.ref b), some (.ref (A 0)), some (.ref (B 0)), some (.int (nI i))] [] (cW A tc σ ++ mW B tc τ)) : ∀ (f i : Nat) (σ : St) (τ : Sm), i ≤ 390 → Ls + 6 ≤ i + 6 * f → Rl σ τ → V X D tc cL_law RL 4 18 [some (.ref b), some (.ref (A 0)), some (.ref (B 0)), some (.int (nI i))] [] (cW A tc σ ++ mW B tc τ) := by
  intro f
  induction f with
  | zero =>
    intro i σ τ hi hf hR
    refine V_ild3 dL_law_18 ?_
    refine V_ald0 dL_law_19 ?_
    refine V_slen hs dL_law_20 ?_
    refine V_bipush 6 dL_law_21 (by decide) ?_
    refine V_isub dL_law_23 ?_
    refine V_icmp_gt 1257 dL_law_24 (by decide) (fun c => ?_) (fun c => ?_)
    · exact hend i σ τ
    · rw [ltL hL (by omega)] at c
      omega
  | succ f ih =>
    intro i σ τ hi hf hR
    refine V_ild3 dL_law_18 ?_
    refine V_ald0 dL_law_19 ?_
    refine V_slen hs dL_law_20 ?_
    refine V_bipush 6 dL_law_21 (by decide) ?_
    refine V_isub dL_law_23 ?_
    refine V_icmp_gt 1257 dL_law_24 (by decide) (fun c => ?_) (fun c => ?_)
    · exact hend i σ τ
    · rw [ltL hL (by omega)] at c
      refine law_body hP hs h8 hL (by omega) hR (fun σ' τ' hR' => ?_)
      refine V_inc3 (nI (i + 6)) dL_law_1251 (nI_add i 6) rfl (by decide) ?_
      refine V_goto 18 dL_law_1254 (by decide) ?_
      exact ih (i + 6) σ' τ' (by omega) (by omega) hR'
end LAW2
