/-! the law's cases -/
set_option maxRecDepth 4000 in
theorem lc_0 (γ : zG) (l : Launch) (b L : Nat) (xs : Nat → Int32) {x j t : Nat} {h : zH} {sn : Nat → Option Nat} {σ τ μ : zS} (hj : 6 * j + 6 ≤ L) (hL : L ≤ 3072) (I : LI γ x h sn σ τ μ t (60 * j)) (next : Nxt γ l b L xs x j) : Go (EL γ l b L xs) (40 + 16 * j) (1073 + 157 * j) 176 [some (.ref b), some (.ref x), some (.ref (x + 34)), some (.int (nI (6 * j)))] [] h := by
  obtain ⟨hx, hs, ht, ha, hm, hn, hR, htT, hsl, hdj⟩ := id I
  obtain ⟨e1, e2⟩ := cap_ag hR (xs (6 * j + 1)) (xs (6 * j + 2))
  have hm2 : zMd γ (zps γ h (x + 1) (mCap σ (xs (6 * j + 1)) (xs (6 * j + 2))).2) (x + 34) μ := zIs.out hm (by omega)
  refine go_aload_n dL_law_176 rfl ?_
  refine go_aload_n dL_law_177 rfl ?_
  refine go_iload_n dL_law_178 rfl ?_
  refine go_iconst (v := 1) dL_law_179 (by decide) ?_
  refine go_iadd dL_law_180 ?_
  refine go_sX dL_law_181 (sin (k := 1) (by decide) (by decide) hj hL) ?_
  refine go_aload_n dL_law_182 rfl ?_
  refine go_iload_n dL_law_183 rfl ?_
  refine go_iconst (v := 2) dL_law_184 (by decide) ?_
  refine go_iadd dL_law_185 ?_
  refine go_sX dL_law_186 (sin (k := 2) (by decide) (by decide) hj hL) ?_
  refine go_callVi (ci := 3) dL_law_187 moX3_setCapacity cvL_13 ⟨rfl, rfl⟩ (kX3_setCapacity_ γ l 9 h x σ hx hs (xs (6 * j + 1)) (xs (6 * j + 2))  (mCap σ (xs (6 * j + 1)) (xs (6 * j + 2))) rfl) (hx) rfl rfl (Nat.le_of_ble_eq_true rfl) (by show _ ≤ 600000; omega) (by show _ ≤ 7302250; omega) (Nat.le_of_ble_eq_true rfl) ?_
  refine go_aload_n dL_law_190 rfl ?_
  refine go_aload_n dL_law_191 rfl ?_
  refine go_iload_n dL_law_192 rfl ?_
  refine go_iconst (v := 1) dL_law_193 (by decide) ?_
  refine go_iadd dL_law_194 ?_
  refine go_sX dL_law_195 (sin (k := 1) (by decide) (by decide) hj hL) ?_
  refine go_aload_n dL_law_196 rfl ?_
  refine go_iload_n dL_law_197 rfl ?_
  refine go_iconst (v := 2) dL_law_198 (by decide) ?_
  refine go_iadd dL_law_199 ?_
  refine go_sX dL_law_200 (sin (k := 2) (by decide) (by decide) hj hL) ?_
  refine go_callVi (ci := 4) dL_law_201 moX4_setCapacity cvL_17 ⟨rfl, rfl⟩ (kX4_setCapacity_ γ l 9 _ (x + 34) μ hm2 (xs (6 * j + 1)) (xs (6 * j + 2)) (nCap (μ 0) (xs (6 * j + 1)) (xs (6 * j + 2))) rfl) (hm2 0 (by omega)) rfl rfl (Nat.le_of_ble_eq_true rfl) (by show _ ≤ 600000; omega) (by show _ ≤ 7302250; omega) (Nat.le_of_ble_eq_true rfl) ?_
  refine go_icmp_eq (tgt := 954) dL_law_204 (by decide) (fun c204 => ?_) (fun c204 => absurd (e1) c204)
  refine go_widen (Nat.le_add_right _ 16) (Nat.le_add_right _ 157) ?_
  exact next _ sn _ τ _ t (I.step (μ' := upR μ 0 (nCap (μ 0) (xs (6 * j + 1)) (xs (6 * j + 2))).2) e2 (by omega) (by omega) ⟨rfl, rfl⟩)
set_option maxRecDepth 4000 in
theorem lc_1 (γ : zG) (l : Launch) (b L : Nat) (xs : Nat → Int32) {x j t : Nat} {h : zH} {sn : Nat → Option Nat} {σ τ μ : zS} (hj : 6 * j + 6 ≤ L) (hL : L ≤ 3072) (I : LI γ x h sn σ τ μ t (60 * j)) (next : Nxt γ l b L xs x j) : Go (EL γ l b L xs) (40 + 16 * j) (1073 + 157 * j) 209 [some (.ref b), some (.ref x), some (.ref (x + 34)), some (.int (nI (6 * j)))] [] h := by
  obtain ⟨hx, hs, ht, ha, hm, hn, hR, htT, hsl, hdj⟩ := id I
  obtain ⟨e1, e2⟩ := wrk_ag hR (xs (6 * j + 1)) (zi (¬ xs (6 * j + 2) = 0)) zi_B
  have hm2 : zMd γ (zps γ h (x + 1) (mWrk σ (xs (6 * j + 1)) (zi (¬ xs (6 * j + 2) = 0))).2) (x + 34) μ := zIs.out hm (by omega)
  refine go_aload_n dL_law_209 rfl ?_
  refine go_aload_n dL_law_210 rfl ?_
  refine go_iload_n dL_law_211 rfl ?_
  refine go_iconst (v := 1) dL_law_212 (by decide) ?_
  refine go_iadd dL_law_213 ?_
  refine go_sX dL_law_214 (sin (k := 1) (by decide) (by decide) hj hL) ?_
  refine go_aload_n dL_law_215 rfl ?_
  refine go_iload_n dL_law_216 rfl ?_
  refine go_iconst (v := 2) dL_law_217 (by decide) ?_
  refine go_iadd dL_law_218 ?_
  refine go_sX dL_law_219 (sin (k := 2) (by decide) (by decide) hj hL) ?_
  refine go_nz dL_law_220 dL_law_223 dL_law_224 dL_law_227 ?_
  refine go_callVi (ci := 3) dL_law_228 moX3_setWorking cvL_18 ⟨rfl, rfl⟩ (kX3_setWorking_ γ l 9 h x σ hx hs (xs (6 * j + 1)) (zi (¬ xs (6 * j + 2) = 0)) zi_B (mWrk σ (xs (6 * j + 1)) (zi (¬ xs (6 * j + 2) = 0))) rfl) (hx) rfl rfl (Nat.le_of_ble_eq_true rfl) (by show _ ≤ 600000; omega) (by show _ ≤ 7302250; omega) (Nat.le_of_ble_eq_true rfl) ?_
  refine go_aload_n dL_law_231 rfl ?_
  refine go_aload_n dL_law_232 rfl ?_
  refine go_iload_n dL_law_233 rfl ?_
  refine go_iconst (v := 1) dL_law_234 (by decide) ?_
  refine go_iadd dL_law_235 ?_
  refine go_sX dL_law_236 (sin (k := 1) (by decide) (by decide) hj hL) ?_
  refine go_aload_n dL_law_237 rfl ?_
  refine go_iload_n dL_law_238 rfl ?_
  refine go_iconst (v := 2) dL_law_239 (by decide) ?_
  refine go_iadd dL_law_240 ?_
  refine go_sX dL_law_241 (sin (k := 2) (by decide) (by decide) hj hL) ?_
  refine go_nz dL_law_242 dL_law_245 dL_law_246 dL_law_249 ?_
  refine go_callVi (ci := 4) dL_law_250 moX4_setWorking cvL_22 ⟨rfl, rfl⟩ (kX4_setWorking_ γ l 9 _ (x + 34) μ hm2 (xs (6 * j + 1)) (zi (¬ xs (6 * j + 2) = 0)) (nWrk (μ 0) (xs (6 * j + 1)) (zi (¬ xs (6 * j + 2) = 0))) rfl) (hm2 0 (by omega)) rfl rfl (Nat.le_of_ble_eq_true rfl) (by show _ ≤ 600000; omega) (by show _ ≤ 7302250; omega) (Nat.le_of_ble_eq_true rfl) ?_
  refine go_icmp_eq (tgt := 954) dL_law_253 (by decide) (fun c253 => ?_) (fun c253 => absurd (e1) c253)
  refine go_widen (Nat.le_add_right _ 16) (Nat.le_add_right _ 157) ?_
  exact next _ sn _ τ _ t (I.step (μ' := upR μ 0 (nWrk (μ 0) (xs (6 * j + 1)) (zi (¬ xs (6 * j + 2) = 0))).2) e2 (by omega) (by omega) ⟨rfl, rfl⟩)
set_option maxRecDepth 4000 in
theorem lc_2 (γ : zG) (l : Launch) (b L : Nat) (xs : Nat → Int32) {x j t : Nat} {h : zH} {sn : Nat → Option Nat} {σ τ μ : zS} (hj : 6 * j + 6 ≤ L) (hL : L ≤ 3072) (I : LI γ x h sn σ τ μ t (60 * j)) (next : Nxt γ l b L xs x j) : Go (EL γ l b L xs) (40 + 16 * j) (1073 + 157 * j) 258 [some (.ref b), some (.ref x), some (.ref (x + 34)), some (.int (nI (6 * j)))] [] h := by
  obtain ⟨hx, hs, ht, ha, hm, hn, hR, htT, hsl, hdj⟩ := id I
  obtain ⟨e1, e2⟩ := row0_ag hR (xs (6 * j + 1))
  have hm2 : zMd γ (zps γ h (x + 1) (mRow σ 0 0 3000 (xs (6 * j + 1))).2) (x + 34) μ := zIs.out hm (by omega)
  refine go_aload_n dL_law_258 rfl ?_
  refine go_aload_n dL_law_259 rfl ?_
  refine go_iload_n dL_law_260 rfl ?_
  refine go_iconst (v := 1) dL_law_261 (by decide) ?_
  refine go_iadd dL_law_262 ?_
  refine go_sX dL_law_263 (sin (k := 1) (by decide) (by decide) hj hL) ?_
  refine go_callVi (ci := 3) dL_law_264 moX3_setReserve cvL_23 ⟨rfl, rfl⟩ (kX3_setReserve_ γ l 10 h x σ hx hs (xs (6 * j + 1))  (mRow σ 0 0 3000 (xs (6 * j + 1))) rfl) (hx) rfl rfl (Nat.le_of_ble_eq_true rfl) (by show _ ≤ 600000; omega) (by show _ ≤ 7302250; omega) (Nat.le_of_ble_eq_true rfl) ?_
  refine go_aload_n dL_law_267 rfl ?_
  refine go_aload_n dL_law_268 rfl ?_
  refine go_iload_n dL_law_269 rfl ?_
  refine go_iconst (v := 1) dL_law_270 (by decide) ?_
  refine go_iadd dL_law_271 ?_
  refine go_sX dL_law_272 (sin (k := 1) (by decide) (by decide) hj hL) ?_
  refine go_callVi (ci := 4) dL_law_273 moX4_setReserve cvL_27 ⟨rfl, rfl⟩ (kX4_setReserve_ γ l 10 _ (x + 34) μ hm2 (xs (6 * j + 1)) (nRow (μ 0) 6 0 3000 (xs (6 * j + 1))) rfl) (hm2 0 (by omega)) rfl rfl (Nat.le_of_ble_eq_true rfl) (by show _ ≤ 600000; omega) (by show _ ≤ 7302250; omega) (Nat.le_of_ble_eq_true rfl) ?_
  refine go_icmp_eq (tgt := 954) dL_law_276 (by decide) (fun c276 => ?_) (fun c276 => absurd (e1) c276)
  refine go_widen (Nat.le_add_right _ 16) (Nat.le_add_right _ 157) ?_
  exact next _ sn _ τ _ t (I.step (μ' := upR μ 0 (nRow (μ 0) 6 0 3000 (xs (6 * j + 1))).2) e2 (by omega) (by omega) ⟨rfl, rfl⟩)
set_option maxRecDepth 4000 in
theorem lc_3 (γ : zG) (l : Launch) (b L : Nat) (xs : Nat → Int32) {x j t : Nat} {h : zH} {sn : Nat → Option Nat} {σ τ μ : zS} (hj : 6 * j + 6 ≤ L) (hL : L ≤ 3072) (I : LI γ x h sn σ τ μ t (60 * j)) (next : Nxt γ l b L xs x j) : Go (EL γ l b L xs) (40 + 16 * j) (1073 + 157 * j) 281 [some (.ref b), some (.ref x), some (.ref (x + 34)), some (.int (nI (6 * j)))] [] h := by
  obtain ⟨hx, hs, ht, ha, hm, hn, hR, htT, hsl, hdj⟩ := id I
  obtain ⟨e1, e2⟩ := row1_ag hR (xs (6 * j + 1))
  have hm2 : zMd γ (zps γ h (x + 1) (mRow σ 1 1 30 (xs (6 * j + 1))).2) (x + 34) μ := zIs.out hm (by omega)
  refine go_aload_n dL_law_281 rfl ?_
  refine go_aload_n dL_law_282 rfl ?_
  refine go_iload_n dL_law_283 rfl ?_
  refine go_iconst (v := 1) dL_law_284 (by decide) ?_
  refine go_iadd dL_law_285 ?_
  refine go_sX dL_law_286 (sin (k := 1) (by decide) (by decide) hj hL) ?_
  refine go_callVi (ci := 3) dL_law_287 moX3_setRestartGap cvL_28 ⟨rfl, rfl⟩ (kX3_setRestartGap_ γ l 10 h x σ hx hs (xs (6 * j + 1))  (mRow σ 1 1 30 (xs (6 * j + 1))) rfl) (hx) rfl rfl (Nat.le_of_ble_eq_true rfl) (by show _ ≤ 600000; omega) (by show _ ≤ 7302250; omega) (Nat.le_of_ble_eq_true rfl) ?_
  refine go_aload_n dL_law_290 rfl ?_
  refine go_aload_n dL_law_291 rfl ?_
  refine go_iload_n dL_law_292 rfl ?_
  refine go_iconst (v := 1) dL_law_293 (by decide) ?_
  refine go_iadd dL_law_294 ?_
  refine go_sX dL_law_295 (sin (k := 1) (by decide) (by decide) hj hL) ?_
  refine go_callVi (ci := 4) dL_law_296 moX4_setRestartGap cvL_31 ⟨rfl, rfl⟩ (kX4_setRestartGap_ γ l 10 _ (x + 34) μ hm2 (xs (6 * j + 1)) (nRow (μ 0) 7 1 30 (xs (6 * j + 1))) rfl) (hm2 0 (by omega)) rfl rfl (Nat.le_of_ble_eq_true rfl) (by show _ ≤ 600000; omega) (by show _ ≤ 7302250; omega) (Nat.le_of_ble_eq_true rfl) ?_
  refine go_icmp_eq (tgt := 954) dL_law_299 (by decide) (fun c299 => ?_) (fun c299 => absurd (e1) c299)
  refine go_widen (Nat.le_add_right _ 16) (Nat.le_add_right _ 157) ?_
  exact next _ sn _ τ _ t (I.step (μ' := upR μ 0 (nRow (μ 0) 7 1 30 (xs (6 * j + 1))).2) e2 (by omega) (by omega) ⟨rfl, rfl⟩)
set_option maxRecDepth 4000 in
theorem lc_4 (γ : zG) (l : Launch) (b L : Nat) (xs : Nat → Int32) {x j t : Nat} {h : zH} {sn : Nat → Option Nat} {σ τ μ : zS} (hj : 6 * j + 6 ≤ L) (hL : L ≤ 3072) (I : LI γ x h sn σ τ μ t (60 * j)) (next : Nxt γ l b L xs x j) : Go (EL γ l b L xs) (40 + 16 * j) (1073 + 157 * j) 304 [some (.ref b), some (.ref x), some (.ref (x + 34)), some (.int (nI (6 * j)))] [] h := by
  obtain ⟨hx, hs, ht, ha, hm, hn, hR, htT, hsl, hdj⟩ := id I
  obtain ⟨e1, e2⟩ := row2_ag hR (xs (6 * j + 1))
  have hm2 : zMd γ (zps γ h (x + 1) (mRow σ 2 1 30 (xs (6 * j + 1))).2) (x + 34) μ := zIs.out hm (by omega)
  refine go_aload_n dL_law_304 rfl ?_
  refine go_aload_n dL_law_305 rfl ?_
  refine go_iload_n dL_law_306 rfl ?_
  refine go_iconst (v := 1) dL_law_307 (by decide) ?_
  refine go_iadd dL_law_308 ?_
  refine go_sX dL_law_309 (sin (k := 1) (by decide) (by decide) hj hL) ?_
  refine go_callVi (ci := 3) dL_law_310 moX3_setOverloadLimit cvL_32 ⟨rfl, rfl⟩ (kX3_setOverloadLimit_ γ l 10 h x σ hx hs (xs (6 * j + 1))  (mRow σ 2 1 30 (xs (6 * j + 1))) rfl) (hx) rfl rfl (Nat.le_of_ble_eq_true rfl) (by show _ ≤ 600000; omega) (by show _ ≤ 7302250; omega) (Nat.le_of_ble_eq_true rfl) ?_
  refine go_aload_n dL_law_313 rfl ?_
  refine go_aload_n dL_law_314 rfl ?_
  refine go_iload_n dL_law_315 rfl ?_
  refine go_iconst (v := 1) dL_law_316 (by decide) ?_
  refine go_iadd dL_law_317 ?_
  refine go_sX dL_law_318 (sin (k := 1) (by decide) (by decide) hj hL) ?_
  refine go_callVi (ci := 4) dL_law_319 moX4_setOverloadLimit cvL_35 ⟨rfl, rfl⟩ (kX4_setOverloadLimit_ γ l 10 _ (x + 34) μ hm2 (xs (6 * j + 1)) (nRow (μ 0) 8 1 30 (xs (6 * j + 1))) rfl) (hm2 0 (by omega)) rfl rfl (Nat.le_of_ble_eq_true rfl) (by show _ ≤ 600000; omega) (by show _ ≤ 7302250; omega) (Nat.le_of_ble_eq_true rfl) ?_
  refine go_icmp_eq (tgt := 954) dL_law_322 (by decide) (fun c322 => ?_) (fun c322 => absurd (e1) c322)
  refine go_widen (Nat.le_add_right _ 16) (Nat.le_add_right _ 157) ?_
  exact next _ sn _ τ _ t (I.step (μ' := upR μ 0 (nRow (μ 0) 8 1 30 (xs (6 * j + 1))).2) e2 (by omega) (by omega) ⟨rfl, rfl⟩)
set_option maxRecDepth 4000 in
theorem lc_5 (γ : zG) (l : Launch) (b L : Nat) (xs : Nat → Int32) {x j t : Nat} {h : zH} {sn : Nat → Option Nat} {σ τ μ : zS} (hj : 6 * j + 6 ≤ L) (hL : L ≤ 3072) (I : LI γ x h sn σ τ μ t (60 * j)) (next : Nxt γ l b L xs x j) : Go (EL γ l b L xs) (40 + 16 * j) (1073 + 157 * j) 327 [some (.ref b), some (.ref x), some (.ref (x + 34)), some (.int (nI (6 * j)))] [] h := by
  obtain ⟨hx, hs, ht, ha, hm, hn, hR, htT, hsl, hdj⟩ := id I
  obtain ⟨e1, e2⟩ := row3_ag hR (xs (6 * j + 1))
  have hm2 : zMd γ (zps γ h (x + 1) (mRow σ 3 1 60 (xs (6 * j + 1))).2) (x + 34) μ := zIs.out hm (by omega)
  refine go_aload_n dL_law_327 rfl ?_
  refine go_aload_n dL_law_328 rfl ?_
  refine go_iload_n dL_law_329 rfl ?_
  refine go_iconst (v := 1) dL_law_330 (by decide) ?_
  refine go_iadd dL_law_331 ?_
  refine go_sX dL_law_332 (sin (k := 1) (by decide) (by decide) hj hL) ?_
  refine go_callVi (ci := 3) dL_law_333 moX3_setCooldownTime cvL_36 ⟨rfl, rfl⟩ (kX3_setCooldownTime_ γ l 10 h x σ hx hs (xs (6 * j + 1))  (mRow σ 3 1 60 (xs (6 * j + 1))) rfl) (hx) rfl rfl (Nat.le_of_ble_eq_true rfl) (by show _ ≤ 600000; omega) (by show _ ≤ 7302250; omega) (Nat.le_of_ble_eq_true rfl) ?_
  refine go_aload_n dL_law_336 rfl ?_
  refine go_aload_n dL_law_337 rfl ?_
  refine go_iload_n dL_law_338 rfl ?_
  refine go_iconst (v := 1) dL_law_339 (by decide) ?_
  refine go_iadd dL_law_340 ?_
  refine go_sX dL_law_341 (sin (k := 1) (by decide) (by decide) hj hL) ?_
  refine go_callVi (ci := 4) dL_law_342 moX4_setCooldownTime cvL_39 ⟨rfl, rfl⟩ (kX4_setCooldownTime_ γ l 10 _ (x + 34) μ hm2 (xs (6 * j + 1)) (nRow (μ 0) 9 1 60 (xs (6 * j + 1))) rfl) (hm2 0 (by omega)) rfl rfl (Nat.le_of_ble_eq_true rfl) (by show _ ≤ 600000; omega) (by show _ ≤ 7302250; omega) (Nat.le_of_ble_eq_true rfl) ?_
  refine go_icmp_eq (tgt := 954) dL_law_345 (by decide) (fun c345 => ?_) (fun c345 => absurd (e1) c345)
  refine go_widen (Nat.le_add_right _ 16) (Nat.le_add_right _ 157) ?_
  exact next _ sn _ τ _ t (I.step (μ' := upR μ 0 (nRow (μ 0) 9 1 60 (xs (6 * j + 1))).2) e2 (by omega) (by omega) ⟨rfl, rfl⟩)
set_option maxRecDepth 4000 in
theorem lc_6 (γ : zG) (l : Launch) (b L : Nat) (xs : Nat → Int32) {x j t : Nat} {h : zH} {sn : Nat → Option Nat} {σ τ μ : zS} (hj : 6 * j + 6 ≤ L) (hL : L ≤ 3072) (I : LI γ x h sn σ τ μ t (60 * j)) (next : Nxt γ l b L xs x j) : Go (EL γ l b L xs) (40 + 16 * j) (1073 + 157 * j) 350 [some (.ref b), some (.ref x), some (.ref (x + 34)), some (.int (nI (6 * j)))] [] h := by
  obtain ⟨hx, hs, ht, ha, hm, hn, hR, htT, hsl, hdj⟩ := id I
  have hm2 := hm
  refine go_aload_n dL_law_350 rfl ?_
  refine go_callVi (ci := 3) dL_law_351 moX3_budget cvL_40 ⟨rfl, rfl⟩ (kX3_budget γ l 9 h x σ hx hs  ) (hx) rfl rfl (Nat.le_of_ble_eq_true rfl) (by show _ ≤ 600000; omega) (by show _ ≤ 7302250; omega) (Nat.le_of_ble_eq_true rfl) ?_
  refine go_aload_n dL_law_354 rfl ?_
  refine go_callVi (ci := 4) dL_law_355 moX4_budget cvL_44 ⟨rfl, rfl⟩ (kX4_budget γ l 11 h (x + 34) μ hm  ) (hm2 0 (by omega)) rfl rfl (Nat.le_of_ble_eq_true rfl) (by show _ ≤ 600000; omega) (by show _ ≤ 7302250; omega) (Nat.le_of_ble_eq_true rfl) ?_
  refine go_icmp_eq (tgt := 954) dL_law_358 (by decide) (fun c358 => ?_) (fun c358 => absurd ((bud_eq hR.1).1.symm) c358)
  refine go_widen (Nat.le_add_right _ 16) (Nat.le_add_right _ 157) ?_
  exact next _ sn _ τ _ t (I.same (by omega))
set_option maxRecDepth 4000 in
theorem lc_7 (γ : zG) (l : Launch) (b L : Nat) (xs : Nat → Int32) {x j t : Nat} {h : zH} {sn : Nat → Option Nat} {σ τ μ : zS} (hj : 6 * j + 6 ≤ L) (hL : L ≤ 3072) (I : LI γ x h sn σ τ μ t (60 * j)) (next : Nxt γ l b L xs x j) : Go (EL γ l b L xs) (40 + 16 * j) (1073 + 157 * j) 363 [some (.ref b), some (.ref x), some (.ref (x + 34)), some (.int (nI (6 * j)))] [] h := by
  obtain ⟨hx, hs, ht, ha, hm, hn, hR, htT, hsl, hdj⟩ := id I
  have hm2 := hm
  refine go_aload_n dL_law_363 rfl ?_
  refine go_callVi (ci := 3) dL_law_364 moX3_available cvL_45 ⟨rfl, rfl⟩ (kX3_available γ l 8 h x σ hx hs  ) (hx) rfl rfl (Nat.le_of_ble_eq_true rfl) (by show _ ≤ 600000; omega) (by show _ ≤ 7302250; omega) (Nat.le_of_ble_eq_true rfl) ?_
  refine go_aload_n dL_law_367 rfl ?_
  refine go_callVi (ci := 4) dL_law_368 moX4_available cvL_48 ⟨rfl, rfl⟩ (kX4_available γ l 9 h (x + 34) μ hm  ) (hm2 0 (by omega)) rfl rfl (Nat.le_of_ble_eq_true rfl) (by show _ ≤ 600000; omega) (by show _ ≤ 7302250; omega) (Nat.le_of_ble_eq_true rfl) ?_
  refine go_icmp_eq (tgt := 954) dL_law_371 (by decide) (fun c371 => ?_) (fun c371 => absurd ((sp_eq hR.1 hR.2.2 8 (Nat.le_refl 8)).symm) c371)
  refine go_widen (Nat.le_add_right _ 16) (Nat.le_add_right _ 157) ?_
  exact next _ sn _ τ _ t (I.same (by omega))
set_option maxRecDepth 4000 in
theorem lc_8 (γ : zG) (l : Launch) (b L : Nat) (xs : Nat → Int32) {x j t : Nat} {h : zH} {sn : Nat → Option Nat} {σ τ μ : zS} (hj : 6 * j + 6 ≤ L) (hL : L ≤ 3072) (I : LI γ x h sn σ τ μ t (60 * j)) (next : Nxt γ l b L xs x j) : Go (EL γ l b L xs) (40 + 16 * j) (1073 + 157 * j) 376 [some (.ref b), some (.ref x), some (.ref (x + 34)), some (.int (nI (6 * j)))] [] h := by
  obtain ⟨hx, hs, ht, ha, hm, hn, hR, htT, hsl, hdj⟩ := id I
  obtain ⟨e1, e2⟩ := ena_ag hR (xs (6 * j + 1)) (zi (¬ xs (6 * j + 2) = 0)) zi_B
  have hm2 : zMd γ (zps γ h (x + 1) (mEna σ (xs (6 * j + 1)) (zi (¬ xs (6 * j + 2) = 0))).2) (x + 34) μ := zIs.out hm (by omega)
  refine go_aload_n dL_law_376 rfl ?_
  refine go_aload_n dL_law_377 rfl ?_
  refine go_iload_n dL_law_378 rfl ?_
  refine go_iconst (v := 1) dL_law_379 (by decide) ?_
  refine go_iadd dL_law_380 ?_
  refine go_sX dL_law_381 (sin (k := 1) (by decide) (by decide) hj hL) ?_
  refine go_aload_n dL_law_382 rfl ?_
  refine go_iload_n dL_law_383 rfl ?_
  refine go_iconst (v := 2) dL_law_384 (by decide) ?_
  refine go_iadd dL_law_385 ?_
  refine go_sX dL_law_386 (sin (k := 2) (by decide) (by decide) hj hL) ?_
  refine go_nz dL_law_387 dL_law_390 dL_law_391 dL_law_394 ?_
  refine go_callVi (ci := 3) dL_law_395 moX3_setEnabled cvL_49 ⟨rfl, rfl⟩ (kX3_setEnabled_ γ l 8 h x σ hx hs (xs (6 * j + 1)) (zi (¬ xs (6 * j + 2) = 0)) zi_B (mEna σ (xs (6 * j + 1)) (zi (¬ xs (6 * j + 2) = 0))) rfl) (hx) rfl rfl (Nat.le_of_ble_eq_true rfl) (by show _ ≤ 600000; omega) (by show _ ≤ 7302250; omega) (Nat.le_of_ble_eq_true rfl) ?_
  refine go_aload_n dL_law_398 rfl ?_
  refine go_aload_n dL_law_399 rfl ?_
  refine go_iload_n dL_law_400 rfl ?_
  refine go_iconst (v := 1) dL_law_401 (by decide) ?_
  refine go_iadd dL_law_402 ?_
  refine go_sX dL_law_403 (sin (k := 1) (by decide) (by decide) hj hL) ?_
  refine go_aload_n dL_law_404 rfl ?_
  refine go_iload_n dL_law_405 rfl ?_
  refine go_iconst (v := 2) dL_law_406 (by decide) ?_
  refine go_iadd dL_law_407 ?_
  refine go_sX dL_law_408 (sin (k := 2) (by decide) (by decide) hj hL) ?_
  refine go_nz dL_law_409 dL_law_412 dL_law_413 dL_law_416 ?_
  refine go_callVi (ci := 4) dL_law_417 moX4_setEnabled cvL_52 ⟨rfl, rfl⟩ (kX4_setEnabled_ γ l 9 _ (x + 34) μ hm2 (xs (6 * j + 1)) (zi (¬ xs (6 * j + 2) = 0)) (nEna (μ 0) (xs (6 * j + 1)) (zi (¬ xs (6 * j + 2) = 0))) rfl) (hm2 0 (by omega)) rfl rfl (Nat.le_of_ble_eq_true rfl) (by show _ ≤ 600000; omega) (by show _ ≤ 7302250; omega) (Nat.le_of_ble_eq_true rfl) ?_
  refine go_icmp_eq (tgt := 954) dL_law_420 (by decide) (fun c420 => ?_) (fun c420 => absurd (e1) c420)
  refine go_widen (Nat.le_add_right _ 16) (Nat.le_add_right _ 157) ?_
  exact next _ sn _ τ _ t (I.step (μ' := upR μ 0 (nEna (μ 0) (xs (6 * j + 1)) (zi (¬ xs (6 * j + 2) = 0))).2) e2 (by omega) (by omega) ⟨rfl, rfl⟩)
set_option maxRecDepth 4000 in
theorem lc_9 (γ : zG) (l : Launch) (b L : Nat) (xs : Nat → Int32) {x j t : Nat} {h : zH} {sn : Nat → Option Nat} {σ τ μ : zS} (hj : 6 * j + 6 ≤ L) (hL : L ≤ 3072) (I : LI γ x h sn σ τ μ t (60 * j)) (next : Nxt γ l b L xs x j) : Go (EL γ l b L xs) (40 + 16 * j) (1073 + 157 * j) 425 [some (.ref b), some (.ref x), some (.ref (x + 34)), some (.int (nI (6 * j)))] [] h := by
  obtain ⟨hx, hs, ht, ha, hm, hn, hR, htT, hsl, hdj⟩ := id I
  obtain ⟨e1, e2⟩ := pri_ag hR (xs (6 * j + 1)) (xs (6 * j + 2))
  have hm2 : zMd γ (zps γ h (x + 1) (mPri σ (xs (6 * j + 1)) (xs (6 * j + 2))).2) (x + 34) μ := zIs.out hm (by omega)
  refine go_aload_n dL_law_425 rfl ?_
  refine go_aload_n dL_law_426 rfl ?_
  refine go_iload_n dL_law_427 rfl ?_
  refine go_iconst (v := 1) dL_law_428 (by decide) ?_
  refine go_iadd dL_law_429 ?_
  refine go_sX dL_law_430 (sin (k := 1) (by decide) (by decide) hj hL) ?_
  refine go_aload_n dL_law_431 rfl ?_
  refine go_iload_n dL_law_432 rfl ?_
  refine go_iconst (v := 2) dL_law_433 (by decide) ?_
  refine go_iadd dL_law_434 ?_
  refine go_sX dL_law_435 (sin (k := 2) (by decide) (by decide) hj hL) ?_
  refine go_callVi (ci := 3) dL_law_436 moX3_setPriority cvL_53 ⟨rfl, rfl⟩ (kX3_setPriority_ γ l 9 h x σ hx hs (xs (6 * j + 1)) (xs (6 * j + 2))  (mPri σ (xs (6 * j + 1)) (xs (6 * j + 2))) rfl) (hx) rfl rfl (Nat.le_of_ble_eq_true rfl) (by show _ ≤ 600000; omega) (by show _ ≤ 7302250; omega) (Nat.le_of_ble_eq_true rfl) ?_
  refine go_aload_n dL_law_439 rfl ?_
  refine go_aload_n dL_law_440 rfl ?_
  refine go_iload_n dL_law_441 rfl ?_
  refine go_iconst (v := 1) dL_law_442 (by decide) ?_
  refine go_iadd dL_law_443 ?_
  refine go_sX dL_law_444 (sin (k := 1) (by decide) (by decide) hj hL) ?_
  refine go_aload_n dL_law_445 rfl ?_
  refine go_iload_n dL_law_446 rfl ?_
  refine go_iconst (v := 2) dL_law_447 (by decide) ?_
  refine go_iadd dL_law_448 ?_
  refine go_sX dL_law_449 (sin (k := 2) (by decide) (by decide) hj hL) ?_
  refine go_callVi (ci := 4) dL_law_450 moX4_setPriority cvL_56 ⟨rfl, rfl⟩ (kX4_setPriority_ γ l 9 _ (x + 34) μ hm2 (xs (6 * j + 1)) (xs (6 * j + 2)) (nPri (μ 0) (xs (6 * j + 1)) (xs (6 * j + 2))) rfl) (hm2 0 (by omega)) rfl rfl (Nat.le_of_ble_eq_true rfl) (by show _ ≤ 600000; omega) (by show _ ≤ 7302250; omega) (Nat.le_of_ble_eq_true rfl) ?_
  refine go_icmp_eq (tgt := 954) dL_law_453 (by decide) (fun c453 => ?_) (fun c453 => absurd (e1) c453)
  refine go_widen (Nat.le_add_right _ 16) (Nat.le_add_right _ 157) ?_
  exact next _ sn _ τ _ t (I.step (μ' := upR μ 0 (nPri (μ 0) (xs (6 * j + 1)) (xs (6 * j + 2))).2) e2 (by omega) (by omega) ⟨rfl, rfl⟩)
set_option maxRecDepth 4000 in
theorem lc_10 (γ : zG) (l : Launch) (b L : Nat) (xs : Nat → Int32) {x j t : Nat} {h : zH} {sn : Nat → Option Nat} {σ τ μ : zS} (hj : 6 * j + 6 ≤ L) (hL : L ≤ 3072) (I : LI γ x h sn σ τ μ t (60 * j)) (next : Nxt γ l b L xs x j) : Go (EL γ l b L xs) (40 + 16 * j) (1073 + 157 * j) 458 [some (.ref b), some (.ref x), some (.ref (x + 34)), some (.int (nI (6 * j)))] [] h := by
  obtain ⟨hx, hs, ht, ha, hm, hn, hR, htT, hsl, hdj⟩ := id I
  obtain ⟨e1, e2⟩ := con_ag hR (xs (6 * j + 1)) (xs (6 * j + 2)) (xs (6 * j + 3)) (xs (6 * j + 4)) (xs (6 * j + 5))
  have hm2 : zMd γ (zps γ h (x + 1) (mCon σ (xs (6 * j + 1)) (xs (6 * j + 2)) (xs (6 * j + 3)) (xs (6 * j + 4)) (xs (6 * j + 5))).2) (x + 34) μ := zIs.out hm (by omega)
  refine go_aload_n dL_law_458 rfl ?_
  refine go_aload_n dL_law_459 rfl ?_
  refine go_iload_n dL_law_460 rfl ?_
  refine go_iconst (v := 1) dL_law_461 (by decide) ?_
  refine go_iadd dL_law_462 ?_
  refine go_sX dL_law_463 (sin (k := 1) (by decide) (by decide) hj hL) ?_
  refine go_aload_n dL_law_464 rfl ?_
  refine go_iload_n dL_law_465 rfl ?_
  refine go_iconst (v := 2) dL_law_466 (by decide) ?_
  refine go_iadd dL_law_467 ?_
  refine go_sX dL_law_468 (sin (k := 2) (by decide) (by decide) hj hL) ?_
  refine go_aload_n dL_law_469 rfl ?_
  refine go_iload_n dL_law_470 rfl ?_
  refine go_iconst (v := 3) dL_law_471 (by decide) ?_
  refine go_iadd dL_law_472 ?_
  refine go_sX dL_law_473 (sin (k := 3) (by decide) (by decide) hj hL) ?_
  refine go_aload_n dL_law_474 rfl ?_
  refine go_iload_n dL_law_475 rfl ?_
  refine go_iconst (v := 4) dL_law_476 (by decide) ?_
  refine go_iadd dL_law_477 ?_
  refine go_sX dL_law_478 (sin (k := 4) (by decide) (by decide) hj hL) ?_
  refine go_aload_n dL_law_479 rfl ?_
  refine go_iload_n dL_law_480 rfl ?_
  refine go_iconst (v := 5) dL_law_481 (by decide) ?_
  refine go_iadd dL_law_482 ?_
  refine go_sX dL_law_483 (sin (k := 5) (by decide) (by decide) hj hL) ?_
  refine go_callVi (ci := 3) dL_law_484 moX3_connect cvL_57 ⟨rfl, rfl⟩ (kX3_connect_ γ l 8 h x σ hx hs (xs (6 * j + 1)) (xs (6 * j + 2)) (xs (6 * j + 3)) (xs (6 * j + 4)) (xs (6 * j + 5))  (mCon σ (xs (6 * j + 1)) (xs (6 * j + 2)) (xs (6 * j + 3)) (xs (6 * j + 4)) (xs (6 * j + 5))) rfl) (hx) rfl rfl (Nat.le_of_ble_eq_true rfl) (by show _ ≤ 600000; omega) (by show _ ≤ 7302250; omega) (Nat.le_of_ble_eq_true rfl) ?_
  refine go_aload_n dL_law_487 rfl ?_
  refine go_aload_n dL_law_488 rfl ?_
  refine go_iload_n dL_law_489 rfl ?_
  refine go_iconst (v := 1) dL_law_490 (by decide) ?_
  refine go_iadd dL_law_491 ?_
  refine go_sX dL_law_492 (sin (k := 1) (by decide) (by decide) hj hL) ?_
  refine go_aload_n dL_law_493 rfl ?_
  refine go_iload_n dL_law_494 rfl ?_
  refine go_iconst (v := 2) dL_law_495 (by decide) ?_
  refine go_iadd dL_law_496 ?_
  refine go_sX dL_law_497 (sin (k := 2) (by decide) (by decide) hj hL) ?_
  refine go_aload_n dL_law_498 rfl ?_
  refine go_iload_n dL_law_499 rfl ?_
  refine go_iconst (v := 3) dL_law_500 (by decide) ?_
  refine go_iadd dL_law_501 ?_
  refine go_sX dL_law_502 (sin (k := 3) (by decide) (by decide) hj hL) ?_
  refine go_aload_n dL_law_503 rfl ?_
  refine go_iload_n dL_law_504 rfl ?_
  refine go_iconst (v := 4) dL_law_505 (by decide) ?_
  refine go_iadd dL_law_506 ?_
  refine go_sX dL_law_507 (sin (k := 4) (by decide) (by decide) hj hL) ?_
  refine go_aload_n dL_law_508 rfl ?_
  refine go_iload_n dL_law_509 rfl ?_
  refine go_iconst (v := 5) dL_law_510 (by decide) ?_
  refine go_iadd dL_law_511 ?_
  refine go_sX dL_law_512 (sin (k := 5) (by decide) (by decide) hj hL) ?_
  refine go_callVi (ci := 4) dL_law_513 moX4_connect cvL_61 ⟨rfl, rfl⟩ (kX4_connect_ γ l 8 _ (x + 34) μ hm2 (xs (6 * j + 1)) (xs (6 * j + 2)) (xs (6 * j + 3)) (xs (6 * j + 4)) (xs (6 * j + 5)) (nCon (μ 0) (xs (6 * j + 1)) (xs (6 * j + 2)) (xs (6 * j + 3)) (xs (6 * j + 4)) (xs (6 * j + 5))) rfl) (hm2 0 (by omega)) rfl rfl (Nat.le_of_ble_eq_true rfl) (by show _ ≤ 600000; omega) (by show _ ≤ 7302250; omega) (Nat.le_of_ble_eq_true rfl) ?_
  refine go_icmp_eq (tgt := 954) dL_law_516 (by decide) (fun c516 => ?_) (fun c516 => absurd (e1) c516)
  refine go_widen (Nat.le_add_right _ 16) (Nat.le_add_right _ 157) ?_
  exact next _ sn _ τ _ t (I.step (μ' := upR μ 0 (nCon (μ 0) (xs (6 * j + 1)) (xs (6 * j + 2)) (xs (6 * j + 3)) (xs (6 * j + 4)) (xs (6 * j + 5))).2) e2 (by omega) (by omega) ⟨rfl, rfl⟩)
set_option maxRecDepth 4000 in
theorem lc_11 (γ : zG) (l : Launch) (b L : Nat) (xs : Nat → Int32) {x j t : Nat} {h : zH} {sn : Nat → Option Nat} {σ τ μ : zS} (hj : 6 * j + 6 ≤ L) (hL : L ≤ 3072) (I : LI γ x h sn σ τ μ t (60 * j)) (next : Nxt γ l b L xs x j) : Go (EL γ l b L xs) (40 + 16 * j) (1073 + 157 * j) 521 [some (.ref b), some (.ref x), some (.ref (x + 34)), some (.int (nI (6 * j)))] [] h := by
  obtain ⟨hx, hs, ht, ha, hm, hn, hR, htT, hsl, hdj⟩ := id I
  obtain ⟨e1, e2⟩ := dis_ag hR (xs (6 * j + 1))
  have hm2 : zMd γ (zps γ h (x + 1) (mDis σ (xs (6 * j + 1))).2) (x + 34) μ := zIs.out hm (by omega)
  refine go_aload_n dL_law_521 rfl ?_
  refine go_aload_n dL_law_522 rfl ?_
  refine go_iload_n dL_law_523 rfl ?_
  refine go_iconst (v := 1) dL_law_524 (by decide) ?_
  refine go_iadd dL_law_525 ?_
  refine go_sX dL_law_526 (sin (k := 1) (by decide) (by decide) hj hL) ?_
  refine go_callVi (ci := 3) dL_law_527 moX3_disconnect cvL_62 ⟨rfl, rfl⟩ (kX3_disconnect_ γ l 8 h x σ hx hs (xs (6 * j + 1))  (mDis σ (xs (6 * j + 1))) rfl) (hx) rfl rfl (Nat.le_of_ble_eq_true rfl) (by show _ ≤ 600000; omega) (by show _ ≤ 7302250; omega) (Nat.le_of_ble_eq_true rfl) ?_
  refine go_aload_n dL_law_530 rfl ?_
  refine go_aload_n dL_law_531 rfl ?_
  refine go_iload_n dL_law_532 rfl ?_
  refine go_iconst (v := 1) dL_law_533 (by decide) ?_
  refine go_iadd dL_law_534 ?_
  refine go_sX dL_law_535 (sin (k := 1) (by decide) (by decide) hj hL) ?_
  refine go_callVi (ci := 4) dL_law_536 moX4_disconnect cvL_65 ⟨rfl, rfl⟩ (kX4_disconnect_ γ l 8 _ (x + 34) μ hm2 (xs (6 * j + 1)) (nDis (μ 0) (xs (6 * j + 1))) rfl) (hm2 0 (by omega)) rfl rfl (Nat.le_of_ble_eq_true rfl) (by show _ ≤ 600000; omega) (by show _ ≤ 7302250; omega) (Nat.le_of_ble_eq_true rfl) ?_
  refine go_icmp_eq (tgt := 954) dL_law_539 (by decide) (fun c539 => ?_) (fun c539 => absurd (e1) c539)
  refine go_widen (Nat.le_add_right _ 16) (Nat.le_add_right _ 157) ?_
  exact next _ sn _ τ _ t (I.step (μ' := upR μ 0 (nDis (μ 0) (xs (6 * j + 1))).2) e2 (by omega) (by omega) ⟨rfl, rfl⟩)
set_option maxRecDepth 4000 in
theorem lc_12 (γ : zG) (l : Launch) (b L : Nat) (xs : Nat → Int32) {x j t : Nat} {h : zH} {sn : Nat → Option Nat} {σ τ μ : zS} (hj : 6 * j + 6 ≤ L) (hL : L ≤ 3072) (I : LI γ x h sn σ τ μ t (60 * j)) (next : Nxt γ l b L xs x j) : Go (EL γ l b L xs) (40 + 16 * j) (1073 + 157 * j) 544 [some (.ref b), some (.ref x), some (.ref (x + 34)), some (.int (nI (6 * j)))] [] h := by
  obtain ⟨hx, hs, ht, ha, hm, hn, hR, htT, hsl, hdj⟩ := id I
  obtain ⟨e1, e2⟩ := loa_ag hR (xs (6 * j + 1)) (xs (6 * j + 2))
  have hm2 : zMd γ (zps γ h (x + 1) (mLoa σ (xs (6 * j + 1)) (xs (6 * j + 2))).2) (x + 34) μ := zIs.out hm (by omega)
  refine go_aload_n dL_law_544 rfl ?_
  refine go_aload_n dL_law_545 rfl ?_
  refine go_iload_n dL_law_546 rfl ?_
  refine go_iconst (v := 1) dL_law_547 (by decide) ?_
  refine go_iadd dL_law_548 ?_
  refine go_sX dL_law_549 (sin (k := 1) (by decide) (by decide) hj hL) ?_
  refine go_aload_n dL_law_550 rfl ?_
  refine go_iload_n dL_law_551 rfl ?_
  refine go_iconst (v := 2) dL_law_552 (by decide) ?_
  refine go_iadd dL_law_553 ?_
  refine go_sX dL_law_554 (sin (k := 2) (by decide) (by decide) hj hL) ?_
  refine go_callVi (ci := 3) dL_law_555 moX3_setLoad cvL_66 ⟨rfl, rfl⟩ (kX3_setLoad_ γ l 9 h x σ hx hs (xs (6 * j + 1)) (xs (6 * j + 2))  (mLoa σ (xs (6 * j + 1)) (xs (6 * j + 2))) rfl) (hx) rfl rfl (Nat.le_of_ble_eq_true rfl) (by show _ ≤ 600000; omega) (by show _ ≤ 7302250; omega) (Nat.le_of_ble_eq_true rfl) ?_
  refine go_aload_n dL_law_558 rfl ?_
  refine go_aload_n dL_law_559 rfl ?_
  refine go_iload_n dL_law_560 rfl ?_
  refine go_iconst (v := 1) dL_law_561 (by decide) ?_
  refine go_iadd dL_law_562 ?_
  refine go_sX dL_law_563 (sin (k := 1) (by decide) (by decide) hj hL) ?_
  refine go_aload_n dL_law_564 rfl ?_
  refine go_iload_n dL_law_565 rfl ?_
  refine go_iconst (v := 2) dL_law_566 (by decide) ?_
  refine go_iadd dL_law_567 ?_
  refine go_sX dL_law_568 (sin (k := 2) (by decide) (by decide) hj hL) ?_
  refine go_callVi (ci := 4) dL_law_569 moX4_setLoad cvL_69 ⟨rfl, rfl⟩ (kX4_setLoad_ γ l 8 _ (x + 34) μ hm2 (xs (6 * j + 1)) (xs (6 * j + 2)) (nLoa (μ 0) (xs (6 * j + 1)) (xs (6 * j + 2))) rfl) (hm2 0 (by omega)) rfl rfl (Nat.le_of_ble_eq_true rfl) (by show _ ≤ 600000; omega) (by show _ ≤ 7302250; omega) (Nat.le_of_ble_eq_true rfl) ?_
  refine go_icmp_eq (tgt := 954) dL_law_572 (by decide) (fun c572 => ?_) (fun c572 => absurd (e1) c572)
  refine go_widen (Nat.le_add_right _ 16) (Nat.le_add_right _ 157) ?_
  exact next _ sn _ τ _ t (I.step (μ' := upR μ 0 (nLoa (μ 0) (xs (6 * j + 1)) (xs (6 * j + 2))).2) e2 (by omega) (by omega) ⟨rfl, rfl⟩)
set_option maxRecDepth 4000 in
theorem lc_13 (γ : zG) (l : Launch) (b L : Nat) (xs : Nat → Int32) {x j t : Nat} {h : zH} {sn : Nat → Option Nat} {σ τ μ : zS} (hj : 6 * j + 6 ≤ L) (hL : L ≤ 3072) (I : LI γ x h sn σ τ μ t (60 * j)) (next : Nxt γ l b L xs x j) : Go (EL γ l b L xs) (40 + 16 * j) (1073 + 157 * j) 577 [some (.ref b), some (.ref x), some (.ref (x + 34)), some (.int (nI (6 * j)))] [] h := by
  obtain ⟨hx, hs, ht, ha, hm, hn, hR, htT, hsl, hdj⟩ := id I
  obtain ⟨e1, e2⟩ := req_ag hR (xs (6 * j + 1)) (xs (6 * j + 2))
  have hm2 : zMd γ (zps γ h (x + 1) (mReq σ (xs (6 * j + 1)) (xs (6 * j + 2))).2) (x + 34) μ := zIs.out hm (by omega)
  refine go_aload_n dL_law_577 rfl ?_
  refine go_aload_n dL_law_578 rfl ?_
  refine go_iload_n dL_law_579 rfl ?_
  refine go_iconst (v := 1) dL_law_580 (by decide) ?_
  refine go_iadd dL_law_581 ?_
  refine go_sX dL_law_582 (sin (k := 1) (by decide) (by decide) hj hL) ?_
  refine go_aload_n dL_law_583 rfl ?_
  refine go_iload_n dL_law_584 rfl ?_
  refine go_iconst (v := 2) dL_law_585 (by decide) ?_
  refine go_iadd dL_law_586 ?_
  refine go_sX dL_law_587 (sin (k := 2) (by decide) (by decide) hj hL) ?_
  refine go_callVi (ci := 3) dL_law_588 moX3_setRequest cvL_70 ⟨rfl, rfl⟩ (kX3_setRequest_ γ l 8 h x σ hx hs (xs (6 * j + 1)) (xs (6 * j + 2))  (mReq σ (xs (6 * j + 1)) (xs (6 * j + 2))) rfl) (hx) rfl rfl (Nat.le_of_ble_eq_true rfl) (by show _ ≤ 600000; omega) (by show _ ≤ 7302250; omega) (Nat.le_of_ble_eq_true rfl) ?_
  refine go_aload_n dL_law_591 rfl ?_
  refine go_aload_n dL_law_592 rfl ?_
  refine go_iload_n dL_law_593 rfl ?_
  refine go_iconst (v := 1) dL_law_594 (by decide) ?_
  refine go_iadd dL_law_595 ?_
  refine go_sX dL_law_596 (sin (k := 1) (by decide) (by decide) hj hL) ?_
  refine go_aload_n dL_law_597 rfl ?_
  refine go_iload_n dL_law_598 rfl ?_
  refine go_iconst (v := 2) dL_law_599 (by decide) ?_
  refine go_iadd dL_law_600 ?_
  refine go_sX dL_law_601 (sin (k := 2) (by decide) (by decide) hj hL) ?_
  refine go_callVi (ci := 4) dL_law_602 moX4_setRequest cvL_73 ⟨rfl, rfl⟩ (kX4_setRequest_ γ l 7 _ (x + 34) μ hm2 (xs (6 * j + 1)) (xs (6 * j + 2)) (nReq (μ 0) (xs (6 * j + 1)) (xs (6 * j + 2))) rfl) (hm2 0 (by omega)) rfl rfl (Nat.le_of_ble_eq_true rfl) (by show _ ≤ 600000; omega) (by show _ ≤ 7302250; omega) (Nat.le_of_ble_eq_true rfl) ?_
  refine go_icmp_eq (tgt := 954) dL_law_605 (by decide) (fun c605 => ?_) (fun c605 => absurd (e1) c605)
  refine go_widen (Nat.le_add_right _ 16) (Nat.le_add_right _ 157) ?_
  exact next _ sn _ τ _ t (I.step (μ' := upR μ 0 (nReq (μ 0) (xs (6 * j + 1)) (xs (6 * j + 2))).2) e2 (by omega) (by omega) ⟨rfl, rfl⟩)
set_option maxRecDepth 4000 in
theorem lc_14 (γ : zG) (l : Launch) (b L : Nat) (xs : Nat → Int32) {x j t : Nat} {h : zH} {sn : Nat → Option Nat} {σ τ μ : zS} (hj : 6 * j + 6 ≤ L) (hL : L ≤ 3072) (I : LI γ x h sn σ τ μ t (60 * j)) (next : Nxt γ l b L xs x j) : Go (EL γ l b L xs) (40 + 16 * j) (1073 + 157 * j) 610 [some (.ref b), some (.ref x), some (.ref (x + 34)), some (.int (nI (6 * j)))] [] h := by
  obtain ⟨hx, hs, ht, ha, hm, hn, hR, htT, hsl, hdj⟩ := id I
  have hm2 := hm
  refine go_aload_n dL_law_610 rfl ?_
  refine go_aload_n dL_law_611 rfl ?_
  refine go_iload_n dL_law_612 rfl ?_
  refine go_iconst (v := 1) dL_law_613 (by decide) ?_
  refine go_iadd dL_law_614 ?_
  refine go_sX dL_law_615 (sin (k := 1) (by decide) (by decide) hj hL) ?_
  refine go_callVi (ci := 3) dL_law_616 moX3_request cvL_74 ⟨rfl, rfl⟩ (kX3_request γ l 9 h x σ hx hs  (xs (6 * j + 1))) (hx) rfl rfl (Nat.le_of_ble_eq_true rfl) (by show _ ≤ 600000; omega) (by show _ ≤ 7302250; omega) (Nat.le_of_ble_eq_true rfl) ?_
  refine go_aload_n dL_law_619 rfl ?_
  refine go_aload_n dL_law_620 rfl ?_
  refine go_iload_n dL_law_621 rfl ?_
  refine go_iconst (v := 1) dL_law_622 (by decide) ?_
  refine go_iadd dL_law_623 ?_
  refine go_sX dL_law_624 (sin (k := 1) (by decide) (by decide) hj hL) ?_
  refine go_callVi (ci := 4) dL_law_625 moX4_request cvL_77 ⟨rfl, rfl⟩ (kX4_request γ l 7 h (x + 34) μ hm  (xs (6 * j + 1))) (hm2 0 (by omega)) rfl rfl (Nat.le_of_ble_eq_true rfl) (by show _ ≤ 600000; omega) (by show _ ≤ 7302250; omega) (Nat.le_of_ble_eq_true rfl) ?_
  refine go_icmp_eq (tgt := 954) dL_law_628 (by decide) (fun c628 => ?_) (fun c628 => absurd (rqt_eq hR (xs (6 * j + 1))) c628)
  refine go_widen (Nat.le_add_right _ 16) (Nat.le_add_right _ 157) ?_
  exact next _ sn _ τ _ t (I.same (by omega))
set_option maxRecDepth 4000 in
theorem lc_15 (γ : zG) (l : Launch) (b L : Nat) (xs : Nat → Int32) {x j t : Nat} {h : zH} {sn : Nat → Option Nat} {σ τ μ : zS} (hj : 6 * j + 6 ≤ L) (hL : L ≤ 3072) (I : LI γ x h sn σ τ μ t (60 * j)) (next : Nxt γ l b L xs x j) : Go (EL γ l b L xs) (40 + 16 * j) (1073 + 157 * j) 633 [some (.ref b), some (.ref x), some (.ref (x + 34)), some (.int (nI (6 * j)))] [] h := by
  obtain ⟨hx, hs, ht, ha, hm, hn, hR, htT, hsl, hdj⟩ := id I
  have hm2 := hm
  refine go_aload_n dL_law_633 rfl ?_
  refine go_callVi (ci := 3) dL_law_634 moX3_eligiblePorts cvL_78 ⟨rfl, rfl⟩ (kX3_eligiblePorts γ l 8 h x σ hx hs  ) (hx) rfl rfl (Nat.le_of_ble_eq_true rfl) (by show _ ≤ 600000; omega) (by show _ ≤ 7302250; omega) (Nat.le_of_ble_eq_true rfl) ?_
  refine go_aload_n dL_law_637 rfl ?_
  refine go_callVi (ci := 4) dL_law_638 moX4_eligiblePorts cvL_81 ⟨rfl, rfl⟩ (kX4_eligiblePorts γ l 6 h (x + 34) μ hm  ) (hm2 0 (by omega)) rfl rfl (Nat.le_of_ble_eq_true rfl) (by show _ ≤ 600000; omega) (by show _ ≤ 7302250; omega) (Nat.le_of_ble_eq_true rfl) ?_
  refine go_icmp_eq (tgt := 954) dL_law_641 (by decide) (fun c641 => ?_) (fun c641 => absurd (elS_eq hR.2.2 8 (Nat.le_refl 8)) c641)
  refine go_widen (Nat.le_add_right _ 16) (Nat.le_add_right _ 157) ?_
  exact next _ sn _ τ _ t (I.same (by omega))
