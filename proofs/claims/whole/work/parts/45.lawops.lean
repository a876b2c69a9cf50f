/-! the law's calls (own work; walks by program) -/
theorem lcmp_same (x : Int64) : (if x < x then (1 : Int32) else if x = x then 0 else -1) = 0 := by
  rw [if_neg Int64.lt_irrefl, if_pos rfl]
set_option maxRecDepth 100000 in
set_option maxHeartbeats 4000000 in
theorem law_put {X : CX} {E : EnvD} {A : Nat → Prop} {Q : State → Prop} {b0 L z b i k n : Nat} {xs : Nat → Int32} {S : PSt} {σ : Sto} (h : OK X E cL_law RL 4 room_1) (hX : va_X b0 L xs (xS X) (xS X).heap) (hbl : b0 < (xS X).heap.size) (hbA : ¬ A b0) (hi : i + 5 ≤ L) (hL : L ≤ 2560) (hk : k + 1 ≤ 600000) (hn : n + 4 ≤ 7302250) (hI : Inv S) (hR : LI E z b S S σ) (kk : ∀ σ', LI E z b (opPut S (xs (i + 1)) (xs (i + 2)) (xs (i + 3))).2 (opPut S (xs (i + 1)) (xs (i + 2)) (xs (i + 3))).2 σ' → G X E 4 A Q (k + 1) (n + 4) 1004 [some (.ref b0), some (.ref z), some (.ref b), some (.int (nI i))] [] σ') : G X E 4 A Q k n 148 [some (.ref b0), some (.ref z), some (.ref b), some (.int (nI i))] [] σ := by
  obtain ⟨fz, ez⟩ := hR.z
  refine g_aload_n h 1 dL_law_148 rfl rfl ?_
  refine g_aload_n h 0 dL_law_149 rfl rfl ?_
  refine g_iload_n h 3 dL_law_150 rfl rfl ?_
  refine g_iconst h (nI 1) dL_law_151 (by decide) ?_
  refine g_iaddN h dL_law_152 ?_
  refine g_scr h hX hbl hbA (by omega) (by omega) dL_law_153 ?_
  refine g_aload_n h 0 dL_law_154 rfl rfl ?_
  refine g_iload_n h 3 dL_law_155 rfl rfl ?_
  refine g_iconst h (nI 2) dL_law_156 (by decide) ?_
  refine g_iaddN h dL_law_157 ?_
  refine g_scr h hX hbl hbA (by omega) (by omega) dL_law_158 ?_
  refine g_aload_n h 0 dL_law_159 rfl rfl ?_
  refine g_iload_n h 3 dL_law_160 rfl rfl ?_
  refine g_iconst h (nI 3) dL_law_161 (by decide) ?_
  refine g_iaddN h dL_law_162 ?_
  refine g_scr h hX hbl hbA (by omega) (by omega) dL_law_163 ?_
  refine g_callV2 (dC b) h [] (C_put (xL X) E _ hI hR.1 (xs (i + 1)) (xs (i + 2)) (xs (i + 3))) cf_L_13 cv_X5_put dL_law_164 rfl ez rfl rfl (Nat.le_of_ble_eq_true rfl) ⟨(Nat.le_of_ble_eq_true rfl), (Nat.le_of_ble_eq_true rfl)⟩ ⟨by show k + 0 ≤ 600000; omega, by show n + 0 ≤ 7302250; omega⟩ ?_
  rintro _ s1 ⟨rfl, hp1⟩ hs1 hd1
  have hR1 := hR.c hp1 hs1 hd1
  obtain ⟨fb, eb⟩ := hR1.b
  refine g_aload_n h 2 dL_law_167 rfl rfl ?_
  refine g_aload_n h 0 dL_law_168 rfl rfl ?_
  refine g_iload_n h 3 dL_law_169 rfl rfl ?_
  refine g_iconst h (nI 1) dL_law_170 (by decide) ?_
  refine g_iaddN h dL_law_171 ?_
  refine g_scr h hX hbl hbA (by omega) (by omega) dL_law_172 ?_
  refine g_aload_n h 0 dL_law_173 rfl rfl ?_
  refine g_iload_n h 3 dL_law_174 rfl rfl ?_
  refine g_iconst h (nI 2) dL_law_175 (by decide) ?_
  refine g_iaddN h dL_law_176 ?_
  refine g_scr h hX hbl hbA (by omega) (by omega) dL_law_177 ?_
  refine g_aload_n h 0 dL_law_178 rfl rfl ?_
  refine g_iload_n h 3 dL_law_179 rfl rfl ?_
  refine g_iconst h (nI 3) dL_law_180 (by decide) ?_
  refine g_iaddN h dL_law_181 ?_
  refine g_scr h hX hbl hbA (by omega) (by omega) dL_law_182 ?_
  refine g_callV2 (dM b) h [_] (D_put (xL X) E _ hI hR1.2.1 (xs (i + 1)) (xs (i + 2)) (xs (i + 3))) cf_L_17 cv_X6_put dL_law_183 rfl eb rfl rfl (Nat.le_of_ble_eq_true rfl) ⟨(Nat.le_of_ble_eq_true rfl), (Nat.le_of_ble_eq_true rfl)⟩ ⟨by show k + 0 + 0 ≤ 600000; omega, by show n + 0 + 0 ≤ 7302250; omega⟩ ?_
  rintro _ s2 ⟨rfl, hp2⟩ hs2 hd2
  have hR2 := hR1.m hp2 hs2
  refine g_icmp_eq h 1004 dL_law_186 (by decide) (fun _ => ?_) (fun c => absurd rfl c)
  refine g_widen (k' := k + 1) (n' := n + 4) (by show k + 0 + 0 ≤ k + 1; omega) (by show n + 0 + 0 ≤ n + 4; omega) ?_
  exact kk _ hR2
set_option maxRecDepth 100000 in
set_option maxHeartbeats 4000000 in
theorem law_take {X : CX} {E : EnvD} {A : Nat → Prop} {Q : State → Prop} {b0 L z b i k n : Nat} {xs : Nat → Int32} {S : PSt} {σ : Sto} (h : OK X E cL_law RL 4 room_1) (hX : va_X b0 L xs (xS X) (xS X).heap) (hbl : b0 < (xS X).heap.size) (hbA : ¬ A b0) (hi : i + 5 ≤ L) (hL : L ≤ 2560) (hk : k + 1 ≤ 600000) (hn : n + 4 ≤ 7302250) (hI : Inv S) (hR : LI E z b S S σ) (kk : ∀ σ', LI E z b (opTake S (xs (i + 1)) (xs (i + 2))).2 (opTake S (xs (i + 1)) (xs (i + 2))).2 σ' → G X E 4 A Q (k + 1) (n + 4) 1004 [some (.ref b0), some (.ref z), some (.ref b), some (.int (nI i))] [] σ') : G X E 4 A Q k n 191 [some (.ref b0), some (.ref z), some (.ref b), some (.int (nI i))] [] σ := by
  obtain ⟨fz, ez⟩ := hR.z
  refine g_aload_n h 1 dL_law_191 rfl rfl ?_
  refine g_aload_n h 0 dL_law_192 rfl rfl ?_
  refine g_iload_n h 3 dL_law_193 rfl rfl ?_
  refine g_iconst h (nI 1) dL_law_194 (by decide) ?_
  refine g_iaddN h dL_law_195 ?_
  refine g_scr h hX hbl hbA (by omega) (by omega) dL_law_196 ?_
  refine g_aload_n h 0 dL_law_197 rfl rfl ?_
  refine g_iload_n h 3 dL_law_198 rfl rfl ?_
  refine g_iconst h (nI 2) dL_law_199 (by decide) ?_
  refine g_iaddN h dL_law_200 ?_
  refine g_scr h hX hbl hbA (by omega) (by omega) dL_law_201 ?_
  refine g_callV2 (dC b) h [] (C_take (xL X) E _ hI hR.1 (xs (i + 1)) (xs (i + 2))) cf_L_18 cv_X5_take dL_law_202 rfl ez rfl rfl (Nat.le_of_ble_eq_true rfl) ⟨(Nat.le_of_ble_eq_true rfl), (Nat.le_of_ble_eq_true rfl)⟩ ⟨by show k + 0 ≤ 600000; omega, by show n + 0 ≤ 7302250; omega⟩ ?_
  rintro _ s1 ⟨rfl, hp1⟩ hs1 hd1
  have hR1 := hR.c hp1 hs1 hd1
  obtain ⟨fb, eb⟩ := hR1.b
  refine g_aload_n h 2 dL_law_205 rfl rfl ?_
  refine g_aload_n h 0 dL_law_206 rfl rfl ?_
  refine g_iload_n h 3 dL_law_207 rfl rfl ?_
  refine g_iconst h (nI 1) dL_law_208 (by decide) ?_
  refine g_iaddN h dL_law_209 ?_
  refine g_scr h hX hbl hbA (by omega) (by omega) dL_law_210 ?_
  refine g_aload_n h 0 dL_law_211 rfl rfl ?_
  refine g_iload_n h 3 dL_law_212 rfl rfl ?_
  refine g_iconst h (nI 2) dL_law_213 (by decide) ?_
  refine g_iaddN h dL_law_214 ?_
  refine g_scr h hX hbl hbA (by omega) (by omega) dL_law_215 ?_
  refine g_callV2 (dM b) h [_] (D_take (xL X) E _ hI hR1.2.1 (xs (i + 1)) (xs (i + 2))) cf_L_22 cv_X6_take dL_law_216 rfl eb rfl rfl (Nat.le_of_ble_eq_true rfl) ⟨(Nat.le_of_ble_eq_true rfl), (Nat.le_of_ble_eq_true rfl)⟩ ⟨by show k + 0 + 0 ≤ 600000; omega, by show n + 0 + 0 ≤ 7302250; omega⟩ ?_
  rintro _ s2 ⟨rfl, hp2⟩ hs2 hd2
  have hR2 := hR1.m hp2 hs2
  refine g_icmp_eq h 1004 dL_law_219 (by decide) (fun _ => ?_) (fun c => absurd rfl c)
  refine g_widen (k' := k + 1) (n' := n + 4) (by show k + 0 + 0 ≤ k + 1; omega) (by show n + 0 + 0 ≤ n + 4; omega) ?_
  exact kk _ hR2
set_option maxRecDepth 100000 in
set_option maxHeartbeats 4000000 in
theorem law_copy {X : CX} {E : EnvD} {A : Nat → Prop} {Q : State → Prop} {b0 L z b i k n : Nat} {xs : Nat → Int32} {S : PSt} {σ : Sto} (h : OK X E cL_law RL 4 room_1) (hX : va_X b0 L xs (xS X) (xS X).heap) (hbl : b0 < (xS X).heap.size) (hbA : ¬ A b0) (hi : i + 5 ≤ L) (hL : L ≤ 2560) (hk : k + 1 ≤ 600000) (hn : n + 4 ≤ 7302250) (hI : Inv S) (hR : LI E z b S S σ) (kk : ∀ σ', LI E z b (opCopy S (xs (i + 1)) (xs (i + 2))).2 (opCopy S (xs (i + 1)) (xs (i + 2))).2 σ' → G X E 4 A Q (k + 1) (n + 4) 1004 [some (.ref b0), some (.ref z), some (.ref b), some (.int (nI i))] [] σ') : G X E 4 A Q k n 224 [some (.ref b0), some (.ref z), some (.ref b), some (.int (nI i))] [] σ := by
  obtain ⟨fz, ez⟩ := hR.z
  refine g_aload_n h 1 dL_law_224 rfl rfl ?_
  refine g_aload_n h 0 dL_law_225 rfl rfl ?_
  refine g_iload_n h 3 dL_law_226 rfl rfl ?_
  refine g_iconst h (nI 1) dL_law_227 (by decide) ?_
  refine g_iaddN h dL_law_228 ?_
  refine g_scr h hX hbl hbA (by omega) (by omega) dL_law_229 ?_
  refine g_aload_n h 0 dL_law_230 rfl rfl ?_
  refine g_iload_n h 3 dL_law_231 rfl rfl ?_
  refine g_iconst h (nI 2) dL_law_232 (by decide) ?_
  refine g_iaddN h dL_law_233 ?_
  refine g_scr h hX hbl hbA (by omega) (by omega) dL_law_234 ?_
  refine g_callV2 (dC b) h [] (C_copy (xL X) E _ hI hR.1 (xs (i + 1)) (xs (i + 2))) cf_L_23 cv_X5_copy dL_law_235 rfl ez rfl rfl (Nat.le_of_ble_eq_true rfl) ⟨(Nat.le_of_ble_eq_true rfl), (Nat.le_of_ble_eq_true rfl)⟩ ⟨by show k + 0 ≤ 600000; omega, by show n + 0 ≤ 7302250; omega⟩ ?_
  rintro _ s1 ⟨rfl, hp1⟩ hs1 hd1
  have hR1 := hR.c hp1 hs1 hd1
  obtain ⟨fb, eb⟩ := hR1.b
  refine g_aload_n h 2 dL_law_238 rfl rfl ?_
  refine g_aload_n h 0 dL_law_239 rfl rfl ?_
  refine g_iload_n h 3 dL_law_240 rfl rfl ?_
  refine g_iconst h (nI 1) dL_law_241 (by decide) ?_
  refine g_iaddN h dL_law_242 ?_
  refine g_scr h hX hbl hbA (by omega) (by omega) dL_law_243 ?_
  refine g_aload_n h 0 dL_law_244 rfl rfl ?_
  refine g_iload_n h 3 dL_law_245 rfl rfl ?_
  refine g_iconst h (nI 2) dL_law_246 (by decide) ?_
  refine g_iaddN h dL_law_247 ?_
  refine g_scr h hX hbl hbA (by omega) (by omega) dL_law_248 ?_
  refine g_callV2 (dM b) h [_] (D_copy (xL X) E _ hI hR1.2.1 (xs (i + 1)) (xs (i + 2))) cf_L_26 cv_X6_copy dL_law_249 rfl eb rfl rfl (Nat.le_of_ble_eq_true rfl) ⟨(Nat.le_of_ble_eq_true rfl), (Nat.le_of_ble_eq_true rfl)⟩ ⟨by show k + 0 + 0 ≤ 600000; omega, by show n + 0 + 0 ≤ 7302250; omega⟩ ?_
  rintro _ s2 ⟨rfl, hp2⟩ hs2 hd2
  have hR2 := hR1.m hp2 hs2
  refine g_icmp_eq h 1004 dL_law_252 (by decide) (fun _ => ?_) (fun c => absurd rfl c)
  refine g_widen (k' := k + 1) (n' := n + 4) (by show k + 0 + 0 ≤ k + 1; omega) (by show n + 0 + 0 ≤ n + 4; omega) ?_
  exact kk _ hR2
set_option maxRecDepth 100000 in
set_option maxHeartbeats 4000000 in
theorem law_lineAt {X : CX} {E : EnvD} {A : Nat → Prop} {Q : State → Prop} {b0 L z b i k n : Nat} {xs : Nat → Int32} {S : PSt} {σ : Sto} (h : OK X E cL_law RL 4 room_1) (hX : va_X b0 L xs (xS X) (xS X).heap) (hbl : b0 < (xS X).heap.size) (hbA : ¬ A b0) (hi : i + 5 ≤ L) (hL : L ≤ 2560) (hk : k + 1 ≤ 600000) (hn : n + 4 ≤ 7302250) (hI : Inv S) (hR : LI E z b S S σ) (kk : ∀ σ', LI E z b (opLineAt S (xs (i + 1)) (xs (i + 2))).2 (opLineAt S (xs (i + 1)) (xs (i + 2))).2 σ' → G X E 4 A Q (k + 1) (n + 4) 1004 [some (.ref b0), some (.ref z), some (.ref b), some (.int (nI i))] [] σ') : G X E 4 A Q k n 257 [some (.ref b0), some (.ref z), some (.ref b), some (.int (nI i))] [] σ := by
  obtain ⟨fz, ez⟩ := hR.z
  refine g_aload_n h 1 dL_law_257 rfl rfl ?_
  refine g_aload_n h 0 dL_law_258 rfl rfl ?_
  refine g_iload_n h 3 dL_law_259 rfl rfl ?_
  refine g_iconst h (nI 1) dL_law_260 (by decide) ?_
  refine g_iaddN h dL_law_261 ?_
  refine g_scr h hX hbl hbA (by omega) (by omega) dL_law_262 ?_
  refine g_aload_n h 0 dL_law_263 rfl rfl ?_
  refine g_iload_n h 3 dL_law_264 rfl rfl ?_
  refine g_iconst h (nI 2) dL_law_265 (by decide) ?_
  refine g_iaddN h dL_law_266 ?_
  refine g_scr h hX hbl hbA (by omega) (by omega) dL_law_267 ?_
  refine g_callV2 (dC b) h [] (C_lineAt (xL X) E _ hI hR.1 (xs (i + 1)) (xs (i + 2))) cf_L_27 cv_X5_lineAt dL_law_268 rfl ez rfl rfl (Nat.le_of_ble_eq_true rfl) ⟨(Nat.le_of_ble_eq_true rfl), (Nat.le_of_ble_eq_true rfl)⟩ ⟨by show k + 0 ≤ 600000; omega, by show n + 0 ≤ 7302250; omega⟩ ?_
  rintro _ s1 ⟨rfl, hp1⟩ hs1 hd1
  have hR1 := hR.c hp1 hs1 hd1
  obtain ⟨fb, eb⟩ := hR1.b
  refine g_aload_n h 2 dL_law_271 rfl rfl ?_
  refine g_aload_n h 0 dL_law_272 rfl rfl ?_
  refine g_iload_n h 3 dL_law_273 rfl rfl ?_
  refine g_iconst h (nI 1) dL_law_274 (by decide) ?_
  refine g_iaddN h dL_law_275 ?_
  refine g_scr h hX hbl hbA (by omega) (by omega) dL_law_276 ?_
  refine g_aload_n h 0 dL_law_277 rfl rfl ?_
  refine g_iload_n h 3 dL_law_278 rfl rfl ?_
  refine g_iconst h (nI 2) dL_law_279 (by decide) ?_
  refine g_iaddN h dL_law_280 ?_
  refine g_scr h hX hbl hbA (by omega) (by omega) dL_law_281 ?_
  refine g_callV2 (dM b) h [_] (D_lineAt (xL X) E _ hI hR1.2.1 (xs (i + 1)) (xs (i + 2))) cf_L_30 cv_X6_lineAt dL_law_282 rfl eb rfl rfl (Nat.le_of_ble_eq_true rfl) ⟨(Nat.le_of_ble_eq_true rfl), (Nat.le_of_ble_eq_true rfl)⟩ ⟨by show k + 0 + 0 ≤ 600000; omega, by show n + 0 + 0 ≤ 7302250; omega⟩ ?_
  rintro _ s2 ⟨rfl, hp2⟩ hs2 hd2
  have hR2 := hR1.m hp2 hs2
  refine g_icmp_eq h 1004 dL_law_285 (by decide) (fun _ => ?_) (fun c => absurd rfl c)
  refine g_widen (k' := k + 1) (n' := n + 4) (by show k + 0 + 0 ≤ k + 1; omega) (by show n + 0 + 0 ≤ n + 4; omega) ?_
  exact kk _ hR2
set_option maxRecDepth 100000 in
set_option maxHeartbeats 4000000 in
theorem law_differ {X : CX} {E : EnvD} {A : Nat → Prop} {Q : State → Prop} {b0 L z b i k n : Nat} {xs : Nat → Int32} {S : PSt} {σ : Sto} (h : OK X E cL_law RL 4 room_1) (hX : va_X b0 L xs (xS X) (xS X).heap) (hbl : b0 < (xS X).heap.size) (hbA : ¬ A b0) (hi : i + 5 ≤ L) (hL : L ≤ 2560) (hk : k + 1 ≤ 600000) (hn : n + 4 ≤ 7302250) (hI : Inv S) (hR : LI E z b S S σ) (kk : ∀ σ', LI E z b (opDiffer S (xs (i + 1)) (xs (i + 2))).2 (opDiffer S (xs (i + 1)) (xs (i + 2))).2 σ' → G X E 4 A Q (k + 1) (n + 4) 1004 [some (.ref b0), some (.ref z), some (.ref b), some (.int (nI i))] [] σ') : G X E 4 A Q k n 290 [some (.ref b0), some (.ref z), some (.ref b), some (.int (nI i))] [] σ := by
  obtain ⟨fz, ez⟩ := hR.z
  refine g_aload_n h 1 dL_law_290 rfl rfl ?_
  refine g_aload_n h 0 dL_law_291 rfl rfl ?_
  refine g_iload_n h 3 dL_law_292 rfl rfl ?_
  refine g_iconst h (nI 1) dL_law_293 (by decide) ?_
  refine g_iaddN h dL_law_294 ?_
  refine g_scr h hX hbl hbA (by omega) (by omega) dL_law_295 ?_
  refine g_aload_n h 0 dL_law_296 rfl rfl ?_
  refine g_iload_n h 3 dL_law_297 rfl rfl ?_
  refine g_iconst h (nI 2) dL_law_298 (by decide) ?_
  refine g_iaddN h dL_law_299 ?_
  refine g_scr h hX hbl hbA (by omega) (by omega) dL_law_300 ?_
  refine g_callV2 (dC b) h [] (C_differ (xL X) E _ hI hR.1 (xs (i + 1)) (xs (i + 2))) cf_L_31 cv_X5_differ dL_law_301 rfl ez rfl rfl (Nat.le_of_ble_eq_true rfl) ⟨(Nat.le_of_ble_eq_true rfl), (Nat.le_of_ble_eq_true rfl)⟩ ⟨by show k + 0 ≤ 600000; omega, by show n + 0 ≤ 7302250; omega⟩ ?_
  rintro _ s1 ⟨rfl, hp1⟩ hs1 hd1
  have hR1 := hR.c hp1 hs1 hd1
  obtain ⟨fb, eb⟩ := hR1.b
  refine g_aload_n h 2 dL_law_304 rfl rfl ?_
  refine g_aload_n h 0 dL_law_305 rfl rfl ?_
  refine g_iload_n h 3 dL_law_306 rfl rfl ?_
  refine g_iconst h (nI 1) dL_law_307 (by decide) ?_
  refine g_iaddN h dL_law_308 ?_
  refine g_scr h hX hbl hbA (by omega) (by omega) dL_law_309 ?_
  refine g_aload_n h 0 dL_law_310 rfl rfl ?_
  refine g_iload_n h 3 dL_law_311 rfl rfl ?_
  refine g_iconst h (nI 2) dL_law_312 (by decide) ?_
  refine g_iaddN h dL_law_313 ?_
  refine g_scr h hX hbl hbA (by omega) (by omega) dL_law_314 ?_
  refine g_callV2 (dM b) h [_] (D_differ (xL X) E _ hI hR1.2.1 (xs (i + 1)) (xs (i + 2))) cf_L_34 cv_X6_differ dL_law_315 rfl eb rfl rfl (Nat.le_of_ble_eq_true rfl) ⟨(Nat.le_of_ble_eq_true rfl), (Nat.le_of_ble_eq_true rfl)⟩ ⟨by show k + 0 + 0 ≤ 600000; omega, by show n + 0 + 0 ≤ 7302250; omega⟩ ?_
  rintro _ s2 ⟨rfl, hp2⟩ hs2 hd2
  have hR2 := hR1.m hp2 hs2
  refine g_icmp_eq h 1004 dL_law_318 (by decide) (fun _ => ?_) (fun c => absurd rfl c)
  refine g_widen (k' := k + 1) (n' := n + 4) (by show k + 0 + 0 ≤ k + 1; omega) (by show n + 0 + 0 ≤ n + 4; omega) ?_
  exact kk _ hR2
set_option maxRecDepth 100000 in
set_option maxHeartbeats 4000000 in
theorem law_step {X : CX} {E : EnvD} {A : Nat → Prop} {Q : State → Prop} {b0 L z b i k n : Nat} {xs : Nat → Int32} {S : PSt} {σ : Sto} (h : OK X E cL_law RL 4 room_1) (hX : va_X b0 L xs (xS X) (xS X).heap) (hbl : b0 < (xS X).heap.size) (hbA : ¬ A b0) (hi : i + 5 ≤ L) (hL : L ≤ 2560) (hk : k + 1 ≤ 600000) (hn : n + 4 ≤ 7302250) (hI : Inv S) (hR : LI E z b S S σ) (kk : ∀ σ', LI E z b (opStep S (xs (i + 1)) (xs (i + 2)) (xs (i + 3))).2 (opStep S (xs (i + 1)) (xs (i + 2)) (xs (i + 3))).2 σ' → G X E 4 A Q (k + 1) (n + 4) 1004 [some (.ref b0), some (.ref z), some (.ref b), some (.int (nI i))] [] σ') : G X E 4 A Q k n 323 [some (.ref b0), some (.ref z), some (.ref b), some (.int (nI i))] [] σ := by
  obtain ⟨fz, ez⟩ := hR.z
  refine g_aload_n h 1 dL_law_323 rfl rfl ?_
  refine g_aload_n h 0 dL_law_324 rfl rfl ?_
  refine g_iload_n h 3 dL_law_325 rfl rfl ?_
  refine g_iconst h (nI 1) dL_law_326 (by decide) ?_
  refine g_iaddN h dL_law_327 ?_
  refine g_scr h hX hbl hbA (by omega) (by omega) dL_law_328 ?_
  refine g_aload_n h 0 dL_law_329 rfl rfl ?_
  refine g_iload_n h 3 dL_law_330 rfl rfl ?_
  refine g_iconst h (nI 2) dL_law_331 (by decide) ?_
  refine g_iaddN h dL_law_332 ?_
  refine g_scr h hX hbl hbA (by omega) (by omega) dL_law_333 ?_
  refine g_aload_n h 0 dL_law_334 rfl rfl ?_
  refine g_iload_n h 3 dL_law_335 rfl rfl ?_
  refine g_iconst h (nI 3) dL_law_336 (by decide) ?_
  refine g_iaddN h dL_law_337 ?_
  refine g_scr h hX hbl hbA (by omega) (by omega) dL_law_338 ?_
  refine g_callV2 (dC b) h [] (C_step (xL X) E _ hI hR.1 (xs (i + 1)) (xs (i + 2)) (xs (i + 3))) cf_L_35 cv_X5_step dL_law_339 rfl ez rfl rfl (Nat.le_of_ble_eq_true rfl) ⟨(Nat.le_of_ble_eq_true rfl), (Nat.le_of_ble_eq_true rfl)⟩ ⟨by show k + 0 ≤ 600000; omega, by show n + 0 ≤ 7302250; omega⟩ ?_
  rintro _ s1 ⟨rfl, hp1⟩ hs1 hd1
  have hR1 := hR.c hp1 hs1 hd1
  obtain ⟨fb, eb⟩ := hR1.b
  refine g_aload_n h 2 dL_law_342 rfl rfl ?_
  refine g_aload_n h 0 dL_law_343 rfl rfl ?_
  refine g_iload_n h 3 dL_law_344 rfl rfl ?_
  refine g_iconst h (nI 1) dL_law_345 (by decide) ?_
  refine g_iaddN h dL_law_346 ?_
  refine g_scr h hX hbl hbA (by omega) (by omega) dL_law_347 ?_
  refine g_aload_n h 0 dL_law_348 rfl rfl ?_
  refine g_iload_n h 3 dL_law_349 rfl rfl ?_
  refine g_iconst h (nI 2) dL_law_350 (by decide) ?_
  refine g_iaddN h dL_law_351 ?_
  refine g_scr h hX hbl hbA (by omega) (by omega) dL_law_352 ?_
  refine g_aload_n h 0 dL_law_353 rfl rfl ?_
  refine g_iload_n h 3 dL_law_354 rfl rfl ?_
  refine g_iconst h (nI 3) dL_law_355 (by decide) ?_
  refine g_iaddN h dL_law_356 ?_
  refine g_scr h hX hbl hbA (by omega) (by omega) dL_law_357 ?_
  refine g_callV2 (dM b) h [_] (D_step (xL X) E _ hI hR1.2.1 (xs (i + 1)) (xs (i + 2)) (xs (i + 3))) cf_L_38 cv_X6_step dL_law_358 rfl eb rfl rfl (Nat.le_of_ble_eq_true rfl) ⟨(Nat.le_of_ble_eq_true rfl), (Nat.le_of_ble_eq_true rfl)⟩ ⟨by show k + 0 + 0 ≤ 600000; omega, by show n + 0 + 0 ≤ 7302250; omega⟩ ?_
  rintro _ s2 ⟨rfl, hp2⟩ hs2 hd2
  have hR2 := hR1.m hp2 hs2
  refine g_icmp_eq h 1004 dL_law_361 (by decide) (fun _ => ?_) (fun c => absurd rfl c)
  refine g_widen (k' := k + 1) (n' := n + 4) (by show k + 0 + 0 ≤ k + 1; omega) (by show n + 0 + 0 ≤ n + 4; omega) ?_
  exact kk _ hR2
set_option maxRecDepth 100000 in
set_option maxHeartbeats 4000000 in
theorem law_condition {X : CX} {E : EnvD} {A : Nat → Prop} {Q : State → Prop} {b0 L z b i k n : Nat} {xs : Nat → Int32} {S : PSt} {σ : Sto} (h : OK X E cL_law RL 4 room_1) (hX : va_X b0 L xs (xS X) (xS X).heap) (hbl : b0 < (xS X).heap.size) (hbA : ¬ A b0) (hi : i + 5 ≤ L) (hL : L ≤ 2560) (hk : k + 1 ≤ 600000) (hn : n + 4 ≤ 7302250) (hI : Inv S) (hR : LI E z b S S σ) (kk : ∀ σ', LI E z b (opCond S (xs (i + 1)) (xs (i + 2)) (xs (i + 3))).2 (opCond S (xs (i + 1)) (xs (i + 2)) (xs (i + 3))).2 σ' → G X E 4 A Q (k + 1) (n + 4) 1004 [some (.ref b0), some (.ref z), some (.ref b), some (.int (nI i))] [] σ') : G X E 4 A Q k n 366 [some (.ref b0), some (.ref z), some (.ref b), some (.int (nI i))] [] σ := by
  obtain ⟨fz, ez⟩ := hR.z
  refine g_aload_n h 1 dL_law_366 rfl rfl ?_
  refine g_aload_n h 0 dL_law_367 rfl rfl ?_
  refine g_iload_n h 3 dL_law_368 rfl rfl ?_
  refine g_iconst h (nI 1) dL_law_369 (by decide) ?_
  refine g_iaddN h dL_law_370 ?_
  refine g_scr h hX hbl hbA (by omega) (by omega) dL_law_371 ?_
  refine g_aload_n h 0 dL_law_372 rfl rfl ?_
  refine g_iload_n h 3 dL_law_373 rfl rfl ?_
  refine g_iconst h (nI 2) dL_law_374 (by decide) ?_
  refine g_iaddN h dL_law_375 ?_
  refine g_scr h hX hbl hbA (by omega) (by omega) dL_law_376 ?_
  refine g_aload_n h 0 dL_law_377 rfl rfl ?_
  refine g_iload_n h 3 dL_law_378 rfl rfl ?_
  refine g_iconst h (nI 3) dL_law_379 (by decide) ?_
  refine g_iaddN h dL_law_380 ?_
  refine g_scr h hX hbl hbA (by omega) (by omega) dL_law_381 ?_
  refine g_callV2 (dC b) h [] (C_condition (xL X) E _ hI hR.1 (xs (i + 1)) (xs (i + 2)) (xs (i + 3))) cf_L_39 cv_X5_condition dL_law_382 rfl ez rfl rfl (Nat.le_of_ble_eq_true rfl) ⟨(Nat.le_of_ble_eq_true rfl), (Nat.le_of_ble_eq_true rfl)⟩ ⟨by show k + 1 ≤ 600000; omega, by show n + 3 ≤ 7302250; omega⟩ ?_
  rintro _ s1 ⟨rfl, hp1⟩ hs1 hd1
  have hR1 := hR.c hp1 hs1 hd1
  obtain ⟨fb, eb⟩ := hR1.b
  refine g_aload_n h 2 dL_law_385 rfl rfl ?_
  refine g_aload_n h 0 dL_law_386 rfl rfl ?_
  refine g_iload_n h 3 dL_law_387 rfl rfl ?_
  refine g_iconst h (nI 1) dL_law_388 (by decide) ?_
  refine g_iaddN h dL_law_389 ?_
  refine g_scr h hX hbl hbA (by omega) (by omega) dL_law_390 ?_
  refine g_aload_n h 0 dL_law_391 rfl rfl ?_
  refine g_iload_n h 3 dL_law_392 rfl rfl ?_
  refine g_iconst h (nI 2) dL_law_393 (by decide) ?_
  refine g_iaddN h dL_law_394 ?_
  refine g_scr h hX hbl hbA (by omega) (by omega) dL_law_395 ?_
  refine g_aload_n h 0 dL_law_396 rfl rfl ?_
  refine g_iload_n h 3 dL_law_397 rfl rfl ?_
  refine g_iconst h (nI 3) dL_law_398 (by decide) ?_
  refine g_iaddN h dL_law_399 ?_
  refine g_scr h hX hbl hbA (by omega) (by omega) dL_law_400 ?_
  refine g_callV2 (dM b) h [_] (D_condition (xL X) E _ hI hR1.2.1 (xs (i + 1)) (xs (i + 2)) (xs (i + 3))) cf_L_42 cv_X6_condition dL_law_401 rfl eb rfl rfl (Nat.le_of_ble_eq_true rfl) ⟨(Nat.le_of_ble_eq_true rfl), (Nat.le_of_ble_eq_true rfl)⟩ ⟨by show k + 1 + 0 ≤ 600000; omega, by show n + 3 + 0 ≤ 7302250; omega⟩ ?_
  rintro _ s2 ⟨rfl, hp2⟩ hs2 hd2
  have hR2 := hR1.m hp2 hs2
  refine g_icmp_eq h 1004 dL_law_404 (by decide) (fun _ => ?_) (fun c => absurd rfl c)
  refine g_widen (k' := k + 1) (n' := n + 4) (by show k + 1 + 0 ≤ k + 1; omega) (by show n + 3 + 0 ≤ n + 4; omega) ?_
  exact kk _ hR2
set_option maxRecDepth 100000 in
set_option maxHeartbeats 4000000 in
theorem law_clear {X : CX} {E : EnvD} {A : Nat → Prop} {Q : State → Prop} {b0 L z b i k n : Nat} {xs : Nat → Int32} {S : PSt} {σ : Sto} (h : OK X E cL_law RL 4 room_1) (hX : va_X b0 L xs (xS X) (xS X).heap) (hbl : b0 < (xS X).heap.size) (hbA : ¬ A b0) (hi : i + 5 ≤ L) (hL : L ≤ 2560) (hk : k + 1 ≤ 600000) (hn : n + 4 ≤ 7302250) (hI : Inv S) (hR : LI E z b S S σ) (kk : ∀ σ', LI E z b (opClear S).2 (opClear S).2 σ' → G X E 4 A Q (k + 1) (n + 4) 1004 [some (.ref b0), some (.ref z), some (.ref b), some (.int (nI i))] [] σ') : G X E 4 A Q k n 409 [some (.ref b0), some (.ref z), some (.ref b), some (.int (nI i))] [] σ := by
  obtain ⟨fz, ez⟩ := hR.z
  refine g_aload_n h 1 dL_law_409 rfl rfl ?_
  refine g_callV2 (dC b) h [] (C_clear (xL X) E _ hI hR.1) cf_L_43 cv_X5_clear dL_law_410 rfl ez rfl rfl (Nat.le_of_ble_eq_true rfl) ⟨(Nat.le_of_ble_eq_true rfl), (Nat.le_of_ble_eq_true rfl)⟩ ⟨by show k + 0 ≤ 600000; omega, by show n + 0 ≤ 7302250; omega⟩ ?_
  rintro _ s1 ⟨rfl, hp1⟩ hs1 hd1
  have hR1 := hR.c hp1 hs1 hd1
  obtain ⟨fb, eb⟩ := hR1.b
  refine g_aload_n h 2 dL_law_413 rfl rfl ?_
  refine g_callV2 (dM b) h [_] (D_clear (xL X) E _ hI hR1.2.1) cf_L_47 cv_X6_clear dL_law_414 rfl eb rfl rfl (Nat.le_of_ble_eq_true rfl) ⟨(Nat.le_of_ble_eq_true rfl), (Nat.le_of_ble_eq_true rfl)⟩ ⟨by show k + 0 + 0 ≤ 600000; omega, by show n + 0 + 0 ≤ 7302250; omega⟩ ?_
  rintro _ s2 ⟨rfl, hp2⟩ hs2 hd2
  have hR2 := hR1.m hp2 hs2
  refine g_icmp_eq h 1004 dL_law_417 (by decide) (fun _ => ?_) (fun c => absurd rfl c)
  refine g_widen (k' := k + 1) (n' := n + 4) (by show k + 0 + 0 ≤ k + 1; omega) (by show n + 0 + 0 ≤ n + 4; omega) ?_
  exact kk _ hR2
set_option maxRecDepth 100000 in
set_option maxHeartbeats 4000000 in
theorem law_breaks {X : CX} {E : EnvD} {A : Nat → Prop} {Q : State → Prop} {b0 L z b i k n : Nat} {xs : Nat → Int32} {S : PSt} {σ : Sto} (h : OK X E cL_law RL 4 room_1) (hX : va_X b0 L xs (xS X) (xS X).heap) (hbl : b0 < (xS X).heap.size) (hbA : ¬ A b0) (hi : i + 5 ≤ L) (hL : L ≤ 2560) (hk : k + 1 ≤ 600000) (hn : n + 4 ≤ 7302250) (hI : Inv S) (hR : LI E z b S S σ) (kk : ∀ σ', LI E z b (opBreaks S (xs (i + 1))).2 (opBreaks S (xs (i + 1))).2 σ' → G X E 4 A Q (k + 1) (n + 4) 1004 [some (.ref b0), some (.ref z), some (.ref b), some (.int (nI i))] [] σ') : G X E 4 A Q k n 422 [some (.ref b0), some (.ref z), some (.ref b), some (.int (nI i))] [] σ := by
  obtain ⟨fz, ez⟩ := hR.z
  refine g_aload_n h 1 dL_law_422 rfl rfl ?_
  refine g_aload_n h 0 dL_law_423 rfl rfl ?_
  refine g_iload_n h 3 dL_law_424 rfl rfl ?_
  refine g_iconst h (nI 1) dL_law_425 (by decide) ?_
  refine g_iaddN h dL_law_426 ?_
  refine g_scr h hX hbl hbA (by omega) (by omega) dL_law_427 ?_
  refine g_callV2 (dC b) h [] (C_breaks (xL X) E _ hI hR.1 (xs (i + 1))) cf_L_48 cv_X5_breaks dL_law_428 rfl ez rfl rfl (Nat.le_of_ble_eq_true rfl) ⟨(Nat.le_of_ble_eq_true rfl), (Nat.le_of_ble_eq_true rfl)⟩ ⟨by show k + 0 ≤ 600000; omega, by show n + 0 ≤ 7302250; omega⟩ ?_
  rintro _ s1 ⟨rfl, hp1⟩ hs1 hd1
  have hR1 := hR.c hp1 hs1 hd1
  obtain ⟨fb, eb⟩ := hR1.b
  refine g_aload_n h 2 dL_law_431 rfl rfl ?_
  refine g_aload_n h 0 dL_law_432 rfl rfl ?_
  refine g_iload_n h 3 dL_law_433 rfl rfl ?_
  refine g_iconst h (nI 1) dL_law_434 (by decide) ?_
  refine g_iaddN h dL_law_435 ?_
  refine g_scr h hX hbl hbA (by omega) (by omega) dL_law_436 ?_
  refine g_callV2 (dM b) h [_] (D_breaks (xL X) E _ hI hR1.2.1 (xs (i + 1))) cf_L_52 cv_X6_breaks dL_law_437 rfl eb rfl rfl (Nat.le_of_ble_eq_true rfl) ⟨(Nat.le_of_ble_eq_true rfl), (Nat.le_of_ble_eq_true rfl)⟩ ⟨by show k + 0 + 0 ≤ 600000; omega, by show n + 0 + 0 ≤ 7302250; omega⟩ ?_
  rintro _ s2 ⟨rfl, hp2⟩ hs2 hd2
  have hR2 := hR1.m hp2 hs2
  refine g_icmp_eq h 1004 dL_law_440 (by decide) (fun _ => ?_) (fun c => absurd rfl c)
  refine g_widen (k' := k + 1) (n' := n + 4) (by show k + 0 + 0 ≤ k + 1; omega) (by show n + 0 + 0 ≤ n + 4; omega) ?_
  exact kk _ hR2
set_option maxRecDepth 100000 in
set_option maxHeartbeats 4000000 in
theorem law_hear {X : CX} {E : EnvD} {A : Nat → Prop} {Q : State → Prop} {b0 L z b i k n : Nat} {xs : Nat → Int32} {S : PSt} {σ : Sto} (h : OK X E cL_law RL 4 room_1) (hX : va_X b0 L xs (xS X) (xS X).heap) (hbl : b0 < (xS X).heap.size) (hbA : ¬ A b0) (hi : i + 5 ≤ L) (hL : L ≤ 2560) (hk : k + 1 ≤ 600000) (hn : n + 4 ≤ 7302250) (hI : Inv S) (hR : LI E z b S S σ) (kk : ∀ σ', LI E z b (opHear S (xs (i + 1)) (xs (i + 2))).2 (opHear S (xs (i + 1)) (xs (i + 2))).2 σ' → G X E 4 A Q (k + 1) (n + 4) 1004 [some (.ref b0), some (.ref z), some (.ref b), some (.int (nI i))] [] σ') : G X E 4 A Q k n 445 [some (.ref b0), some (.ref z), some (.ref b), some (.int (nI i))] [] σ := by
  obtain ⟨fz, ez⟩ := hR.z
  refine g_aload_n h 1 dL_law_445 rfl rfl ?_
  refine g_aload_n h 0 dL_law_446 rfl rfl ?_
  refine g_iload_n h 3 dL_law_447 rfl rfl ?_
  refine g_iconst h (nI 1) dL_law_448 (by decide) ?_
  refine g_iaddN h dL_law_449 ?_
  refine g_scr h hX hbl hbA (by omega) (by omega) dL_law_450 ?_
  refine g_aload_n h 0 dL_law_451 rfl rfl ?_
  refine g_iload_n h 3 dL_law_452 rfl rfl ?_
  refine g_iconst h (nI 2) dL_law_453 (by decide) ?_
  refine g_iaddN h dL_law_454 ?_
  refine g_scr h hX hbl hbA (by omega) (by omega) dL_law_455 ?_
  refine g_callV2 (dC b) h [] (C_hear (xL X) E _ hI hR.1 (xs (i + 1)) (xs (i + 2))) cf_L_53 cv_X5_hear dL_law_456 rfl ez rfl rfl (Nat.le_of_ble_eq_true rfl) ⟨(Nat.le_of_ble_eq_true rfl), (Nat.le_of_ble_eq_true rfl)⟩ ⟨by show k + 0 ≤ 600000; omega, by show n + 0 ≤ 7302250; omega⟩ ?_
  rintro _ s1 ⟨rfl, hp1⟩ hs1 hd1
  have hR1 := hR.c hp1 hs1 hd1
  obtain ⟨fb, eb⟩ := hR1.b
  refine g_aload_n h 2 dL_law_459 rfl rfl ?_
  refine g_aload_n h 0 dL_law_460 rfl rfl ?_
  refine g_iload_n h 3 dL_law_461 rfl rfl ?_
  refine g_iconst h (nI 1) dL_law_462 (by decide) ?_
  refine g_iaddN h dL_law_463 ?_
  refine g_scr h hX hbl hbA (by omega) (by omega) dL_law_464 ?_
  refine g_aload_n h 0 dL_law_465 rfl rfl ?_
  refine g_iload_n h 3 dL_law_466 rfl rfl ?_
  refine g_iconst h (nI 2) dL_law_467 (by decide) ?_
  refine g_iaddN h dL_law_468 ?_
  refine g_scr h hX hbl hbA (by omega) (by omega) dL_law_469 ?_
  refine g_callV2 (dM b) h [_] (D_hear (xL X) E _ hI hR1.2.1 (xs (i + 1)) (xs (i + 2))) cf_L_56 cv_X6_hear dL_law_470 rfl eb rfl rfl (Nat.le_of_ble_eq_true rfl) ⟨(Nat.le_of_ble_eq_true rfl), (Nat.le_of_ble_eq_true rfl)⟩ ⟨by show k + 0 + 0 ≤ 600000; omega, by show n + 0 + 0 ≤ 7302250; omega⟩ ?_
  rintro _ s2 ⟨rfl, hp2⟩ hs2 hd2
  have hR2 := hR1.m hp2 hs2
  refine g_icmp_eq h 1004 dL_law_473 (by decide) (fun _ => ?_) (fun c => absurd rfl c)
  refine g_widen (k' := k + 1) (n' := n + 4) (by show k + 0 + 0 ≤ k + 1; omega) (by show n + 0 + 0 ≤ n + 4; omega) ?_
  exact kk _ hR2
set_option maxRecDepth 100000 in
set_option maxHeartbeats 4000000 in
theorem law_forget {X : CX} {E : EnvD} {A : Nat → Prop} {Q : State → Prop} {b0 L z b i k n : Nat} {xs : Nat → Int32} {S : PSt} {σ : Sto} (h : OK X E cL_law RL 4 room_1) (hX : va_X b0 L xs (xS X) (xS X).heap) (hbl : b0 < (xS X).heap.size) (hbA : ¬ A b0) (hi : i + 5 ≤ L) (hL : L ≤ 2560) (hk : k + 1 ≤ 600000) (hn : n + 4 ≤ 7302250) (hI : Inv S) (hR : LI E z b S S σ) (kk : ∀ σ', LI E z b (opForget S (xs (i + 1))).2 (opForget S (xs (i + 1))).2 σ' → G X E 4 A Q (k + 1) (n + 4) 1004 [some (.ref b0), some (.ref z), some (.ref b), some (.int (nI i))] [] σ') : G X E 4 A Q k n 478 [some (.ref b0), some (.ref z), some (.ref b), some (.int (nI i))] [] σ := by
  obtain ⟨fz, ez⟩ := hR.z
  refine g_aload_n h 1 dL_law_478 rfl rfl ?_
  refine g_aload_n h 0 dL_law_479 rfl rfl ?_
  refine g_iload_n h 3 dL_law_480 rfl rfl ?_
  refine g_iconst h (nI 1) dL_law_481 (by decide) ?_
  refine g_iaddN h dL_law_482 ?_
  refine g_scr h hX hbl hbA (by omega) (by omega) dL_law_483 ?_
  refine g_callV2 (dC b) h [] (C_forget (xL X) E _ hI hR.1 (xs (i + 1))) cf_L_57 cv_X5_forget dL_law_484 rfl ez rfl rfl (Nat.le_of_ble_eq_true rfl) ⟨(Nat.le_of_ble_eq_true rfl), (Nat.le_of_ble_eq_true rfl)⟩ ⟨by show k + 0 ≤ 600000; omega, by show n + 0 ≤ 7302250; omega⟩ ?_
  rintro _ s1 ⟨rfl, hp1⟩ hs1 hd1
  have hR1 := hR.c hp1 hs1 hd1
  obtain ⟨fb, eb⟩ := hR1.b
  refine g_aload_n h 2 dL_law_487 rfl rfl ?_
  refine g_aload_n h 0 dL_law_488 rfl rfl ?_
  refine g_iload_n h 3 dL_law_489 rfl rfl ?_
  refine g_iconst h (nI 1) dL_law_490 (by decide) ?_
  refine g_iaddN h dL_law_491 ?_
  refine g_scr h hX hbl hbA (by omega) (by omega) dL_law_492 ?_
  refine g_callV2 (dM b) h [_] (D_forget (xL X) E _ hI hR1.2.1 (xs (i + 1))) cf_L_60 cv_X6_forget dL_law_493 rfl eb rfl rfl (Nat.le_of_ble_eq_true rfl) ⟨(Nat.le_of_ble_eq_true rfl), (Nat.le_of_ble_eq_true rfl)⟩ ⟨by show k + 0 + 0 ≤ 600000; omega, by show n + 0 + 0 ≤ 7302250; omega⟩ ?_
  rintro _ s2 ⟨rfl, hp2⟩ hs2 hd2
  have hR2 := hR1.m hp2 hs2
  refine g_icmp_eq h 1004 dL_law_496 (by decide) (fun _ => ?_) (fun c => absurd rfl c)
  refine g_widen (k' := k + 1) (n' := n + 4) (by show k + 0 + 0 ≤ k + 1; omega) (by show n + 0 + 0 ≤ n + 4; omega) ?_
  exact kk _ hR2
set_option maxRecDepth 100000 in
set_option maxHeartbeats 4000000 in
theorem law_heard {X : CX} {E : EnvD} {A : Nat → Prop} {Q : State → Prop} {b0 L z b i k n : Nat} {xs : Nat → Int32} {S : PSt} {σ : Sto} (h : OK X E cL_law RL 4 room_1) (hX : va_X b0 L xs (xS X) (xS X).heap) (hbl : b0 < (xS X).heap.size) (hbA : ¬ A b0) (hi : i + 5 ≤ L) (hL : L ≤ 2560) (hk : k + 1 ≤ 600000) (hn : n + 4 ≤ 7302250) (hI : Inv S) (hR : LI E z b S S σ) (kk : ∀ σ', LI E z b (opHeard S (xs (i + 1)) (xs (i + 2))).2 (opHeard S (xs (i + 1)) (xs (i + 2))).2 σ' → G X E 4 A Q (k + 1) (n + 4) 1004 [some (.ref b0), some (.ref z), some (.ref b), some (.int (nI i))] [] σ') : G X E 4 A Q k n 501 [some (.ref b0), some (.ref z), some (.ref b), some (.int (nI i))] [] σ := by
  obtain ⟨fz, ez⟩ := hR.z
  refine g_aload_n h 1 dL_law_501 rfl rfl ?_
  refine g_aload_n h 0 dL_law_502 rfl rfl ?_
  refine g_iload_n h 3 dL_law_503 rfl rfl ?_
  refine g_iconst h (nI 1) dL_law_504 (by decide) ?_
  refine g_iaddN h dL_law_505 ?_
  refine g_scr h hX hbl hbA (by omega) (by omega) dL_law_506 ?_
  refine g_aload_n h 0 dL_law_507 rfl rfl ?_
  refine g_iload_n h 3 dL_law_508 rfl rfl ?_
  refine g_iconst h (nI 2) dL_law_509 (by decide) ?_
  refine g_iaddN h dL_law_510 ?_
  refine g_scr h hX hbl hbA (by omega) (by omega) dL_law_511 ?_
  refine g_callV2 (dC b) h [] (C_heard (xL X) E _ hI hR.1 (xs (i + 1)) (xs (i + 2))) cf_L_61 cv_X5_heard dL_law_512 rfl ez rfl rfl (Nat.le_of_ble_eq_true rfl) ⟨(Nat.le_of_ble_eq_true rfl), (Nat.le_of_ble_eq_true rfl)⟩ ⟨by show k + 0 ≤ 600000; omega, by show n + 0 ≤ 7302250; omega⟩ ?_
  rintro _ s1 ⟨rfl, hp1⟩ hs1 hd1
  have hR1 := hR.c hp1 hs1 hd1
  obtain ⟨fb, eb⟩ := hR1.b
  refine g_aload_n h 2 dL_law_515 rfl rfl ?_
  refine g_aload_n h 0 dL_law_516 rfl rfl ?_
  refine g_iload_n h 3 dL_law_517 rfl rfl ?_
  refine g_iconst h (nI 1) dL_law_518 (by decide) ?_
  refine g_iaddN h dL_law_519 ?_
  refine g_scr h hX hbl hbA (by omega) (by omega) dL_law_520 ?_
  refine g_aload_n h 0 dL_law_521 rfl rfl ?_
  refine g_iload_n h 3 dL_law_522 rfl rfl ?_
  refine g_iconst h (nI 2) dL_law_523 (by decide) ?_
  refine g_iaddN h dL_law_524 ?_
  refine g_scr h hX hbl hbA (by omega) (by omega) dL_law_525 ?_
  refine g_callV2 (dM b) h [_] (D_heard (xL X) E _ hI hR1.2.1 (xs (i + 1)) (xs (i + 2))) cf_L_64 cv_X6_heard dL_law_526 rfl eb rfl rfl (Nat.le_of_ble_eq_true rfl) ⟨(Nat.le_of_ble_eq_true rfl), (Nat.le_of_ble_eq_true rfl)⟩ ⟨by show k + 0 + 0 ≤ 600000; omega, by show n + 0 + 0 ≤ 7302250; omega⟩ ?_
  rintro _ s2 ⟨rfl, hp2⟩ hs2 hd2
  have hR2 := hR1.m hp2 hs2
  refine g_icmp_eq h 1004 dL_law_529 (by decide) (fun _ => ?_) (fun c => absurd rfl c)
  refine g_widen (k' := k + 1) (n' := n + 4) (by show k + 0 + 0 ≤ k + 1; omega) (by show n + 0 + 0 ≤ n + 4; omega) ?_
  exact kk _ hR2
set_option maxRecDepth 100000 in
set_option maxHeartbeats 4000000 in
theorem law_judge {X : CX} {E : EnvD} {A : Nat → Prop} {Q : State → Prop} {b0 L z b i k n : Nat} {xs : Nat → Int32} {S : PSt} {σ : Sto} (h : OK X E cL_law RL 4 room_1) (hX : va_X b0 L xs (xS X) (xS X).heap) (hbl : b0 < (xS X).heap.size) (hbA : ¬ A b0) (hi : i + 5 ≤ L) (hL : L ≤ 2560) (hk : k + 1 ≤ 600000) (hn : n + 4 ≤ 7302250) (hI : Inv S) (hR : LI E z b S S σ) (kk : ∀ σ', LI E z b (opJudge S (xs (i + 1)) (xs (i + 2))).2 (opJudge S (xs (i + 1)) (xs (i + 2))).2 σ' → G X E 4 A Q (k + 1) (n + 4) 1004 [some (.ref b0), some (.ref z), some (.ref b), some (.int (nI i))] [] σ') : G X E 4 A Q k n 534 [some (.ref b0), some (.ref z), some (.ref b), some (.int (nI i))] [] σ := by
  obtain ⟨fz, ez⟩ := hR.z
  refine g_aload_n h 1 dL_law_534 rfl rfl ?_
  refine g_aload_n h 0 dL_law_535 rfl rfl ?_
  refine g_iload_n h 3 dL_law_536 rfl rfl ?_
  refine g_iconst h (nI 1) dL_law_537 (by decide) ?_
  refine g_iaddN h dL_law_538 ?_
  refine g_scr h hX hbl hbA (by omega) (by omega) dL_law_539 ?_
  refine g_aload_n h 0 dL_law_540 rfl rfl ?_
  refine g_iload_n h 3 dL_law_541 rfl rfl ?_
  refine g_iconst h (nI 2) dL_law_542 (by decide) ?_
  refine g_iaddN h dL_law_543 ?_
  refine g_scr h hX hbl hbA (by omega) (by omega) dL_law_544 ?_
  refine g_callV2 (dC b) h [] (C_judge (xL X) E _ hI hR.1 (xs (i + 1)) (xs (i + 2))) cf_L_65 cv_X5_judge dL_law_545 rfl ez rfl rfl (Nat.le_of_ble_eq_true rfl) ⟨(Nat.le_of_ble_eq_true rfl), (Nat.le_of_ble_eq_true rfl)⟩ ⟨by show k + 0 ≤ 600000; omega, by show n + 0 ≤ 7302250; omega⟩ ?_
  rintro _ s1 ⟨rfl, hp1⟩ hs1 hd1
  have hR1 := hR.c hp1 hs1 hd1
  obtain ⟨fb, eb⟩ := hR1.b
  refine g_aload_n h 2 dL_law_548 rfl rfl ?_
  refine g_aload_n h 0 dL_law_549 rfl rfl ?_
  refine g_iload_n h 3 dL_law_550 rfl rfl ?_
  refine g_iconst h (nI 1) dL_law_551 (by decide) ?_
  refine g_iaddN h dL_law_552 ?_
  refine g_scr h hX hbl hbA (by omega) (by omega) dL_law_553 ?_
  refine g_aload_n h 0 dL_law_554 rfl rfl ?_
  refine g_iload_n h 3 dL_law_555 rfl rfl ?_
  refine g_iconst h (nI 2) dL_law_556 (by decide) ?_
  refine g_iaddN h dL_law_557 ?_
  refine g_scr h hX hbl hbA (by omega) (by omega) dL_law_558 ?_
  refine g_callV2 (dM b) h [_] (D_judge (xL X) E _ hI hR1.2.1 (xs (i + 1)) (xs (i + 2))) cf_L_68 cv_X6_judge dL_law_559 rfl eb rfl rfl (Nat.le_of_ble_eq_true rfl) ⟨(Nat.le_of_ble_eq_true rfl), (Nat.le_of_ble_eq_true rfl)⟩ ⟨by show k + 0 + 0 ≤ 600000; omega, by show n + 0 + 0 ≤ 7302250; omega⟩ ?_
  rintro _ s2 ⟨rfl, hp2⟩ hs2 hd2
  have hR2 := hR1.m hp2 hs2
  refine g_icmp_eq h 1004 dL_law_562 (by decide) (fun _ => ?_) (fun c => absurd rfl c)
  refine g_widen (k' := k + 1) (n' := n + 4) (by show k + 0 + 0 ≤ k + 1; omega) (by show n + 0 + 0 ≤ n + 4; omega) ?_
  exact kk _ hR2
set_option maxRecDepth 100000 in
set_option maxHeartbeats 4000000 in
theorem law_verdict {X : CX} {E : EnvD} {A : Nat → Prop} {Q : State → Prop} {b0 L z b i k n : Nat} {xs : Nat → Int32} {S : PSt} {σ : Sto} (h : OK X E cL_law RL 4 room_1) (hX : va_X b0 L xs (xS X) (xS X).heap) (hbl : b0 < (xS X).heap.size) (hbA : ¬ A b0) (hi : i + 5 ≤ L) (hL : L ≤ 2560) (hk : k + 1 ≤ 600000) (hn : n + 4 ≤ 7302250) (hI : Inv S) (hR : LI E z b S S σ) (kk : ∀ σ', LI E z b (opVerdict S (xs (i + 1))).2 (opVerdict S (xs (i + 1))).2 σ' → G X E 4 A Q (k + 1) (n + 4) 1004 [some (.ref b0), some (.ref z), some (.ref b), some (.int (nI i))] [] σ') : G X E 4 A Q k n 567 [some (.ref b0), some (.ref z), some (.ref b), some (.int (nI i))] [] σ := by
  obtain ⟨fz, ez⟩ := hR.z
  refine g_aload_n h 1 dL_law_567 rfl rfl ?_
  refine g_aload_n h 0 dL_law_568 rfl rfl ?_
  refine g_iload_n h 3 dL_law_569 rfl rfl ?_
  refine g_iconst h (nI 1) dL_law_570 (by decide) ?_
  refine g_iaddN h dL_law_571 ?_
  refine g_scr h hX hbl hbA (by omega) (by omega) dL_law_572 ?_
  refine g_callV2 (dC b) h [] (C_verdict (xL X) E _ hI hR.1 (xs (i + 1))) cf_L_69 cv_X5_verdict dL_law_573 rfl ez rfl rfl (Nat.le_of_ble_eq_true rfl) ⟨(Nat.le_of_ble_eq_true rfl), (Nat.le_of_ble_eq_true rfl)⟩ ⟨by show k + 0 ≤ 600000; omega, by show n + 0 ≤ 7302250; omega⟩ ?_
  rintro _ s1 ⟨rfl, hp1⟩ hs1 hd1
  have hR1 := hR.c hp1 hs1 hd1
  obtain ⟨fb, eb⟩ := hR1.b
  refine g_aload_n h 2 dL_law_576 rfl rfl ?_
  refine g_aload_n h 0 dL_law_577 rfl rfl ?_
  refine g_iload_n h 3 dL_law_578 rfl rfl ?_
  refine g_iconst h (nI 1) dL_law_579 (by decide) ?_
  refine g_iaddN h dL_law_580 ?_
  refine g_scr h hX hbl hbA (by omega) (by omega) dL_law_581 ?_
  refine g_callV2 (dM b) h [_] (D_verdict (xL X) E _ hI hR1.2.1 (xs (i + 1))) cf_L_72 cv_X6_verdict dL_law_582 rfl eb rfl rfl (Nat.le_of_ble_eq_true rfl) ⟨(Nat.le_of_ble_eq_true rfl), (Nat.le_of_ble_eq_true rfl)⟩ ⟨by show k + 0 + 0 ≤ 600000; omega, by show n + 0 + 0 ≤ 7302250; omega⟩ ?_
  rintro _ s2 ⟨rfl, hp2⟩ hs2 hd2
  have hR2 := hR1.m hp2 hs2
  refine g_icmp_eq h 1004 dL_law_585 (by decide) (fun _ => ?_) (fun c => absurd rfl c)
  refine g_widen (k' := k + 1) (n' := n + 4) (by show k + 0 + 0 ≤ k + 1; omega) (by show n + 0 + 0 ≤ n + 4; omega) ?_
  exact kk _ hR2
set_option maxRecDepth 100000 in
set_option maxHeartbeats 4000000 in
theorem law_both {X : CX} {E : EnvD} {A : Nat → Prop} {Q : State → Prop} {b0 L z b i k n : Nat} {xs : Nat → Int32} {S : PSt} {σ : Sto} (h : OK X E cL_law RL 4 room_1) (hX : va_X b0 L xs (xS X) (xS X).heap) (hbl : b0 < (xS X).heap.size) (hbA : ¬ A b0) (hi : i + 5 ≤ L) (hL : L ≤ 2560) (hk : k + 1 ≤ 600000) (hn : n + 4 ≤ 7302250) (hI : Inv S) (hR : LI E z b S S σ) (kk : ∀ σ', LI E z b (opBoth S (xs (i + 1)) (xs (i + 2)) (xs (i + 3))).2 (opBoth S (xs (i + 1)) (xs (i + 2)) (xs (i + 3))).2 σ' → G X E 4 A Q (k + 1) (n + 4) 1004 [some (.ref b0), some (.ref z), some (.ref b), some (.int (nI i))] [] σ') : G X E 4 A Q k n 590 [some (.ref b0), some (.ref z), some (.ref b), some (.int (nI i))] [] σ := by
  obtain ⟨fz, ez⟩ := hR.z
  refine g_aload_n h 1 dL_law_590 rfl rfl ?_
  refine g_aload_n h 0 dL_law_591 rfl rfl ?_
  refine g_iload_n h 3 dL_law_592 rfl rfl ?_
  refine g_iconst h (nI 1) dL_law_593 (by decide) ?_
  refine g_iaddN h dL_law_594 ?_
  refine g_scr h hX hbl hbA (by omega) (by omega) dL_law_595 ?_
  refine g_aload_n h 0 dL_law_596 rfl rfl ?_
  refine g_iload_n h 3 dL_law_597 rfl rfl ?_
  refine g_iconst h (nI 2) dL_law_598 (by decide) ?_
  refine g_iaddN h dL_law_599 ?_
  refine g_scr h hX hbl hbA (by omega) (by omega) dL_law_600 ?_
  refine g_aload_n h 0 dL_law_601 rfl rfl ?_
  refine g_iload_n h 3 dL_law_602 rfl rfl ?_
  refine g_iconst h (nI 3) dL_law_603 (by decide) ?_
  refine g_iaddN h dL_law_604 ?_
  refine g_scr h hX hbl hbA (by omega) (by omega) dL_law_605 ?_
  refine g_callV2 (dC b) h [] (C_both (xL X) E _ hI hR.1 (xs (i + 1)) (xs (i + 2)) (xs (i + 3))) cf_L_73 cv_X5_both dL_law_606 rfl ez rfl rfl (Nat.le_of_ble_eq_true rfl) ⟨(Nat.le_of_ble_eq_true rfl), (Nat.le_of_ble_eq_true rfl)⟩ ⟨by show k + 0 ≤ 600000; omega, by show n + 0 ≤ 7302250; omega⟩ ?_
  rintro _ s1 ⟨rfl, hp1⟩ hs1 hd1
  have hR1 := hR.c hp1 hs1 hd1
  obtain ⟨fb, eb⟩ := hR1.b
  refine g_aload_n h 2 dL_law_609 rfl rfl ?_
  refine g_aload_n h 0 dL_law_610 rfl rfl ?_
  refine g_iload_n h 3 dL_law_611 rfl rfl ?_
  refine g_iconst h (nI 1) dL_law_612 (by decide) ?_
  refine g_iaddN h dL_law_613 ?_
  refine g_scr h hX hbl hbA (by omega) (by omega) dL_law_614 ?_
  refine g_aload_n h 0 dL_law_615 rfl rfl ?_
  refine g_iload_n h 3 dL_law_616 rfl rfl ?_
  refine g_iconst h (nI 2) dL_law_617 (by decide) ?_
  refine g_iaddN h dL_law_618 ?_
  refine g_scr h hX hbl hbA (by omega) (by omega) dL_law_619 ?_
  refine g_aload_n h 0 dL_law_620 rfl rfl ?_
  refine g_iload_n h 3 dL_law_621 rfl rfl ?_
  refine g_iconst h (nI 3) dL_law_622 (by decide) ?_
  refine g_iaddN h dL_law_623 ?_
  refine g_scr h hX hbl hbA (by omega) (by omega) dL_law_624 ?_
  refine g_callV2 (dM b) h [_] (D_both (xL X) E _ hI hR1.2.1 (xs (i + 1)) (xs (i + 2)) (xs (i + 3))) cf_L_76 cv_X6_both dL_law_625 rfl eb rfl rfl (Nat.le_of_ble_eq_true rfl) ⟨(Nat.le_of_ble_eq_true rfl), (Nat.le_of_ble_eq_true rfl)⟩ ⟨by show k + 0 + 0 ≤ 600000; omega, by show n + 0 + 0 ≤ 7302250; omega⟩ ?_
  rintro _ s2 ⟨rfl, hp2⟩ hs2 hd2
  have hR2 := hR1.m hp2 hs2
  refine g_icmp_eq h 1004 dL_law_628 (by decide) (fun _ => ?_) (fun c => absurd rfl c)
  refine g_widen (k' := k + 1) (n' := n + 4) (by show k + 0 + 0 ≤ k + 1; omega) (by show n + 0 + 0 ≤ n + 4; omega) ?_
  exact kk _ hR2
set_option maxRecDepth 100000 in
set_option maxHeartbeats 4000000 in
theorem law_may {X : CX} {E : EnvD} {A : Nat → Prop} {Q : State → Prop} {b0 L z b i k n : Nat} {xs : Nat → Int32} {S : PSt} {σ : Sto} (h : OK X E cL_law RL 4 room_1) (hX : va_X b0 L xs (xS X) (xS X).heap) (hbl : b0 < (xS X).heap.size) (hbA : ¬ A b0) (hi : i + 5 ≤ L) (hL : L ≤ 2560) (hk : k + 1 ≤ 600000) (hn : n + 4 ≤ 7302250) (hI : Inv S) (hR : LI E z b S S σ) (kk : ∀ σ', LI E z b (opMay S (xs (i + 1)) (xs (i + 2))).2 (opMay S (xs (i + 1)) (xs (i + 2))).2 σ' → G X E 4 A Q (k + 1) (n + 4) 1004 [some (.ref b0), some (.ref z), some (.ref b), some (.int (nI i))] [] σ') : G X E 4 A Q k n 633 [some (.ref b0), some (.ref z), some (.ref b), some (.int (nI i))] [] σ := by
  obtain ⟨fz, ez⟩ := hR.z
  refine g_aload_n h 1 dL_law_633 rfl rfl ?_
  refine g_aload_n h 0 dL_law_634 rfl rfl ?_
  refine g_iload_n h 3 dL_law_635 rfl rfl ?_
  refine g_iconst h (nI 1) dL_law_636 (by decide) ?_
  refine g_iaddN h dL_law_637 ?_
  refine g_scr h hX hbl hbA (by omega) (by omega) dL_law_638 ?_
  refine g_aload_n h 0 dL_law_639 rfl rfl ?_
  refine g_iload_n h 3 dL_law_640 rfl rfl ?_
  refine g_iconst h (nI 2) dL_law_641 (by decide) ?_
  refine g_iaddN h dL_law_642 ?_
  refine g_scr h hX hbl hbA (by omega) (by omega) dL_law_643 ?_
  refine g_callV2 (dC b) h [] (C_may (xL X) E _ hI hR.1 (xs (i + 1)) (xs (i + 2))) cf_L_77 cv_X5_may dL_law_644 rfl ez rfl rfl (Nat.le_of_ble_eq_true rfl) ⟨(Nat.le_of_ble_eq_true rfl), (Nat.le_of_ble_eq_true rfl)⟩ ⟨by show k + 0 ≤ 600000; omega, by show n + 0 ≤ 7302250; omega⟩ ?_
  rintro _ s1 ⟨rfl, hp1⟩ hs1 hd1
  have hR1 := hR.c hp1 hs1 hd1
  obtain ⟨fb, eb⟩ := hR1.b
  refine g_aload_n h 2 dL_law_647 rfl rfl ?_
  refine g_aload_n h 0 dL_law_648 rfl rfl ?_
  refine g_iload_n h 3 dL_law_649 rfl rfl ?_
  refine g_iconst h (nI 1) dL_law_650 (by decide) ?_
  refine g_iaddN h dL_law_651 ?_
  refine g_scr h hX hbl hbA (by omega) (by omega) dL_law_652 ?_
  refine g_aload_n h 0 dL_law_653 rfl rfl ?_
  refine g_iload_n h 3 dL_law_654 rfl rfl ?_
  refine g_iconst h (nI 2) dL_law_655 (by decide) ?_
  refine g_iaddN h dL_law_656 ?_
  refine g_scr h hX hbl hbA (by omega) (by omega) dL_law_657 ?_
  refine g_callV2 (dM b) h [_] (D_may (xL X) E _ hI hR1.2.1 (xs (i + 1)) (xs (i + 2))) cf_L_80 cv_X6_may dL_law_658 rfl eb rfl rfl (Nat.le_of_ble_eq_true rfl) ⟨(Nat.le_of_ble_eq_true rfl), (Nat.le_of_ble_eq_true rfl)⟩ ⟨by show k + 0 + 0 ≤ 600000; omega, by show n + 0 + 0 ≤ 7302250; omega⟩ ?_
  rintro _ s2 ⟨rfl, hp2⟩ hs2 hd2
  have hR2 := hR1.m hp2 hs2
  refine g_icmp_eq h 1004 dL_law_661 (by decide) (fun _ => ?_) (fun c => absurd rfl c)
  refine g_widen (k' := k + 1) (n' := n + 4) (by show k + 0 + 0 ≤ k + 1; omega) (by show n + 0 + 0 ≤ n + 4; omega) ?_
  exact kk _ hR2
set_option maxRecDepth 100000 in
set_option maxHeartbeats 4000000 in
theorem law_mark {X : CX} {E : EnvD} {A : Nat → Prop} {Q : State → Prop} {b0 L z b i k n : Nat} {xs : Nat → Int32} {S : PSt} {σ : Sto} (h : OK X E cL_law RL 4 room_1) (hX : va_X b0 L xs (xS X) (xS X).heap) (hbl : b0 < (xS X).heap.size) (hbA : ¬ A b0) (hi : i + 5 ≤ L) (hL : L ≤ 2560) (hk : k + 1 ≤ 600000) (hn : n + 4 ≤ 7302250) (hI : Inv S) (hR : LI E z b S S σ) (kk : ∀ σ', LI E z b (opMark S (xs (i + 1)) (xs (i + 2))).2 (opMark S (xs (i + 1)) (xs (i + 2))).2 σ' → G X E 4 A Q (k + 1) (n + 4) 1004 [some (.ref b0), some (.ref z), some (.ref b), some (.int (nI i))] [] σ') : G X E 4 A Q k n 666 [some (.ref b0), some (.ref z), some (.ref b), some (.int (nI i))] [] σ := by
  obtain ⟨fz, ez⟩ := hR.z
  refine g_aload_n h 1 dL_law_666 rfl rfl ?_
  refine g_aload_n h 0 dL_law_667 rfl rfl ?_
  refine g_iload_n h 3 dL_law_668 rfl rfl ?_
  refine g_iconst h (nI 1) dL_law_669 (by decide) ?_
  refine g_iaddN h dL_law_670 ?_
  refine g_scr h hX hbl hbA (by omega) (by omega) dL_law_671 ?_
  refine g_aload_n h 0 dL_law_672 rfl rfl ?_
  refine g_iload_n h 3 dL_law_673 rfl rfl ?_
  refine g_iconst h (nI 2) dL_law_674 (by decide) ?_
  refine g_iaddN h dL_law_675 ?_
  refine g_scr h hX hbl hbA (by omega) (by omega) dL_law_676 ?_
  refine g_callV2 (dC b) h [] (C_mark (xL X) E _ hI hR.1 (xs (i + 1)) (xs (i + 2))) cf_L_81 cv_X5_mark dL_law_677 rfl ez rfl rfl (Nat.le_of_ble_eq_true rfl) ⟨(Nat.le_of_ble_eq_true rfl), (Nat.le_of_ble_eq_true rfl)⟩ ⟨by show k + 0 ≤ 600000; omega, by show n + 0 ≤ 7302250; omega⟩ ?_
  rintro _ s1 ⟨rfl, hp1⟩ hs1 hd1
  have hR1 := hR.c hp1 hs1 hd1
  obtain ⟨fb, eb⟩ := hR1.b
  refine g_aload_n h 2 dL_law_680 rfl rfl ?_
  refine g_aload_n h 0 dL_law_681 rfl rfl ?_
  refine g_iload_n h 3 dL_law_682 rfl rfl ?_
  refine g_iconst h (nI 1) dL_law_683 (by decide) ?_
  refine g_iaddN h dL_law_684 ?_
  refine g_scr h hX hbl hbA (by omega) (by omega) dL_law_685 ?_
  refine g_aload_n h 0 dL_law_686 rfl rfl ?_
  refine g_iload_n h 3 dL_law_687 rfl rfl ?_
  refine g_iconst h (nI 2) dL_law_688 (by decide) ?_
  refine g_iaddN h dL_law_689 ?_
  refine g_scr h hX hbl hbA (by omega) (by omega) dL_law_690 ?_
  refine g_callV2 (dM b) h [_] (D_mark (xL X) E _ hI hR1.2.1 (xs (i + 1)) (xs (i + 2))) cf_L_84 cv_X6_mark dL_law_691 rfl eb rfl rfl (Nat.le_of_ble_eq_true rfl) ⟨(Nat.le_of_ble_eq_true rfl), (Nat.le_of_ble_eq_true rfl)⟩ ⟨by show k + 0 + 0 ≤ 600000; omega, by show n + 0 + 0 ≤ 7302250; omega⟩ ?_
  rintro _ s2 ⟨rfl, hp2⟩ hs2 hd2
  have hR2 := hR1.m hp2 hs2
  refine g_icmp_eq h 1004 dL_law_694 (by decide) (fun _ => ?_) (fun c => absurd rfl c)
  refine g_widen (k' := k + 1) (n' := n + 4) (by show k + 0 + 0 ≤ k + 1; omega) (by show n + 0 + 0 ≤ n + 4; omega) ?_
  exact kk _ hR2
set_option maxRecDepth 100000 in
set_option maxHeartbeats 4000000 in
theorem law_rule {X : CX} {E : EnvD} {A : Nat → Prop} {Q : State → Prop} {b0 L z b i k n : Nat} {xs : Nat → Int32} {S : PSt} {σ : Sto} (h : OK X E cL_law RL 4 room_1) (hX : va_X b0 L xs (xS X) (xS X).heap) (hbl : b0 < (xS X).heap.size) (hbA : ¬ A b0) (hi : i + 5 ≤ L) (hL : L ≤ 2560) (hk : k + 1 ≤ 600000) (hn : n + 4 ≤ 7302250) (hI : Inv S) (hR : LI E z b S S σ) (kk : ∀ σ', LI E z b (opRule S (xs (i + 1)) (xs (i + 2)) (xs (i + 3)) (xs (i + 4))).2 (opRule S (xs (i + 1)) (xs (i + 2)) (xs (i + 3)) (xs (i + 4))).2 σ' → G X E 4 A Q (k + 1) (n + 4) 1004 [some (.ref b0), some (.ref z), some (.ref b), some (.int (nI i))] [] σ') : G X E 4 A Q k n 699 [some (.ref b0), some (.ref z), some (.ref b), some (.int (nI i))] [] σ := by
  obtain ⟨fz, ez⟩ := hR.z
  refine g_aload_n h 1 dL_law_699 rfl rfl ?_
  refine g_aload_n h 0 dL_law_700 rfl rfl ?_
  refine g_iload_n h 3 dL_law_701 rfl rfl ?_
  refine g_iconst h (nI 1) dL_law_702 (by decide) ?_
  refine g_iaddN h dL_law_703 ?_
  refine g_scr h hX hbl hbA (by omega) (by omega) dL_law_704 ?_
  refine g_aload_n h 0 dL_law_705 rfl rfl ?_
  refine g_iload_n h 3 dL_law_706 rfl rfl ?_
  refine g_iconst h (nI 2) dL_law_707 (by decide) ?_
  refine g_iaddN h dL_law_708 ?_
  refine g_scr h hX hbl hbA (by omega) (by omega) dL_law_709 ?_
  refine g_aload_n h 0 dL_law_710 rfl rfl ?_
  refine g_iload_n h 3 dL_law_711 rfl rfl ?_
  refine g_iconst h (nI 3) dL_law_712 (by decide) ?_
  refine g_iaddN h dL_law_713 ?_
  refine g_scr h hX hbl hbA (by omega) (by omega) dL_law_714 ?_
  refine g_aload_n h 0 dL_law_715 rfl rfl ?_
  refine g_iload_n h 3 dL_law_716 rfl rfl ?_
  refine g_iconst h (nI 4) dL_law_717 (by decide) ?_
  refine g_iaddN h dL_law_718 ?_
  refine g_scr h hX hbl hbA (by omega) (by omega) dL_law_719 ?_
  refine g_callV2 (dC b) h [] (C_rule (xL X) E _ hI hR.1 (xs (i + 1)) (xs (i + 2)) (xs (i + 3)) (xs (i + 4))) cf_L_85 cv_X5_rule dL_law_720 rfl ez rfl rfl (Nat.le_of_ble_eq_true rfl) ⟨(Nat.le_of_ble_eq_true rfl), (Nat.le_of_ble_eq_true rfl)⟩ ⟨by show k + 1 ≤ 600000; omega, by show n + 4 ≤ 7302250; omega⟩ ?_
  rintro _ s1 ⟨rfl, hp1⟩ hs1 hd1
  have hR1 := hR.c hp1 hs1 hd1
  obtain ⟨fb, eb⟩ := hR1.b
  refine g_aload_n h 2 dL_law_723 rfl rfl ?_
  refine g_aload_n h 0 dL_law_724 rfl rfl ?_
  refine g_iload_n h 3 dL_law_725 rfl rfl ?_
  refine g_iconst h (nI 1) dL_law_726 (by decide) ?_
  refine g_iaddN h dL_law_727 ?_
  refine g_scr h hX hbl hbA (by omega) (by omega) dL_law_728 ?_
  refine g_aload_n h 0 dL_law_729 rfl rfl ?_
  refine g_iload_n h 3 dL_law_730 rfl rfl ?_
  refine g_iconst h (nI 2) dL_law_731 (by decide) ?_
  refine g_iaddN h dL_law_732 ?_
  refine g_scr h hX hbl hbA (by omega) (by omega) dL_law_733 ?_
  refine g_aload_n h 0 dL_law_734 rfl rfl ?_
  refine g_iload_n h 3 dL_law_735 rfl rfl ?_
  refine g_iconst h (nI 3) dL_law_736 (by decide) ?_
  refine g_iaddN h dL_law_737 ?_
  refine g_scr h hX hbl hbA (by omega) (by omega) dL_law_738 ?_
  refine g_aload_n h 0 dL_law_739 rfl rfl ?_
  refine g_iload_n h 3 dL_law_740 rfl rfl ?_
  refine g_iconst h (nI 4) dL_law_741 (by decide) ?_
  refine g_iaddN h dL_law_742 ?_
  refine g_scr h hX hbl hbA (by omega) (by omega) dL_law_743 ?_
  refine g_callV2 (dM b) h [_] (D_rule (xL X) E _ hI hR1.2.1 (xs (i + 1)) (xs (i + 2)) (xs (i + 3)) (xs (i + 4))) cf_L_89 cv_X6_rule dL_law_744 rfl eb rfl rfl (Nat.le_of_ble_eq_true rfl) ⟨(Nat.le_of_ble_eq_true rfl), (Nat.le_of_ble_eq_true rfl)⟩ ⟨by show k + 1 + 0 ≤ 600000; omega, by show n + 4 + 0 ≤ 7302250; omega⟩ ?_
  rintro _ s2 ⟨rfl, hp2⟩ hs2 hd2
  have hR2 := hR1.m hp2 hs2
  refine g_icmp_eq h 1004 dL_law_747 (by decide) (fun _ => ?_) (fun c => absurd rfl c)
  refine g_widen (k' := k + 1) (n' := n + 4) (by show k + 1 + 0 ≤ k + 1; omega) (by show n + 4 + 0 ≤ n + 4; omega) ?_
  exact kk _ hR2
set_option maxRecDepth 100000 in
set_option maxHeartbeats 4000000 in
theorem law_cut {X : CX} {E : EnvD} {A : Nat → Prop} {Q : State → Prop} {b0 L z b i k n : Nat} {xs : Nat → Int32} {S : PSt} {σ : Sto} (h : OK X E cL_law RL 4 room_1) (hX : va_X b0 L xs (xS X) (xS X).heap) (hbl : b0 < (xS X).heap.size) (hbA : ¬ A b0) (hi : i + 5 ≤ L) (hL : L ≤ 2560) (hk : k + 1 ≤ 600000) (hn : n + 4 ≤ 7302250) (hI : Inv S) (hR : LI E z b S S σ) (kk : ∀ σ', LI E z b (opCut S (xs (i + 1)) (xs (i + 2)) (xs (i + 3))).2 (opCut S (xs (i + 1)) (xs (i + 2)) (xs (i + 3))).2 σ' → G X E 4 A Q (k + 1) (n + 4) 1004 [some (.ref b0), some (.ref z), some (.ref b), some (.int (nI i))] [] σ') : G X E 4 A Q k n 752 [some (.ref b0), some (.ref z), some (.ref b), some (.int (nI i))] [] σ := by
  obtain ⟨fz, ez⟩ := hR.z
  refine g_aload_n h 1 dL_law_752 rfl rfl ?_
  refine g_aload_n h 0 dL_law_753 rfl rfl ?_
  refine g_iload_n h 3 dL_law_754 rfl rfl ?_
  refine g_iconst h (nI 1) dL_law_755 (by decide) ?_
  refine g_iaddN h dL_law_756 ?_
  refine g_scr h hX hbl hbA (by omega) (by omega) dL_law_757 ?_
  refine g_aload_n h 0 dL_law_758 rfl rfl ?_
  refine g_iload_n h 3 dL_law_759 rfl rfl ?_
  refine g_iconst h (nI 2) dL_law_760 (by decide) ?_
  refine g_iaddN h dL_law_761 ?_
  refine g_scr h hX hbl hbA (by omega) (by omega) dL_law_762 ?_
  refine g_aload_n h 0 dL_law_763 rfl rfl ?_
  refine g_iload_n h 3 dL_law_764 rfl rfl ?_
  refine g_iconst h (nI 3) dL_law_765 (by decide) ?_
  refine g_iaddN h dL_law_766 ?_
  refine g_scr h hX hbl hbA (by omega) (by omega) dL_law_767 ?_
  refine g_callV2 (dC b) h [] (C_cut (xL X) E _ hI hR.1 (xs (i + 1)) (xs (i + 2)) (xs (i + 3))) cf_L_90 cv_X5_cut dL_law_768 rfl ez rfl rfl (Nat.le_of_ble_eq_true rfl) ⟨(Nat.le_of_ble_eq_true rfl), (Nat.le_of_ble_eq_true rfl)⟩ ⟨by show k + 0 ≤ 600000; omega, by show n + 0 ≤ 7302250; omega⟩ ?_
  rintro _ s1 ⟨rfl, hp1⟩ hs1 hd1
  have hR1 := hR.c hp1 hs1 hd1
  obtain ⟨fb, eb⟩ := hR1.b
  refine g_aload_n h 2 dL_law_771 rfl rfl ?_
  refine g_aload_n h 0 dL_law_772 rfl rfl ?_
  refine g_iload_n h 3 dL_law_773 rfl rfl ?_
  refine g_iconst h (nI 1) dL_law_774 (by decide) ?_
  refine g_iaddN h dL_law_775 ?_
  refine g_scr h hX hbl hbA (by omega) (by omega) dL_law_776 ?_
  refine g_aload_n h 0 dL_law_777 rfl rfl ?_
  refine g_iload_n h 3 dL_law_778 rfl rfl ?_
  refine g_iconst h (nI 2) dL_law_779 (by decide) ?_
  refine g_iaddN h dL_law_780 ?_
  refine g_scr h hX hbl hbA (by omega) (by omega) dL_law_781 ?_
  refine g_aload_n h 0 dL_law_782 rfl rfl ?_
  refine g_iload_n h 3 dL_law_783 rfl rfl ?_
  refine g_iconst h (nI 3) dL_law_784 (by decide) ?_
  refine g_iaddN h dL_law_785 ?_
  refine g_scr h hX hbl hbA (by omega) (by omega) dL_law_786 ?_
  refine g_callV2 (dM b) h [_] (D_cut (xL X) E _ hI hR1.2.1 (xs (i + 1)) (xs (i + 2)) (xs (i + 3))) cf_L_93 cv_X6_cut dL_law_787 rfl eb rfl rfl (Nat.le_of_ble_eq_true rfl) ⟨(Nat.le_of_ble_eq_true rfl), (Nat.le_of_ble_eq_true rfl)⟩ ⟨by show k + 0 + 0 ≤ 600000; omega, by show n + 0 + 0 ≤ 7302250; omega⟩ ?_
  rintro _ s2 ⟨rfl, hp2⟩ hs2 hd2
  have hR2 := hR1.m hp2 hs2
  refine g_icmp_eq h 1004 dL_law_790 (by decide) (fun _ => ?_) (fun c => absurd rfl c)
  refine g_widen (k' := k + 1) (n' := n + 4) (by show k + 0 + 0 ≤ k + 1; omega) (by show n + 0 + 0 ≤ n + 4; omega) ?_
  exact kk _ hR2
set_option maxRecDepth 100000 in
set_option maxHeartbeats 4000000 in
theorem law_fit {X : CX} {E : EnvD} {A : Nat → Prop} {Q : State → Prop} {b0 L z b i k n : Nat} {xs : Nat → Int32} {S : PSt} {σ : Sto} (h : OK X E cL_law RL 4 room_1) (hX : va_X b0 L xs (xS X) (xS X).heap) (hbl : b0 < (xS X).heap.size) (hbA : ¬ A b0) (hi : i + 5 ≤ L) (hL : L ≤ 2560) (hk : k + 1 ≤ 600000) (hn : n + 4 ≤ 7302250) (hI : Inv S) (hR : LI E z b S S σ) (kk : ∀ σ', LI E z b (opFit S (xs (i + 1)) (xs (i + 2)) (xs (i + 3)) (xs (i + 4))).2 (opFit S (xs (i + 1)) (xs (i + 2)) (xs (i + 3)) (xs (i + 4))).2 σ' → G X E 4 A Q (k + 1) (n + 4) 1004 [some (.ref b0), some (.ref z), some (.ref b), some (.int (nI i))] [] σ') : G X E 4 A Q k n 795 [some (.ref b0), some (.ref z), some (.ref b), some (.int (nI i))] [] σ := by
  obtain ⟨fz, ez⟩ := hR.z
  refine g_aload_n h 1 dL_law_795 rfl rfl ?_
  refine g_aload_n h 0 dL_law_796 rfl rfl ?_
  refine g_iload_n h 3 dL_law_797 rfl rfl ?_
  refine g_iconst h (nI 1) dL_law_798 (by decide) ?_
  refine g_iaddN h dL_law_799 ?_
  refine g_scr h hX hbl hbA (by omega) (by omega) dL_law_800 ?_
  refine g_aload_n h 0 dL_law_801 rfl rfl ?_
  refine g_iload_n h 3 dL_law_802 rfl rfl ?_
  refine g_iconst h (nI 2) dL_law_803 (by decide) ?_
  refine g_iaddN h dL_law_804 ?_
  refine g_scr h hX hbl hbA (by omega) (by omega) dL_law_805 ?_
  refine g_aload_n h 0 dL_law_806 rfl rfl ?_
  refine g_iload_n h 3 dL_law_807 rfl rfl ?_
  refine g_iconst h (nI 3) dL_law_808 (by decide) ?_
  refine g_iaddN h dL_law_809 ?_
  refine g_scr h hX hbl hbA (by omega) (by omega) dL_law_810 ?_
  refine g_aload_n h 0 dL_law_811 rfl rfl ?_
  refine g_iload_n h 3 dL_law_812 rfl rfl ?_
  refine g_iconst h (nI 4) dL_law_813 (by decide) ?_
  refine g_iaddN h dL_law_814 ?_
  refine g_scr h hX hbl hbA (by omega) (by omega) dL_law_815 ?_
  refine g_callV2 (dC b) h [] (C_fit (xL X) E _ hI hR.1 (xs (i + 1)) (xs (i + 2)) (xs (i + 3)) (xs (i + 4))) cf_L_94 cv_X5_fit dL_law_816 rfl ez rfl rfl (Nat.le_of_ble_eq_true rfl) ⟨(Nat.le_of_ble_eq_true rfl), (Nat.le_of_ble_eq_true rfl)⟩ ⟨by show k + 0 ≤ 600000; omega, by show n + 0 ≤ 7302250; omega⟩ ?_
  rintro _ s1 ⟨rfl, hp1⟩ hs1 hd1
  have hR1 := hR.c hp1 hs1 hd1
  obtain ⟨fb, eb⟩ := hR1.b
  refine g_aload_n h 2 dL_law_819 rfl rfl ?_
  refine g_aload_n h 0 dL_law_820 rfl rfl ?_
  refine g_iload_n h 3 dL_law_821 rfl rfl ?_
  refine g_iconst h (nI 1) dL_law_822 (by decide) ?_
  refine g_iaddN h dL_law_823 ?_
  refine g_scr h hX hbl hbA (by omega) (by omega) dL_law_824 ?_
  refine g_aload_n h 0 dL_law_825 rfl rfl ?_
  refine g_iload_n h 3 dL_law_826 rfl rfl ?_
  refine g_iconst h (nI 2) dL_law_827 (by decide) ?_
  refine g_iaddN h dL_law_828 ?_
  refine g_scr h hX hbl hbA (by omega) (by omega) dL_law_829 ?_
  refine g_aload_n h 0 dL_law_830 rfl rfl ?_
  refine g_iload_n h 3 dL_law_831 rfl rfl ?_
  refine g_iconst h (nI 3) dL_law_832 (by decide) ?_
  refine g_iaddN h dL_law_833 ?_
  refine g_scr h hX hbl hbA (by omega) (by omega) dL_law_834 ?_
  refine g_aload_n h 0 dL_law_835 rfl rfl ?_
  refine g_iload_n h 3 dL_law_836 rfl rfl ?_
  refine g_iconst h (nI 4) dL_law_837 (by decide) ?_
  refine g_iaddN h dL_law_838 ?_
  refine g_scr h hX hbl hbA (by omega) (by omega) dL_law_839 ?_
  refine g_callV2 (dM b) h [_] (D_fit (xL X) E _ hI hR1.2.1 (xs (i + 1)) (xs (i + 2)) (xs (i + 3)) (xs (i + 4))) cf_L_97 cv_X6_fit dL_law_840 rfl eb rfl rfl (Nat.le_of_ble_eq_true rfl) ⟨(Nat.le_of_ble_eq_true rfl), (Nat.le_of_ble_eq_true rfl)⟩ ⟨by show k + 0 + 0 ≤ 600000; omega, by show n + 0 + 0 ≤ 7302250; omega⟩ ?_
  rintro _ s2 ⟨rfl, hp2⟩ hs2 hd2
  have hR2 := hR1.m hp2 hs2
  refine g_icmp_eq h 1004 dL_law_843 (by decide) (fun _ => ?_) (fun c => absurd rfl c)
  refine g_widen (k' := k + 1) (n' := n + 4) (by show k + 0 + 0 ≤ k + 1; omega) (by show n + 0 + 0 ≤ n + 4; omega) ?_
  exact kk _ hR2
set_option maxRecDepth 100000 in
set_option maxHeartbeats 4000000 in
theorem law_tour {X : CX} {E : EnvD} {A : Nat → Prop} {Q : State → Prop} {b0 L z b i k n : Nat} {xs : Nat → Int32} {S : PSt} {σ : Sto} (h : OK X E cL_law RL 4 room_1) (hX : va_X b0 L xs (xS X) (xS X).heap) (hbl : b0 < (xS X).heap.size) (hbA : ¬ A b0) (hi : i + 5 ≤ L) (hL : L ≤ 2560) (hk : k + 1 ≤ 600000) (hn : n + 4 ≤ 7302250) (hI : Inv S) (hR : LI E z b S S σ) (kk : ∀ σ', LI E z b (opTour S (xs (i + 1)) (xs (i + 2)) (xs (i + 3)) (xs (i + 4))).2 (opTour S (xs (i + 1)) (xs (i + 2)) (xs (i + 3)) (xs (i + 4))).2 σ' → G X E 4 A Q (k + 1) (n + 4) 1004 [some (.ref b0), some (.ref z), some (.ref b), some (.int (nI i))] [] σ') : G X E 4 A Q k n 848 [some (.ref b0), some (.ref z), some (.ref b), some (.int (nI i))] [] σ := by
  obtain ⟨fz, ez⟩ := hR.z
  refine g_aload_n h 1 dL_law_848 rfl rfl ?_
  refine g_aload_n h 0 dL_law_849 rfl rfl ?_
  refine g_iload_n h 3 dL_law_850 rfl rfl ?_
  refine g_iconst h (nI 1) dL_law_851 (by decide) ?_
  refine g_iaddN h dL_law_852 ?_
  refine g_scr h hX hbl hbA (by omega) (by omega) dL_law_853 ?_
  refine g_aload_n h 0 dL_law_854 rfl rfl ?_
  refine g_iload_n h 3 dL_law_855 rfl rfl ?_
  refine g_iconst h (nI 2) dL_law_856 (by decide) ?_
  refine g_iaddN h dL_law_857 ?_
  refine g_scr h hX hbl hbA (by omega) (by omega) dL_law_858 ?_
  refine g_aload_n h 0 dL_law_859 rfl rfl ?_
  refine g_iload_n h 3 dL_law_860 rfl rfl ?_
  refine g_iconst h (nI 3) dL_law_861 (by decide) ?_
  refine g_iaddN h dL_law_862 ?_
  refine g_scr h hX hbl hbA (by omega) (by omega) dL_law_863 ?_
  refine g_aload_n h 0 dL_law_864 rfl rfl ?_
  refine g_iload_n h 3 dL_law_865 rfl rfl ?_
  refine g_iconst h (nI 4) dL_law_866 (by decide) ?_
  refine g_iaddN h dL_law_867 ?_
  refine g_scr h hX hbl hbA (by omega) (by omega) dL_law_868 ?_
  refine g_callV2 (dC b) h [] (C_tour (xL X) E _ hI hR.1 (xs (i + 1)) (xs (i + 2)) (xs (i + 3)) (xs (i + 4))) cf_L_98 cv_X5_tour dL_law_869 rfl ez rfl rfl (Nat.le_of_ble_eq_true rfl) ⟨(Nat.le_of_ble_eq_true rfl), (Nat.le_of_ble_eq_true rfl)⟩ ⟨by show k + 0 ≤ 600000; omega, by show n + 0 ≤ 7302250; omega⟩ ?_
  rintro _ s1 ⟨rfl, hp1⟩ hs1 hd1
  have hR1 := hR.c hp1 hs1 hd1
  obtain ⟨fb, eb⟩ := hR1.b
  refine g_aload_n h 2 dL_law_872 rfl rfl ?_
  refine g_aload_n h 0 dL_law_873 rfl rfl ?_
  refine g_iload_n h 3 dL_law_874 rfl rfl ?_
  refine g_iconst h (nI 1) dL_law_875 (by decide) ?_
  refine g_iaddN h dL_law_876 ?_
  refine g_scr h hX hbl hbA (by omega) (by omega) dL_law_877 ?_
  refine g_aload_n h 0 dL_law_878 rfl rfl ?_
  refine g_iload_n h 3 dL_law_879 rfl rfl ?_
  refine g_iconst h (nI 2) dL_law_880 (by decide) ?_
  refine g_iaddN h dL_law_881 ?_
  refine g_scr h hX hbl hbA (by omega) (by omega) dL_law_882 ?_
  refine g_aload_n h 0 dL_law_883 rfl rfl ?_
  refine g_iload_n h 3 dL_law_884 rfl rfl ?_
  refine g_iconst h (nI 3) dL_law_885 (by decide) ?_
  refine g_iaddN h dL_law_886 ?_
  refine g_scr h hX hbl hbA (by omega) (by omega) dL_law_887 ?_
  refine g_aload_n h 0 dL_law_888 rfl rfl ?_
  refine g_iload_n h 3 dL_law_889 rfl rfl ?_
  refine g_iconst h (nI 4) dL_law_890 (by decide) ?_
  refine g_iaddN h dL_law_891 ?_
  refine g_scr h hX hbl hbA (by omega) (by omega) dL_law_892 ?_
  refine g_callV2 (dM b) h [_] (D_tour (xL X) E _ hI hR1.2.1 (xs (i + 1)) (xs (i + 2)) (xs (i + 3)) (xs (i + 4))) cf_L_101 cv_X6_tour dL_law_893 rfl eb rfl rfl (Nat.le_of_ble_eq_true rfl) ⟨(Nat.le_of_ble_eq_true rfl), (Nat.le_of_ble_eq_true rfl)⟩ ⟨by show k + 0 + 0 ≤ 600000; omega, by show n + 0 + 0 ≤ 7302250; omega⟩ ?_
  rintro _ s2 ⟨rfl, hp2⟩ hs2 hd2
  have hR2 := hR1.m hp2 hs2
  refine g_icmp_eq h 1004 dL_law_896 (by decide) (fun _ => ?_) (fun c => absurd rfl c)
  refine g_widen (k' := k + 1) (n' := n + 4) (by show k + 0 + 0 ≤ k + 1; omega) (by show n + 0 + 0 ≤ n + 4; omega) ?_
  exact kk _ hR2
set_option maxRecDepth 100000 in
set_option maxHeartbeats 4000000 in
theorem law_town {X : CX} {E : EnvD} {A : Nat → Prop} {Q : State → Prop} {b0 L z b i k n : Nat} {xs : Nat → Int32} {S : PSt} {σ : Sto} (h : OK X E cL_law RL 4 room_1) (hX : va_X b0 L xs (xS X) (xS X).heap) (hbl : b0 < (xS X).heap.size) (hbA : ¬ A b0) (hi : i + 5 ≤ L) (hL : L ≤ 2560) (hk : k + 1 ≤ 600000) (hn : n + 4 ≤ 7302250) (hI : Inv S) (hR : LI E z b S S σ) (kk : ∀ σ', LI E z b (opTown S (xs (i + 1))).2 (opTown S (xs (i + 1))).2 σ' → G X E 4 A Q (k + 1) (n + 4) 1004 [some (.ref b0), some (.ref z), some (.ref b), some (.int (nI i))] [] σ') : G X E 4 A Q k n 901 [some (.ref b0), some (.ref z), some (.ref b), some (.int (nI i))] [] σ := by
  obtain ⟨fz, ez⟩ := hR.z
  refine g_aload_n h 1 dL_law_901 rfl rfl ?_
  refine g_aload_n h 0 dL_law_902 rfl rfl ?_
  refine g_iload_n h 3 dL_law_903 rfl rfl ?_
  refine g_iconst h (nI 1) dL_law_904 (by decide) ?_
  refine g_iaddN h dL_law_905 ?_
  refine g_scr h hX hbl hbA (by omega) (by omega) dL_law_906 ?_
  refine g_callV2 (dC b) h [] (C_town (xL X) E _ hI hR.1 (xs (i + 1))) cf_L_102 cv_X5_town dL_law_907 rfl ez rfl rfl (Nat.le_of_ble_eq_true rfl) ⟨(Nat.le_of_ble_eq_true rfl), (Nat.le_of_ble_eq_true rfl)⟩ ⟨by show k + 0 ≤ 600000; omega, by show n + 0 ≤ 7302250; omega⟩ ?_
  rintro _ s1 ⟨rfl, hp1⟩ hs1 hd1
  have hR1 := hR.c hp1 hs1 hd1
  obtain ⟨fb, eb⟩ := hR1.b
  refine g_aload_n h 2 dL_law_910 rfl rfl ?_
  refine g_aload_n h 0 dL_law_911 rfl rfl ?_
  refine g_iload_n h 3 dL_law_912 rfl rfl ?_
  refine g_iconst h (nI 1) dL_law_913 (by decide) ?_
  refine g_iaddN h dL_law_914 ?_
  refine g_scr h hX hbl hbA (by omega) (by omega) dL_law_915 ?_
  refine g_callV2 (dM b) h [_] (D_town (xL X) E _ hI hR1.2.1 (xs (i + 1))) cf_L_105 cv_X6_town dL_law_916 rfl eb rfl rfl (Nat.le_of_ble_eq_true rfl) ⟨(Nat.le_of_ble_eq_true rfl), (Nat.le_of_ble_eq_true rfl)⟩ ⟨by show k + 0 + 0 ≤ 600000; omega, by show n + 0 + 0 ≤ 7302250; omega⟩ ?_
  rintro _ s2 ⟨rfl, hp2⟩ hs2 hd2
  have hR2 := hR1.m hp2 hs2
  refine g_icmp_eq h 1004 dL_law_919 (by decide) (fun _ => ?_) (fun c => absurd rfl c)
  refine g_widen (k' := k + 1) (n' := n + 4) (by show k + 0 + 0 ≤ k + 1; omega) (by show n + 0 + 0 ≤ n + 4; omega) ?_
  exact kk _ hR2
set_option maxRecDepth 100000 in
set_option maxHeartbeats 4000000 in
theorem law_free {X : CX} {E : EnvD} {A : Nat → Prop} {Q : State → Prop} {b0 L z b i k n : Nat} {xs : Nat → Int32} {S : PSt} {σ : Sto} (h : OK X E cL_law RL 4 room_1) (hX : va_X b0 L xs (xS X) (xS X).heap) (hbl : b0 < (xS X).heap.size) (hbA : ¬ A b0) (hi : i + 5 ≤ L) (hL : L ≤ 2560) (hk : k + 1 ≤ 600000) (hn : n + 4 ≤ 7302250) (hI : Inv S) (hR : LI E z b S S σ) (kk : ∀ σ', LI E z b (opFree S (xs (i + 1)) (xs (i + 2)) (xs (i + 3))).2 (opFree S (xs (i + 1)) (xs (i + 2)) (xs (i + 3))).2 σ' → G X E 4 A Q (k + 1) (n + 4) 1004 [some (.ref b0), some (.ref z), some (.ref b), some (.int (nI i))] [] σ') : G X E 4 A Q k n 924 [some (.ref b0), some (.ref z), some (.ref b), some (.int (nI i))] [] σ := by
  obtain ⟨fz, ez⟩ := hR.z
  refine g_aload_n h 1 dL_law_924 rfl rfl ?_
  refine g_aload_n h 0 dL_law_925 rfl rfl ?_
  refine g_iload_n h 3 dL_law_926 rfl rfl ?_
  refine g_iconst h (nI 1) dL_law_927 (by decide) ?_
  refine g_iaddN h dL_law_928 ?_
  refine g_scr h hX hbl hbA (by omega) (by omega) dL_law_929 ?_
  refine g_aload_n h 0 dL_law_930 rfl rfl ?_
  refine g_iload_n h 3 dL_law_931 rfl rfl ?_
  refine g_iconst h (nI 2) dL_law_932 (by decide) ?_
  refine g_iaddN h dL_law_933 ?_
  refine g_scr h hX hbl hbA (by omega) (by omega) dL_law_934 ?_
  refine g_aload_n h 0 dL_law_935 rfl rfl ?_
  refine g_iload_n h 3 dL_law_936 rfl rfl ?_
  refine g_iconst h (nI 3) dL_law_937 (by decide) ?_
  refine g_iaddN h dL_law_938 ?_
  refine g_scr h hX hbl hbA (by omega) (by omega) dL_law_939 ?_
  refine g_callV2 (dC b) h [] (C_free (xL X) E _ hI hR.1 (xs (i + 1)) (xs (i + 2)) (xs (i + 3))) cf_L_106 cv_X5_free dL_law_940 rfl ez rfl rfl (Nat.le_of_ble_eq_true rfl) ⟨(Nat.le_of_ble_eq_true rfl), (Nat.le_of_ble_eq_true rfl)⟩ ⟨by show k + 0 ≤ 600000; omega, by show n + 0 ≤ 7302250; omega⟩ ?_
  rintro _ s1 ⟨rfl, hp1⟩ hs1 hd1
  have hR1 := hR.c hp1 hs1 hd1
  obtain ⟨fb, eb⟩ := hR1.b
  refine g_aload_n h 2 dL_law_943 rfl rfl ?_
  refine g_aload_n h 0 dL_law_944 rfl rfl ?_
  refine g_iload_n h 3 dL_law_945 rfl rfl ?_
  refine g_iconst h (nI 1) dL_law_946 (by decide) ?_
  refine g_iaddN h dL_law_947 ?_
  refine g_scr h hX hbl hbA (by omega) (by omega) dL_law_948 ?_
  refine g_aload_n h 0 dL_law_949 rfl rfl ?_
  refine g_iload_n h 3 dL_law_950 rfl rfl ?_
  refine g_iconst h (nI 2) dL_law_951 (by decide) ?_
  refine g_iaddN h dL_law_952 ?_
  refine g_scr h hX hbl hbA (by omega) (by omega) dL_law_953 ?_
  refine g_aload_n h 0 dL_law_954 rfl rfl ?_
  refine g_iload_n h 3 dL_law_955 rfl rfl ?_
  refine g_iconst h (nI 3) dL_law_956 (by decide) ?_
  refine g_iaddN h dL_law_957 ?_
  refine g_scr h hX hbl hbA (by omega) (by omega) dL_law_958 ?_
  refine g_callV2 (dM b) h [_] (D_free (xL X) E _ hI hR1.2.1 (xs (i + 1)) (xs (i + 2)) (xs (i + 3))) cf_L_109 cv_X6_free dL_law_959 rfl eb rfl rfl (Nat.le_of_ble_eq_true rfl) ⟨(Nat.le_of_ble_eq_true rfl), (Nat.le_of_ble_eq_true rfl)⟩ ⟨by show k + 0 + 0 ≤ 600000; omega, by show n + 0 + 0 ≤ 7302250; omega⟩ ?_
  rintro _ s2 ⟨rfl, hp2⟩ hs2 hd2
  have hR2 := hR1.m hp2 hs2
  refine g_icmp_eq h 1004 dL_law_962 (by decide) (fun _ => ?_) (fun c => absurd rfl c)
  refine g_widen (k' := k + 1) (n' := n + 4) (by show k + 0 + 0 ≤ k + 1; omega) (by show n + 0 + 0 ≤ n + 4; omega) ?_
  exact kk _ hR2
set_option maxRecDepth 100000 in
set_option maxHeartbeats 4000000 in
theorem law_count {X : CX} {E : EnvD} {A : Nat → Prop} {Q : State → Prop} {b0 L z b i k n : Nat} {xs : Nat → Int32} {S : PSt} {σ : Sto} (h : OK X E cL_law RL 4 room_1) (hX : va_X b0 L xs (xS X) (xS X).heap) (hbl : b0 < (xS X).heap.size) (hbA : ¬ A b0) (hi : i + 5 ≤ L) (hL : L ≤ 2560) (hk : k + 1 ≤ 600000) (hn : n + 4 ≤ 7302250) (hI : Inv S) (hR : LI E z b S S σ) (kk : ∀ σ', LI E z b (opCount S (xs (i + 1))).2 (opCount S (xs (i + 1))).2 σ' → G X E 4 A Q (k + 1) (n + 4) 1004 [some (.ref b0), some (.ref z), some (.ref b), some (.int (nI i))] [] σ') : G X E 4 A Q k n 967 [some (.ref b0), some (.ref z), some (.ref b), some (.int (nI i))] [] σ := by
  obtain ⟨fz, ez⟩ := hR.z
  refine g_aload_n h 1 dL_law_967 rfl rfl ?_
  refine g_aload_n h 0 dL_law_968 rfl rfl ?_
  refine g_iload_n h 3 dL_law_969 rfl rfl ?_
  refine g_iconst h (nI 1) dL_law_970 (by decide) ?_
  refine g_iaddN h dL_law_971 ?_
  refine g_scr h hX hbl hbA (by omega) (by omega) dL_law_972 ?_
  refine g_callV2 (dC b) h [] (C_count (xL X) E _ hI hR.1 (xs (i + 1))) cf_L_110 cv_X5_count dL_law_973 rfl ez rfl rfl (Nat.le_of_ble_eq_true rfl) ⟨(Nat.le_of_ble_eq_true rfl), (Nat.le_of_ble_eq_true rfl)⟩ ⟨by show k + 0 ≤ 600000; omega, by show n + 0 ≤ 7302250; omega⟩ ?_
  rintro _ s1 ⟨rfl, hp1⟩ hs1 hd1
  have hR1 := hR.c hp1 hs1 hd1
  obtain ⟨fb, eb⟩ := hR1.b
  refine g_aload_n h 2 dL_law_976 rfl rfl ?_
  refine g_aload_n h 0 dL_law_977 rfl rfl ?_
  refine g_iload_n h 3 dL_law_978 rfl rfl ?_
  refine g_iconst h (nI 1) dL_law_979 (by decide) ?_
  refine g_iaddN h dL_law_980 ?_
  refine g_scr h hX hbl hbA (by omega) (by omega) dL_law_981 ?_
  refine g_callV2 (dM b) h [_] (D_count (xL X) E _ hI hR1.2.1 (xs (i + 1))) cf_L_113 cv_X6_count dL_law_982 rfl eb rfl rfl (Nat.le_of_ble_eq_true rfl) ⟨(Nat.le_of_ble_eq_true rfl), (Nat.le_of_ble_eq_true rfl)⟩ ⟨by show k + 0 + 0 ≤ 600000; omega, by show n + 0 + 0 ≤ 7302250; omega⟩ ?_
  rintro _ s2 ⟨rfl, hp2⟩ hs2 hd2
  have hR2 := hR1.m hp2 hs2
  refine g_icmp_eq h 1004 dL_law_985 (by decide) (fun _ => ?_) (fun c => absurd rfl c)
  refine g_widen (k' := k + 1) (n' := n + 4) (by show k + 0 + 0 ≤ k + 1; omega) (by show n + 0 + 0 ≤ n + 4; omega) ?_
  exact kk _ hR2
set_option maxRecDepth 100000 in
set_option maxHeartbeats 4000000 in
theorem law_digest {X : CX} {E : EnvD} {A : Nat → Prop} {Q : State → Prop} {b0 L z b i k n : Nat} {xs : Nat → Int32} {S : PSt} {σ : Sto} (h : OK X E cL_law RL 4 room_1) (hX : va_X b0 L xs (xS X) (xS X).heap) (hbl : b0 < (xS X).heap.size) (hbA : ¬ A b0) (hi : i + 5 ≤ L) (hL : L ≤ 2560) (hk : k + 1 ≤ 600000) (hn : n + 4 ≤ 7302250) (hI : Inv S) (hR : LI E z b S S σ) (kk : ∀ σ', LI E z b S S σ' → G X E 4 A Q (k + 1) (n + 4) 1004 [some (.ref b0), some (.ref z), some (.ref b), some (.int (nI i))] [] σ') : G X E 4 A Q k n 990 [some (.ref b0), some (.ref z), some (.ref b), some (.int (nI i))] [] σ := by
  obtain ⟨fz, ez⟩ := hR.z
  refine g_aload_n h 1 dL_law_990 rfl rfl ?_
  refine g_callV2 (dC b) h [] (C_digest (xL X) E _ hI hR.1) cf_L_114 cv_X5_digest dL_law_991 rfl ez rfl rfl (Nat.le_of_ble_eq_true rfl) ⟨(Nat.le_of_ble_eq_true rfl), (Nat.le_of_ble_eq_true rfl)⟩ ⟨by show k + 0 ≤ 600000; omega, by show n + 0 ≤ 7302250; omega⟩ ?_
  rintro _ s1 ⟨rfl, hp1⟩ hs1 hd1
  have hR1 := hR.c hp1 hs1 hd1
  obtain ⟨fb, eb⟩ := hR1.b
  refine g_aload_n h 2 dL_law_994 rfl rfl ?_
  refine g_callV2 (dM b) h [_] (D_digest (xL X) E _ hI hR1.2.1) cf_L_118 cv_X6_digest dL_law_995 rfl eb rfl rfl (Nat.le_of_ble_eq_true rfl) ⟨(Nat.le_of_ble_eq_true rfl), (Nat.le_of_ble_eq_true rfl)⟩ ⟨by show k + 0 + 0 ≤ 600000; omega, by show n + 0 + 0 ≤ 7302250; omega⟩ ?_
  rintro _ s2 ⟨rfl, hp2⟩ hs2 hd2
  have hR2 := hR1.m hp2 hs2
  refine g_lcmp h 0 dL_law_998 (lcmp_same _) ?_
  refine g_if_eq h 1004 dL_law_999 (by decide) (fun _ => ?_) (fun c => absurd rfl c)
  refine g_widen (k' := k + 1) (n' := n + 4) (by show k + 0 + 0 ≤ k + 1; omega) (by show n + 0 + 0 ≤ n + 4; omega) ?_
  exact kk _ hR2
