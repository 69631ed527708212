/-! the law: both objects answer alike, call by call -/
theorem lw_more {s i : Nat} (hs : s ≤ 3072) (hi : i ≤ 6144) : nI s - 6 < nI i ↔ s < i + 6 := by
  have e : (nI s - 6 : Int32).toInt = (s : Int) - 6 := by
    rw [Int32.toInt_sub, nI_toInt (by omega), show (6 : Int32).toInt = 6 from rfl]
    exact Int.bmod_eq_of_le (by omega) (by omega)
  rw [Int32.lt_iff_toInt_lt, e, nI_toInt (by omega)]
  omega

set_option maxHeartbeats 40000000 in
theorem L_lawC {G : rn_G} {d : Nat} {κ : Nat × Nat} {Q : Option Value → rn_S → Prop} (hL : rn_Ln G ≤ 3072) (hQ : ∀ m l D, Q (some (.int 1)) (m, l, RF D, 164)) : ∀ (n i : Nat) (z : Int32) (w : WD) (c k : Nat) (ds : Nat → CL) (sl : SL) (el bl : EL) (im : IM) (T : Nat → Nat) (L : Nat) (ac : List Int32) (tp : TP) (mi : Nat → Nat → Int32) (ml : Nat → Nat → Int64) (D : Nat → Nat), rn_Ln G ≤ i + n → i ≤ 6144 → z = nI i → IV w c k ds sl el bl im ac tp → CR w c k ds sl el bl im T L ac tp mi ml D → MR w c k ds sl el bl im T L ac tp mi ml → Run G (d + 31) M_L_law 18 [.ref 1000, .ref 1, .ref 116, .int z] [] (mi, ml, RF D, 164) κ Q := by
  intro n
  induction n with
  | zero =>
    intro i z w c k ds sl el bl im T L ac tp mi ml D hn hi hz hv hc hr
    refine il_3 dL_law_18 ?_
    refine al_0 dL_law_19 ?_
    refine R_alenP (r := 0) dL_law_20 (by decide) rfl ?_
    refine R_bipush (v := 6) dL_law_21 (by decide) ?_
    refine R_isub dL_law_23 ?_
    refine R_icmp_gt (tgt := 1374) dL_law_24 (by decide) (fun c24 => ?_) (fun q => absurd q (not_not_intro (by rw [hz]; exact (lw_more hL hi).mpr (by omega))))
    refine R_iconst (v := 1) dL_law_1374 (by decide) ?_
    refine R_ireturn dL_law_1375 ⟨_, rfl, rfl⟩ ?_
    exact hQ _ _ _
  | succ n ih =>
    intro i z w c k ds sl el bl im T L ac tp mi ml D hn hi hz hv hc hr
    by_cases hm : rn_Ln G < i + 6
    · skip
      refine il_3 dL_law_18 ?_
      refine al_0 dL_law_19 ?_
      refine R_alenP (r := 0) dL_law_20 (by decide) rfl ?_
      refine R_bipush (v := 6) dL_law_21 (by decide) ?_
      refine R_isub dL_law_23 ?_
      refine R_icmp_gt (tgt := 1374) dL_law_24 (by decide) (fun c24 => ?_) (fun q => absurd q (not_not_intro (by rw [hz]; exact (lw_more hL hi).mpr hm)))
      refine R_iconst (v := 1) dL_law_1374 (by decide) ?_
      refine R_ireturn dL_law_1375 ⟨_, rfl, rfl⟩ ?_
      exact hQ _ _ _
    · skip
      refine il_3 dL_law_18 ?_
      refine al_0 dL_law_19 ?_
      refine R_alenP (r := 0) dL_law_20 (by decide) rfl ?_
      refine R_bipush (v := 6) dL_law_21 (by decide) ?_
      refine R_isub dL_law_23 ?_
      refine R_icmp_gt (tgt := 1374) dL_law_24 (by decide) (fun q => absurd q (by rw [hz]; exact fun q => hm ((lw_more hL hi).mp q))) (fun c24 => ?_)
      refine al_0 dL_law_27 ?_
      refine il_3 dL_law_28 ?_
      refine R_ialdP (r := 0) dL_law_29 (by decide) (rn_ixe hz) (show i < rn_Ln G by omega) ?_
      refine R_bipush (v := 63) dL_law_30 (by decide) ?_
      refine R_iand dL_law_32 ?_
      by_cases w33_0 : (rn_pf G 0 i &&& 63) = 0
      · refine R_tswI (tgt := 196) dL_law_33 0 w33_0 (by decide) (by decide) rfl (by decide) ?_
        refine al_1 dL_law_196 ?_
        refine al_0 dL_law_197 ?_
        refine il_3 dL_law_198 ?_
        refine R_iconst (v := 1) dL_law_199 (by decide) ?_
        refine R_iadd dL_law_200 ?_
        refine R_ialdP (r := 0) dL_law_201 (by decide) (rn_ixe (show z + 1 = nI (i + 1) by rw [hz]; exact sm_add i 1)) (show i + 1 < rn_Ln G by omega) ?_
        refine cv_1 dL_law_202 mm_RL_13 sh_1 (Nat.le_of_ble_eq_true rfl) ⟨_, rfl, rfl⟩ (Nat.le_of_ble_eq_true rfl) (Nat.le_of_ble_eq_true rfl) (KC_gate hv hc (fun m1 l1 D1 hhi hc1 => ?_))
        have hr1 := hr.hi hhi
        refine al_2 dL_law_205 ?_
        refine al_0 dL_law_206 ?_
        refine il_3 dL_law_207 ?_
        refine R_iconst (v := 1) dL_law_208 (by decide) ?_
        refine R_iadd dL_law_209 ?_
        refine R_ialdP (r := 0) dL_law_210 (by decide) (rn_ixe (show z + 1 = nI (i + 1) by rw [hz]; exact sm_add i 1)) (show i + 1 < rn_Ln G by omega) ?_
        refine cv_1 dL_law_211 mm_RL_17 sh_116 (Nat.le_of_ble_eq_true rfl) ⟨_, rfl, rfl⟩ (Nat.le_of_ble_eq_true rfl) (Nat.le_of_ble_eq_true rfl) (MC_gate hv hr1 (fun m2 l2 hlo hr2 => ?_))
        refine R_icmp_eq (tgt := 1368) dL_law_214 (by decide) (fun c214 => ?_) (fun q => absurd q (not_not_intro rfl))
        refine ii_3 (v := _ + 6) dL_law_1368 rfl (by rfl) ?_
        refine R_goto (tgt := 18) dL_law_1371 (by decide) ?_
        first
          | exact ih (i + 6) _ _ _ _ _ _ _ _ _ _ _ _ _ _ _ _ (by omega) (by omega) (by rw [hz]; exact sm_add i 6) hv.gate (hc1.lo hv.gate hlo) hr2
          | exact ih (i + 6) _ _ _ _ _ _ _ _ _ _ _ _ _ _ _ _ (by omega) (by omega) (by rw [hz]; exact sm_add i 6) hv hc hr
      by_cases w33_1 : (rn_pf G 0 i &&& 63) = 1
      · refine R_tswI (tgt := 219) dL_law_33 1 w33_1 (by decide) (by decide) rfl (by decide) ?_
        refine al_1 dL_law_219 ?_
        refine al_0 dL_law_220 ?_
        refine il_3 dL_law_221 ?_
        refine R_iconst (v := 1) dL_law_222 (by decide) ?_
        refine R_iadd dL_law_223 ?_
        refine R_ialdP (r := 0) dL_law_224 (by decide) (rn_ixe (show z + 1 = nI (i + 1) by rw [hz]; exact sm_add i 1)) (show i + 1 < rn_Ln G by omega) ?_
        refine al_0 dL_law_225 ?_
        refine il_3 dL_law_226 ?_
        refine R_iconst (v := 2) dL_law_227 (by decide) ?_
        refine R_iadd dL_law_228 ?_
        refine R_ialdP (r := 0) dL_law_229 (by decide) (rn_ixe (show z + 2 = nI (i + 2) by rw [hz]; exact sm_add i 2)) (show i + 2 < rn_Ln G by omega) ?_
        refine al_0 dL_law_230 ?_
        refine il_3 dL_law_231 ?_
        refine R_iconst (v := 3) dL_law_232 (by decide) ?_
        refine R_iadd dL_law_233 ?_
        refine R_ialdP (r := 0) dL_law_234 (by decide) (rn_ixe (show z + 3 = nI (i + 3) by rw [hz]; exact sm_add i 3)) (show i + 3 < rn_Ln G by omega) ?_
        refine cv_3 dL_law_235 mm_RL_18 sh_1 (Nat.le_of_ble_eq_true rfl) ⟨_, rfl, rfl⟩ (Nat.le_of_ble_eq_true rfl) (Nat.le_of_ble_eq_true rfl) (KC_person hv hc (fun m1 l1 D1 hhi hc1 => ?_))
        have hr1 := hr.hi hhi
        refine al_2 dL_law_238 ?_
        refine al_0 dL_law_239 ?_
        refine il_3 dL_law_240 ?_
        refine R_iconst (v := 1) dL_law_241 (by decide) ?_
        refine R_iadd dL_law_242 ?_
        refine R_ialdP (r := 0) dL_law_243 (by decide) (rn_ixe (show z + 1 = nI (i + 1) by rw [hz]; exact sm_add i 1)) (show i + 1 < rn_Ln G by omega) ?_
        refine al_0 dL_law_244 ?_
        refine il_3 dL_law_245 ?_
        refine R_iconst (v := 2) dL_law_246 (by decide) ?_
        refine R_iadd dL_law_247 ?_
        refine R_ialdP (r := 0) dL_law_248 (by decide) (rn_ixe (show z + 2 = nI (i + 2) by rw [hz]; exact sm_add i 2)) (show i + 2 < rn_Ln G by omega) ?_
        refine al_0 dL_law_249 ?_
        refine il_3 dL_law_250 ?_
        refine R_iconst (v := 3) dL_law_251 (by decide) ?_
        refine R_iadd dL_law_252 ?_
        refine R_ialdP (r := 0) dL_law_253 (by decide) (rn_ixe (show z + 3 = nI (i + 3) by rw [hz]; exact sm_add i 3)) (show i + 3 < rn_Ln G by omega) ?_
        refine cv_3 dL_law_254 mm_RL_22 sh_116 (Nat.le_of_ble_eq_true rfl) ⟨_, rfl, rfl⟩ (Nat.le_of_ble_eq_true rfl) (Nat.le_of_ble_eq_true rfl) (MC_person hv hr1 (fun m2 l2 hlo hr2 => ?_))
        refine R_icmp_eq (tgt := 1368) dL_law_257 (by decide) (fun c257 => ?_) (fun q => absurd q (not_not_intro rfl))
        refine ii_3 (v := _ + 6) dL_law_1368 rfl (by rfl) ?_
        refine R_goto (tgt := 18) dL_law_1371 (by decide) ?_
        first
          | exact ih (i + 6) _ _ _ _ _ _ _ _ _ _ _ _ _ _ _ _ (by omega) (by omega) (by rw [hz]; exact sm_add i 6) hv.person (hc1.lo hv.person hlo) hr2
          | exact ih (i + 6) _ _ _ _ _ _ _ _ _ _ _ _ _ _ _ _ (by omega) (by omega) (by rw [hz]; exact sm_add i 6) hv hc hr
      by_cases w33_2 : (rn_pf G 0 i &&& 63) = 2
      · refine R_tswI (tgt := 262) dL_law_33 2 w33_2 (by decide) (by decide) rfl (by decide) ?_
        refine al_1 dL_law_262 ?_
        refine al_0 dL_law_263 ?_
        refine il_3 dL_law_264 ?_
        refine R_iconst (v := 1) dL_law_265 (by decide) ?_
        refine R_iadd dL_law_266 ?_
        refine R_ialdP (r := 0) dL_law_267 (by decide) (rn_ixe (show z + 1 = nI (i + 1) by rw [hz]; exact sm_add i 1)) (show i + 1 < rn_Ln G by omega) ?_
        refine al_0 dL_law_268 ?_
        refine il_3 dL_law_269 ?_
        refine R_iconst (v := 2) dL_law_270 (by decide) ?_
        refine R_iadd dL_law_271 ?_
        refine R_ialdP (r := 0) dL_law_272 (by decide) (rn_ixe (show z + 2 = nI (i + 2) by rw [hz]; exact sm_add i 2)) (show i + 2 < rn_Ln G by omega) ?_
        refine cv_2 dL_law_273 mm_RL_23 sh_1 (Nat.le_of_ble_eq_true rfl) ⟨_, rfl, rfl⟩ (Nat.le_of_ble_eq_true rfl) (Nat.le_of_ble_eq_true rfl) (KC_of hv hc (fun m1 l1 D1 hhi hc1 => ?_))
        have hr1 := hr.hi hhi
        refine al_2 dL_law_276 ?_
        refine al_0 dL_law_277 ?_
        refine il_3 dL_law_278 ?_
        refine R_iconst (v := 1) dL_law_279 (by decide) ?_
        refine R_iadd dL_law_280 ?_
        refine R_ialdP (r := 0) dL_law_281 (by decide) (rn_ixe (show z + 1 = nI (i + 1) by rw [hz]; exact sm_add i 1)) (show i + 1 < rn_Ln G by omega) ?_
        refine al_0 dL_law_282 ?_
        refine il_3 dL_law_283 ?_
        refine R_iconst (v := 2) dL_law_284 (by decide) ?_
        refine R_iadd dL_law_285 ?_
        refine R_ialdP (r := 0) dL_law_286 (by decide) (rn_ixe (show z + 2 = nI (i + 2) by rw [hz]; exact sm_add i 2)) (show i + 2 < rn_Ln G by omega) ?_
        refine cv_2 dL_law_287 mm_RL_27 sh_116 (Nat.le_of_ble_eq_true rfl) ⟨_, rfl, rfl⟩ (Nat.le_of_ble_eq_true rfl) (Nat.le_of_ble_eq_true rfl) (MC_of hv hr1 (fun m2 l2 hlo hr2 => ?_))
        refine R_icmp_eq (tgt := 1368) dL_law_290 (by decide) (fun c290 => ?_) (fun q => absurd q (not_not_intro rfl))
        refine ii_3 (v := _ + 6) dL_law_1368 rfl (by rfl) ?_
        refine R_goto (tgt := 18) dL_law_1371 (by decide) ?_
        first
          | exact ih (i + 6) _ _ _ _ _ _ _ _ _ _ _ _ _ _ _ _ (by omega) (by omega) (by rw [hz]; exact sm_add i 6) hv (hc1.lo hv hlo) hr2
          | exact ih (i + 6) _ _ _ _ _ _ _ _ _ _ _ _ _ _ _ _ (by omega) (by omega) (by rw [hz]; exact sm_add i 6) hv hc hr
      by_cases w33_3 : (rn_pf G 0 i &&& 63) = 3
      · refine R_tswI (tgt := 295) dL_law_33 3 w33_3 (by decide) (by decide) rfl (by decide) ?_
        refine al_1 dL_law_295 ?_
        refine al_0 dL_law_296 ?_
        refine il_3 dL_law_297 ?_
        refine R_iconst (v := 1) dL_law_298 (by decide) ?_
        refine R_iadd dL_law_299 ?_
        refine R_ialdP (r := 0) dL_law_300 (by decide) (rn_ixe (show z + 1 = nI (i + 1) by rw [hz]; exact sm_add i 1)) (show i + 1 < rn_Ln G by omega) ?_
        refine al_0 dL_law_301 ?_
        refine il_3 dL_law_302 ?_
        refine R_iconst (v := 2) dL_law_303 (by decide) ?_
        refine R_iadd dL_law_304 ?_
        refine R_ialdP (r := 0) dL_law_305 (by decide) (rn_ixe (show z + 2 = nI (i + 2) by rw [hz]; exact sm_add i 2)) (show i + 2 < rn_Ln G by omega) ?_
        refine cv_2 dL_law_306 mm_RL_28 sh_1 (Nat.le_of_ble_eq_true rfl) ⟨_, rfl, rfl⟩ (Nat.le_of_ble_eq_true rfl) (Nat.le_of_ble_eq_true rfl) (KC_put hv hc (fun m1 l1 D1 hhi hc1 => ?_))
        have hr1 := hr.hi hhi
        refine al_2 dL_law_309 ?_
        refine al_0 dL_law_310 ?_
        refine il_3 dL_law_311 ?_
        refine R_iconst (v := 1) dL_law_312 (by decide) ?_
        refine R_iadd dL_law_313 ?_
        refine R_ialdP (r := 0) dL_law_314 (by decide) (rn_ixe (show z + 1 = nI (i + 1) by rw [hz]; exact sm_add i 1)) (show i + 1 < rn_Ln G by omega) ?_
        refine al_0 dL_law_315 ?_
        refine il_3 dL_law_316 ?_
        refine R_iconst (v := 2) dL_law_317 (by decide) ?_
        refine R_iadd dL_law_318 ?_
        refine R_ialdP (r := 0) dL_law_319 (by decide) (rn_ixe (show z + 2 = nI (i + 2) by rw [hz]; exact sm_add i 2)) (show i + 2 < rn_Ln G by omega) ?_
        refine cv_2 dL_law_320 mm_RL_31 sh_116 (Nat.le_of_ble_eq_true rfl) ⟨_, rfl, rfl⟩ (Nat.le_of_ble_eq_true rfl) (Nat.le_of_ble_eq_true rfl) (MC_put hv hr1 (fun m2 l2 hlo hr2 => ?_))
        refine R_icmp_eq (tgt := 1368) dL_law_323 (by decide) (fun c323 => ?_) (fun q => absurd q (not_not_intro rfl))
        refine ii_3 (v := _ + 6) dL_law_1368 rfl (by rfl) ?_
        refine R_goto (tgt := 18) dL_law_1371 (by decide) ?_
        first
          | exact ih (i + 6) _ _ _ _ _ _ _ _ _ _ _ _ _ _ _ _ (by omega) (by omega) (by rw [hz]; exact sm_add i 6) hv.put (hc1.lo hv.put hlo) hr2
          | exact ih (i + 6) _ _ _ _ _ _ _ _ _ _ _ _ _ _ _ _ (by omega) (by omega) (by rw [hz]; exact sm_add i 6) hv hc hr
      by_cases w33_4 : (rn_pf G 0 i &&& 63) = 4
      · refine R_tswI (tgt := 328) dL_law_33 4 w33_4 (by decide) (by decide) rfl (by decide) ?_
        refine al_1 dL_law_328 ?_
        refine al_0 dL_law_329 ?_
        refine il_3 dL_law_330 ?_
        refine R_iconst (v := 1) dL_law_331 (by decide) ?_
        refine R_iadd dL_law_332 ?_
        refine R_ialdP (r := 0) dL_law_333 (by decide) (rn_ixe (show z + 1 = nI (i + 1) by rw [hz]; exact sm_add i 1)) (show i + 1 < rn_Ln G by omega) ?_
        refine al_0 dL_law_334 ?_
        refine il_3 dL_law_335 ?_
        refine R_iconst (v := 2) dL_law_336 (by decide) ?_
        refine R_iadd dL_law_337 ?_
        refine R_ialdP (r := 0) dL_law_338 (by decide) (rn_ixe (show z + 2 = nI (i + 2) by rw [hz]; exact sm_add i 2)) (show i + 2 < rn_Ln G by omega) ?_
        refine R_if_eq (tgt := 346) dL_law_339 (by decide) (fun c339 => ?_) (fun c339 => ?_)
        · refine R_iconst (v := 0) dL_law_346 (by decide) ?_
          refine cv_2 dL_law_347 mm_RL_32 sh_1 (Nat.le_of_ble_eq_true rfl) ⟨_, rfl, rfl⟩ (Nat.le_of_ble_eq_true rfl) (Nat.le_of_ble_eq_true rfl) (KC_call (Or.inl rfl) hv hc (fun m1 l1 D1 hhi hc1 => ?_))
          have hr1 := hr.hi hhi
          refine al_2 dL_law_350 ?_
          refine al_0 dL_law_351 ?_
          refine il_3 dL_law_352 ?_
          refine R_iconst (v := 1) dL_law_353 (by decide) ?_
          refine R_iadd dL_law_354 ?_
          refine R_ialdP (r := 0) dL_law_355 (by decide) (rn_ixe (show z + 1 = nI (i + 1) by rw [hz]; exact sm_add i 1)) (show i + 1 < rn_Ln G by omega) ?_
          refine al_0 dL_law_356 ?_
          refine il_3 dL_law_357 ?_
          refine R_iconst (v := 2) dL_law_358 (by decide) ?_
          refine R_iadd dL_law_359 ?_
          refine R_ialdP (r := 0) dL_law_360 (by decide) (rn_ixe (show z + 2 = nI (i + 2) by rw [hz]; exact sm_add i 2)) (show i + 2 < rn_Ln G by omega) ?_
          refine R_if_eq (tgt := 368) dL_law_361 (by decide) (fun c361 => ?_) (fun q => absurd q (not_not_intro c339))
          refine R_iconst (v := 0) dL_law_368 (by decide) ?_
          refine cv_2 dL_law_369 mm_RL_36 sh_116 (Nat.le_of_ble_eq_true rfl) ⟨_, rfl, rfl⟩ (Nat.le_of_ble_eq_true rfl) (Nat.le_of_ble_eq_true rfl) (MC_call (Or.inl rfl) hv hr1 (fun m2 l2 hlo hr2 => ?_))
          refine R_icmp_eq (tgt := 1368) dL_law_372 (by decide) (fun c372 => ?_) (fun q => absurd q (not_not_intro rfl))
          refine ii_3 (v := _ + 6) dL_law_1368 rfl (by rfl) ?_
          refine R_goto (tgt := 18) dL_law_1371 (by decide) ?_
          first
            | exact ih (i + 6) _ _ _ _ _ _ _ _ _ _ _ _ _ _ _ _ (by omega) (by omega) (by rw [hz]; exact sm_add i 6) (hv.call (Or.inl rfl)) (hc1.lo (hv.call (Or.inl rfl)) hlo) hr2
            | exact ih (i + 6) _ _ _ _ _ _ _ _ _ _ _ _ _ _ _ _ (by omega) (by omega) (by rw [hz]; exact sm_add i 6) hv hc hr
        · refine R_iconst (v := 1) dL_law_342 (by decide) ?_
          refine R_goto (tgt := 347) dL_law_343 (by decide) ?_
          refine cv_2 dL_law_347 mm_RL_32 sh_1 (Nat.le_of_ble_eq_true rfl) ⟨_, rfl, rfl⟩ (Nat.le_of_ble_eq_true rfl) (Nat.le_of_ble_eq_true rfl) (KC_call (Or.inr rfl) hv hc (fun m1 l1 D1 hhi hc1 => ?_))
          have hr1 := hr.hi hhi
          refine al_2 dL_law_350 ?_
          refine al_0 dL_law_351 ?_
          refine il_3 dL_law_352 ?_
          refine R_iconst (v := 1) dL_law_353 (by decide) ?_
          refine R_iadd dL_law_354 ?_
          refine R_ialdP (r := 0) dL_law_355 (by decide) (rn_ixe (show z + 1 = nI (i + 1) by rw [hz]; exact sm_add i 1)) (show i + 1 < rn_Ln G by omega) ?_
          refine al_0 dL_law_356 ?_
          refine il_3 dL_law_357 ?_
          refine R_iconst (v := 2) dL_law_358 (by decide) ?_
          refine R_iadd dL_law_359 ?_
          refine R_ialdP (r := 0) dL_law_360 (by decide) (rn_ixe (show z + 2 = nI (i + 2) by rw [hz]; exact sm_add i 2)) (show i + 2 < rn_Ln G by omega) ?_
          refine R_if_eq (tgt := 368) dL_law_361 (by decide) (fun q => absurd q (c339)) (fun c361 => ?_)
          refine R_iconst (v := 1) dL_law_364 (by decide) ?_
          refine R_goto (tgt := 369) dL_law_365 (by decide) ?_
          refine cv_2 dL_law_369 mm_RL_36 sh_116 (Nat.le_of_ble_eq_true rfl) ⟨_, rfl, rfl⟩ (Nat.le_of_ble_eq_true rfl) (Nat.le_of_ble_eq_true rfl) (MC_call (Or.inr rfl) hv hr1 (fun m2 l2 hlo hr2 => ?_))
          refine R_icmp_eq (tgt := 1368) dL_law_372 (by decide) (fun c372 => ?_) (fun q => absurd q (not_not_intro rfl))
          refine ii_3 (v := _ + 6) dL_law_1368 rfl (by rfl) ?_
          refine R_goto (tgt := 18) dL_law_1371 (by decide) ?_
          first
            | exact ih (i + 6) _ _ _ _ _ _ _ _ _ _ _ _ _ _ _ _ (by omega) (by omega) (by rw [hz]; exact sm_add i 6) (hv.call (Or.inr rfl)) (hc1.lo (hv.call (Or.inr rfl)) hlo) hr2
            | exact ih (i + 6) _ _ _ _ _ _ _ _ _ _ _ _ _ _ _ _ (by omega) (by omega) (by rw [hz]; exact sm_add i 6) hv hc hr
      by_cases w33_5 : (rn_pf G 0 i &&& 63) = 5
      · refine R_tswI (tgt := 377) dL_law_33 5 w33_5 (by decide) (by decide) rfl (by decide) ?_
        refine al_1 dL_law_377 ?_
        refine al_0 dL_law_378 ?_
        refine il_3 dL_law_379 ?_
        refine R_iconst (v := 1) dL_law_380 (by decide) ?_
        refine R_iadd dL_law_381 ?_
        refine R_ialdP (r := 0) dL_law_382 (by decide) (rn_ixe (show z + 1 = nI (i + 1) by rw [hz]; exact sm_add i 1)) (show i + 1 < rn_Ln G by omega) ?_
        refine al_0 dL_law_383 ?_
        refine il_3 dL_law_384 ?_
        refine R_iconst (v := 2) dL_law_385 (by decide) ?_
        refine R_iadd dL_law_386 ?_
        refine R_ialdP (r := 0) dL_law_387 (by decide) (rn_ixe (show z + 2 = nI (i + 2) by rw [hz]; exact sm_add i 2)) (show i + 2 < rn_Ln G by omega) ?_
        refine R_if_eq (tgt := 395) dL_law_388 (by decide) (fun c388 => ?_) (fun c388 => ?_)
        · refine R_iconst (v := 0) dL_law_395 (by decide) ?_
          refine cv_2 dL_law_396 mm_RL_37 sh_1 (Nat.le_of_ble_eq_true rfl) ⟨_, rfl, rfl⟩ (Nat.le_of_ble_eq_true rfl) (Nat.le_of_ble_eq_true rfl) (KC_shut hv hc (fun m1 l1 D1 hhi hc1 => ?_))
          have hr1 := hr.hi hhi
          refine al_2 dL_law_399 ?_
          refine al_0 dL_law_400 ?_
          refine il_3 dL_law_401 ?_
          refine R_iconst (v := 1) dL_law_402 (by decide) ?_
          refine R_iadd dL_law_403 ?_
          refine R_ialdP (r := 0) dL_law_404 (by decide) (rn_ixe (show z + 1 = nI (i + 1) by rw [hz]; exact sm_add i 1)) (show i + 1 < rn_Ln G by omega) ?_
          refine al_0 dL_law_405 ?_
          refine il_3 dL_law_406 ?_
          refine R_iconst (v := 2) dL_law_407 (by decide) ?_
          refine R_iadd dL_law_408 ?_
          refine R_ialdP (r := 0) dL_law_409 (by decide) (rn_ixe (show z + 2 = nI (i + 2) by rw [hz]; exact sm_add i 2)) (show i + 2 < rn_Ln G by omega) ?_
          refine R_if_eq (tgt := 417) dL_law_410 (by decide) (fun c410 => ?_) (fun q => absurd q (not_not_intro c388))
          refine R_iconst (v := 0) dL_law_417 (by decide) ?_
          refine cv_2 dL_law_418 mm_RL_40 sh_116 (Nat.le_of_ble_eq_true rfl) ⟨_, rfl, rfl⟩ (Nat.le_of_ble_eq_true rfl) (Nat.le_of_ble_eq_true rfl) (MC_shut hv hr1 (fun m2 l2 hlo hr2 => ?_))
          refine R_icmp_eq (tgt := 1368) dL_law_421 (by decide) (fun c421 => ?_) (fun q => absurd q (not_not_intro rfl))
          refine ii_3 (v := _ + 6) dL_law_1368 rfl (by rfl) ?_
          refine R_goto (tgt := 18) dL_law_1371 (by decide) ?_
          first
            | exact ih (i + 6) _ _ _ _ _ _ _ _ _ _ _ _ _ _ _ _ (by omega) (by omega) (by rw [hz]; exact sm_add i 6) hv.shut (hc1.lo hv.shut hlo) hr2
            | exact ih (i + 6) _ _ _ _ _ _ _ _ _ _ _ _ _ _ _ _ (by omega) (by omega) (by rw [hz]; exact sm_add i 6) hv hc hr
        · refine R_iconst (v := 1) dL_law_391 (by decide) ?_
          refine R_goto (tgt := 396) dL_law_392 (by decide) ?_
          refine cv_2 dL_law_396 mm_RL_37 sh_1 (Nat.le_of_ble_eq_true rfl) ⟨_, rfl, rfl⟩ (Nat.le_of_ble_eq_true rfl) (Nat.le_of_ble_eq_true rfl) (KC_shut hv hc (fun m1 l1 D1 hhi hc1 => ?_))
          have hr1 := hr.hi hhi
          refine al_2 dL_law_399 ?_
          refine al_0 dL_law_400 ?_
          refine il_3 dL_law_401 ?_
          refine R_iconst (v := 1) dL_law_402 (by decide) ?_
          refine R_iadd dL_law_403 ?_
          refine R_ialdP (r := 0) dL_law_404 (by decide) (rn_ixe (show z + 1 = nI (i + 1) by rw [hz]; exact sm_add i 1)) (show i + 1 < rn_Ln G by omega) ?_
          refine al_0 dL_law_405 ?_
          refine il_3 dL_law_406 ?_
          refine R_iconst (v := 2) dL_law_407 (by decide) ?_
          refine R_iadd dL_law_408 ?_
          refine R_ialdP (r := 0) dL_law_409 (by decide) (rn_ixe (show z + 2 = nI (i + 2) by rw [hz]; exact sm_add i 2)) (show i + 2 < rn_Ln G by omega) ?_
          refine R_if_eq (tgt := 417) dL_law_410 (by decide) (fun q => absurd q (c388)) (fun c410 => ?_)
          refine R_iconst (v := 1) dL_law_413 (by decide) ?_
          refine R_goto (tgt := 418) dL_law_414 (by decide) ?_
          refine cv_2 dL_law_418 mm_RL_40 sh_116 (Nat.le_of_ble_eq_true rfl) ⟨_, rfl, rfl⟩ (Nat.le_of_ble_eq_true rfl) (Nat.le_of_ble_eq_true rfl) (MC_shut hv hr1 (fun m2 l2 hlo hr2 => ?_))
          refine R_icmp_eq (tgt := 1368) dL_law_421 (by decide) (fun c421 => ?_) (fun q => absurd q (not_not_intro rfl))
          refine ii_3 (v := _ + 6) dL_law_1368 rfl (by rfl) ?_
          refine R_goto (tgt := 18) dL_law_1371 (by decide) ?_
          first
            | exact ih (i + 6) _ _ _ _ _ _ _ _ _ _ _ _ _ _ _ _ (by omega) (by omega) (by rw [hz]; exact sm_add i 6) hv.shut (hc1.lo hv.shut hlo) hr2
            | exact ih (i + 6) _ _ _ _ _ _ _ _ _ _ _ _ _ _ _ _ (by omega) (by omega) (by rw [hz]; exact sm_add i 6) hv hc hr
      by_cases w33_6 : (rn_pf G 0 i &&& 63) = 6
      · refine R_tswI (tgt := 426) dL_law_33 6 w33_6 (by decide) (by decide) rfl (by decide) ?_
        refine al_1 dL_law_426 ?_
        refine al_0 dL_law_427 ?_
        refine il_3 dL_law_428 ?_
        refine R_iconst (v := 1) dL_law_429 (by decide) ?_
        refine R_iadd dL_law_430 ?_
        refine R_ialdP (r := 0) dL_law_431 (by decide) (rn_ixe (show z + 1 = nI (i + 1) by rw [hz]; exact sm_add i 1)) (show i + 1 < rn_Ln G by omega) ?_
        refine al_0 dL_law_432 ?_
        refine il_3 dL_law_433 ?_
        refine R_iconst (v := 2) dL_law_434 (by decide) ?_
        refine R_iadd dL_law_435 ?_
        refine R_ialdP (r := 0) dL_law_436 (by decide) (rn_ixe (show z + 2 = nI (i + 2) by rw [hz]; exact sm_add i 2)) (show i + 2 < rn_Ln G by omega) ?_
        refine al_0 dL_law_437 ?_
        refine il_3 dL_law_438 ?_
        refine R_iconst (v := 3) dL_law_439 (by decide) ?_
        refine R_iadd dL_law_440 ?_
        refine R_ialdP (r := 0) dL_law_441 (by decide) (rn_ixe (show z + 3 = nI (i + 3) by rw [hz]; exact sm_add i 3)) (show i + 3 < rn_Ln G by omega) ?_
        refine cv_3 dL_law_442 mm_RL_41 sh_1 (Nat.le_of_ble_eq_true rfl) ⟨_, rfl, rfl⟩ (Nat.le_of_ble_eq_true rfl) (Nat.le_of_ble_eq_true rfl) (KC_row hv hc (fun m1 l1 D1 hhi hc1 => ?_))
        have hr1 := hr.hi hhi
        refine al_2 dL_law_445 ?_
        refine al_0 dL_law_446 ?_
        refine il_3 dL_law_447 ?_
        refine R_iconst (v := 1) dL_law_448 (by decide) ?_
        refine R_iadd dL_law_449 ?_
        refine R_ialdP (r := 0) dL_law_450 (by decide) (rn_ixe (show z + 1 = nI (i + 1) by rw [hz]; exact sm_add i 1)) (show i + 1 < rn_Ln G by omega) ?_
        refine al_0 dL_law_451 ?_
        refine il_3 dL_law_452 ?_
        refine R_iconst (v := 2) dL_law_453 (by decide) ?_
        refine R_iadd dL_law_454 ?_
        refine R_ialdP (r := 0) dL_law_455 (by decide) (rn_ixe (show z + 2 = nI (i + 2) by rw [hz]; exact sm_add i 2)) (show i + 2 < rn_Ln G by omega) ?_
        refine al_0 dL_law_456 ?_
        refine il_3 dL_law_457 ?_
        refine R_iconst (v := 3) dL_law_458 (by decide) ?_
        refine R_iadd dL_law_459 ?_
        refine R_ialdP (r := 0) dL_law_460 (by decide) (rn_ixe (show z + 3 = nI (i + 3) by rw [hz]; exact sm_add i 3)) (show i + 3 < rn_Ln G by omega) ?_
        refine cv_3 dL_law_461 mm_RL_44 sh_116 (Nat.le_of_ble_eq_true rfl) ⟨_, rfl, rfl⟩ (Nat.le_of_ble_eq_true rfl) (Nat.le_of_ble_eq_true rfl) (MC_row hv hr1 (fun m2 l2 hlo hr2 => ?_))
        refine R_icmp_eq (tgt := 1368) dL_law_464 (by decide) (fun c464 => ?_) (fun q => absurd q (not_not_intro rfl))
        refine ii_3 (v := _ + 6) dL_law_1368 rfl (by rfl) ?_
        refine R_goto (tgt := 18) dL_law_1371 (by decide) ?_
        first
          | exact ih (i + 6) _ _ _ _ _ _ _ _ _ _ _ _ _ _ _ _ (by omega) (by omega) (by rw [hz]; exact sm_add i 6) hv.row (hc1.lo hv.row hlo) hr2
          | exact ih (i + 6) _ _ _ _ _ _ _ _ _ _ _ _ _ _ _ _ (by omega) (by omega) (by rw [hz]; exact sm_add i 6) hv hc hr
      by_cases w33_7 : (rn_pf G 0 i &&& 63) = 7
      · refine R_tswI (tgt := 469) dL_law_33 7 w33_7 (by decide) (by decide) rfl (by decide) ?_
        refine al_1 dL_law_469 ?_
        refine al_0 dL_law_470 ?_
        refine il_3 dL_law_471 ?_
        refine R_iconst (v := 1) dL_law_472 (by decide) ?_
        refine R_iadd dL_law_473 ?_
        refine R_ialdP (r := 0) dL_law_474 (by decide) (rn_ixe (show z + 1 = nI (i + 1) by rw [hz]; exact sm_add i 1)) (show i + 1 < rn_Ln G by omega) ?_
        refine cv_1 dL_law_475 mm_RL_45 sh_1 (Nat.le_of_ble_eq_true rfl) ⟨_, rfl, rfl⟩ (Nat.le_of_ble_eq_true rfl) (Nat.le_of_ble_eq_true rfl) (KC_round hv hc (fun m1 l1 D1 hhi hc1 => ?_))
        have hr1 := hr.hi hhi
        refine al_2 dL_law_478 ?_
        refine al_0 dL_law_479 ?_
        refine il_3 dL_law_480 ?_
        refine R_iconst (v := 1) dL_law_481 (by decide) ?_
        refine R_iadd dL_law_482 ?_
        refine R_ialdP (r := 0) dL_law_483 (by decide) (rn_ixe (show z + 1 = nI (i + 1) by rw [hz]; exact sm_add i 1)) (show i + 1 < rn_Ln G by omega) ?_
        refine cv_1 dL_law_484 mm_RL_48 sh_116 (Nat.le_of_ble_eq_true rfl) ⟨_, rfl, rfl⟩ (Nat.le_of_ble_eq_true rfl) (Nat.le_of_ble_eq_true rfl) (MC_round hv hr1 (fun m2 l2 hlo hr2 => ?_))
        refine R_icmp_eq (tgt := 1368) dL_law_487 (by decide) (fun c487 => ?_) (fun q => absurd q (not_not_intro rfl))
        refine ii_3 (v := _ + 6) dL_law_1368 rfl (by rfl) ?_
        refine R_goto (tgt := 18) dL_law_1371 (by decide) ?_
        first
          | exact ih (i + 6) _ _ _ _ _ _ _ _ _ _ _ _ _ _ _ _ (by omega) (by omega) (by rw [hz]; exact sm_add i 6) hv.round (hc1.lo hv.round hlo) hr2
          | exact ih (i + 6) _ _ _ _ _ _ _ _ _ _ _ _ _ _ _ _ (by omega) (by omega) (by rw [hz]; exact sm_add i 6) hv hc hr
      by_cases w33_8 : (rn_pf G 0 i &&& 63) = 8
      · refine R_tswI (tgt := 492) dL_law_33 8 w33_8 (by decide) (by decide) rfl (by decide) ?_
        refine al_1 dL_law_492 ?_
        refine al_0 dL_law_493 ?_
        refine il_3 dL_law_494 ?_
        refine R_iconst (v := 1) dL_law_495 (by decide) ?_
        refine R_iadd dL_law_496 ?_
        refine R_ialdP (r := 0) dL_law_497 (by decide) (rn_ixe (show z + 1 = nI (i + 1) by rw [hz]; exact sm_add i 1)) (show i + 1 < rn_Ln G by omega) ?_
        refine cv_1 dL_law_498 mm_RL_49 sh_1 (Nat.le_of_ble_eq_true rfl) ⟨_, rfl, rfl⟩ (Nat.le_of_ble_eq_true rfl) (Nat.le_of_ble_eq_true rfl) (KC_feed hv hc (fun m1 l1 D1 hhi hc1 => ?_))
        have hr1 := hr.hi hhi
        refine al_2 dL_law_501 ?_
        refine al_0 dL_law_502 ?_
        refine il_3 dL_law_503 ?_
        refine R_iconst (v := 1) dL_law_504 (by decide) ?_
        refine R_iadd dL_law_505 ?_
        refine R_ialdP (r := 0) dL_law_506 (by decide) (rn_ixe (show z + 1 = nI (i + 1) by rw [hz]; exact sm_add i 1)) (show i + 1 < rn_Ln G by omega) ?_
        refine cv_1 dL_law_507 mm_RL_52 sh_116 (Nat.le_of_ble_eq_true rfl) ⟨_, rfl, rfl⟩ (Nat.le_of_ble_eq_true rfl) (Nat.le_of_ble_eq_true rfl) (MC_feed hv hr1 (fun m2 l2 hlo hr2 => ?_))
        refine R_icmp_eq (tgt := 1368) dL_law_510 (by decide) (fun c510 => ?_) (fun q => absurd q (not_not_intro rfl))
        refine ii_3 (v := _ + 6) dL_law_1368 rfl (by rfl) ?_
        refine R_goto (tgt := 18) dL_law_1371 (by decide) ?_
        first
          | exact ih (i + 6) _ _ _ _ _ _ _ _ _ _ _ _ _ _ _ _ (by omega) (by omega) (by rw [hz]; exact sm_add i 6) hv (hc1.lo hv hlo) hr2
          | exact ih (i + 6) _ _ _ _ _ _ _ _ _ _ _ _ _ _ _ _ (by omega) (by omega) (by rw [hz]; exact sm_add i 6) hv hc hr
      by_cases w33_9 : (rn_pf G 0 i &&& 63) = 9
      · refine R_tswI (tgt := 515) dL_law_33 9 w33_9 (by decide) (by decide) rfl (by decide) ?_
        refine al_1 dL_law_515 ?_
        refine cv_0 dL_law_516 mm_RL_53 sh_1 (Nat.le_of_ble_eq_true rfl) ⟨_, rfl, rfl⟩ (Nat.le_of_ble_eq_true rfl) (Nat.le_of_ble_eq_true rfl) (KC_dusk hv hc (fun m1 l1 D1 hhi hc1 => ?_))
        have hr1 := hr.hi hhi
        refine al_2 dL_law_519 ?_
        refine cv_0 dL_law_520 mm_RL_57 sh_116 (Nat.le_of_ble_eq_true rfl) ⟨_, rfl, rfl⟩ (Nat.le_of_ble_eq_true rfl) (Nat.le_of_ble_eq_true rfl) (MC_dusk hv hr1 (fun m2 l2 hlo hr2 => ?_))
        refine R_icmp_eq (tgt := 1368) dL_law_523 (by decide) (fun c523 => ?_) (fun q => absurd q (not_not_intro rfl))
        refine ii_3 (v := _ + 6) dL_law_1368 rfl (by rfl) ?_
        refine R_goto (tgt := 18) dL_law_1371 (by decide) ?_
        first
          | exact ih (i + 6) _ _ _ _ _ _ _ _ _ _ _ _ _ _ _ _ (by omega) (by omega) (by rw [hz]; exact sm_add i 6) (hv.dusk hc1) (hc1.lo (hv.dusk hc1) hlo) hr2
          | exact ih (i + 6) _ _ _ _ _ _ _ _ _ _ _ _ _ _ _ _ (by omega) (by omega) (by rw [hz]; exact sm_add i 6) hv hc hr
      by_cases w33_10 : (rn_pf G 0 i &&& 63) = 10
      · refine R_tswI (tgt := 528) dL_law_33 10 w33_10 (by decide) (by decide) rfl (by decide) ?_
        refine al_1 dL_law_528 ?_
        refine al_0 dL_law_529 ?_
        refine il_3 dL_law_530 ?_
        refine R_iconst (v := 1) dL_law_531 (by decide) ?_
        refine R_iadd dL_law_532 ?_
        refine R_ialdP (r := 0) dL_law_533 (by decide) (rn_ixe (show z + 1 = nI (i + 1) by rw [hz]; exact sm_add i 1)) (show i + 1 < rn_Ln G by omega) ?_
        refine cv_1 dL_law_534 mm_RL_58 sh_1 (Nat.le_of_ble_eq_true rfl) ⟨_, rfl, rfl⟩ (Nat.le_of_ble_eq_true rfl) (Nat.le_of_ble_eq_true rfl) (KC_told hv hc (fun m1 l1 D1 hhi hc1 => ?_))
        have hr1 := hr.hi hhi
        refine al_2 dL_law_537 ?_
        refine al_0 dL_law_538 ?_
        refine il_3 dL_law_539 ?_
        refine R_iconst (v := 1) dL_law_540 (by decide) ?_
        refine R_iadd dL_law_541 ?_
        refine R_ialdP (r := 0) dL_law_542 (by decide) (rn_ixe (show z + 1 = nI (i + 1) by rw [hz]; exact sm_add i 1)) (show i + 1 < rn_Ln G by omega) ?_
        refine cv_1 dL_law_543 mm_RL_61 sh_116 (Nat.le_of_ble_eq_true rfl) ⟨_, rfl, rfl⟩ (Nat.le_of_ble_eq_true rfl) (Nat.le_of_ble_eq_true rfl) (MC_told hv hr1 (fun m2 l2 hlo hr2 => ?_))
        refine R_icmp_eq (tgt := 1368) dL_law_546 (by decide) (fun c546 => ?_) (fun q => absurd q (not_not_intro rfl))
        refine ii_3 (v := _ + 6) dL_law_1368 rfl (by rfl) ?_
        refine R_goto (tgt := 18) dL_law_1371 (by decide) ?_
        first
          | exact ih (i + 6) _ _ _ _ _ _ _ _ _ _ _ _ _ _ _ _ (by omega) (by omega) (by rw [hz]; exact sm_add i 6) hv (hc1.lo hv hlo) hr2
          | exact ih (i + 6) _ _ _ _ _ _ _ _ _ _ _ _ _ _ _ _ (by omega) (by omega) (by rw [hz]; exact sm_add i 6) hv hc hr
      by_cases w33_11 : (rn_pf G 0 i &&& 63) = 11
      · refine R_tswI (tgt := 551) dL_law_33 11 w33_11 (by decide) (by decide) rfl (by decide) ?_
        refine al_1 dL_law_551 ?_
        refine al_0 dL_law_552 ?_
        refine il_3 dL_law_553 ?_
        refine R_iconst (v := 1) dL_law_554 (by decide) ?_
        refine R_iadd dL_law_555 ?_
        refine R_ialdP (r := 0) dL_law_556 (by decide) (rn_ixe (show z + 1 = nI (i + 1) by rw [hz]; exact sm_add i 1)) (show i + 1 < rn_Ln G by omega) ?_
        refine cv_1 dL_law_557 mm_RL_62 sh_1 (Nat.le_of_ble_eq_true rfl) ⟨_, rfl, rfl⟩ (Nat.le_of_ble_eq_true rfl) (Nat.le_of_ble_eq_true rfl) (KC_pass hv hc (fun m1 l1 D1 hhi hc1 => ?_))
        have hr1 := hr.hi hhi
        refine al_2 dL_law_560 ?_
        refine al_0 dL_law_561 ?_
        refine il_3 dL_law_562 ?_
        refine R_iconst (v := 1) dL_law_563 (by decide) ?_
        refine R_iadd dL_law_564 ?_
        refine R_ialdP (r := 0) dL_law_565 (by decide) (rn_ixe (show z + 1 = nI (i + 1) by rw [hz]; exact sm_add i 1)) (show i + 1 < rn_Ln G by omega) ?_
        refine cv_1 dL_law_566 mm_RL_65 sh_116 (Nat.le_of_ble_eq_true rfl) ⟨_, rfl, rfl⟩ (Nat.le_of_ble_eq_true rfl) (Nat.le_of_ble_eq_true rfl) (MC_pass hv hr1 (fun m2 l2 hlo hr2 => ?_))
        refine R_icmp_eq (tgt := 1368) dL_law_569 (by decide) (fun c569 => ?_) (fun q => absurd q (not_not_intro rfl))
        refine ii_3 (v := _ + 6) dL_law_1368 rfl (by rfl) ?_
        refine R_goto (tgt := 18) dL_law_1371 (by decide) ?_
        first
          | exact ih (i + 6) _ _ _ _ _ _ _ _ _ _ _ _ _ _ _ _ (by omega) (by omega) (by rw [hz]; exact sm_add i 6) hv.pass (hc1.lo hv.pass hlo) hr2
          | exact ih (i + 6) _ _ _ _ _ _ _ _ _ _ _ _ _ _ _ _ (by omega) (by omega) (by rw [hz]; exact sm_add i 6) hv hc hr
      by_cases w33_12 : (rn_pf G 0 i &&& 63) = 12
      · refine R_tswI (tgt := 574) dL_law_33 12 w33_12 (by decide) (by decide) rfl (by decide) ?_
        refine al_1 dL_law_574 ?_
        refine al_0 dL_law_575 ?_
        refine il_3 dL_law_576 ?_
        refine R_iconst (v := 1) dL_law_577 (by decide) ?_
        refine R_iadd dL_law_578 ?_
        refine R_ialdP (r := 0) dL_law_579 (by decide) (rn_ixe (show z + 1 = nI (i + 1) by rw [hz]; exact sm_add i 1)) (show i + 1 < rn_Ln G by omega) ?_
        refine al_0 dL_law_580 ?_
        refine il_3 dL_law_581 ?_
        refine R_iconst (v := 2) dL_law_582 (by decide) ?_
        refine R_iadd dL_law_583 ?_
        refine R_ialdP (r := 0) dL_law_584 (by decide) (rn_ixe (show z + 2 = nI (i + 2) by rw [hz]; exact sm_add i 2)) (show i + 2 < rn_Ln G by omega) ?_
        refine cv_2 dL_law_585 mm_RL_66 sh_1 (Nat.le_of_ble_eq_true rfl) ⟨_, rfl, rfl⟩ (Nat.le_of_ble_eq_true rfl) (Nat.le_of_ble_eq_true rfl) (KC_on hv hc (fun m1 l1 D1 hhi hc1 => ?_))
        have hr1 := hr.hi hhi
        refine al_2 dL_law_588 ?_
        refine al_0 dL_law_589 ?_
        refine il_3 dL_law_590 ?_
        refine R_iconst (v := 1) dL_law_591 (by decide) ?_
        refine R_iadd dL_law_592 ?_
        refine R_ialdP (r := 0) dL_law_593 (by decide) (rn_ixe (show z + 1 = nI (i + 1) by rw [hz]; exact sm_add i 1)) (show i + 1 < rn_Ln G by omega) ?_
        refine al_0 dL_law_594 ?_
        refine il_3 dL_law_595 ?_
        refine R_iconst (v := 2) dL_law_596 (by decide) ?_
        refine R_iadd dL_law_597 ?_
        refine R_ialdP (r := 0) dL_law_598 (by decide) (rn_ixe (show z + 2 = nI (i + 2) by rw [hz]; exact sm_add i 2)) (show i + 2 < rn_Ln G by omega) ?_
        refine cv_2 dL_law_599 mm_RL_69 sh_116 (Nat.le_of_ble_eq_true rfl) ⟨_, rfl, rfl⟩ (Nat.le_of_ble_eq_true rfl) (Nat.le_of_ble_eq_true rfl) (MC_on hv hr1 (fun m2 l2 hlo hr2 => ?_))
        refine R_icmp_eq (tgt := 1368) dL_law_602 (by decide) (fun c602 => ?_) (fun q => absurd q (not_not_intro rfl))
        refine ii_3 (v := _ + 6) dL_law_1368 rfl (by rfl) ?_
        refine R_goto (tgt := 18) dL_law_1371 (by decide) ?_
        first
          | exact ih (i + 6) _ _ _ _ _ _ _ _ _ _ _ _ _ _ _ _ (by omega) (by omega) (by rw [hz]; exact sm_add i 6) hv (hc1.lo hv hlo) hr2
          | exact ih (i + 6) _ _ _ _ _ _ _ _ _ _ _ _ _ _ _ _ (by omega) (by omega) (by rw [hz]; exact sm_add i 6) hv hc hr
      by_cases w33_13 : (rn_pf G 0 i &&& 63) = 13
      · refine R_tswI (tgt := 607) dL_law_33 13 w33_13 (by decide) (by decide) rfl (by decide) ?_
        refine al_1 dL_law_607 ?_
        refine cv_0 dL_law_608 mm_RL_70 sh_1 (Nat.le_of_ble_eq_true rfl) ⟨_, rfl, rfl⟩ (Nat.le_of_ble_eq_true rfl) (Nat.le_of_ble_eq_true rfl) (KC_clear hv hc (fun m1 l1 D1 hhi hc1 => ?_))
        have hr1 := hr.hi hhi
        refine al_2 dL_law_611 ?_
        refine cv_0 dL_law_612 mm_RL_73 sh_116 (Nat.le_of_ble_eq_true rfl) ⟨_, rfl, rfl⟩ (Nat.le_of_ble_eq_true rfl) (Nat.le_of_ble_eq_true rfl) (MC_clear hv hr1 (fun m2 l2 hlo hr2 => ?_))
        refine R_icmp_eq (tgt := 1368) dL_law_615 (by decide) (fun c615 => ?_) (fun q => absurd q (not_not_intro rfl))
        refine ii_3 (v := _ + 6) dL_law_1368 rfl (by rfl) ?_
        refine R_goto (tgt := 18) dL_law_1371 (by decide) ?_
        first
          | exact ih (i + 6) _ _ _ _ _ _ _ _ _ _ _ _ _ _ _ _ (by omega) (by omega) (by rw [hz]; exact sm_add i 6) hv (hc1.lo hv hlo) hr2
          | exact ih (i + 6) _ _ _ _ _ _ _ _ _ _ _ _ _ _ _ _ (by omega) (by omega) (by rw [hz]; exact sm_add i 6) hv hc hr
      by_cases w33_14 : (rn_pf G 0 i &&& 63) = 14
      · refine R_tswI (tgt := 620) dL_law_33 14 w33_14 (by decide) (by decide) rfl (by decide) ?_
        refine al_1 dL_law_620 ?_
        refine cv_0 dL_law_621 mm_RL_74 sh_1 (Nat.le_of_ble_eq_true rfl) ⟨_, rfl, rfl⟩ (Nat.le_of_ble_eq_true rfl) (Nat.le_of_ble_eq_true rfl) (KC_stay hv hc (fun m1 l1 D1 hhi hc1 => ?_))
        have hr1 := hr.hi hhi
        refine al_2 dL_law_624 ?_
        refine cv_0 dL_law_625 mm_RL_77 sh_116 (Nat.le_of_ble_eq_true rfl) ⟨_, rfl, rfl⟩ (Nat.le_of_ble_eq_true rfl) (Nat.le_of_ble_eq_true rfl) (MC_stay hv hr1 (fun m2 l2 hlo hr2 => ?_))
        refine R_icmp_eq (tgt := 1368) dL_law_628 (by decide) (fun c628 => ?_) (fun q => absurd q (not_not_intro rfl))
        refine ii_3 (v := _ + 6) dL_law_1368 rfl (by rfl) ?_
        refine R_goto (tgt := 18) dL_law_1371 (by decide) ?_
        first
          | exact ih (i + 6) _ _ _ _ _ _ _ _ _ _ _ _ _ _ _ _ (by omega) (by omega) (by rw [hz]; exact sm_add i 6) hv (hc1.lo hv hlo) hr2
          | exact ih (i + 6) _ _ _ _ _ _ _ _ _ _ _ _ _ _ _ _ (by omega) (by omega) (by rw [hz]; exact sm_add i 6) hv hc hr
      by_cases w33_15 : (rn_pf G 0 i &&& 63) = 15
      · refine R_tswI (tgt := 633) dL_law_33 15 w33_15 (by decide) (by decide) rfl (by decide) ?_
        refine al_1 dL_law_633 ?_
        refine al_0 dL_law_634 ?_
        refine il_3 dL_law_635 ?_
        refine R_iconst (v := 1) dL_law_636 (by decide) ?_
        refine R_iadd dL_law_637 ?_
        refine R_ialdP (r := 0) dL_law_638 (by decide) (rn_ixe (show z + 1 = nI (i + 1) by rw [hz]; exact sm_add i 1)) (show i + 1 < rn_Ln G by omega) ?_
        refine cv_1 dL_law_639 mm_RL_78 sh_1 (Nat.le_of_ble_eq_true rfl) ⟨_, rfl, rfl⟩ (Nat.le_of_ble_eq_true rfl) (Nat.le_of_ble_eq_true rfl) (KC_best hv hc (fun m1 l1 D1 hhi hc1 => ?_))
        have hr1 := hr.hi hhi
        refine al_2 dL_law_642 ?_
        refine al_0 dL_law_643 ?_
        refine il_3 dL_law_644 ?_
        refine R_iconst (v := 1) dL_law_645 (by decide) ?_
        refine R_iadd dL_law_646 ?_
        refine R_ialdP (r := 0) dL_law_647 (by decide) (rn_ixe (show z + 1 = nI (i + 1) by rw [hz]; exact sm_add i 1)) (show i + 1 < rn_Ln G by omega) ?_
        refine cv_1 dL_law_648 mm_RL_81 sh_116 (Nat.le_of_ble_eq_true rfl) ⟨_, rfl, rfl⟩ (Nat.le_of_ble_eq_true rfl) (Nat.le_of_ble_eq_true rfl) (MC_best hv hr1 (fun m2 l2 hlo hr2 => ?_))
        refine R_icmp_eq (tgt := 1368) dL_law_651 (by decide) (fun c651 => ?_) (fun q => absurd q (not_not_intro rfl))
        refine ii_3 (v := _ + 6) dL_law_1368 rfl (by rfl) ?_
        refine R_goto (tgt := 18) dL_law_1371 (by decide) ?_
        first
          | exact ih (i + 6) _ _ _ _ _ _ _ _ _ _ _ _ _ _ _ _ (by omega) (by omega) (by rw [hz]; exact sm_add i 6) hv (hc1.lo hv hlo) hr2
          | exact ih (i + 6) _ _ _ _ _ _ _ _ _ _ _ _ _ _ _ _ (by omega) (by omega) (by rw [hz]; exact sm_add i 6) hv hc hr
      by_cases w33_16 : (rn_pf G 0 i &&& 63) = 16
      · refine R_tswI (tgt := 656) dL_law_33 16 w33_16 (by decide) (by decide) rfl (by decide) ?_
        refine al_1 dL_law_656 ?_
        refine al_0 dL_law_657 ?_
        refine il_3 dL_law_658 ?_
        refine R_iconst (v := 1) dL_law_659 (by decide) ?_
        refine R_iadd dL_law_660 ?_
        refine R_ialdP (r := 0) dL_law_661 (by decide) (rn_ixe (show z + 1 = nI (i + 1) by rw [hz]; exact sm_add i 1)) (show i + 1 < rn_Ln G by omega) ?_
        refine cv_1 dL_law_662 mm_RL_82 sh_1 (Nat.le_of_ble_eq_true rfl) ⟨_, rfl, rfl⟩ (Nat.le_of_ble_eq_true rfl) (Nat.le_of_ble_eq_true rfl) (KC_hides hv hc (fun m1 l1 D1 hhi hc1 => ?_))
        have hr1 := hr.hi hhi
        refine al_2 dL_law_665 ?_
        refine al_0 dL_law_666 ?_
        refine il_3 dL_law_667 ?_
        refine R_iconst (v := 1) dL_law_668 (by decide) ?_
        refine R_iadd dL_law_669 ?_
        refine R_ialdP (r := 0) dL_law_670 (by decide) (rn_ixe (show z + 1 = nI (i + 1) by rw [hz]; exact sm_add i 1)) (show i + 1 < rn_Ln G by omega) ?_
        refine cv_1 dL_law_671 mm_RL_85 sh_116 (Nat.le_of_ble_eq_true rfl) ⟨_, rfl, rfl⟩ (Nat.le_of_ble_eq_true rfl) (Nat.le_of_ble_eq_true rfl) (MC_hides hv hr1 (fun m2 l2 hlo hr2 => ?_))
        refine R_icmp_eq (tgt := 1368) dL_law_674 (by decide) (fun c674 => ?_) (fun q => absurd q (not_not_intro rfl))
        refine ii_3 (v := _ + 6) dL_law_1368 rfl (by rfl) ?_
        refine R_goto (tgt := 18) dL_law_1371 (by decide) ?_
        first
          | exact ih (i + 6) _ _ _ _ _ _ _ _ _ _ _ _ _ _ _ _ (by omega) (by omega) (by rw [hz]; exact sm_add i 6) hv (hc1.lo hv hlo) hr2
          | exact ih (i + 6) _ _ _ _ _ _ _ _ _ _ _ _ _ _ _ _ (by omega) (by omega) (by rw [hz]; exact sm_add i 6) hv hc hr
      by_cases w33_17 : (rn_pf G 0 i &&& 63) = 17
      · refine R_tswI (tgt := 679) dL_law_33 17 w33_17 (by decide) (by decide) rfl (by decide) ?_
        refine al_1 dL_law_679 ?_
        refine al_0 dL_law_680 ?_
        refine il_3 dL_law_681 ?_
        refine R_iconst (v := 1) dL_law_682 (by decide) ?_
        refine R_iadd dL_law_683 ?_
        refine R_ialdP (r := 0) dL_law_684 (by decide) (rn_ixe (show z + 1 = nI (i + 1) by rw [hz]; exact sm_add i 1)) (show i + 1 < rn_Ln G by omega) ?_
        refine al_0 dL_law_685 ?_
        refine il_3 dL_law_686 ?_
        refine R_iconst (v := 2) dL_law_687 (by decide) ?_
        refine R_iadd dL_law_688 ?_
        refine R_ialdP (r := 0) dL_law_689 (by decide) (rn_ixe (show z + 2 = nI (i + 2) by rw [hz]; exact sm_add i 2)) (show i + 2 < rn_Ln G by omega) ?_
        refine R_if_eq (tgt := 697) dL_law_690 (by decide) (fun c690 => ?_) (fun c690 => ?_)
        · refine R_iconst (v := 0) dL_law_697 (by decide) ?_
          refine al_0 dL_law_698 ?_
          refine il_3 dL_law_699 ?_
          refine R_iconst (v := 3) dL_law_700 (by decide) ?_
          refine R_iadd dL_law_701 ?_
          refine R_ialdP (r := 0) dL_law_702 (by decide) (rn_ixe (show z + 3 = nI (i + 3) by rw [hz]; exact sm_add i 3)) (show i + 3 < rn_Ln G by omega) ?_
          refine cv_3 dL_law_703 mm_RL_86 sh_1 (Nat.le_of_ble_eq_true rfl) ⟨_, rfl, rfl⟩ (Nat.le_of_ble_eq_true rfl) (Nat.le_of_ble_eq_true rfl) (KC_see (Or.inl rfl) hv hc (fun m1 l1 D1 hhi hc1 => ?_))
          have hr1 := hr.hi hhi
          refine al_2 dL_law_706 ?_
          refine al_0 dL_law_707 ?_
          refine il_3 dL_law_708 ?_
          refine R_iconst (v := 1) dL_law_709 (by decide) ?_
          refine R_iadd dL_law_710 ?_
          refine R_ialdP (r := 0) dL_law_711 (by decide) (rn_ixe (show z + 1 = nI (i + 1) by rw [hz]; exact sm_add i 1)) (show i + 1 < rn_Ln G by omega) ?_
          refine al_0 dL_law_712 ?_
          refine il_3 dL_law_713 ?_
          refine R_iconst (v := 2) dL_law_714 (by decide) ?_
          refine R_iadd dL_law_715 ?_
          refine R_ialdP (r := 0) dL_law_716 (by decide) (rn_ixe (show z + 2 = nI (i + 2) by rw [hz]; exact sm_add i 2)) (show i + 2 < rn_Ln G by omega) ?_
          refine R_if_eq (tgt := 724) dL_law_717 (by decide) (fun c717 => ?_) (fun q => absurd q (not_not_intro c690))
          refine R_iconst (v := 0) dL_law_724 (by decide) ?_
          refine al_0 dL_law_725 ?_
          refine il_3 dL_law_726 ?_
          refine R_iconst (v := 3) dL_law_727 (by decide) ?_
          refine R_iadd dL_law_728 ?_
          refine R_ialdP (r := 0) dL_law_729 (by decide) (rn_ixe (show z + 3 = nI (i + 3) by rw [hz]; exact sm_add i 3)) (show i + 3 < rn_Ln G by omega) ?_
          refine cv_3 dL_law_730 mm_RL_90 sh_116 (Nat.le_of_ble_eq_true rfl) ⟨_, rfl, rfl⟩ (Nat.le_of_ble_eq_true rfl) (Nat.le_of_ble_eq_true rfl) (MC_see (Or.inl rfl) hv hr1 (fun m2 l2 hlo hr2 => ?_))
          refine R_icmp_eq (tgt := 1368) dL_law_733 (by decide) (fun c733 => ?_) (fun q => absurd q (not_not_intro rfl))
          refine ii_3 (v := _ + 6) dL_law_1368 rfl (by rfl) ?_
          refine R_goto (tgt := 18) dL_law_1371 (by decide) ?_
          first
            | exact ih (i + 6) _ _ _ _ _ _ _ _ _ _ _ _ _ _ _ _ (by omega) (by omega) (by rw [hz]; exact sm_add i 6) hv.see (hc1.lo hv.see hlo) hr2
            | exact ih (i + 6) _ _ _ _ _ _ _ _ _ _ _ _ _ _ _ _ (by omega) (by omega) (by rw [hz]; exact sm_add i 6) hv hc hr
        · refine R_iconst (v := 1) dL_law_693 (by decide) ?_
          refine R_goto (tgt := 698) dL_law_694 (by decide) ?_
          refine al_0 dL_law_698 ?_
          refine il_3 dL_law_699 ?_
          refine R_iconst (v := 3) dL_law_700 (by decide) ?_
          refine R_iadd dL_law_701 ?_
          refine R_ialdP (r := 0) dL_law_702 (by decide) (rn_ixe (show z + 3 = nI (i + 3) by rw [hz]; exact sm_add i 3)) (show i + 3 < rn_Ln G by omega) ?_
          refine cv_3 dL_law_703 mm_RL_86 sh_1 (Nat.le_of_ble_eq_true rfl) ⟨_, rfl, rfl⟩ (Nat.le_of_ble_eq_true rfl) (Nat.le_of_ble_eq_true rfl) (KC_see (Or.inr rfl) hv hc (fun m1 l1 D1 hhi hc1 => ?_))
          have hr1 := hr.hi hhi
          refine al_2 dL_law_706 ?_
          refine al_0 dL_law_707 ?_
          refine il_3 dL_law_708 ?_
          refine R_iconst (v := 1) dL_law_709 (by decide) ?_
          refine R_iadd dL_law_710 ?_
          refine R_ialdP (r := 0) dL_law_711 (by decide) (rn_ixe (show z + 1 = nI (i + 1) by rw [hz]; exact sm_add i 1)) (show i + 1 < rn_Ln G by omega) ?_
          refine al_0 dL_law_712 ?_
          refine il_3 dL_law_713 ?_
          refine R_iconst (v := 2) dL_law_714 (by decide) ?_
          refine R_iadd dL_law_715 ?_
          refine R_ialdP (r := 0) dL_law_716 (by decide) (rn_ixe (show z + 2 = nI (i + 2) by rw [hz]; exact sm_add i 2)) (show i + 2 < rn_Ln G by omega) ?_
          refine R_if_eq (tgt := 724) dL_law_717 (by decide) (fun q => absurd q (c690)) (fun c717 => ?_)
          refine R_iconst (v := 1) dL_law_720 (by decide) ?_
          refine R_goto (tgt := 725) dL_law_721 (by decide) ?_
          refine al_0 dL_law_725 ?_
          refine il_3 dL_law_726 ?_
          refine R_iconst (v := 3) dL_law_727 (by decide) ?_
          refine R_iadd dL_law_728 ?_
          refine R_ialdP (r := 0) dL_law_729 (by decide) (rn_ixe (show z + 3 = nI (i + 3) by rw [hz]; exact sm_add i 3)) (show i + 3 < rn_Ln G by omega) ?_
          refine cv_3 dL_law_730 mm_RL_90 sh_116 (Nat.le_of_ble_eq_true rfl) ⟨_, rfl, rfl⟩ (Nat.le_of_ble_eq_true rfl) (Nat.le_of_ble_eq_true rfl) (MC_see (Or.inr rfl) hv hr1 (fun m2 l2 hlo hr2 => ?_))
          refine R_icmp_eq (tgt := 1368) dL_law_733 (by decide) (fun c733 => ?_) (fun q => absurd q (not_not_intro rfl))
          refine ii_3 (v := _ + 6) dL_law_1368 rfl (by rfl) ?_
          refine R_goto (tgt := 18) dL_law_1371 (by decide) ?_
          first
            | exact ih (i + 6) _ _ _ _ _ _ _ _ _ _ _ _ _ _ _ _ (by omega) (by omega) (by rw [hz]; exact sm_add i 6) hv.see (hc1.lo hv.see hlo) hr2
            | exact ih (i + 6) _ _ _ _ _ _ _ _ _ _ _ _ _ _ _ _ (by omega) (by omega) (by rw [hz]; exact sm_add i 6) hv hc hr
      by_cases w33_18 : (rn_pf G 0 i &&& 63) = 18
      · refine R_tswI (tgt := 738) dL_law_33 18 w33_18 (by decide) (by decide) rfl (by decide) ?_
        refine al_1 dL_law_738 ?_
        refine al_0 dL_law_739 ?_
        refine il_3 dL_law_740 ?_
        refine R_iconst (v := 1) dL_law_741 (by decide) ?_
        refine R_iadd dL_law_742 ?_
        refine R_ialdP (r := 0) dL_law_743 (by decide) (rn_ixe (show z + 1 = nI (i + 1) by rw [hz]; exact sm_add i 1)) (show i + 1 < rn_Ln G by omega) ?_
        refine al_0 dL_law_744 ?_
        refine il_3 dL_law_745 ?_
        refine R_iconst (v := 2) dL_law_746 (by decide) ?_
        refine R_iadd dL_law_747 ?_
        refine R_ialdP (r := 0) dL_law_748 (by decide) (rn_ixe (show z + 2 = nI (i + 2) by rw [hz]; exact sm_add i 2)) (show i + 2 < rn_Ln G by omega) ?_
        refine cv_2 dL_law_749 mm_RL_91 sh_1 (Nat.le_of_ble_eq_true rfl) ⟨_, rfl, rfl⟩ (Nat.le_of_ble_eq_true rfl) (Nat.le_of_ble_eq_true rfl) (KC_where hv hc (fun m1 l1 D1 hhi hc1 => ?_))
        have hr1 := hr.hi hhi
        refine al_2 dL_law_752 ?_
        refine al_0 dL_law_753 ?_
        refine il_3 dL_law_754 ?_
        refine R_iconst (v := 1) dL_law_755 (by decide) ?_
        refine R_iadd dL_law_756 ?_
        refine R_ialdP (r := 0) dL_law_757 (by decide) (rn_ixe (show z + 1 = nI (i + 1) by rw [hz]; exact sm_add i 1)) (show i + 1 < rn_Ln G by omega) ?_
        refine al_0 dL_law_758 ?_
        refine il_3 dL_law_759 ?_
        refine R_iconst (v := 2) dL_law_760 (by decide) ?_
        refine R_iadd dL_law_761 ?_
        refine R_ialdP (r := 0) dL_law_762 (by decide) (rn_ixe (show z + 2 = nI (i + 2) by rw [hz]; exact sm_add i 2)) (show i + 2 < rn_Ln G by omega) ?_
        refine cv_2 dL_law_763 mm_RL_94 sh_116 (Nat.le_of_ble_eq_true rfl) ⟨_, rfl, rfl⟩ (Nat.le_of_ble_eq_true rfl) (Nat.le_of_ble_eq_true rfl) (MC_where hv hr1 (fun m2 l2 hlo hr2 => ?_))
        refine R_icmp_eq (tgt := 1368) dL_law_766 (by decide) (fun c766 => ?_) (fun q => absurd q (not_not_intro rfl))
        refine ii_3 (v := _ + 6) dL_law_1368 rfl (by rfl) ?_
        refine R_goto (tgt := 18) dL_law_1371 (by decide) ?_
        first
          | exact ih (i + 6) _ _ _ _ _ _ _ _ _ _ _ _ _ _ _ _ (by omega) (by omega) (by rw [hz]; exact sm_add i 6) hv (hc1.lo hv hlo) hr2
          | exact ih (i + 6) _ _ _ _ _ _ _ _ _ _ _ _ _ _ _ _ (by omega) (by omega) (by rw [hz]; exact sm_add i 6) hv hc hr
      by_cases w33_19 : (rn_pf G 0 i &&& 63) = 19
      · refine R_tswI (tgt := 771) dL_law_33 19 w33_19 (by decide) (by decide) rfl (by decide) ?_
        refine al_1 dL_law_771 ?_
        refine al_0 dL_law_772 ?_
        refine il_3 dL_law_773 ?_
        refine R_iconst (v := 1) dL_law_774 (by decide) ?_
        refine R_iadd dL_law_775 ?_
        refine R_ialdP (r := 0) dL_law_776 (by decide) (rn_ixe (show z + 1 = nI (i + 1) by rw [hz]; exact sm_add i 1)) (show i + 1 < rn_Ln G by omega) ?_
        refine al_0 dL_law_777 ?_
        refine il_3 dL_law_778 ?_
        refine R_iconst (v := 2) dL_law_779 (by decide) ?_
        refine R_iadd dL_law_780 ?_
        refine R_ialdP (r := 0) dL_law_781 (by decide) (rn_ixe (show z + 2 = nI (i + 2) by rw [hz]; exact sm_add i 2)) (show i + 2 < rn_Ln G by omega) ?_
        refine cv_2 dL_law_782 mm_RL_95 sh_1 (Nat.le_of_ble_eq_true rfl) ⟨_, rfl, rfl⟩ (Nat.le_of_ble_eq_true rfl) (Nat.le_of_ble_eq_true rfl) (KC_can hv hc (fun m1 l1 D1 hhi hc1 => ?_))
        have hr1 := hr.hi hhi
        refine al_2 dL_law_785 ?_
        refine al_0 dL_law_786 ?_
        refine il_3 dL_law_787 ?_
        refine R_iconst (v := 1) dL_law_788 (by decide) ?_
        refine R_iadd dL_law_789 ?_
        refine R_ialdP (r := 0) dL_law_790 (by decide) (rn_ixe (show z + 1 = nI (i + 1) by rw [hz]; exact sm_add i 1)) (show i + 1 < rn_Ln G by omega) ?_
        refine al_0 dL_law_791 ?_
        refine il_3 dL_law_792 ?_
        refine R_iconst (v := 2) dL_law_793 (by decide) ?_
        refine R_iadd dL_law_794 ?_
        refine R_ialdP (r := 0) dL_law_795 (by decide) (rn_ixe (show z + 2 = nI (i + 2) by rw [hz]; exact sm_add i 2)) (show i + 2 < rn_Ln G by omega) ?_
        refine cv_2 dL_law_796 mm_RL_98 sh_116 (Nat.le_of_ble_eq_true rfl) ⟨_, rfl, rfl⟩ (Nat.le_of_ble_eq_true rfl) (Nat.le_of_ble_eq_true rfl) (MC_can hv hr1 (fun m2 l2 hlo hr2 => ?_))
        refine R_icmp_eq (tgt := 1368) dL_law_799 (by decide) (fun c799 => ?_) (fun q => absurd q (not_not_intro rfl))
        refine ii_3 (v := _ + 6) dL_law_1368 rfl (by rfl) ?_
        refine R_goto (tgt := 18) dL_law_1371 (by decide) ?_
        first
          | exact ih (i + 6) _ _ _ _ _ _ _ _ _ _ _ _ _ _ _ _ (by omega) (by omega) (by rw [hz]; exact sm_add i 6) hv (hc1.lo hv hlo) hr2
          | exact ih (i + 6) _ _ _ _ _ _ _ _ _ _ _ _ _ _ _ _ (by omega) (by omega) (by rw [hz]; exact sm_add i 6) hv hc hr
      by_cases w33_20 : (rn_pf G 0 i &&& 63) = 20
      · refine R_tswI (tgt := 804) dL_law_33 20 w33_20 (by decide) (by decide) rfl (by decide) ?_
        refine al_1 dL_law_804 ?_
        refine al_0 dL_law_805 ?_
        refine il_3 dL_law_806 ?_
        refine R_iconst (v := 1) dL_law_807 (by decide) ?_
        refine R_iadd dL_law_808 ?_
        refine R_ialdP (r := 0) dL_law_809 (by decide) (rn_ixe (show z + 1 = nI (i + 1) by rw [hz]; exact sm_add i 1)) (show i + 1 < rn_Ln G by omega) ?_
        refine al_0 dL_law_810 ?_
        refine il_3 dL_law_811 ?_
        refine R_iconst (v := 2) dL_law_812 (by decide) ?_
        refine R_iadd dL_law_813 ?_
        refine R_ialdP (r := 0) dL_law_814 (by decide) (rn_ixe (show z + 2 = nI (i + 2) by rw [hz]; exact sm_add i 2)) (show i + 2 < rn_Ln G by omega) ?_
        refine cv_2 dL_law_815 mm_RL_99 sh_1 (Nat.le_of_ble_eq_true rfl) ⟨_, rfl, rfl⟩ (Nat.le_of_ble_eq_true rfl) (Nat.le_of_ble_eq_true rfl) (KC_odds hv hc (fun m1 l1 D1 hhi hc1 => ?_))
        have hr1 := hr.hi hhi
        refine al_2 dL_law_818 ?_
        refine al_0 dL_law_819 ?_
        refine il_3 dL_law_820 ?_
        refine R_iconst (v := 1) dL_law_821 (by decide) ?_
        refine R_iadd dL_law_822 ?_
        refine R_ialdP (r := 0) dL_law_823 (by decide) (rn_ixe (show z + 1 = nI (i + 1) by rw [hz]; exact sm_add i 1)) (show i + 1 < rn_Ln G by omega) ?_
        refine al_0 dL_law_824 ?_
        refine il_3 dL_law_825 ?_
        refine R_iconst (v := 2) dL_law_826 (by decide) ?_
        refine R_iadd dL_law_827 ?_
        refine R_ialdP (r := 0) dL_law_828 (by decide) (rn_ixe (show z + 2 = nI (i + 2) by rw [hz]; exact sm_add i 2)) (show i + 2 < rn_Ln G by omega) ?_
        refine cv_2 dL_law_829 mm_RL_103 sh_116 (Nat.le_of_ble_eq_true rfl) ⟨_, rfl, rfl⟩ (Nat.le_of_ble_eq_true rfl) (Nat.le_of_ble_eq_true rfl) (MC_odds hv hr1 (fun m2 l2 hlo hr2 => ?_))
        refine R_lcmp dL_law_832 ?_
        refine R_if_eq (tgt := 1368) dL_law_833 (by decide) (fun c833 => ?_) (fun q => absurd q (not_not_intro (lg_0.mpr rfl)))
        refine ii_3 (v := _ + 6) dL_law_1368 rfl (by rfl) ?_
        refine R_goto (tgt := 18) dL_law_1371 (by decide) ?_
        first
          | exact ih (i + 6) _ _ _ _ _ _ _ _ _ _ _ _ _ _ _ _ (by omega) (by omega) (by rw [hz]; exact sm_add i 6) hv (hc1.lo hv hlo) hr2
          | exact ih (i + 6) _ _ _ _ _ _ _ _ _ _ _ _ _ _ _ _ (by omega) (by omega) (by rw [hz]; exact sm_add i 6) hv hc hr
      by_cases w33_21 : (rn_pf G 0 i &&& 63) = 21
      · refine R_tswI (tgt := 838) dL_law_33 21 w33_21 (by decide) (by decide) rfl (by decide) ?_
        refine al_1 dL_law_838 ?_
        refine al_0 dL_law_839 ?_
        refine il_3 dL_law_840 ?_
        refine R_iconst (v := 1) dL_law_841 (by decide) ?_
        refine R_iadd dL_law_842 ?_
        refine R_ialdP (r := 0) dL_law_843 (by decide) (rn_ixe (show z + 1 = nI (i + 1) by rw [hz]; exact sm_add i 1)) (show i + 1 < rn_Ln G by omega) ?_
        refine al_0 dL_law_844 ?_
        refine il_3 dL_law_845 ?_
        refine R_iconst (v := 2) dL_law_846 (by decide) ?_
        refine R_iadd dL_law_847 ?_
        refine R_ialdP (r := 0) dL_law_848 (by decide) (rn_ixe (show z + 2 = nI (i + 2) by rw [hz]; exact sm_add i 2)) (show i + 2 < rn_Ln G by omega) ?_
        refine cv_2 dL_law_849 mm_RL_104 sh_1 (Nat.le_of_ble_eq_true rfl) ⟨_, rfl, rfl⟩ (Nat.le_of_ble_eq_true rfl) (Nat.le_of_ble_eq_true rfl) (KC_mean hv hc (fun m1 l1 D1 hhi hc1 => ?_))
        have hr1 := hr.hi hhi
        refine al_2 dL_law_852 ?_
        refine al_0 dL_law_853 ?_
        refine il_3 dL_law_854 ?_
        refine R_iconst (v := 1) dL_law_855 (by decide) ?_
        refine R_iadd dL_law_856 ?_
        refine R_ialdP (r := 0) dL_law_857 (by decide) (rn_ixe (show z + 1 = nI (i + 1) by rw [hz]; exact sm_add i 1)) (show i + 1 < rn_Ln G by omega) ?_
        refine al_0 dL_law_858 ?_
        refine il_3 dL_law_859 ?_
        refine R_iconst (v := 2) dL_law_860 (by decide) ?_
        refine R_iadd dL_law_861 ?_
        refine R_ialdP (r := 0) dL_law_862 (by decide) (rn_ixe (show z + 2 = nI (i + 2) by rw [hz]; exact sm_add i 2)) (show i + 2 < rn_Ln G by omega) ?_
        refine cv_2 dL_law_863 mm_RL_107 sh_116 (Nat.le_of_ble_eq_true rfl) ⟨_, rfl, rfl⟩ (Nat.le_of_ble_eq_true rfl) (Nat.le_of_ble_eq_true rfl) (MC_mean hv hr1 (fun m2 l2 hlo hr2 => ?_))
        refine R_lcmp dL_law_866 ?_
        refine R_if_eq (tgt := 1368) dL_law_867 (by decide) (fun c867 => ?_) (fun q => absurd q (not_not_intro (lg_0.mpr rfl)))
        refine ii_3 (v := _ + 6) dL_law_1368 rfl (by rfl) ?_
        refine R_goto (tgt := 18) dL_law_1371 (by decide) ?_
        first
          | exact ih (i + 6) _ _ _ _ _ _ _ _ _ _ _ _ _ _ _ _ (by omega) (by omega) (by rw [hz]; exact sm_add i 6) hv (hc1.lo hv hlo) hr2
          | exact ih (i + 6) _ _ _ _ _ _ _ _ _ _ _ _ _ _ _ _ (by omega) (by omega) (by rw [hz]; exact sm_add i 6) hv hc hr
      by_cases w33_22 : (rn_pf G 0 i &&& 63) = 22
      · refine R_tswI (tgt := 872) dL_law_33 22 w33_22 (by decide) (by decide) rfl (by decide) ?_
        refine al_1 dL_law_872 ?_
        refine al_0 dL_law_873 ?_
        refine il_3 dL_law_874 ?_
        refine R_iconst (v := 1) dL_law_875 (by decide) ?_
        refine R_iadd dL_law_876 ?_
        refine R_ialdP (r := 0) dL_law_877 (by decide) (rn_ixe (show z + 1 = nI (i + 1) by rw [hz]; exact sm_add i 1)) (show i + 1 < rn_Ln G by omega) ?_
        refine al_0 dL_law_878 ?_
        refine il_3 dL_law_879 ?_
        refine R_iconst (v := 2) dL_law_880 (by decide) ?_
        refine R_iadd dL_law_881 ?_
        refine R_ialdP (r := 0) dL_law_882 (by decide) (rn_ixe (show z + 2 = nI (i + 2) by rw [hz]; exact sm_add i 2)) (show i + 2 < rn_Ln G by omega) ?_
        refine cv_2 dL_law_883 mm_RL_108 sh_1 (Nat.le_of_ble_eq_true rfl) ⟨_, rfl, rfl⟩ (Nat.le_of_ble_eq_true rfl) (Nat.le_of_ble_eq_true rfl) (KC_evening hv hc (fun m1 l1 D1 hhi hc1 => ?_))
        have hr1 := hr.hi hhi
        refine al_2 dL_law_886 ?_
        refine al_0 dL_law_887 ?_
        refine il_3 dL_law_888 ?_
        refine R_iconst (v := 1) dL_law_889 (by decide) ?_
        refine R_iadd dL_law_890 ?_
        refine R_ialdP (r := 0) dL_law_891 (by decide) (rn_ixe (show z + 1 = nI (i + 1) by rw [hz]; exact sm_add i 1)) (show i + 1 < rn_Ln G by omega) ?_
        refine al_0 dL_law_892 ?_
        refine il_3 dL_law_893 ?_
        refine R_iconst (v := 2) dL_law_894 (by decide) ?_
        refine R_iadd dL_law_895 ?_
        refine R_ialdP (r := 0) dL_law_896 (by decide) (rn_ixe (show z + 2 = nI (i + 2) by rw [hz]; exact sm_add i 2)) (show i + 2 < rn_Ln G by omega) ?_
        refine cv_2 dL_law_897 mm_RL_111 sh_116 (Nat.le_of_ble_eq_true rfl) ⟨_, rfl, rfl⟩ (Nat.le_of_ble_eq_true rfl) (Nat.le_of_ble_eq_true rfl) (MC_evening hv hr1 (fun m2 l2 hlo hr2 => ?_))
        refine R_icmp_eq (tgt := 1368) dL_law_900 (by decide) (fun c900 => ?_) (fun q => absurd q (not_not_intro rfl))
        refine ii_3 (v := _ + 6) dL_law_1368 rfl (by rfl) ?_
        refine R_goto (tgt := 18) dL_law_1371 (by decide) ?_
        first
          | exact ih (i + 6) _ _ _ _ _ _ _ _ _ _ _ _ _ _ _ _ (by omega) (by omega) (by rw [hz]; exact sm_add i 6) hv.even (hc1.lo hv.even hlo) hr2
          | exact ih (i + 6) _ _ _ _ _ _ _ _ _ _ _ _ _ _ _ _ (by omega) (by omega) (by rw [hz]; exact sm_add i 6) hv hc hr
      by_cases w33_23 : (rn_pf G 0 i &&& 63) = 23
      · refine R_tswI (tgt := 905) dL_law_33 23 w33_23 (by decide) (by decide) rfl (by decide) ?_
        refine al_1 dL_law_905 ?_
        refine al_0 dL_law_906 ?_
        refine il_3 dL_law_907 ?_
        refine R_iconst (v := 1) dL_law_908 (by decide) ?_
        refine R_iadd dL_law_909 ?_
        refine R_ialdP (r := 0) dL_law_910 (by decide) (rn_ixe (show z + 1 = nI (i + 1) by rw [hz]; exact sm_add i 1)) (show i + 1 < rn_Ln G by omega) ?_
        refine cv_1 dL_law_911 mm_RL_112 sh_1 (Nat.le_of_ble_eq_true rfl) ⟨_, rfl, rfl⟩ (Nat.le_of_ble_eq_true rfl) (Nat.le_of_ble_eq_true rfl) (KC_gone hv hc (fun m1 l1 D1 hhi hc1 => ?_))
        have hr1 := hr.hi hhi
        refine al_2 dL_law_914 ?_
        refine al_0 dL_law_915 ?_
        refine il_3 dL_law_916 ?_
        refine R_iconst (v := 1) dL_law_917 (by decide) ?_
        refine R_iadd dL_law_918 ?_
        refine R_ialdP (r := 0) dL_law_919 (by decide) (rn_ixe (show z + 1 = nI (i + 1) by rw [hz]; exact sm_add i 1)) (show i + 1 < rn_Ln G by omega) ?_
        refine cv_1 dL_law_920 mm_RL_115 sh_116 (Nat.le_of_ble_eq_true rfl) ⟨_, rfl, rfl⟩ (Nat.le_of_ble_eq_true rfl) (Nat.le_of_ble_eq_true rfl) (MC_gone hv hr1 (fun m2 l2 hlo hr2 => ?_))
        refine R_icmp_eq (tgt := 1368) dL_law_923 (by decide) (fun c923 => ?_) (fun q => absurd q (not_not_intro rfl))
        refine ii_3 (v := _ + 6) dL_law_1368 rfl (by rfl) ?_
        refine R_goto (tgt := 18) dL_law_1371 (by decide) ?_
        first
          | exact ih (i + 6) _ _ _ _ _ _ _ _ _ _ _ _ _ _ _ _ (by omega) (by omega) (by rw [hz]; exact sm_add i 6) hv (hc1.lo hv hlo) hr2
          | exact ih (i + 6) _ _ _ _ _ _ _ _ _ _ _ _ _ _ _ _ (by omega) (by omega) (by rw [hz]; exact sm_add i 6) hv hc hr
      by_cases w33_24 : (rn_pf G 0 i &&& 63) = 24
      · refine R_tswI (tgt := 928) dL_law_33 24 w33_24 (by decide) (by decide) rfl (by decide) ?_
        refine al_1 dL_law_928 ?_
        refine al_0 dL_law_929 ?_
        refine il_3 dL_law_930 ?_
        refine R_iconst (v := 1) dL_law_931 (by decide) ?_
        refine R_iadd dL_law_932 ?_
        refine R_ialdP (r := 0) dL_law_933 (by decide) (rn_ixe (show z + 1 = nI (i + 1) by rw [hz]; exact sm_add i 1)) (show i + 1 < rn_Ln G by omega) ?_
        refine al_0 dL_law_934 ?_
        refine il_3 dL_law_935 ?_
        refine R_iconst (v := 2) dL_law_936 (by decide) ?_
        refine R_iadd dL_law_937 ?_
        refine R_ialdP (r := 0) dL_law_938 (by decide) (rn_ixe (show z + 2 = nI (i + 2) by rw [hz]; exact sm_add i 2)) (show i + 2 < rn_Ln G by omega) ?_
        refine cv_2 dL_law_939 mm_RL_116 sh_1 (Nat.le_of_ble_eq_true rfl) ⟨_, rfl, rfl⟩ (Nat.le_of_ble_eq_true rfl) (Nat.le_of_ble_eq_true rfl) (KC_book hv hc (fun m1 l1 D1 hhi hc1 => ?_))
        have hr1 := hr.hi hhi
        refine al_2 dL_law_942 ?_
        refine al_0 dL_law_943 ?_
        refine il_3 dL_law_944 ?_
        refine R_iconst (v := 1) dL_law_945 (by decide) ?_
        refine R_iadd dL_law_946 ?_
        refine R_ialdP (r := 0) dL_law_947 (by decide) (rn_ixe (show z + 1 = nI (i + 1) by rw [hz]; exact sm_add i 1)) (show i + 1 < rn_Ln G by omega) ?_
        refine al_0 dL_law_948 ?_
        refine il_3 dL_law_949 ?_
        refine R_iconst (v := 2) dL_law_950 (by decide) ?_
        refine R_iadd dL_law_951 ?_
        refine R_ialdP (r := 0) dL_law_952 (by decide) (rn_ixe (show z + 2 = nI (i + 2) by rw [hz]; exact sm_add i 2)) (show i + 2 < rn_Ln G by omega) ?_
        refine cv_2 dL_law_953 mm_RL_119 sh_116 (Nat.le_of_ble_eq_true rfl) ⟨_, rfl, rfl⟩ (Nat.le_of_ble_eq_true rfl) (Nat.le_of_ble_eq_true rfl) (MC_book hv hr1 (fun m2 l2 hlo hr2 => ?_))
        refine R_icmp_eq (tgt := 1368) dL_law_956 (by decide) (fun c956 => ?_) (fun q => absurd q (not_not_intro rfl))
        refine ii_3 (v := _ + 6) dL_law_1368 rfl (by rfl) ?_
        refine R_goto (tgt := 18) dL_law_1371 (by decide) ?_
        first
          | exact ih (i + 6) _ _ _ _ _ _ _ _ _ _ _ _ _ _ _ _ (by omega) (by omega) (by rw [hz]; exact sm_add i 6) hv.book (hc1.lo hv.book hlo) hr2
          | exact ih (i + 6) _ _ _ _ _ _ _ _ _ _ _ _ _ _ _ _ (by omega) (by omega) (by rw [hz]; exact sm_add i 6) hv hc hr
      by_cases w33_25 : (rn_pf G 0 i &&& 63) = 25
      · refine R_tswI (tgt := 961) dL_law_33 25 w33_25 (by decide) (by decide) rfl (by decide) ?_
        refine al_1 dL_law_961 ?_
        refine cv_0 dL_law_962 mm_RL_120 sh_1 (Nat.le_of_ble_eq_true rfl) ⟨_, rfl, rfl⟩ (Nat.le_of_ble_eq_true rfl) (Nat.le_of_ble_eq_true rfl) (KC_looked hv hc (fun m1 l1 D1 hhi hc1 => ?_))
        have hr1 := hr.hi hhi
        refine al_2 dL_law_965 ?_
        refine cv_0 dL_law_966 mm_RL_123 sh_116 (Nat.le_of_ble_eq_true rfl) ⟨_, rfl, rfl⟩ (Nat.le_of_ble_eq_true rfl) (Nat.le_of_ble_eq_true rfl) (MC_looked hv hr1 (fun m2 l2 hlo hr2 => ?_))
        refine R_icmp_eq (tgt := 1368) dL_law_969 (by decide) (fun c969 => ?_) (fun q => absurd q (not_not_intro rfl))
        refine ii_3 (v := _ + 6) dL_law_1368 rfl (by rfl) ?_
        refine R_goto (tgt := 18) dL_law_1371 (by decide) ?_
        first
          | exact ih (i + 6) _ _ _ _ _ _ _ _ _ _ _ _ _ _ _ _ (by omega) (by omega) (by rw [hz]; exact sm_add i 6) hv (hc1.lo hv hlo) hr2
          | exact ih (i + 6) _ _ _ _ _ _ _ _ _ _ _ _ _ _ _ _ (by omega) (by omega) (by rw [hz]; exact sm_add i 6) hv hc hr
      by_cases w33_26 : (rn_pf G 0 i &&& 63) = 26
      · refine R_tswI (tgt := 974) dL_law_33 26 w33_26 (by decide) (by decide) rfl (by decide) ?_
        refine al_1 dL_law_974 ?_
        refine al_0 dL_law_975 ?_
        refine il_3 dL_law_976 ?_
        refine R_iconst (v := 1) dL_law_977 (by decide) ?_
        refine R_iadd dL_law_978 ?_
        refine R_ialdP (r := 0) dL_law_979 (by decide) (rn_ixe (show z + 1 = nI (i + 1) by rw [hz]; exact sm_add i 1)) (show i + 1 < rn_Ln G by omega) ?_
        refine al_0 dL_law_980 ?_
        refine il_3 dL_law_981 ?_
        refine R_iconst (v := 2) dL_law_982 (by decide) ?_
        refine R_iadd dL_law_983 ?_
        refine R_ialdP (r := 0) dL_law_984 (by decide) (rn_ixe (show z + 2 = nI (i + 2) by rw [hz]; exact sm_add i 2)) (show i + 2 < rn_Ln G by omega) ?_
        refine cv_2 dL_law_985 mm_RL_124 sh_1 (Nat.le_of_ble_eq_true rfl) ⟨_, rfl, rfl⟩ (Nat.le_of_ble_eq_true rfl) (Nat.le_of_ble_eq_true rfl) (KC_judge hv hc (fun m1 l1 D1 hhi hc1 => ?_))
        have hr1 := hr.hi hhi
        refine al_2 dL_law_988 ?_
        refine al_0 dL_law_989 ?_
        refine il_3 dL_law_990 ?_
        refine R_iconst (v := 1) dL_law_991 (by decide) ?_
        refine R_iadd dL_law_992 ?_
        refine R_ialdP (r := 0) dL_law_993 (by decide) (rn_ixe (show z + 1 = nI (i + 1) by rw [hz]; exact sm_add i 1)) (show i + 1 < rn_Ln G by omega) ?_
        refine al_0 dL_law_994 ?_
        refine il_3 dL_law_995 ?_
        refine R_iconst (v := 2) dL_law_996 (by decide) ?_
        refine R_iadd dL_law_997 ?_
        refine R_ialdP (r := 0) dL_law_998 (by decide) (rn_ixe (show z + 2 = nI (i + 2) by rw [hz]; exact sm_add i 2)) (show i + 2 < rn_Ln G by omega) ?_
        refine cv_2 dL_law_999 mm_RL_127 sh_116 (Nat.le_of_ble_eq_true rfl) ⟨_, rfl, rfl⟩ (Nat.le_of_ble_eq_true rfl) (Nat.le_of_ble_eq_true rfl) (MC_judge hv hr1 (fun m2 l2 hlo hr2 => ?_))
        refine R_icmp_eq (tgt := 1368) dL_law_1002 (by decide) (fun c1002 => ?_) (fun q => absurd q (not_not_intro rfl))
        refine ii_3 (v := _ + 6) dL_law_1368 rfl (by rfl) ?_
        refine R_goto (tgt := 18) dL_law_1371 (by decide) ?_
        first
          | exact ih (i + 6) _ _ _ _ _ _ _ _ _ _ _ _ _ _ _ _ (by omega) (by omega) (by rw [hz]; exact sm_add i 6) hv (hc1.lo hv hlo) hr2
          | exact ih (i + 6) _ _ _ _ _ _ _ _ _ _ _ _ _ _ _ _ (by omega) (by omega) (by rw [hz]; exact sm_add i 6) hv hc hr
      by_cases w33_27 : (rn_pf G 0 i &&& 63) = 27
      · refine R_tswI (tgt := 1007) dL_law_33 27 w33_27 (by decide) (by decide) rfl (by decide) ?_
        refine al_1 dL_law_1007 ?_
        refine cv_0 dL_law_1008 mm_RL_128 sh_1 (Nat.le_of_ble_eq_true rfl) ⟨_, rfl, rfl⟩ (Nat.le_of_ble_eq_true rfl) (Nat.le_of_ble_eq_true rfl) (KC_image hv hc (fun m1 l1 D1 hhi hc1 => ?_))
        have hr1 := hr.hi hhi
        refine al_2 dL_law_1011 ?_
        refine cv_0 dL_law_1012 mm_RL_131 sh_116 (Nat.le_of_ble_eq_true rfl) ⟨_, rfl, rfl⟩ (Nat.le_of_ble_eq_true rfl) (Nat.le_of_ble_eq_true rfl) (MC_image hv hr1 (fun m2 l2 hlo hr2 => ?_))
        refine R_icmp_eq (tgt := 1368) dL_law_1015 (by decide) (fun c1015 => ?_) (fun q => absurd q (not_not_intro rfl))
        refine ii_3 (v := _ + 6) dL_law_1368 rfl (by rfl) ?_
        refine R_goto (tgt := 18) dL_law_1371 (by decide) ?_
        first
          | exact ih (i + 6) _ _ _ _ _ _ _ _ _ _ _ _ _ _ _ _ (by omega) (by omega) (by rw [hz]; exact sm_add i 6) hv.image (hc1.lo hv.image hlo) hr2
          | exact ih (i + 6) _ _ _ _ _ _ _ _ _ _ _ _ _ _ _ _ (by omega) (by omega) (by rw [hz]; exact sm_add i 6) hv hc hr
      by_cases w33_28 : (rn_pf G 0 i &&& 63) = 28
      · refine R_tswI (tgt := 1020) dL_law_33 28 w33_28 (by decide) (by decide) rfl (by decide) ?_
        refine al_1 dL_law_1020 ?_
        refine cv_0 dL_law_1021 mm_RL_132 sh_1 (Nat.le_of_ble_eq_true rfl) ⟨_, rfl, rfl⟩ (Nat.le_of_ble_eq_true rfl) (Nat.le_of_ble_eq_true rfl) (KC_undo hv hc (fun m1 l1 D1 hhi hc1 => ?_))
        have hr1 := hr.hi hhi
        refine al_2 dL_law_1024 ?_
        refine cv_0 dL_law_1025 mm_RL_135 sh_116 (Nat.le_of_ble_eq_true rfl) ⟨_, rfl, rfl⟩ (Nat.le_of_ble_eq_true rfl) (Nat.le_of_ble_eq_true rfl) (MC_undo hv hr1 (fun m2 l2 hlo hr2 => ?_))
        refine R_icmp_eq (tgt := 1368) dL_law_1028 (by decide) (fun c1028 => ?_) (fun q => absurd q (not_not_intro rfl))
        refine ii_3 (v := _ + 6) dL_law_1368 rfl (by rfl) ?_
        refine R_goto (tgt := 18) dL_law_1371 (by decide) ?_
        first
          | exact ih (i + 6) _ _ _ _ _ _ _ _ _ _ _ _ _ _ _ _ (by omega) (by omega) (by rw [hz]; exact sm_add i 6) hv.undo (hc1.lo hv.undo hlo) hr2
          | exact ih (i + 6) _ _ _ _ _ _ _ _ _ _ _ _ _ _ _ _ (by omega) (by omega) (by rw [hz]; exact sm_add i 6) hv hc hr
      by_cases w33_29 : (rn_pf G 0 i &&& 63) = 29
      · refine R_tswI (tgt := 1033) dL_law_33 29 w33_29 (by decide) (by decide) rfl (by decide) ?_
        refine al_1 dL_law_1033 ?_
        refine al_0 dL_law_1034 ?_
        refine il_3 dL_law_1035 ?_
        refine R_iconst (v := 1) dL_law_1036 (by decide) ?_
        refine R_iadd dL_law_1037 ?_
        refine R_ialdP (r := 0) dL_law_1038 (by decide) (rn_ixe (show z + 1 = nI (i + 1) by rw [hz]; exact sm_add i 1)) (show i + 1 < rn_Ln G by omega) ?_
        refine al_0 dL_law_1039 ?_
        refine il_3 dL_law_1040 ?_
        refine R_iconst (v := 2) dL_law_1041 (by decide) ?_
        refine R_iadd dL_law_1042 ?_
        refine R_ialdP (r := 0) dL_law_1043 (by decide) (rn_ixe (show z + 2 = nI (i + 2) by rw [hz]; exact sm_add i 2)) (show i + 2 < rn_Ln G by omega) ?_
        refine al_0 dL_law_1044 ?_
        refine il_3 dL_law_1045 ?_
        refine R_iconst (v := 3) dL_law_1046 (by decide) ?_
        refine R_iadd dL_law_1047 ?_
        refine R_ialdP (r := 0) dL_law_1048 (by decide) (rn_ixe (show z + 3 = nI (i + 3) by rw [hz]; exact sm_add i 3)) (show i + 3 < rn_Ln G by omega) ?_
        refine cv_3 dL_law_1049 mm_RL_136 sh_1 (Nat.le_of_ble_eq_true rfl) ⟨_, rfl, rfl⟩ (Nat.le_of_ble_eq_true rfl) (Nat.le_of_ble_eq_true rfl) (KC_act hv hc (fun m1 l1 D1 hhi hc1 => ?_))
        have hr1 := hr.hi hhi
        refine al_2 dL_law_1052 ?_
        refine al_0 dL_law_1053 ?_
        refine il_3 dL_law_1054 ?_
        refine R_iconst (v := 1) dL_law_1055 (by decide) ?_
        refine R_iadd dL_law_1056 ?_
        refine R_ialdP (r := 0) dL_law_1057 (by decide) (rn_ixe (show z + 1 = nI (i + 1) by rw [hz]; exact sm_add i 1)) (show i + 1 < rn_Ln G by omega) ?_
        refine al_0 dL_law_1058 ?_
        refine il_3 dL_law_1059 ?_
        refine R_iconst (v := 2) dL_law_1060 (by decide) ?_
        refine R_iadd dL_law_1061 ?_
        refine R_ialdP (r := 0) dL_law_1062 (by decide) (rn_ixe (show z + 2 = nI (i + 2) by rw [hz]; exact sm_add i 2)) (show i + 2 < rn_Ln G by omega) ?_
        refine al_0 dL_law_1063 ?_
        refine il_3 dL_law_1064 ?_
        refine R_iconst (v := 3) dL_law_1065 (by decide) ?_
        refine R_iadd dL_law_1066 ?_
        refine R_ialdP (r := 0) dL_law_1067 (by decide) (rn_ixe (show z + 3 = nI (i + 3) by rw [hz]; exact sm_add i 3)) (show i + 3 < rn_Ln G by omega) ?_
        refine cv_3 dL_law_1068 mm_RL_139 sh_116 (Nat.le_of_ble_eq_true rfl) ⟨_, rfl, rfl⟩ (Nat.le_of_ble_eq_true rfl) (Nat.le_of_ble_eq_true rfl) (MC_act hv hr1 (fun m2 l2 hlo hr2 => ?_))
        refine R_icmp_eq (tgt := 1368) dL_law_1071 (by decide) (fun c1071 => ?_) (fun q => absurd q (not_not_intro rfl))
        refine ii_3 (v := _ + 6) dL_law_1368 rfl (by rfl) ?_
        refine R_goto (tgt := 18) dL_law_1371 (by decide) ?_
        first
          | exact ih (i + 6) _ _ _ _ _ _ _ _ _ _ _ _ _ _ _ _ (by omega) (by omega) (by rw [hz]; exact sm_add i 6) hv.act (hc1.lo hv.act hlo) hr2
          | exact ih (i + 6) _ _ _ _ _ _ _ _ _ _ _ _ _ _ _ _ (by omega) (by omega) (by rw [hz]; exact sm_add i 6) hv hc hr
      by_cases w33_30 : (rn_pf G 0 i &&& 63) = 30
      · refine R_tswI (tgt := 1076) dL_law_33 30 w33_30 (by decide) (by decide) rfl (by decide) ?_
        refine al_1 dL_law_1076 ?_
        refine al_0 dL_law_1077 ?_
        refine il_3 dL_law_1078 ?_
        refine R_iconst (v := 1) dL_law_1079 (by decide) ?_
        refine R_iadd dL_law_1080 ?_
        refine R_ialdP (r := 0) dL_law_1081 (by decide) (rn_ixe (show z + 1 = nI (i + 1) by rw [hz]; exact sm_add i 1)) (show i + 1 < rn_Ln G by omega) ?_
        refine cv_1 dL_law_1082 mm_RL_140 sh_1 (Nat.le_of_ble_eq_true rfl) ⟨_, rfl, rfl⟩ (Nat.le_of_ble_eq_true rfl) (Nat.le_of_ble_eq_true rfl) (KC_trace hv hc (fun m1 l1 D1 hhi hc1 => ?_))
        have hr1 := hr.hi hhi
        refine al_2 dL_law_1085 ?_
        refine al_0 dL_law_1086 ?_
        refine il_3 dL_law_1087 ?_
        refine R_iconst (v := 1) dL_law_1088 (by decide) ?_
        refine R_iadd dL_law_1089 ?_
        refine R_ialdP (r := 0) dL_law_1090 (by decide) (rn_ixe (show z + 1 = nI (i + 1) by rw [hz]; exact sm_add i 1)) (show i + 1 < rn_Ln G by omega) ?_
        refine cv_1 dL_law_1091 mm_RL_143 sh_116 (Nat.le_of_ble_eq_true rfl) ⟨_, rfl, rfl⟩ (Nat.le_of_ble_eq_true rfl) (Nat.le_of_ble_eq_true rfl) (MC_trace hv hr1 (fun m2 l2 hlo hr2 => ?_))
        refine R_icmp_eq (tgt := 1368) dL_law_1094 (by decide) (fun c1094 => ?_) (fun q => absurd q (not_not_intro rfl))
        refine ii_3 (v := _ + 6) dL_law_1368 rfl (by rfl) ?_
        refine R_goto (tgt := 18) dL_law_1371 (by decide) ?_
        first
          | exact ih (i + 6) _ _ _ _ _ _ _ _ _ _ _ _ _ _ _ _ (by omega) (by omega) (by rw [hz]; exact sm_add i 6) hv (hc1.lo hv hlo) hr2
          | exact ih (i + 6) _ _ _ _ _ _ _ _ _ _ _ _ _ _ _ _ (by omega) (by omega) (by rw [hz]; exact sm_add i 6) hv hc hr
      by_cases w33_31 : (rn_pf G 0 i &&& 63) = 31
      · refine R_tswI (tgt := 1099) dL_law_33 31 w33_31 (by decide) (by decide) rfl (by decide) ?_
        refine al_1 dL_law_1099 ?_
        refine al_0 dL_law_1100 ?_
        refine il_3 dL_law_1101 ?_
        refine R_iconst (v := 1) dL_law_1102 (by decide) ?_
        refine R_iadd dL_law_1103 ?_
        refine R_ialdP (r := 0) dL_law_1104 (by decide) (rn_ixe (show z + 1 = nI (i + 1) by rw [hz]; exact sm_add i 1)) (show i + 1 < rn_Ln G by omega) ?_
        refine al_0 dL_law_1105 ?_
        refine il_3 dL_law_1106 ?_
        refine R_iconst (v := 2) dL_law_1107 (by decide) ?_
        refine R_iadd dL_law_1108 ?_
        refine R_ialdP (r := 0) dL_law_1109 (by decide) (rn_ixe (show z + 2 = nI (i + 2) by rw [hz]; exact sm_add i 2)) (show i + 2 < rn_Ln G by omega) ?_
        refine cv_2 dL_law_1110 mm_RL_144 sh_1 (Nat.le_of_ble_eq_true rfl) ⟨_, rfl, rfl⟩ (Nat.le_of_ble_eq_true rfl) (Nat.le_of_ble_eq_true rfl) (KC_taken hv hc (fun m1 l1 D1 hhi hc1 => ?_))
        have hr1 := hr.hi hhi
        refine al_2 dL_law_1113 ?_
        refine al_0 dL_law_1114 ?_
        refine il_3 dL_law_1115 ?_
        refine R_iconst (v := 1) dL_law_1116 (by decide) ?_
        refine R_iadd dL_law_1117 ?_
        refine R_ialdP (r := 0) dL_law_1118 (by decide) (rn_ixe (show z + 1 = nI (i + 1) by rw [hz]; exact sm_add i 1)) (show i + 1 < rn_Ln G by omega) ?_
        refine al_0 dL_law_1119 ?_
        refine il_3 dL_law_1120 ?_
        refine R_iconst (v := 2) dL_law_1121 (by decide) ?_
        refine R_iadd dL_law_1122 ?_
        refine R_ialdP (r := 0) dL_law_1123 (by decide) (rn_ixe (show z + 2 = nI (i + 2) by rw [hz]; exact sm_add i 2)) (show i + 2 < rn_Ln G by omega) ?_
        refine cv_2 dL_law_1124 mm_RL_147 sh_116 (Nat.le_of_ble_eq_true rfl) ⟨_, rfl, rfl⟩ (Nat.le_of_ble_eq_true rfl) (Nat.le_of_ble_eq_true rfl) (MC_taken hv hr1 (fun m2 l2 hlo hr2 => ?_))
        refine R_icmp_eq (tgt := 1368) dL_law_1127 (by decide) (fun c1127 => ?_) (fun q => absurd q (not_not_intro rfl))
        refine ii_3 (v := _ + 6) dL_law_1368 rfl (by rfl) ?_
        refine R_goto (tgt := 18) dL_law_1371 (by decide) ?_
        first
          | exact ih (i + 6) _ _ _ _ _ _ _ _ _ _ _ _ _ _ _ _ (by omega) (by omega) (by rw [hz]; exact sm_add i 6) hv (hc1.lo hv hlo) hr2
          | exact ih (i + 6) _ _ _ _ _ _ _ _ _ _ _ _ _ _ _ _ (by omega) (by omega) (by rw [hz]; exact sm_add i 6) hv hc hr
      by_cases w33_32 : (rn_pf G 0 i &&& 63) = 32
      · refine R_tswI (tgt := 1132) dL_law_33 32 w33_32 (by decide) (by decide) rfl (by decide) ?_
        refine al_1 dL_law_1132 ?_
        refine al_0 dL_law_1133 ?_
        refine il_3 dL_law_1134 ?_
        refine R_iconst (v := 1) dL_law_1135 (by decide) ?_
        refine R_iadd dL_law_1136 ?_
        refine R_ialdP (r := 0) dL_law_1137 (by decide) (rn_ixe (show z + 1 = nI (i + 1) by rw [hz]; exact sm_add i 1)) (show i + 1 < rn_Ln G by omega) ?_
        refine cv_1 dL_law_1138 mm_RL_148 sh_1 (Nat.le_of_ble_eq_true rfl) ⟨_, rfl, rfl⟩ (Nat.le_of_ble_eq_true rfl) (Nat.le_of_ble_eq_true rfl) (KC_count hv hc (fun m1 l1 D1 hhi hc1 => ?_))
        have hr1 := hr.hi hhi
        refine al_2 dL_law_1141 ?_
        refine al_0 dL_law_1142 ?_
        refine il_3 dL_law_1143 ?_
        refine R_iconst (v := 1) dL_law_1144 (by decide) ?_
        refine R_iadd dL_law_1145 ?_
        refine R_ialdP (r := 0) dL_law_1146 (by decide) (rn_ixe (show z + 1 = nI (i + 1) by rw [hz]; exact sm_add i 1)) (show i + 1 < rn_Ln G by omega) ?_
        refine cv_1 dL_law_1147 mm_RL_151 sh_116 (Nat.le_of_ble_eq_true rfl) ⟨_, rfl, rfl⟩ (Nat.le_of_ble_eq_true rfl) (Nat.le_of_ble_eq_true rfl) (MC_count hv hr1 (fun m2 l2 hlo hr2 => ?_))
        refine R_icmp_eq (tgt := 1368) dL_law_1150 (by decide) (fun c1150 => ?_) (fun q => absurd q (not_not_intro rfl))
        refine ii_3 (v := _ + 6) dL_law_1368 rfl (by rfl) ?_
        refine R_goto (tgt := 18) dL_law_1371 (by decide) ?_
        first
          | exact ih (i + 6) _ _ _ _ _ _ _ _ _ _ _ _ _ _ _ _ (by omega) (by omega) (by rw [hz]; exact sm_add i 6) hv (hc1.lo hv hlo) hr2
          | exact ih (i + 6) _ _ _ _ _ _ _ _ _ _ _ _ _ _ _ _ (by omega) (by omega) (by rw [hz]; exact sm_add i 6) hv hc hr
      by_cases w33_33 : (rn_pf G 0 i &&& 63) = 33
      · refine R_tswI (tgt := 1155) dL_law_33 33 w33_33 (by decide) (by decide) rfl (by decide) ?_
        refine al_1 dL_law_1155 ?_
        refine al_0 dL_law_1156 ?_
        refine il_3 dL_law_1157 ?_
        refine R_iconst (v := 1) dL_law_1158 (by decide) ?_
        refine R_iadd dL_law_1159 ?_
        refine R_ialdP (r := 0) dL_law_1160 (by decide) (rn_ixe (show z + 1 = nI (i + 1) by rw [hz]; exact sm_add i 1)) (show i + 1 < rn_Ln G by omega) ?_
        refine al_0 dL_law_1161 ?_
        refine il_3 dL_law_1162 ?_
        refine R_iconst (v := 2) dL_law_1163 (by decide) ?_
        refine R_iadd dL_law_1164 ?_
        refine R_ialdP (r := 0) dL_law_1165 (by decide) (rn_ixe (show z + 2 = nI (i + 2) by rw [hz]; exact sm_add i 2)) (show i + 2 < rn_Ln G by omega) ?_
        refine al_0 dL_law_1166 ?_
        refine il_3 dL_law_1167 ?_
        refine R_iconst (v := 3) dL_law_1168 (by decide) ?_
        refine R_iadd dL_law_1169 ?_
        refine R_ialdP (r := 0) dL_law_1170 (by decide) (rn_ixe (show z + 3 = nI (i + 3) by rw [hz]; exact sm_add i 3)) (show i + 3 < rn_Ln G by omega) ?_
        refine cv_3 dL_law_1171 mm_RL_152 sh_1 (Nat.le_of_ble_eq_true rfl) ⟨_, rfl, rfl⟩ (Nat.le_of_ble_eq_true rfl) (Nat.le_of_ble_eq_true rfl) (KC_tape hv hc (fun m1 l1 D1 hhi hc1 => ?_))
        have hr1 := hr.hi hhi
        refine al_2 dL_law_1174 ?_
        refine al_0 dL_law_1175 ?_
        refine il_3 dL_law_1176 ?_
        refine R_iconst (v := 1) dL_law_1177 (by decide) ?_
        refine R_iadd dL_law_1178 ?_
        refine R_ialdP (r := 0) dL_law_1179 (by decide) (rn_ixe (show z + 1 = nI (i + 1) by rw [hz]; exact sm_add i 1)) (show i + 1 < rn_Ln G by omega) ?_
        refine al_0 dL_law_1180 ?_
        refine il_3 dL_law_1181 ?_
        refine R_iconst (v := 2) dL_law_1182 (by decide) ?_
        refine R_iadd dL_law_1183 ?_
        refine R_ialdP (r := 0) dL_law_1184 (by decide) (rn_ixe (show z + 2 = nI (i + 2) by rw [hz]; exact sm_add i 2)) (show i + 2 < rn_Ln G by omega) ?_
        refine al_0 dL_law_1185 ?_
        refine il_3 dL_law_1186 ?_
        refine R_iconst (v := 3) dL_law_1187 (by decide) ?_
        refine R_iadd dL_law_1188 ?_
        refine R_ialdP (r := 0) dL_law_1189 (by decide) (rn_ixe (show z + 3 = nI (i + 3) by rw [hz]; exact sm_add i 3)) (show i + 3 < rn_Ln G by omega) ?_
        refine cv_3 dL_law_1190 mm_RL_155 sh_116 (Nat.le_of_ble_eq_true rfl) ⟨_, rfl, rfl⟩ (Nat.le_of_ble_eq_true rfl) (Nat.le_of_ble_eq_true rfl) (MC_tape hv hr1 (fun m2 l2 hlo hr2 => ?_))
        refine R_icmp_eq (tgt := 1368) dL_law_1193 (by decide) (fun c1193 => ?_) (fun q => absurd q (not_not_intro rfl))
        refine ii_3 (v := _ + 6) dL_law_1368 rfl (by rfl) ?_
        refine R_goto (tgt := 18) dL_law_1371 (by decide) ?_
        first
          | exact ih (i + 6) _ _ _ _ _ _ _ _ _ _ _ _ _ _ _ _ (by omega) (by omega) (by rw [hz]; exact sm_add i 6) hv.tape (hc1.lo hv.tape hlo) hr2
          | exact ih (i + 6) _ _ _ _ _ _ _ _ _ _ _ _ _ _ _ _ (by omega) (by omega) (by rw [hz]; exact sm_add i 6) hv hc hr
      by_cases w33_34 : (rn_pf G 0 i &&& 63) = 34
      · refine R_tswI (tgt := 1198) dL_law_33 34 w33_34 (by decide) (by decide) rfl (by decide) ?_
        refine al_1 dL_law_1198 ?_
        refine al_0 dL_law_1199 ?_
        refine il_3 dL_law_1200 ?_
        refine R_iconst (v := 1) dL_law_1201 (by decide) ?_
        refine R_iadd dL_law_1202 ?_
        refine R_ialdP (r := 0) dL_law_1203 (by decide) (rn_ixe (show z + 1 = nI (i + 1) by rw [hz]; exact sm_add i 1)) (show i + 1 < rn_Ln G by omega) ?_
        refine al_0 dL_law_1204 ?_
        refine il_3 dL_law_1205 ?_
        refine R_iconst (v := 2) dL_law_1206 (by decide) ?_
        refine R_iadd dL_law_1207 ?_
        refine R_ialdP (r := 0) dL_law_1208 (by decide) (rn_ixe (show z + 2 = nI (i + 2) by rw [hz]; exact sm_add i 2)) (show i + 2 < rn_Ln G by omega) ?_
        refine al_0 dL_law_1209 ?_
        refine il_3 dL_law_1210 ?_
        refine R_iconst (v := 3) dL_law_1211 (by decide) ?_
        refine R_iadd dL_law_1212 ?_
        refine R_ialdP (r := 0) dL_law_1213 (by decide) (rn_ixe (show z + 3 = nI (i + 3) by rw [hz]; exact sm_add i 3)) (show i + 3 < rn_Ln G by omega) ?_
        refine R_i2l dL_law_1214 ?_
        refine R_bipush (v := 32) dL_law_1215 (by decide) ?_
        refine R_lshl dL_law_1217 ?_
        refine al_0 dL_law_1218 ?_
        refine il_3 dL_law_1219 ?_
        refine R_iconst (v := 4) dL_law_1220 (by decide) ?_
        refine R_iadd dL_law_1221 ?_
        refine R_ialdP (r := 0) dL_law_1222 (by decide) (rn_ixe (show z + 4 = nI (i + 4) by rw [hz]; exact sm_add i 4)) (show i + 4 < rn_Ln G by omega) ?_
        refine R_i2l dL_law_1223 ?_
        refine R_ldc2 dL_law_1224 kl_RL_156 ?_
        refine R_land dL_law_1227 ?_
        refine R_lor dL_law_1228 ?_
        refine cv_3 dL_law_1229 mm_RL_158 sh_1 (Nat.le_of_ble_eq_true rfl) ⟨_, rfl, rfl⟩ (Nat.le_of_ble_eq_true rfl) (Nat.le_of_ble_eq_true rfl) (KC_item hv hc (fun m1 l1 D1 hhi hc1 => ?_))
        have hr1 := hr.hi hhi
        refine al_2 dL_law_1232 ?_
        refine al_0 dL_law_1233 ?_
        refine il_3 dL_law_1234 ?_
        refine R_iconst (v := 1) dL_law_1235 (by decide) ?_
        refine R_iadd dL_law_1236 ?_
        refine R_ialdP (r := 0) dL_law_1237 (by decide) (rn_ixe (show z + 1 = nI (i + 1) by rw [hz]; exact sm_add i 1)) (show i + 1 < rn_Ln G by omega) ?_
        refine al_0 dL_law_1238 ?_
        refine il_3 dL_law_1239 ?_
        refine R_iconst (v := 2) dL_law_1240 (by decide) ?_
        refine R_iadd dL_law_1241 ?_
        refine R_ialdP (r := 0) dL_law_1242 (by decide) (rn_ixe (show z + 2 = nI (i + 2) by rw [hz]; exact sm_add i 2)) (show i + 2 < rn_Ln G by omega) ?_
        refine al_0 dL_law_1243 ?_
        refine il_3 dL_law_1244 ?_
        refine R_iconst (v := 3) dL_law_1245 (by decide) ?_
        refine R_iadd dL_law_1246 ?_
        refine R_ialdP (r := 0) dL_law_1247 (by decide) (rn_ixe (show z + 3 = nI (i + 3) by rw [hz]; exact sm_add i 3)) (show i + 3 < rn_Ln G by omega) ?_
        refine R_i2l dL_law_1248 ?_
        refine R_bipush (v := 32) dL_law_1249 (by decide) ?_
        refine R_lshl dL_law_1251 ?_
        refine al_0 dL_law_1252 ?_
        refine il_3 dL_law_1253 ?_
        refine R_iconst (v := 4) dL_law_1254 (by decide) ?_
        refine R_iadd dL_law_1255 ?_
        refine R_ialdP (r := 0) dL_law_1256 (by decide) (rn_ixe (show z + 4 = nI (i + 4) by rw [hz]; exact sm_add i 4)) (show i + 4 < rn_Ln G by omega) ?_
        refine R_i2l dL_law_1257 ?_
        refine R_ldc2 dL_law_1258 kl_RL_156 ?_
        refine R_land dL_law_1261 ?_
        refine R_lor dL_law_1262 ?_
        refine cv_3 dL_law_1263 mm_RL_162 sh_116 (Nat.le_of_ble_eq_true rfl) ⟨_, rfl, rfl⟩ (Nat.le_of_ble_eq_true rfl) (Nat.le_of_ble_eq_true rfl) (MC_item hv hr1 (fun m2 l2 hlo hr2 => ?_))
        refine R_icmp_eq (tgt := 1368) dL_law_1266 (by decide) (fun c1266 => ?_) (fun q => absurd q (not_not_intro rfl))
        refine ii_3 (v := _ + 6) dL_law_1368 rfl (by rfl) ?_
        refine R_goto (tgt := 18) dL_law_1371 (by decide) ?_
        first
          | exact ih (i + 6) _ _ _ _ _ _ _ _ _ _ _ _ _ _ _ _ (by omega) (by omega) (by rw [hz]; exact sm_add i 6) hv.item (hc1.lo hv.item hlo) hr2
          | exact ih (i + 6) _ _ _ _ _ _ _ _ _ _ _ _ _ _ _ _ (by omega) (by omega) (by rw [hz]; exact sm_add i 6) hv hc hr
      by_cases w33_35 : (rn_pf G 0 i &&& 63) = 35
      · refine R_tswI (tgt := 1271) dL_law_33 35 w33_35 (by decide) (by decide) rfl (by decide) ?_
        refine al_1 dL_law_1271 ?_
        refine al_0 dL_law_1272 ?_
        refine il_3 dL_law_1273 ?_
        refine R_iconst (v := 1) dL_law_1274 (by decide) ?_
        refine R_iadd dL_law_1275 ?_
        refine R_ialdP (r := 0) dL_law_1276 (by decide) (rn_ixe (show z + 1 = nI (i + 1) by rw [hz]; exact sm_add i 1)) (show i + 1 < rn_Ln G by omega) ?_
        refine al_0 dL_law_1277 ?_
        refine il_3 dL_law_1278 ?_
        refine R_iconst (v := 2) dL_law_1279 (by decide) ?_
        refine R_iadd dL_law_1280 ?_
        refine R_ialdP (r := 0) dL_law_1281 (by decide) (rn_ixe (show z + 2 = nI (i + 2) by rw [hz]; exact sm_add i 2)) (show i + 2 < rn_Ln G by omega) ?_
        refine cv_2 dL_law_1282 mm_RL_163 sh_1 (Nat.le_of_ble_eq_true rfl) ⟨_, rfl, rfl⟩ (Nat.le_of_ble_eq_true rfl) (Nat.le_of_ble_eq_true rfl) (KC_read hv hc (fun m1 l1 D1 hhi hc1 => ?_))
        have hr1 := hr.hi hhi
        refine al_2 dL_law_1285 ?_
        refine al_0 dL_law_1286 ?_
        refine il_3 dL_law_1287 ?_
        refine R_iconst (v := 1) dL_law_1288 (by decide) ?_
        refine R_iadd dL_law_1289 ?_
        refine R_ialdP (r := 0) dL_law_1290 (by decide) (rn_ixe (show z + 1 = nI (i + 1) by rw [hz]; exact sm_add i 1)) (show i + 1 < rn_Ln G by omega) ?_
        refine al_0 dL_law_1291 ?_
        refine il_3 dL_law_1292 ?_
        refine R_iconst (v := 2) dL_law_1293 (by decide) ?_
        refine R_iadd dL_law_1294 ?_
        refine R_ialdP (r := 0) dL_law_1295 (by decide) (rn_ixe (show z + 2 = nI (i + 2) by rw [hz]; exact sm_add i 2)) (show i + 2 < rn_Ln G by omega) ?_
        refine cv_2 dL_law_1296 mm_RL_166 sh_116 (Nat.le_of_ble_eq_true rfl) ⟨_, rfl, rfl⟩ (Nat.le_of_ble_eq_true rfl) (Nat.le_of_ble_eq_true rfl) (MC_read hv hr1 (fun m2 l2 hlo hr2 => ?_))
        refine R_lcmp dL_law_1299 ?_
        refine R_if_eq (tgt := 1368) dL_law_1300 (by decide) (fun c1300 => ?_) (fun q => absurd q (not_not_intro (lg_0.mpr rfl)))
        refine ii_3 (v := _ + 6) dL_law_1368 rfl (by rfl) ?_
        refine R_goto (tgt := 18) dL_law_1371 (by decide) ?_
        first
          | exact ih (i + 6) _ _ _ _ _ _ _ _ _ _ _ _ _ _ _ _ (by omega) (by omega) (by rw [hz]; exact sm_add i 6) hv (hc1.lo hv hlo) hr2
          | exact ih (i + 6) _ _ _ _ _ _ _ _ _ _ _ _ _ _ _ _ (by omega) (by omega) (by rw [hz]; exact sm_add i 6) hv hc hr
      by_cases w33_36 : (rn_pf G 0 i &&& 63) = 36
      · refine R_tswI (tgt := 1305) dL_law_33 36 w33_36 (by decide) (by decide) rfl (by decide) ?_
        refine al_1 dL_law_1305 ?_
        refine al_0 dL_law_1306 ?_
        refine il_3 dL_law_1307 ?_
        refine R_iconst (v := 1) dL_law_1308 (by decide) ?_
        refine R_iadd dL_law_1309 ?_
        refine R_ialdP (r := 0) dL_law_1310 (by decide) (rn_ixe (show z + 1 = nI (i + 1) by rw [hz]; exact sm_add i 1)) (show i + 1 < rn_Ln G by omega) ?_
        refine al_0 dL_law_1311 ?_
        refine il_3 dL_law_1312 ?_
        refine R_iconst (v := 2) dL_law_1313 (by decide) ?_
        refine R_iadd dL_law_1314 ?_
        refine R_ialdP (r := 0) dL_law_1315 (by decide) (rn_ixe (show z + 2 = nI (i + 2) by rw [hz]; exact sm_add i 2)) (show i + 2 < rn_Ln G by omega) ?_
        refine al_0 dL_law_1316 ?_
        refine il_3 dL_law_1317 ?_
        refine R_iconst (v := 3) dL_law_1318 (by decide) ?_
        refine R_iadd dL_law_1319 ?_
        refine R_ialdP (r := 0) dL_law_1320 (by decide) (rn_ixe (show z + 3 = nI (i + 3) by rw [hz]; exact sm_add i 3)) (show i + 3 < rn_Ln G by omega) ?_
        refine al_0 dL_law_1321 ?_
        refine il_3 dL_law_1322 ?_
        refine R_iconst (v := 4) dL_law_1323 (by decide) ?_
        refine R_iadd dL_law_1324 ?_
        refine R_ialdP (r := 0) dL_law_1325 (by decide) (rn_ixe (show z + 4 = nI (i + 4) by rw [hz]; exact sm_add i 4)) (show i + 4 < rn_Ln G by omega) ?_
        refine al_0 dL_law_1326 ?_
        refine il_3 dL_law_1327 ?_
        refine R_iconst (v := 5) dL_law_1328 (by decide) ?_
        refine R_iadd dL_law_1329 ?_
        refine R_ialdP (r := 0) dL_law_1330 (by decide) (rn_ixe (show z + 5 = nI (i + 5) by rw [hz]; exact sm_add i 5)) (show i + 5 < rn_Ln G by omega) ?_
        refine cv_5 dL_law_1331 mm_RL_167 sh_1 (Nat.le_of_ble_eq_true rfl) ⟨_, rfl, rfl⟩ (Nat.le_of_ble_eq_true rfl) (Nat.le_of_ble_eq_true rfl) (KC_shift hv hc (fun m1 l1 D1 hhi hc1 => ?_))
        have hr1 := hr.hi hhi
        refine al_2 dL_law_1334 ?_
        refine al_0 dL_law_1335 ?_
        refine il_3 dL_law_1336 ?_
        refine R_iconst (v := 1) dL_law_1337 (by decide) ?_
        refine R_iadd dL_law_1338 ?_
        refine R_ialdP (r := 0) dL_law_1339 (by decide) (rn_ixe (show z + 1 = nI (i + 1) by rw [hz]; exact sm_add i 1)) (show i + 1 < rn_Ln G by omega) ?_
        refine al_0 dL_law_1340 ?_
        refine il_3 dL_law_1341 ?_
        refine R_iconst (v := 2) dL_law_1342 (by decide) ?_
        refine R_iadd dL_law_1343 ?_
        refine R_ialdP (r := 0) dL_law_1344 (by decide) (rn_ixe (show z + 2 = nI (i + 2) by rw [hz]; exact sm_add i 2)) (show i + 2 < rn_Ln G by omega) ?_
        refine al_0 dL_law_1345 ?_
        refine il_3 dL_law_1346 ?_
        refine R_iconst (v := 3) dL_law_1347 (by decide) ?_
        refine R_iadd dL_law_1348 ?_
        refine R_ialdP (r := 0) dL_law_1349 (by decide) (rn_ixe (show z + 3 = nI (i + 3) by rw [hz]; exact sm_add i 3)) (show i + 3 < rn_Ln G by omega) ?_
        refine al_0 dL_law_1350 ?_
        refine il_3 dL_law_1351 ?_
        refine R_iconst (v := 4) dL_law_1352 (by decide) ?_
        refine R_iadd dL_law_1353 ?_
        refine R_ialdP (r := 0) dL_law_1354 (by decide) (rn_ixe (show z + 4 = nI (i + 4) by rw [hz]; exact sm_add i 4)) (show i + 4 < rn_Ln G by omega) ?_
        refine al_0 dL_law_1355 ?_
        refine il_3 dL_law_1356 ?_
        refine R_iconst (v := 5) dL_law_1357 (by decide) ?_
        refine R_iadd dL_law_1358 ?_
        refine R_ialdP (r := 0) dL_law_1359 (by decide) (rn_ixe (show z + 5 = nI (i + 5) by rw [hz]; exact sm_add i 5)) (show i + 5 < rn_Ln G by omega) ?_
        refine cv_5 dL_law_1360 mm_RL_171 sh_116 (Nat.le_of_ble_eq_true rfl) ⟨_, rfl, rfl⟩ (Nat.le_of_ble_eq_true rfl) (Nat.le_of_ble_eq_true rfl) (MC_shift hv hr1 (fun m2 l2 hlo hr2 => ?_))
        refine R_icmp_eq (tgt := 1368) dL_law_1363 (by decide) (fun c1363 => ?_) (fun q => absurd q (not_not_intro rfl))
        refine ii_3 (v := _ + 6) dL_law_1368 rfl (by rfl) ?_
        refine R_goto (tgt := 18) dL_law_1371 (by decide) ?_
        first
          | exact ih (i + 6) _ _ _ _ _ _ _ _ _ _ _ _ _ _ _ _ (by omega) (by omega) (by rw [hz]; exact sm_add i 6) hv.shift (hc1.lo hv.shift hlo) hr2
          | exact ih (i + 6) _ _ _ _ _ _ _ _ _ _ _ _ _ _ _ _ (by omega) (by omega) (by rw [hz]; exact sm_add i 6) hv hc hr
      refine R_tswO (tgt := 1368) dL_law_33 (by have w33_0' := lv_neT (a := 0) w33_0 rfl; have w33_1' := lv_neT (a := 1) w33_1 rfl; have w33_2' := lv_neT (a := 2) w33_2 rfl; have w33_3' := lv_neT (a := 3) w33_3 rfl; have w33_4' := lv_neT (a := 4) w33_4 rfl; have w33_5' := lv_neT (a := 5) w33_5 rfl; have w33_6' := lv_neT (a := 6) w33_6 rfl; have w33_7' := lv_neT (a := 7) w33_7 rfl; have w33_8' := lv_neT (a := 8) w33_8 rfl; have w33_9' := lv_neT (a := 9) w33_9 rfl; have w33_10' := lv_neT (a := 10) w33_10 rfl; have w33_11' := lv_neT (a := 11) w33_11 rfl; have w33_12' := lv_neT (a := 12) w33_12 rfl; have w33_13' := lv_neT (a := 13) w33_13 rfl; have w33_14' := lv_neT (a := 14) w33_14 rfl; have w33_15' := lv_neT (a := 15) w33_15 rfl; have w33_16' := lv_neT (a := 16) w33_16 rfl; have w33_17' := lv_neT (a := 17) w33_17 rfl; have w33_18' := lv_neT (a := 18) w33_18 rfl; have w33_19' := lv_neT (a := 19) w33_19 rfl; have w33_20' := lv_neT (a := 20) w33_20 rfl; have w33_21' := lv_neT (a := 21) w33_21 rfl; have w33_22' := lv_neT (a := 22) w33_22 rfl; have w33_23' := lv_neT (a := 23) w33_23 rfl; have w33_24' := lv_neT (a := 24) w33_24 rfl; have w33_25' := lv_neT (a := 25) w33_25 rfl; have w33_26' := lv_neT (a := 26) w33_26 rfl; have w33_27' := lv_neT (a := 27) w33_27 rfl; have w33_28' := lv_neT (a := 28) w33_28 rfl; have w33_29' := lv_neT (a := 29) w33_29 rfl; have w33_30' := lv_neT (a := 30) w33_30 rfl; have w33_31' := lv_neT (a := 31) w33_31 rfl; have w33_32' := lv_neT (a := 32) w33_32 rfl; have w33_33' := lv_neT (a := 33) w33_33 rfl; have w33_34' := lv_neT (a := 34) w33_34 rfl; have w33_35' := lv_neT (a := 35) w33_35 rfl; have w33_36' := lv_neT (a := 36) w33_36 rfl; omega) (by decide) ?_
      refine ii_3 (v := _ + 6) dL_law_1368 rfl (by rfl) ?_
      refine R_goto (tgt := 18) dL_law_1371 (by decide) ?_
      first
        | exact ih (i + 6) _ _ _ _ _ _ _ _ _ _ _ _ _ _ _ _ (by omega) (by omega) (by rw [hz]; exact sm_add i 6) hv.shift (hc1.lo hv.shift hlo) hr2
        | exact ih (i + 6) _ _ _ _ _ _ _ _ _ _ _ _ _ _ _ _ (by omega) (by omega) (by rw [hz]; exact sm_add i 6) hv hc hr
