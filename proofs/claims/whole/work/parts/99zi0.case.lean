/-! the law's cases -/
set_option maxRecDepth 100000 in
set_option maxHeartbeats 4000000 in
theorem lc_0 {Ls : Nat} {xs : Nat → Int32} {i K k ks : Nat} {g : GS} (hLs : Ls ≤ 3584) (hi : i + 7 ≤ Ls) (hK : K < 100000) (hk : k + 5 ≤ 601024) (hks : ks + 463 ≤ 7293034) (h : Rel K g) (hgo : ∀ g', Rel (K + 3) g' → JG Ls xs 3168 i g' (k + 5) (ks + 463)) : JG Ls xs 224 i g k ks := by
  refine Jl_aload_n (nx := 225) dL_law_224 rfl rfl ?_
  refine Jl_arg (nx := 231) (i := i) (j := 1) dL_law_225 dL_law_226 dL_law_228 dL_law_229 dL_law_230 rfl rfl rfl rfl hLs (by omega) ?_
  refine Jl_arg (nx := 237) (i := i) (j := 2) dL_law_231 dL_law_232 dL_law_234 dL_law_235 dL_law_236 rfl rfl rfl rfl hLs (by omega) ?_
  refine Jl_arg (nx := 243) (i := i) (j := 3) dL_law_237 dL_law_238 dL_law_240 dL_law_241 dL_law_242 rfl rfl rfl rfl hLs (by omega) ?_
  refine Jl_arg (nx := 249) (i := i) (j := 4) dL_law_243 dL_law_244 dL_law_246 dL_law_247 dL_law_248 rfl rfl rfl rfl hLs (by omega) ?_
  refine Jl_arg (nx := 255) (i := i) (j := 5) dL_law_249 dL_law_250 dL_law_252 dL_law_253 dL_law_254 rfl rfl rfl rfl hLs (by omega) ?_
  refine Jl_callV (M' := mX11_feed) (R' := rm 3 0 0) (As := [.int (xs (i + 1)), .int (xs (i + 2)), .int (xs (i + 3)), .int (xs (i + 4)), .int (xs (i + 5))]) (nx := 258) dL_law_255 rfl ml_X11_feed lk_L_144 iv_X11_feed rfl rfl rfl ⟨(Nat.le_of_ble_eq_true rfl), (Nat.le_of_ble_eq_true rfl)⟩ (Nat.le_of_ble_eq_true rfl) ⟨Nat.le_trans (Nat.le_add_right k 5) hk, Nat.le_trans (Nat.le_add_right ks 463) hks⟩ (al_feed h _ _ _ _ _) (fun E es' z => by obtain ⟨_, _, z1, -⟩ := z; cases z1) (fun v es' hq => ?_)
  obtain ⟨v1, g1, z1, z2, hC⟩ := hq
  cases z1
  subst z2
  refine Jl.widen (k + 5) (ks + 463) (Nat.add_le_add_left (Nat.le_of_ble_eq_true rfl) k) (Nat.add_le_add_left (Nat.le_of_ble_eq_true rfl) ks) ?_
  refine Jl_aload_n (nx := 259) dL_law_258 rfl rfl ?_
  refine Jl_arg (nx := 265) (i := i) (j := 1) dL_law_259 dL_law_260 dL_law_262 dL_law_263 dL_law_264 rfl rfl rfl rfl hLs (by omega) ?_
  refine Jl_arg (nx := 271) (i := i) (j := 2) dL_law_265 dL_law_266 dL_law_268 dL_law_269 dL_law_270 rfl rfl rfl rfl hLs (by omega) ?_
  refine Jl_arg (nx := 277) (i := i) (j := 3) dL_law_271 dL_law_272 dL_law_274 dL_law_275 dL_law_276 rfl rfl rfl rfl hLs (by omega) ?_
  refine Jl_arg (nx := 283) (i := i) (j := 4) dL_law_277 dL_law_278 dL_law_280 dL_law_281 dL_law_282 rfl rfl rfl rfl hLs (by omega) ?_
  refine Jl_arg (nx := 289) (i := i) (j := 5) dL_law_283 dL_law_284 dL_law_286 dL_law_287 dL_law_288 rfl rfl rfl rfl hLs (by omega) ?_
  refine Jl_callV (M' := mX12_feed) (R' := rm 1 0 0) (As := [.int (xs (i + 1)), .int (xs (i + 2)), .int (xs (i + 3)), .int (xs (i + 4)), .int (xs (i + 5))]) (nx := 292) dL_law_289 rfl ml_X12_feed lk_L_147 iv_X12_feed rfl rfl rfl ⟨(Nat.le_of_ble_eq_true rfl), (Nat.le_of_ble_eq_true rfl)⟩ (Nat.le_of_ble_eq_true rfl) ⟨hk, hks⟩ hC (fun E es' z => by obtain ⟨_, _, z1, -⟩ := z; cases z1) (fun v es' hq => ?_)
  obtain ⟨x, g2, z1, z2, hv, hR⟩ := hq
  cases z1
  subst z2
  refine Jl_icmp_eq (nx := 295) (tgt := 3168) dL_law_292 rfl (by decide) (fun _ => ?_) (fun z => absurd hv z)
  exact hgo g2 (hR.up (by omega))
set_option maxRecDepth 100000 in
set_option maxHeartbeats 4000000 in
theorem lc_1 {Ls : Nat} {xs : Nat → Int32} {i K k ks : Nat} {g : GS} (hLs : Ls ≤ 3584) (hi : i + 7 ≤ Ls) (hK : K < 100000) (hk : k + 5 ≤ 601024) (hks : ks + 463 ≤ 7293034) (h : Rel K g) (hgo : ∀ g', Rel (K + 3) g' → JG Ls xs 3168 i g' (k + 5) (ks + 463)) : JG Ls xs 297 i g k ks := by
  refine Jl_aload_n (nx := 298) dL_law_297 rfl rfl ?_
  refine Jl_arg (nx := 304) (i := i) (j := 1) dL_law_298 dL_law_299 dL_law_301 dL_law_302 dL_law_303 rfl rfl rfl rfl hLs (by omega) ?_
  refine Jl_callV (M' := mX11_end) (R' := rm 2 0 0) (As := [.int (xs (i + 1))]) (nx := 307) dL_law_304 rfl ml_X11_end lk_L_148 iv_X11_end rfl rfl rfl ⟨(Nat.le_of_ble_eq_true rfl), (Nat.le_of_ble_eq_true rfl)⟩ (Nat.le_of_ble_eq_true rfl) ⟨Nat.le_trans (Nat.le_add_right k 5) hk, Nat.le_trans (Nat.le_add_right ks 463) hks⟩ (al_end h _) (fun E es' z => by obtain ⟨_, _, z1, -⟩ := z; cases z1) (fun v es' hq => ?_)
  obtain ⟨v1, g1, z1, z2, hC⟩ := hq
  cases z1
  subst z2
  refine Jl.widen (k + 5) (ks + 463) (Nat.add_le_add_left (Nat.le_of_ble_eq_true rfl) k) (Nat.add_le_add_left (Nat.le_of_ble_eq_true rfl) ks) ?_
  refine Jl_aload_n (nx := 308) dL_law_307 rfl rfl ?_
  refine Jl_arg (nx := 314) (i := i) (j := 1) dL_law_308 dL_law_309 dL_law_311 dL_law_312 dL_law_313 rfl rfl rfl rfl hLs (by omega) ?_
  refine Jl_callV (M' := mX12_end) (R' := rm 0 0 0) (As := [.int (xs (i + 1))]) (nx := 317) dL_law_314 rfl ml_X12_end lk_L_152 iv_X12_end rfl rfl rfl ⟨(Nat.le_of_ble_eq_true rfl), (Nat.le_of_ble_eq_true rfl)⟩ (Nat.le_of_ble_eq_true rfl) ⟨hk, hks⟩ hC (fun E es' z => by obtain ⟨_, _, z1, -⟩ := z; cases z1) (fun v es' hq => ?_)
  obtain ⟨x, g2, z1, z2, hv, hR⟩ := hq
  cases z1
  subst z2
  refine Jl_icmp_eq (nx := 320) (tgt := 3168) dL_law_317 rfl (by decide) (fun _ => ?_) (fun z => absurd hv z)
  exact hgo g2 (hR.up (by omega))
set_option maxRecDepth 100000 in
set_option maxHeartbeats 4000000 in
theorem lc_2 {Ls : Nat} {xs : Nat → Int32} {i K k ks : Nat} {g : GS} (hLs : Ls ≤ 3584) (hi : i + 7 ≤ Ls) (hK : K < 100000) (hk : k + 5 ≤ 601024) (hks : ks + 463 ≤ 7293034) (h : Rel K g) (hgo : ∀ g', Rel (K + 3) g' → JG Ls xs 3168 i g' (k + 5) (ks + 463)) : JG Ls xs 322 i g k ks := by
  refine Jl_aload_n (nx := 323) dL_law_322 rfl rfl ?_
  refine Jl_aload_n (nx := 324) dL_law_323 rfl rfl ?_
  refine Jl_callX (R' := rm 41 2 12) (As := [.ref 0, .ref 82]) (nx := 327) dL_law_324 rfl wl_game lk_L_153 ws_game rfl ⟨(Nat.le_of_ble_eq_true rfl), (Nat.le_of_ble_eq_true rfl)⟩ (Nat.le_of_ble_eq_true rfl) ⟨(show k + 2 ≤ 601024 by omega), (show ks + 12 ≤ 7293034 by omega)⟩ (cw_game  (al_game h )) (fun E es' z => by obtain ⟨_, _, z1, -⟩ := z; cases z1) (fun v es' hq => ?_)
  obtain ⟨kk, g3, z1, z2, vv, g1, w, z3, hw, hC⟩ := hq
  cases z1
  subst z2
  subst z3
  refine Jl.widen (k + 5) (ks + 463) (Nat.add_le_add_left (Nat.le_of_ble_eq_true rfl) k) (Nat.add_le_add_left (Nat.le_of_ble_eq_true rfl) ks) ?_
  refine Jl_istore (nx := 329) dL_law_327 rfl rfl (Nat.le_of_ble_eq_true rfl) ?_
  refine Jl_aload_n (nx := 330) dL_law_329 rfl rfl ?_
  refine Jl_callV (M' := mX12_game) (R' := rm 43 0 0) (As := []) (nx := 333) dL_law_330 rfl ml_X12_game lk_L_158 iv_X12_game rfl rfl rfl ⟨(Nat.le_of_ble_eq_true rfl), (Nat.le_of_ble_eq_true rfl)⟩ (Nat.le_of_ble_eq_true rfl) ⟨hk, hks⟩ (hC w) (fun E es' z => by obtain ⟨_, _, z1, -⟩ := z; cases z1) (fun v es' hq => ?_)
  obtain ⟨x, g2, z1, z2, hth, hval, hR, hB⟩ := hq
  cases z1
  subst z2
  refine Jl_istore (nx := 335) dL_law_333 rfl rfl (Nat.le_of_ble_eq_true rfl) ?_
  refine Jl_aload_n (nx := 336) dL_law_335 rfl rfl ?_
  refine Jl_callV (M' := mX12_thrown) (R' := rm 0 0 0) (As := []) (nx := 339) dL_law_336 rfl ml_X12_thrown lk_L_159 iv_X12_thrown rfl rfl rfl ⟨(Nat.le_of_ble_eq_true rfl), (Nat.le_of_ble_eq_true rfl)⟩ (Nat.le_of_ble_eq_true rfl) ⟨hk, hks⟩ (ct_m_thrown _) (fun E es' z => by cases z.1) (fun v es' hq => ?_)
  obtain ⟨z1, z2⟩ := hq
  cases z1
  subst z2
  refine Jl_iload (nx := 341) dL_law_339 rfl rfl ?_
  refine Jl_icmp_eq (nx := 344) (tgt := 346) dL_law_341 rfl (by decide) (fun _ => ?_) (fun z => absurd hth z)
  refine Jl_iload (nx := 348) dL_law_346 rfl rfl ?_
  refine Jl_if_ne (nx := 351) (tgt := 363) dL_law_348 rfl (by decide) (fun hne => ?_) (fun he => ?_)
  · refine Jl_goto (nx := 3168) dL_law_363 (by decide) ?_
    exact Jl_kill (nx := 0) 5 (Jl_kill (nx := 0) 6 (hgo g2 (hR.up (by omega))))
  · refine Jl_aload_n (nx := 352) dL_law_351 rfl rfl ?_
    refine Jl_iconst (nx := 353) (v := 0) (by decide) dL_law_352 rfl ?_
    refine Jl_lald (nx := 354) (es := Wd g2) (a := 82) (n := 1) (f := gB g2 82) dL_law_353 rfl rfl (fun z => z.elim (by decide) (by decide)) ?_
    refine Jl_iload (nx := 356) dL_law_354 rfl rfl ?_
    refine Jl_i2l (nx := 357) dL_law_356 rfl ?_
    refine Jl_lcmp (nx := 358) dL_law_357 rfl ?_
    have hc0 : lg_cmp (gB g2 82 (0 : Int32).toNatClampNeg) x.toInt64 = 0 := by
      rw [hB]; show lg_cmp (w 0) x.toInt64 = 0; rw [hw he, hval he]; exact lg_cmp_self _
    refine Jl_if_eq (nx := 361) (tgt := 363) dL_law_358 rfl (by decide) (fun _ => ?_) (fun z => absurd hc0 z)
    refine Jl_goto (nx := 3168) dL_law_363 (by decide) ?_
    exact Jl_kill (nx := 0) 5 (Jl_kill (nx := 0) 6 (hgo g2 (hR.up (by omega))))
set_option maxRecDepth 100000 in
set_option maxHeartbeats 4000000 in
theorem lc_3 {Ls : Nat} {xs : Nat → Int32} {i K k ks : Nat} {g : GS} (hLs : Ls ≤ 3584) (hi : i + 7 ≤ Ls) (hK : K < 100000) (hk : k + 5 ≤ 601024) (hks : ks + 463 ≤ 7293034) (h : Rel K g) (hgo : ∀ g', Rel (K + 3) g' → JG Ls xs 3168 i g' (k + 5) (ks + 463)) : JG Ls xs 366 i g k ks := by
  refine Jl_aload_n (nx := 367) dL_law_366 rfl rfl ?_
  refine Jl_aload_n (nx := 368) dL_law_367 rfl rfl ?_
  refine Jl_callX (R' := rm 41 4 457) (As := [.ref 0, .ref 82]) (nx := 371) dL_law_368 rfl wl_goals lk_L_162 ws_goals rfl ⟨(Nat.le_of_ble_eq_true rfl), (Nat.le_of_ble_eq_true rfl)⟩ (Nat.le_of_ble_eq_true rfl) ⟨(show k + 4 ≤ 601024 by omega), (show ks + 457 ≤ 7293034 by omega)⟩ (cw_goals  (al_goals h hK )) (fun E es' z => by obtain ⟨_, _, z1, -⟩ := z; cases z1) (fun v es' hq => ?_)
  obtain ⟨kk, g3, z1, z2, vv, g1, w, z3, hw, hC⟩ := hq
  cases z1
  subst z2
  subst z3
  refine Jl.widen (k + 5) (ks + 463) (Nat.add_le_add_left (Nat.le_of_ble_eq_true rfl) k) (Nat.add_le_add_left (Nat.le_of_ble_eq_true rfl) ks) ?_
  refine Jl_istore (nx := 373) dL_law_371 rfl rfl (Nat.le_of_ble_eq_true rfl) ?_
  refine Jl_aload_n (nx := 374) dL_law_373 rfl rfl ?_
  refine Jl_callV (M' := mX12_goals) (R' := rm 43 0 0) (As := []) (nx := 377) dL_law_374 rfl ml_X12_goals lk_L_164 iv_X12_goals rfl rfl rfl ⟨(Nat.le_of_ble_eq_true rfl), (Nat.le_of_ble_eq_true rfl)⟩ (Nat.le_of_ble_eq_true rfl) ⟨hk, hks⟩ (hC w) (fun E es' z => by obtain ⟨_, _, z1, -⟩ := z; cases z1) (fun v es' hq => ?_)
  obtain ⟨x, g2, z1, z2, hth, hval, hR, hB⟩ := hq
  cases z1
  subst z2
  refine Jl_istore (nx := 379) dL_law_377 rfl rfl (Nat.le_of_ble_eq_true rfl) ?_
  refine Jl_aload_n (nx := 380) dL_law_379 rfl rfl ?_
  refine Jl_callV (M' := mX12_thrown) (R' := rm 0 0 0) (As := []) (nx := 383) dL_law_380 rfl ml_X12_thrown lk_L_159 iv_X12_thrown rfl rfl rfl ⟨(Nat.le_of_ble_eq_true rfl), (Nat.le_of_ble_eq_true rfl)⟩ (Nat.le_of_ble_eq_true rfl) ⟨hk, hks⟩ (ct_m_thrown _) (fun E es' z => by cases z.1) (fun v es' hq => ?_)
  obtain ⟨z1, z2⟩ := hq
  cases z1
  subst z2
  refine Jl_iload (nx := 385) dL_law_383 rfl rfl ?_
  refine Jl_icmp_eq (nx := 388) (tgt := 390) dL_law_385 rfl (by decide) (fun _ => ?_) (fun z => absurd hth z)
  refine Jl_iload (nx := 392) dL_law_390 rfl rfl ?_
  refine Jl_if_ne (nx := 395) (tgt := 407) dL_law_392 rfl (by decide) (fun hne => ?_) (fun he => ?_)
  · refine Jl_goto (nx := 3168) dL_law_407 (by decide) ?_
    exact Jl_kill (nx := 0) 5 (Jl_kill (nx := 0) 6 (hgo g2 (hR.up (by omega))))
  · refine Jl_aload_n (nx := 396) dL_law_395 rfl rfl ?_
    refine Jl_iconst (nx := 397) (v := 0) (by decide) dL_law_396 rfl ?_
    refine Jl_lald (nx := 398) (es := Wd g2) (a := 82) (n := 1) (f := gB g2 82) dL_law_397 rfl rfl (fun z => z.elim (by decide) (by decide)) ?_
    refine Jl_iload (nx := 400) dL_law_398 rfl rfl ?_
    refine Jl_i2l (nx := 401) dL_law_400 rfl ?_
    refine Jl_lcmp (nx := 402) dL_law_401 rfl ?_
    have hc0 : lg_cmp (gB g2 82 (0 : Int32).toNatClampNeg) x.toInt64 = 0 := by
      rw [hB]; show lg_cmp (w 0) x.toInt64 = 0; rw [hw he, hval he]; exact lg_cmp_self _
    refine Jl_if_eq (nx := 405) (tgt := 407) dL_law_402 rfl (by decide) (fun _ => ?_) (fun z => absurd hc0 z)
    refine Jl_goto (nx := 3168) dL_law_407 (by decide) ?_
    exact Jl_kill (nx := 0) 5 (Jl_kill (nx := 0) 6 (hgo g2 (hR.up (by omega))))
set_option maxRecDepth 100000 in
set_option maxHeartbeats 4000000 in
theorem lc_4 {Ls : Nat} {xs : Nat → Int32} {i K k ks : Nat} {g : GS} (hLs : Ls ≤ 3584) (hi : i + 7 ≤ Ls) (hK : K < 100000) (hk : k + 5 ≤ 601024) (hks : ks + 463 ≤ 7293034) (h : Rel K g) (hgo : ∀ g', Rel (K + 3) g' → JG Ls xs 3168 i g' (k + 5) (ks + 463)) : JG Ls xs 410 i g k ks := by
  refine Jl_aload_n (nx := 411) dL_law_410 rfl rfl ?_
  refine Jl_aload_n (nx := 412) dL_law_411 rfl rfl ?_
  refine Jl_callX (R' := rm 41 5 463) (As := [.ref 0, .ref 82]) (nx := 415) dL_law_412 rfl wl_rule lk_L_165 ws_rule rfl ⟨(Nat.le_of_ble_eq_true rfl), (Nat.le_of_ble_eq_true rfl)⟩ (Nat.le_of_ble_eq_true rfl) ⟨(show k + 5 ≤ 601024 by omega), (show ks + 463 ≤ 7293034 by omega)⟩ (cw_rule  (al_rule h hK )) (fun E es' z => by obtain ⟨_, _, z1, -⟩ := z; cases z1) (fun v es' hq => ?_)
  obtain ⟨kk, g3, z1, z2, vv, g1, w, z3, hw, hC⟩ := hq
  cases z1
  subst z2
  subst z3
  refine Jl.widen (k + 5) (ks + 463) (Nat.add_le_add_left (Nat.le_of_ble_eq_true rfl) k) (Nat.add_le_add_left (Nat.le_of_ble_eq_true rfl) ks) ?_
  refine Jl_istore (nx := 417) dL_law_415 rfl rfl (Nat.le_of_ble_eq_true rfl) ?_
  refine Jl_aload_n (nx := 418) dL_law_417 rfl rfl ?_
  refine Jl_callV (M' := mX12_rule) (R' := rm 43 0 0) (As := []) (nx := 421) dL_law_418 rfl ml_X12_rule lk_L_167 iv_X12_rule rfl rfl rfl ⟨(Nat.le_of_ble_eq_true rfl), (Nat.le_of_ble_eq_true rfl)⟩ (Nat.le_of_ble_eq_true rfl) ⟨hk, hks⟩ (hC w) (fun E es' z => by obtain ⟨_, _, z1, -⟩ := z; cases z1) (fun v es' hq => ?_)
  obtain ⟨x, g2, z1, z2, hth, hval, hR, hB⟩ := hq
  cases z1
  subst z2
  refine Jl_istore (nx := 423) dL_law_421 rfl rfl (Nat.le_of_ble_eq_true rfl) ?_
  refine Jl_aload_n (nx := 424) dL_law_423 rfl rfl ?_
  refine Jl_callV (M' := mX12_thrown) (R' := rm 0 0 0) (As := []) (nx := 427) dL_law_424 rfl ml_X12_thrown lk_L_159 iv_X12_thrown rfl rfl rfl ⟨(Nat.le_of_ble_eq_true rfl), (Nat.le_of_ble_eq_true rfl)⟩ (Nat.le_of_ble_eq_true rfl) ⟨hk, hks⟩ (ct_m_thrown _) (fun E es' z => by cases z.1) (fun v es' hq => ?_)
  obtain ⟨z1, z2⟩ := hq
  cases z1
  subst z2
  refine Jl_iload (nx := 429) dL_law_427 rfl rfl ?_
  refine Jl_icmp_eq (nx := 432) (tgt := 434) dL_law_429 rfl (by decide) (fun _ => ?_) (fun z => absurd hth z)
  refine Jl_iload (nx := 436) dL_law_434 rfl rfl ?_
  refine Jl_if_ne (nx := 439) (tgt := 451) dL_law_436 rfl (by decide) (fun hne => ?_) (fun he => ?_)
  · refine Jl_goto (nx := 3168) dL_law_451 (by decide) ?_
    exact Jl_kill (nx := 0) 5 (Jl_kill (nx := 0) 6 (hgo g2 (hR.up (by omega))))
  · refine Jl_aload_n (nx := 440) dL_law_439 rfl rfl ?_
    refine Jl_iconst (nx := 441) (v := 0) (by decide) dL_law_440 rfl ?_
    refine Jl_lald (nx := 442) (es := Wd g2) (a := 82) (n := 1) (f := gB g2 82) dL_law_441 rfl rfl (fun z => z.elim (by decide) (by decide)) ?_
    refine Jl_iload (nx := 444) dL_law_442 rfl rfl ?_
    refine Jl_i2l (nx := 445) dL_law_444 rfl ?_
    refine Jl_lcmp (nx := 446) dL_law_445 rfl ?_
    have hc0 : lg_cmp (gB g2 82 (0 : Int32).toNatClampNeg) x.toInt64 = 0 := by
      rw [hB]; show lg_cmp (w 0) x.toInt64 = 0; rw [hw he, hval he]; exact lg_cmp_self _
    refine Jl_if_eq (nx := 449) (tgt := 451) dL_law_446 rfl (by decide) (fun _ => ?_) (fun z => absurd hc0 z)
    refine Jl_goto (nx := 3168) dL_law_451 (by decide) ?_
    exact Jl_kill (nx := 0) 5 (Jl_kill (nx := 0) 6 (hgo g2 (hR.up (by omega))))
set_option maxRecDepth 100000 in
set_option maxHeartbeats 4000000 in
theorem lc_5 {Ls : Nat} {xs : Nat → Int32} {i K k ks : Nat} {g : GS} (hLs : Ls ≤ 3584) (hi : i + 7 ≤ Ls) (hK : K < 100000) (hk : k + 5 ≤ 601024) (hks : ks + 463 ≤ 7293034) (h : Rel K g) (hgo : ∀ g', Rel (K + 3) g' → JG Ls xs 3168 i g' (k + 5) (ks + 463)) : JG Ls xs 454 i g k ks := by
  refine Jl_aload_n (nx := 455) dL_law_454 rfl rfl ?_
  refine Jl_callV (M' := mX11_fault) (R' := rm 1 0 0) (As := []) (nx := 458) dL_law_455 rfl ml_X11_fault lk_L_168 iv_X11_fault rfl rfl rfl ⟨(Nat.le_of_ble_eq_true rfl), (Nat.le_of_ble_eq_true rfl)⟩ (Nat.le_of_ble_eq_true rfl) ⟨Nat.le_trans (Nat.le_add_right k 5) hk, Nat.le_trans (Nat.le_add_right ks 463) hks⟩ (al_fault h ) (fun E es' z => by obtain ⟨_, _, z1, -⟩ := z; cases z1) (fun v es' hq => ?_)
  obtain ⟨v1, g1, z1, z2, hC⟩ := hq
  cases z1
  subst z2
  refine Jl.widen (k + 5) (ks + 463) (Nat.add_le_add_left (Nat.le_of_ble_eq_true rfl) k) (Nat.add_le_add_left (Nat.le_of_ble_eq_true rfl) ks) ?_
  refine Jl_aload_n (nx := 459) dL_law_458 rfl rfl ?_
  refine Jl_callV (M' := mX12_fault) (R' := rm 0 0 0) (As := []) (nx := 462) dL_law_459 rfl ml_X12_fault lk_L_171 iv_X12_fault rfl rfl rfl ⟨(Nat.le_of_ble_eq_true rfl), (Nat.le_of_ble_eq_true rfl)⟩ (Nat.le_of_ble_eq_true rfl) ⟨hk, hks⟩ hC (fun E es' z => by obtain ⟨_, _, z1, -⟩ := z; cases z1) (fun v es' hq => ?_)
  obtain ⟨x, g2, z1, z2, hv, hR⟩ := hq
  cases z1
  subst z2
  refine Jl_icmp_eq (nx := 465) (tgt := 3168) dL_law_462 rfl (by decide) (fun _ => ?_) (fun z => absurd hv z)
  exact hgo g2 (hR.up (by omega))
