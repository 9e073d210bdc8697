set_option maxRecDepth 100000 in
set_option maxHeartbeats 4000000 in
theorem L_load {l : Launch} {G : tp_G} {Q : tp_Q} {k n : Nat} {h : tp_H} {x C : Nat} {mc ms : Nat} {p1 p2 : Int32} {kv : Int32} {F : tp_H → Prop} (hl : l.stackTraces = false) (hC : 6 * C + 6 ≤ G.2.2.2 4) (hN : G.2.2.2 4 ≤ 3072) (hk : k + mc ≤ room_1.cells ∧ n + ms ≤ room_1.slots) (e1 : sc G C 1 = p1) (e2 : sc G C 2 = p2) (hW : tp_Met l G mL_load mc ms [.ref x, .int p1, .int p2, .ref (x + 303)] h (tp_PS (some (.int kv)) F) tp_NX) (hF : ∀ h1, F h1 → ∃ fs b F2, h1.2 (x + 298) = some (.inr (6, fs)) ∧ tp_Met l G mX6_load 0 0 [.ref (x + 298), .int p1, .int p2] h1 (tp_PS (some (.int b)) F2) tp_NX ∧ ∀ h2, F2 h2 → ∃ ov od, tl_J G x (C + 1) kv ov od h2 ∧ (kv = 0 → ov = b.toInt64)) (kk : ∀ h2 thr ov od, tl_J G x (C + 1) thr ov od h2 → tp_Run l G mL_law room_1 Q (k + mc) (n + ms) h2 1997 [some (.ref (G.2.2.2 3)), some (.ref x), some (.ref (x + 298)), some (.ref (x + 303)), some (.ref (x + 304)), some (.int (nI (6 * C))), none, none, none] []) : tp_Run l G mL_law room_1 Q k n h 176 [some (.ref (G.2.2.2 3)), some (.ref x), some (.ref (x + 298)), some (.ref (x + 303)), some (.ref (x + 304)), some (.int (nI (6 * C))), none, none, none] [] := by
  refine r_aload1 dL_law_176 ?_
  refine r_aload0 dL_law_177 ?_
  refine r_iload5 dL_law_178 ?_
  refine r_iconst (v := 1) dL_law_180 (by decide) ?_
  refine r_iadd dL_law_181 ?_
  refine r_sld dL_law_182 (i := 6 * C + 1) (tp_add (6 * C) 1) (by omega) (by omega) ?_
  rw [show nI (G.2.2.2 (5 + (6 * C + 1))) = p1 from e1]
  refine r_aload0 dL_law_183 ?_
  refine r_iload5 dL_law_184 ?_
  refine r_iconst (v := 2) dL_law_186 (by decide) ?_
  refine r_iadd dL_law_187 ?_
  refine r_sld dL_law_188 (i := 6 * C + 2) (tp_add (6 * C) 2) (by omega) (by omega) ?_
  rw [show nI (G.2.2.2 (5 + (6 * C + 2))) = p2 from e2]
  refine r_aload3 dL_law_189 ?_
  refine r_callSW dL_law_190 v_L_105 hW rfl rfl rfl (Nat.le_of_ble_eq_true rfl) ⟨(Nat.le_of_ble_eq_true rfl), (Nat.le_of_ble_eq_true rfl)⟩ hk (fun r h1 hP => ?_)
  obtain ⟨rfl, hF1⟩ := hP
  obtain ⟨fs, b, F2, hob, hQ, hJ⟩ := hF h1 hF1
  refine r_istore6 dL_law_193 (Nat.le_of_ble_eq_true rfl) rfl ?_
  refine r_aload2 dL_law_195 ?_
  refine r_aload0 dL_law_196 ?_
  refine r_iload5 dL_law_197 ?_
  refine r_iconst (v := 1) dL_law_199 (by decide) ?_
  refine r_iadd dL_law_200 ?_
  refine r_sld dL_law_201 (i := 6 * C + 1) (tp_add (6 * C) 1) (by omega) (by omega) ?_
  rw [show nI (G.2.2.2 (5 + (6 * C + 1))) = p1 from e1]
  refine r_aload0 dL_law_202 ?_
  refine r_iload5 dL_law_203 ?_
  refine r_iconst (v := 2) dL_law_205 (by decide) ?_
  refine r_iadd dL_law_206 ?_
  refine r_sld dL_law_207 (i := 6 * C + 2) (tp_add (6 * C) 2) (by omega) (by omega) ?_
  rw [show nI (G.2.2.2 (5 + (6 * C + 2))) = p2 from e2]
  refine r_sV1 dL_law_208 v_L_110 hQ rfl hob rfl rfl rfl (Nat.le_of_ble_eq_true rfl) ⟨(Nat.le_of_ble_eq_true rfl), (Nat.le_of_ble_eq_true rfl)⟩ hk (fun h2 hq => ?_)
  obtain ⟨ov, od, hT, he⟩ := hJ h2 hq
  obtain ⟨u9, π9, ρ9, us9, σ9, s9, n9, tx9, rd9, z9, hi9, pa9, R9, nu9, du9, hs9, ov9, od9, N9, P9, hS9, hV9, eo9, ed9⟩ := id hT
  refine r_istore7 dL_law_211 (Nat.le_of_ble_eq_true rfl) rfl ?_
  refine r_aload2 dL_law_213 ?_
  refine r_pV dL_law_214 v_L_111 (M_thrown hl hS9.mm) rfl hS9.mob rfl rfl rfl (Nat.le_of_ble_eq_true rfl) ⟨(Nat.le_of_ble_eq_true rfl), (Nat.le_of_ble_eq_true rfl)⟩ hk ?_
  refine r_iload6 dL_law_217 ?_
  refine r_icmp_eq (tgt := 224) dL_law_219 (by decide) (fun c219 => ?_) (fun c219 => ?_)
  · refine r_iload6 dL_law_224 ?_
    refine r_if_ne (tgt := 241) dL_law_226 (by decide) (fun c226 => ?_) (fun c226 => ?_)
    · refine r_goto (tgt := 1997) dL_law_241 (by decide) ?_
      refine r_fg 6 ?_
      refine r_fg 7 ?_
      exact kk h2 _ _ _ hT
    · refine r_aload3 dL_law_229 ?_
      refine r_iconst (v := 0) dL_law_230 (by decide) ?_
      refine r_lald dL_law_231 hS9.oc (i := 0) rfl (by decide) (by decide) ?_
      refine r_iload7 dL_law_232 ?_
      refine r_i2l dL_law_234 ?_
      rw [eo9, he (by first | exact c226 | exact Classical.not_not.mp c226)]
      refine r_lcmp dL_law_235 ?_
      rw [lg_cmp_self]
      refine r_if_eq (tgt := 241) dL_law_236 (by decide) (fun c236 => ?_) (fun c236 => ?_)
      · refine r_goto (tgt := 1997) dL_law_241 (by decide) ?_
        refine r_fg 6 ?_
        refine r_fg 7 ?_
        exact kk h2 _ _ _ hT
      · exact absurd rfl c236
  · exact absurd rfl c219

set_option maxRecDepth 100000 in
set_option maxHeartbeats 4000000 in
theorem L_quote {l : Launch} {G : tp_G} {Q : tp_Q} {k n : Nat} {h : tp_H} {x C : Nat} {mc ms : Nat} {p1 p2 : Int32} {kv : Int32} {F : tp_H → Prop} (hl : l.stackTraces = false) (hC : 6 * C + 6 ≤ G.2.2.2 4) (hN : G.2.2.2 4 ≤ 3072) (hk : k + mc ≤ room_1.cells ∧ n + ms ≤ room_1.slots) (e1 : sc G C 1 = p1) (e2 : sc G C 2 = p2) (hW : tp_Met l G mL_quote mc ms [.ref x, .int p1, .int p2, .ref (x + 303)] h (tp_PS (some (.int kv)) F) tp_NX) (hF : ∀ h1, F h1 → ∃ fs b F2, h1.2 (x + 298) = some (.inr (6, fs)) ∧ tp_Met l G mX6_quote 0 0 [.ref (x + 298), .int p1, .int p2] h1 (tp_PS (some (.int b)) F2) tp_NX ∧ ∀ h2, F2 h2 → ∃ ov od, tl_J G x (C + 1) kv ov od h2 ∧ (kv = 0 → ov = b.toInt64)) (kk : ∀ h2 thr ov od, tl_J G x (C + 1) thr ov od h2 → tp_Run l G mL_law room_1 Q (k + mc) (n + ms) h2 1997 [some (.ref (G.2.2.2 3)), some (.ref x), some (.ref (x + 298)), some (.ref (x + 303)), some (.ref (x + 304)), some (.int (nI (6 * C))), none, none, none] []) : tp_Run l G mL_law room_1 Q k n h 244 [some (.ref (G.2.2.2 3)), some (.ref x), some (.ref (x + 298)), some (.ref (x + 303)), some (.ref (x + 304)), some (.int (nI (6 * C))), none, none, none] [] := by
  refine r_aload1 dL_law_244 ?_
  refine r_aload0 dL_law_245 ?_
  refine r_iload5 dL_law_246 ?_
  refine r_iconst (v := 1) dL_law_248 (by decide) ?_
  refine r_iadd dL_law_249 ?_
  refine r_sld dL_law_250 (i := 6 * C + 1) (tp_add (6 * C) 1) (by omega) (by omega) ?_
  rw [show nI (G.2.2.2 (5 + (6 * C + 1))) = p1 from e1]
  refine r_aload0 dL_law_251 ?_
  refine r_iload5 dL_law_252 ?_
  refine r_iconst (v := 2) dL_law_254 (by decide) ?_
  refine r_iadd dL_law_255 ?_
  refine r_sld dL_law_256 (i := 6 * C + 2) (tp_add (6 * C) 2) (by omega) (by omega) ?_
  rw [show nI (G.2.2.2 (5 + (6 * C + 2))) = p2 from e2]
  refine r_aload3 dL_law_257 ?_
  refine r_callSW dL_law_258 v_L_114 hW rfl rfl rfl (Nat.le_of_ble_eq_true rfl) ⟨(Nat.le_of_ble_eq_true rfl), (Nat.le_of_ble_eq_true rfl)⟩ hk (fun r h1 hP => ?_)
  obtain ⟨rfl, hF1⟩ := hP
  obtain ⟨fs, b, F2, hob, hQ, hJ⟩ := hF h1 hF1
  refine r_istore6 dL_law_261 (Nat.le_of_ble_eq_true rfl) rfl ?_
  refine r_aload2 dL_law_263 ?_
  refine r_aload0 dL_law_264 ?_
  refine r_iload5 dL_law_265 ?_
  refine r_iconst (v := 1) dL_law_267 (by decide) ?_
  refine r_iadd dL_law_268 ?_
  refine r_sld dL_law_269 (i := 6 * C + 1) (tp_add (6 * C) 1) (by omega) (by omega) ?_
  rw [show nI (G.2.2.2 (5 + (6 * C + 1))) = p1 from e1]
  refine r_aload0 dL_law_270 ?_
  refine r_iload5 dL_law_271 ?_
  refine r_iconst (v := 2) dL_law_273 (by decide) ?_
  refine r_iadd dL_law_274 ?_
  refine r_sld dL_law_275 (i := 6 * C + 2) (tp_add (6 * C) 2) (by omega) (by omega) ?_
  rw [show nI (G.2.2.2 (5 + (6 * C + 2))) = p2 from e2]
  refine r_sV1 dL_law_276 v_L_116 hQ rfl hob rfl rfl rfl (Nat.le_of_ble_eq_true rfl) ⟨(Nat.le_of_ble_eq_true rfl), (Nat.le_of_ble_eq_true rfl)⟩ hk (fun h2 hq => ?_)
  obtain ⟨ov, od, hT, he⟩ := hJ h2 hq
  obtain ⟨u9, π9, ρ9, us9, σ9, s9, n9, tx9, rd9, z9, hi9, pa9, R9, nu9, du9, hs9, ov9, od9, N9, P9, hS9, hV9, eo9, ed9⟩ := id hT
  refine r_istore7 dL_law_279 (Nat.le_of_ble_eq_true rfl) rfl ?_
  refine r_aload2 dL_law_281 ?_
  refine r_pV dL_law_282 v_L_111 (M_thrown hl hS9.mm) rfl hS9.mob rfl rfl rfl (Nat.le_of_ble_eq_true rfl) ⟨(Nat.le_of_ble_eq_true rfl), (Nat.le_of_ble_eq_true rfl)⟩ hk ?_
  refine r_iload6 dL_law_285 ?_
  refine r_icmp_eq (tgt := 292) dL_law_287 (by decide) (fun c287 => ?_) (fun c287 => ?_)
  · refine r_iload6 dL_law_292 ?_
    refine r_if_ne (tgt := 309) dL_law_294 (by decide) (fun c294 => ?_) (fun c294 => ?_)
    · refine r_goto (tgt := 1997) dL_law_309 (by decide) ?_
      refine r_fg 6 ?_
      refine r_fg 7 ?_
      exact kk h2 _ _ _ hT
    · refine r_aload3 dL_law_297 ?_
      refine r_iconst (v := 0) dL_law_298 (by decide) ?_
      refine r_lald dL_law_299 hS9.oc (i := 0) rfl (by decide) (by decide) ?_
      refine r_iload7 dL_law_300 ?_
      refine r_i2l dL_law_302 ?_
      rw [eo9, he (by first | exact c294 | exact Classical.not_not.mp c294)]
      refine r_lcmp dL_law_303 ?_
      rw [lg_cmp_self]
      refine r_if_eq (tgt := 309) dL_law_304 (by decide) (fun c304 => ?_) (fun c304 => ?_)
      · refine r_goto (tgt := 1997) dL_law_309 (by decide) ?_
        refine r_fg 6 ?_
        refine r_fg 7 ?_
        exact kk h2 _ _ _ hT
      · exact absurd rfl c304
  · exact absurd rfl c287

set_option maxRecDepth 100000 in
set_option maxHeartbeats 4000000 in
theorem L_lock {l : Launch} {G : tp_G} {Q : tp_Q} {k n : Nat} {h : tp_H} {x C : Nat} {mc ms : Nat} {p1 p2 : Int32} {kv : Int32} {F : tp_H → Prop} (hl : l.stackTraces = false) (hC : 6 * C + 6 ≤ G.2.2.2 4) (hN : G.2.2.2 4 ≤ 3072) (hk : k + mc ≤ room_1.cells ∧ n + ms ≤ room_1.slots) (e1 : sc G C 1 = p1) (e2 : sc G C 2 = p2) (hW : tp_Met l G mL_lock mc ms [.ref x, .int p1, .int p2, .ref (x + 303)] h (tp_PS (some (.int kv)) F) tp_NX) (hF : ∀ h1, F h1 → ∃ fs b F2, h1.2 (x + 298) = some (.inr (6, fs)) ∧ tp_Met l G mX6_lock 0 0 [.ref (x + 298), .int p1, .int p2] h1 (tp_PS (some (.int b)) F2) tp_NX ∧ ∀ h2, F2 h2 → ∃ ov od, tl_J G x (C + 1) kv ov od h2 ∧ (kv = 0 → ov = b.toInt64)) (kk : ∀ h2 thr ov od, tl_J G x (C + 1) thr ov od h2 → tp_Run l G mL_law room_1 Q (k + mc) (n + ms) h2 1997 [some (.ref (G.2.2.2 3)), some (.ref x), some (.ref (x + 298)), some (.ref (x + 303)), some (.ref (x + 304)), some (.int (nI (6 * C))), none, none, none] []) : tp_Run l G mL_law room_1 Q k n h 312 [some (.ref (G.2.2.2 3)), some (.ref x), some (.ref (x + 298)), some (.ref (x + 303)), some (.ref (x + 304)), some (.int (nI (6 * C))), none, none, none] [] := by
  refine r_aload1 dL_law_312 ?_
  refine r_aload0 dL_law_313 ?_
  refine r_iload5 dL_law_314 ?_
  refine r_iconst (v := 1) dL_law_316 (by decide) ?_
  refine r_iadd dL_law_317 ?_
  refine r_sld dL_law_318 (i := 6 * C + 1) (tp_add (6 * C) 1) (by omega) (by omega) ?_
  rw [show nI (G.2.2.2 (5 + (6 * C + 1))) = p1 from e1]
  refine r_aload0 dL_law_319 ?_
  refine r_iload5 dL_law_320 ?_
  refine r_iconst (v := 2) dL_law_322 (by decide) ?_
  refine r_iadd dL_law_323 ?_
  refine r_sld dL_law_324 (i := 6 * C + 2) (tp_add (6 * C) 2) (by omega) (by omega) ?_
  rw [show nI (G.2.2.2 (5 + (6 * C + 2))) = p2 from e2]
  refine r_aload3 dL_law_325 ?_
  refine r_callSW dL_law_326 v_L_117 hW rfl rfl rfl (Nat.le_of_ble_eq_true rfl) ⟨(Nat.le_of_ble_eq_true rfl), (Nat.le_of_ble_eq_true rfl)⟩ hk (fun r h1 hP => ?_)
  obtain ⟨rfl, hF1⟩ := hP
  obtain ⟨fs, b, F2, hob, hQ, hJ⟩ := hF h1 hF1
  refine r_istore6 dL_law_329 (Nat.le_of_ble_eq_true rfl) rfl ?_
  refine r_aload2 dL_law_331 ?_
  refine r_aload0 dL_law_332 ?_
  refine r_iload5 dL_law_333 ?_
  refine r_iconst (v := 1) dL_law_335 (by decide) ?_
  refine r_iadd dL_law_336 ?_
  refine r_sld dL_law_337 (i := 6 * C + 1) (tp_add (6 * C) 1) (by omega) (by omega) ?_
  rw [show nI (G.2.2.2 (5 + (6 * C + 1))) = p1 from e1]
  refine r_aload0 dL_law_338 ?_
  refine r_iload5 dL_law_339 ?_
  refine r_iconst (v := 2) dL_law_341 (by decide) ?_
  refine r_iadd dL_law_342 ?_
  refine r_sld dL_law_343 (i := 6 * C + 2) (tp_add (6 * C) 2) (by omega) (by omega) ?_
  rw [show nI (G.2.2.2 (5 + (6 * C + 2))) = p2 from e2]
  refine r_sV1 dL_law_344 v_L_119 hQ rfl hob rfl rfl rfl (Nat.le_of_ble_eq_true rfl) ⟨(Nat.le_of_ble_eq_true rfl), (Nat.le_of_ble_eq_true rfl)⟩ hk (fun h2 hq => ?_)
  obtain ⟨ov, od, hT, he⟩ := hJ h2 hq
  obtain ⟨u9, π9, ρ9, us9, σ9, s9, n9, tx9, rd9, z9, hi9, pa9, R9, nu9, du9, hs9, ov9, od9, N9, P9, hS9, hV9, eo9, ed9⟩ := id hT
  refine r_istore7 dL_law_347 (Nat.le_of_ble_eq_true rfl) rfl ?_
  refine r_aload2 dL_law_349 ?_
  refine r_pV dL_law_350 v_L_111 (M_thrown hl hS9.mm) rfl hS9.mob rfl rfl rfl (Nat.le_of_ble_eq_true rfl) ⟨(Nat.le_of_ble_eq_true rfl), (Nat.le_of_ble_eq_true rfl)⟩ hk ?_
  refine r_iload6 dL_law_353 ?_
  refine r_icmp_eq (tgt := 360) dL_law_355 (by decide) (fun c355 => ?_) (fun c355 => ?_)
  · refine r_iload6 dL_law_360 ?_
    refine r_if_ne (tgt := 377) dL_law_362 (by decide) (fun c362 => ?_) (fun c362 => ?_)
    · refine r_goto (tgt := 1997) dL_law_377 (by decide) ?_
      refine r_fg 6 ?_
      refine r_fg 7 ?_
      exact kk h2 _ _ _ hT
    · refine r_aload3 dL_law_365 ?_
      refine r_iconst (v := 0) dL_law_366 (by decide) ?_
      refine r_lald dL_law_367 hS9.oc (i := 0) rfl (by decide) (by decide) ?_
      refine r_iload7 dL_law_368 ?_
      refine r_i2l dL_law_370 ?_
      rw [eo9, he (by first | exact c362 | exact Classical.not_not.mp c362)]
      refine r_lcmp dL_law_371 ?_
      rw [lg_cmp_self]
      refine r_if_eq (tgt := 377) dL_law_372 (by decide) (fun c372 => ?_) (fun c372 => ?_)
      · refine r_goto (tgt := 1997) dL_law_377 (by decide) ?_
        refine r_fg 6 ?_
        refine r_fg 7 ?_
        exact kk h2 _ _ _ hT
      · exact absurd rfl c372
  · exact absurd rfl c355

set_option maxRecDepth 100000 in
set_option maxHeartbeats 4000000 in
theorem L_exchange {l : Launch} {G : tp_G} {Q : tp_Q} {k n : Nat} {h : tp_H} {x C : Nat} {mc ms : Nat} {p1 p2 p3 p4 : Int32} {kv : Int32} {F : tp_H → Prop} (hl : l.stackTraces = false) (hC : 6 * C + 6 ≤ G.2.2.2 4) (hN : G.2.2.2 4 ≤ 3072) (hk : k + mc ≤ room_1.cells ∧ n + ms ≤ room_1.slots) (e1 : sc G C 1 = p1) (e2 : sc G C 2 = p2) (e3 : sc G C 3 = p3) (e4 : sc G C 4 = p4) (hW : tp_Met l G mL_exchange mc ms [.ref x, .int p1, .int p2, .int p3, .int p4, .ref (x + 303)] h (tp_PS (some (.int kv)) F) tp_NX) (hF : ∀ h1, F h1 → ∃ fs b F2, h1.2 (x + 298) = some (.inr (6, fs)) ∧ tp_Met l G mX6_exchange 0 0 [.ref (x + 298), .int p1, .int p2, .int p3, .int p4] h1 (tp_PS (some (.int b)) F2) tp_NX ∧ ∀ h2, F2 h2 → ∃ ov od, tl_J G x (C + 1) kv ov od h2 ∧ (kv = 0 → ov = b.toInt64)) (kk : ∀ h2 thr ov od, tl_J G x (C + 1) thr ov od h2 → tp_Run l G mL_law room_1 Q (k + mc) (n + ms) h2 1997 [some (.ref (G.2.2.2 3)), some (.ref x), some (.ref (x + 298)), some (.ref (x + 303)), some (.ref (x + 304)), some (.int (nI (6 * C))), none, none, none] []) : tp_Run l G mL_law room_1 Q k n h 380 [some (.ref (G.2.2.2 3)), some (.ref x), some (.ref (x + 298)), some (.ref (x + 303)), some (.ref (x + 304)), some (.int (nI (6 * C))), none, none, none] [] := by
  refine r_aload1 dL_law_380 ?_
  refine r_aload0 dL_law_381 ?_
  refine r_iload5 dL_law_382 ?_
  refine r_iconst (v := 1) dL_law_384 (by decide) ?_
  refine r_iadd dL_law_385 ?_
  refine r_sld dL_law_386 (i := 6 * C + 1) (tp_add (6 * C) 1) (by omega) (by omega) ?_
  rw [show nI (G.2.2.2 (5 + (6 * C + 1))) = p1 from e1]
  refine r_aload0 dL_law_387 ?_
  refine r_iload5 dL_law_388 ?_
  refine r_iconst (v := 2) dL_law_390 (by decide) ?_
  refine r_iadd dL_law_391 ?_
  refine r_sld dL_law_392 (i := 6 * C + 2) (tp_add (6 * C) 2) (by omega) (by omega) ?_
  rw [show nI (G.2.2.2 (5 + (6 * C + 2))) = p2 from e2]
  refine r_aload0 dL_law_393 ?_
  refine r_iload5 dL_law_394 ?_
  refine r_iconst (v := 3) dL_law_396 (by decide) ?_
  refine r_iadd dL_law_397 ?_
  refine r_sld dL_law_398 (i := 6 * C + 3) (tp_add (6 * C) 3) (by omega) (by omega) ?_
  rw [show nI (G.2.2.2 (5 + (6 * C + 3))) = p3 from e3]
  refine r_aload0 dL_law_399 ?_
  refine r_iload5 dL_law_400 ?_
  refine r_iconst (v := 4) dL_law_402 (by decide) ?_
  refine r_iadd dL_law_403 ?_
  refine r_sld dL_law_404 (i := 6 * C + 4) (tp_add (6 * C) 4) (by omega) (by omega) ?_
  rw [show nI (G.2.2.2 (5 + (6 * C + 4))) = p4 from e4]
  refine r_aload3 dL_law_405 ?_
  refine r_callSW dL_law_406 v_L_120 hW rfl rfl rfl (Nat.le_of_ble_eq_true rfl) ⟨(Nat.le_of_ble_eq_true rfl), (Nat.le_of_ble_eq_true rfl)⟩ hk (fun r h1 hP => ?_)
  obtain ⟨rfl, hF1⟩ := hP
  obtain ⟨fs, b, F2, hob, hQ, hJ⟩ := hF h1 hF1
  refine r_istore6 dL_law_409 (Nat.le_of_ble_eq_true rfl) rfl ?_
  refine r_aload2 dL_law_411 ?_
  refine r_aload0 dL_law_412 ?_
  refine r_iload5 dL_law_413 ?_
  refine r_iconst (v := 1) dL_law_415 (by decide) ?_
  refine r_iadd dL_law_416 ?_
  refine r_sld dL_law_417 (i := 6 * C + 1) (tp_add (6 * C) 1) (by omega) (by omega) ?_
  rw [show nI (G.2.2.2 (5 + (6 * C + 1))) = p1 from e1]
  refine r_aload0 dL_law_418 ?_
  refine r_iload5 dL_law_419 ?_
  refine r_iconst (v := 2) dL_law_421 (by decide) ?_
  refine r_iadd dL_law_422 ?_
  refine r_sld dL_law_423 (i := 6 * C + 2) (tp_add (6 * C) 2) (by omega) (by omega) ?_
  rw [show nI (G.2.2.2 (5 + (6 * C + 2))) = p2 from e2]
  refine r_aload0 dL_law_424 ?_
  refine r_iload5 dL_law_425 ?_
  refine r_iconst (v := 3) dL_law_427 (by decide) ?_
  refine r_iadd dL_law_428 ?_
  refine r_sld dL_law_429 (i := 6 * C + 3) (tp_add (6 * C) 3) (by omega) (by omega) ?_
  rw [show nI (G.2.2.2 (5 + (6 * C + 3))) = p3 from e3]
  refine r_aload0 dL_law_430 ?_
  refine r_iload5 dL_law_431 ?_
  refine r_iconst (v := 4) dL_law_433 (by decide) ?_
  refine r_iadd dL_law_434 ?_
  refine r_sld dL_law_435 (i := 6 * C + 4) (tp_add (6 * C) 4) (by omega) (by omega) ?_
  rw [show nI (G.2.2.2 (5 + (6 * C + 4))) = p4 from e4]
  refine r_sV1 dL_law_436 v_L_123 hQ rfl hob rfl rfl rfl (Nat.le_of_ble_eq_true rfl) ⟨(Nat.le_of_ble_eq_true rfl), (Nat.le_of_ble_eq_true rfl)⟩ hk (fun h2 hq => ?_)
  obtain ⟨ov, od, hT, he⟩ := hJ h2 hq
  obtain ⟨u9, π9, ρ9, us9, σ9, s9, n9, tx9, rd9, z9, hi9, pa9, R9, nu9, du9, hs9, ov9, od9, N9, P9, hS9, hV9, eo9, ed9⟩ := id hT
  refine r_istore7 dL_law_439 (Nat.le_of_ble_eq_true rfl) rfl ?_
  refine r_aload2 dL_law_441 ?_
  refine r_pV dL_law_442 v_L_111 (M_thrown hl hS9.mm) rfl hS9.mob rfl rfl rfl (Nat.le_of_ble_eq_true rfl) ⟨(Nat.le_of_ble_eq_true rfl), (Nat.le_of_ble_eq_true rfl)⟩ hk ?_
  refine r_iload6 dL_law_445 ?_
  refine r_icmp_eq (tgt := 452) dL_law_447 (by decide) (fun c447 => ?_) (fun c447 => ?_)
  · refine r_iload6 dL_law_452 ?_
    refine r_if_ne (tgt := 469) dL_law_454 (by decide) (fun c454 => ?_) (fun c454 => ?_)
    · refine r_goto (tgt := 1997) dL_law_469 (by decide) ?_
      refine r_fg 6 ?_
      refine r_fg 7 ?_
      exact kk h2 _ _ _ hT
    · refine r_aload3 dL_law_457 ?_
      refine r_iconst (v := 0) dL_law_458 (by decide) ?_
      refine r_lald dL_law_459 hS9.oc (i := 0) rfl (by decide) (by decide) ?_
      refine r_iload7 dL_law_460 ?_
      refine r_i2l dL_law_462 ?_
      rw [eo9, he (by first | exact c454 | exact Classical.not_not.mp c454)]
      refine r_lcmp dL_law_463 ?_
      rw [lg_cmp_self]
      refine r_if_eq (tgt := 469) dL_law_464 (by decide) (fun c464 => ?_) (fun c464 => ?_)
      · refine r_goto (tgt := 1997) dL_law_469 (by decide) ?_
        refine r_fg 6 ?_
        refine r_fg 7 ?_
        exact kk h2 _ _ _ hT
      · exact absurd rfl c464
  · exact absurd rfl c447

set_option maxRecDepth 100000 in
set_option maxHeartbeats 4000000 in
theorem L_hold {l : Launch} {G : tp_G} {Q : tp_Q} {k n : Nat} {h : tp_H} {x C : Nat} {mc ms : Nat} {p1 p2 p3 : Int32} {kv : Int32} {F : tp_H → Prop} (hl : l.stackTraces = false) (hC : 6 * C + 6 ≤ G.2.2.2 4) (hN : G.2.2.2 4 ≤ 3072) (hk : k + mc ≤ room_1.cells ∧ n + ms ≤ room_1.slots) (e1 : sc G C 1 = p1) (e2 : sc G C 2 = p2) (e3 : sc G C 3 = p3) (hW : tp_Met l G mL_hold mc ms [.ref x, .int p1, .int p2, .int p3, .ref (x + 303)] h (tp_PS (some (.int kv)) F) tp_NX) (hF : ∀ h1, F h1 → ∃ fs b F2, h1.2 (x + 298) = some (.inr (6, fs)) ∧ tp_Met l G mX6_hold 0 0 [.ref (x + 298), .int p1, .int p2, .int p3] h1 (tp_PS (some (.int b)) F2) tp_NX ∧ ∀ h2, F2 h2 → ∃ ov od, tl_J G x (C + 1) kv ov od h2 ∧ (kv = 0 → ov = b.toInt64)) (kk : ∀ h2 thr ov od, tl_J G x (C + 1) thr ov od h2 → tp_Run l G mL_law room_1 Q (k + mc) (n + ms) h2 1997 [some (.ref (G.2.2.2 3)), some (.ref x), some (.ref (x + 298)), some (.ref (x + 303)), some (.ref (x + 304)), some (.int (nI (6 * C))), none, none, none] []) : tp_Run l G mL_law room_1 Q k n h 472 [some (.ref (G.2.2.2 3)), some (.ref x), some (.ref (x + 298)), some (.ref (x + 303)), some (.ref (x + 304)), some (.int (nI (6 * C))), none, none, none] [] := by
  refine r_aload1 dL_law_472 ?_
  refine r_aload0 dL_law_473 ?_
  refine r_iload5 dL_law_474 ?_
  refine r_iconst (v := 1) dL_law_476 (by decide) ?_
  refine r_iadd dL_law_477 ?_
  refine r_sld dL_law_478 (i := 6 * C + 1) (tp_add (6 * C) 1) (by omega) (by omega) ?_
  rw [show nI (G.2.2.2 (5 + (6 * C + 1))) = p1 from e1]
  refine r_aload0 dL_law_479 ?_
  refine r_iload5 dL_law_480 ?_
  refine r_iconst (v := 2) dL_law_482 (by decide) ?_
  refine r_iadd dL_law_483 ?_
  refine r_sld dL_law_484 (i := 6 * C + 2) (tp_add (6 * C) 2) (by omega) (by omega) ?_
  rw [show nI (G.2.2.2 (5 + (6 * C + 2))) = p2 from e2]
  refine r_aload0 dL_law_485 ?_
  refine r_iload5 dL_law_486 ?_
  refine r_iconst (v := 3) dL_law_488 (by decide) ?_
  refine r_iadd dL_law_489 ?_
  refine r_sld dL_law_490 (i := 6 * C + 3) (tp_add (6 * C) 3) (by omega) (by omega) ?_
  rw [show nI (G.2.2.2 (5 + (6 * C + 3))) = p3 from e3]
  refine r_aload3 dL_law_491 ?_
  refine r_callSW dL_law_492 v_L_124 hW rfl rfl rfl (Nat.le_of_ble_eq_true rfl) ⟨(Nat.le_of_ble_eq_true rfl), (Nat.le_of_ble_eq_true rfl)⟩ hk (fun r h1 hP => ?_)
  obtain ⟨rfl, hF1⟩ := hP
  obtain ⟨fs, b, F2, hob, hQ, hJ⟩ := hF h1 hF1
  refine r_istore6 dL_law_495 (Nat.le_of_ble_eq_true rfl) rfl ?_
  refine r_aload2 dL_law_497 ?_
  refine r_aload0 dL_law_498 ?_
  refine r_iload5 dL_law_499 ?_
  refine r_iconst (v := 1) dL_law_501 (by decide) ?_
  refine r_iadd dL_law_502 ?_
  refine r_sld dL_law_503 (i := 6 * C + 1) (tp_add (6 * C) 1) (by omega) (by omega) ?_
  rw [show nI (G.2.2.2 (5 + (6 * C + 1))) = p1 from e1]
  refine r_aload0 dL_law_504 ?_
  refine r_iload5 dL_law_505 ?_
  refine r_iconst (v := 2) dL_law_507 (by decide) ?_
  refine r_iadd dL_law_508 ?_
  refine r_sld dL_law_509 (i := 6 * C + 2) (tp_add (6 * C) 2) (by omega) (by omega) ?_
  rw [show nI (G.2.2.2 (5 + (6 * C + 2))) = p2 from e2]
  refine r_aload0 dL_law_510 ?_
  refine r_iload5 dL_law_511 ?_
  refine r_iconst (v := 3) dL_law_513 (by decide) ?_
  refine r_iadd dL_law_514 ?_
  refine r_sld dL_law_515 (i := 6 * C + 3) (tp_add (6 * C) 3) (by omega) (by omega) ?_
  rw [show nI (G.2.2.2 (5 + (6 * C + 3))) = p3 from e3]
  refine r_sV1 dL_law_516 v_L_127 hQ rfl hob rfl rfl rfl (Nat.le_of_ble_eq_true rfl) ⟨(Nat.le_of_ble_eq_true rfl), (Nat.le_of_ble_eq_true rfl)⟩ hk (fun h2 hq => ?_)
  obtain ⟨ov, od, hT, he⟩ := hJ h2 hq
  obtain ⟨u9, π9, ρ9, us9, σ9, s9, n9, tx9, rd9, z9, hi9, pa9, R9, nu9, du9, hs9, ov9, od9, N9, P9, hS9, hV9, eo9, ed9⟩ := id hT
  refine r_istore7 dL_law_519 (Nat.le_of_ble_eq_true rfl) rfl ?_
  refine r_aload2 dL_law_521 ?_
  refine r_pV dL_law_522 v_L_111 (M_thrown hl hS9.mm) rfl hS9.mob rfl rfl rfl (Nat.le_of_ble_eq_true rfl) ⟨(Nat.le_of_ble_eq_true rfl), (Nat.le_of_ble_eq_true rfl)⟩ hk ?_
  refine r_iload6 dL_law_525 ?_
  refine r_icmp_eq (tgt := 532) dL_law_527 (by decide) (fun c527 => ?_) (fun c527 => ?_)
  · refine r_iload6 dL_law_532 ?_
    refine r_if_ne (tgt := 549) dL_law_534 (by decide) (fun c534 => ?_) (fun c534 => ?_)
    · refine r_goto (tgt := 1997) dL_law_549 (by decide) ?_
      refine r_fg 6 ?_
      refine r_fg 7 ?_
      exact kk h2 _ _ _ hT
    · refine r_aload3 dL_law_537 ?_
      refine r_iconst (v := 0) dL_law_538 (by decide) ?_
      refine r_lald dL_law_539 hS9.oc (i := 0) rfl (by decide) (by decide) ?_
      refine r_iload7 dL_law_540 ?_
      refine r_i2l dL_law_542 ?_
      rw [eo9, he (by first | exact c534 | exact Classical.not_not.mp c534)]
      refine r_lcmp dL_law_543 ?_
      rw [lg_cmp_self]
      refine r_if_eq (tgt := 549) dL_law_544 (by decide) (fun c544 => ?_) (fun c544 => ?_)
      · refine r_goto (tgt := 1997) dL_law_549 (by decide) ?_
        refine r_fg 6 ?_
        refine r_fg 7 ?_
        exact kk h2 _ _ _ hT
      · exact absurd rfl c544
  · exact absurd rfl c527

set_option maxRecDepth 100000 in
set_option maxHeartbeats 4000000 in
theorem L_pay {l : Launch} {G : tp_G} {Q : tp_Q} {k n : Nat} {h : tp_H} {x C : Nat} {mc ms : Nat} {p1 p2 : Int32} {kv : Int32} {F : tp_H → Prop} (hl : l.stackTraces = false) (hC : 6 * C + 6 ≤ G.2.2.2 4) (hN : G.2.2.2 4 ≤ 3072) (hk : k + mc ≤ room_1.cells ∧ n + ms ≤ room_1.slots) (e1 : sc G C 1 = p1) (e2 : sc G C 2 = p2) (hW : tp_Met l G mL_pay mc ms [.ref x, .int p1, .int p2, .ref (x + 303)] h (tp_PS (some (.int kv)) F) tp_NX) (hF : ∀ h1, F h1 → ∃ fs b F2, h1.2 (x + 298) = some (.inr (6, fs)) ∧ tp_Met l G mX6_pay 0 0 [.ref (x + 298), .int p1, .int p2] h1 (tp_PS (some (.int b)) F2) tp_NX ∧ ∀ h2, F2 h2 → ∃ ov od, tl_J G x (C + 1) kv ov od h2 ∧ (kv = 0 → ov = b.toInt64)) (kk : ∀ h2 thr ov od, tl_J G x (C + 1) thr ov od h2 → tp_Run l G mL_law room_1 Q (k + mc) (n + ms) h2 1997 [some (.ref (G.2.2.2 3)), some (.ref x), some (.ref (x + 298)), some (.ref (x + 303)), some (.ref (x + 304)), some (.int (nI (6 * C))), none, none, none] []) : tp_Run l G mL_law room_1 Q k n h 552 [some (.ref (G.2.2.2 3)), some (.ref x), some (.ref (x + 298)), some (.ref (x + 303)), some (.ref (x + 304)), some (.int (nI (6 * C))), none, none, none] [] := by
  refine r_aload1 dL_law_552 ?_
  refine r_aload0 dL_law_553 ?_
  refine r_iload5 dL_law_554 ?_
  refine r_iconst (v := 1) dL_law_556 (by decide) ?_
  refine r_iadd dL_law_557 ?_
  refine r_sld dL_law_558 (i := 6 * C + 1) (tp_add (6 * C) 1) (by omega) (by omega) ?_
  rw [show nI (G.2.2.2 (5 + (6 * C + 1))) = p1 from e1]
  refine r_aload0 dL_law_559 ?_
  refine r_iload5 dL_law_560 ?_
  refine r_iconst (v := 2) dL_law_562 (by decide) ?_
  refine r_iadd dL_law_563 ?_
  refine r_sld dL_law_564 (i := 6 * C + 2) (tp_add (6 * C) 2) (by omega) (by omega) ?_
  rw [show nI (G.2.2.2 (5 + (6 * C + 2))) = p2 from e2]
  refine r_aload3 dL_law_565 ?_
  refine r_callSW dL_law_566 v_L_128 hW rfl rfl rfl (Nat.le_of_ble_eq_true rfl) ⟨(Nat.le_of_ble_eq_true rfl), (Nat.le_of_ble_eq_true rfl)⟩ hk (fun r h1 hP => ?_)
  obtain ⟨rfl, hF1⟩ := hP
  obtain ⟨fs, b, F2, hob, hQ, hJ⟩ := hF h1 hF1
  refine r_istore6 dL_law_569 (Nat.le_of_ble_eq_true rfl) rfl ?_
  refine r_aload2 dL_law_571 ?_
  refine r_aload0 dL_law_572 ?_
  refine r_iload5 dL_law_573 ?_
  refine r_iconst (v := 1) dL_law_575 (by decide) ?_
  refine r_iadd dL_law_576 ?_
  refine r_sld dL_law_577 (i := 6 * C + 1) (tp_add (6 * C) 1) (by omega) (by omega) ?_
  rw [show nI (G.2.2.2 (5 + (6 * C + 1))) = p1 from e1]
  refine r_aload0 dL_law_578 ?_
  refine r_iload5 dL_law_579 ?_
  refine r_iconst (v := 2) dL_law_581 (by decide) ?_
  refine r_iadd dL_law_582 ?_
  refine r_sld dL_law_583 (i := 6 * C + 2) (tp_add (6 * C) 2) (by omega) (by omega) ?_
  rw [show nI (G.2.2.2 (5 + (6 * C + 2))) = p2 from e2]
  refine r_sV1 dL_law_584 v_L_130 hQ rfl hob rfl rfl rfl (Nat.le_of_ble_eq_true rfl) ⟨(Nat.le_of_ble_eq_true rfl), (Nat.le_of_ble_eq_true rfl)⟩ hk (fun h2 hq => ?_)
  obtain ⟨ov, od, hT, he⟩ := hJ h2 hq
  obtain ⟨u9, π9, ρ9, us9, σ9, s9, n9, tx9, rd9, z9, hi9, pa9, R9, nu9, du9, hs9, ov9, od9, N9, P9, hS9, hV9, eo9, ed9⟩ := id hT
  refine r_istore7 dL_law_587 (Nat.le_of_ble_eq_true rfl) rfl ?_
  refine r_aload2 dL_law_589 ?_
  refine r_pV dL_law_590 v_L_111 (M_thrown hl hS9.mm) rfl hS9.mob rfl rfl rfl (Nat.le_of_ble_eq_true rfl) ⟨(Nat.le_of_ble_eq_true rfl), (Nat.le_of_ble_eq_true rfl)⟩ hk ?_
  refine r_iload6 dL_law_593 ?_
  refine r_icmp_eq (tgt := 600) dL_law_595 (by decide) (fun c595 => ?_) (fun c595 => ?_)
  · refine r_iload6 dL_law_600 ?_
    refine r_if_ne (tgt := 617) dL_law_602 (by decide) (fun c602 => ?_) (fun c602 => ?_)
    · refine r_goto (tgt := 1997) dL_law_617 (by decide) ?_
      refine r_fg 6 ?_
      refine r_fg 7 ?_
      exact kk h2 _ _ _ hT
    · refine r_aload3 dL_law_605 ?_
      refine r_iconst (v := 0) dL_law_606 (by decide) ?_
      refine r_lald dL_law_607 hS9.oc (i := 0) rfl (by decide) (by decide) ?_
      refine r_iload7 dL_law_608 ?_
      refine r_i2l dL_law_610 ?_
      rw [eo9, he (by first | exact c602 | exact Classical.not_not.mp c602)]
      refine r_lcmp dL_law_611 ?_
      rw [lg_cmp_self]
      refine r_if_eq (tgt := 617) dL_law_612 (by decide) (fun c612 => ?_) (fun c612 => ?_)
      · refine r_goto (tgt := 1997) dL_law_617 (by decide) ?_
        refine r_fg 6 ?_
        refine r_fg 7 ?_
        exact kk h2 _ _ _ hT
      · exact absurd rfl c612
  · exact absurd rfl c595

set_option maxRecDepth 100000 in
set_option maxHeartbeats 4000000 in
theorem L_letGo {l : Launch} {G : tp_G} {Q : tp_Q} {k n : Nat} {h : tp_H} {x C : Nat} {mc ms : Nat} {p1 : Int32} {kv : Int32} {F : tp_H → Prop} (hl : l.stackTraces = false) (hC : 6 * C + 6 ≤ G.2.2.2 4) (hN : G.2.2.2 4 ≤ 3072) (hk : k + mc ≤ room_1.cells ∧ n + ms ≤ room_1.slots) (e1 : sc G C 1 = p1) (hW : tp_Met l G mL_letGo mc ms [.ref x, .int p1, .ref (x + 303)] h (tp_PS (some (.int kv)) F) tp_NX) (hF : ∀ h1, F h1 → ∃ fs b F2, h1.2 (x + 298) = some (.inr (6, fs)) ∧ tp_Met l G mX6_letGo 0 0 [.ref (x + 298), .int p1] h1 (tp_PS (some (.int b)) F2) tp_NX ∧ ∀ h2, F2 h2 → ∃ ov od, tl_J G x (C + 1) kv ov od h2 ∧ (kv = 0 → ov = b.toInt64)) (kk : ∀ h2 thr ov od, tl_J G x (C + 1) thr ov od h2 → tp_Run l G mL_law room_1 Q (k + mc) (n + ms) h2 1997 [some (.ref (G.2.2.2 3)), some (.ref x), some (.ref (x + 298)), some (.ref (x + 303)), some (.ref (x + 304)), some (.int (nI (6 * C))), none, none, none] []) : tp_Run l G mL_law room_1 Q k n h 620 [some (.ref (G.2.2.2 3)), some (.ref x), some (.ref (x + 298)), some (.ref (x + 303)), some (.ref (x + 304)), some (.int (nI (6 * C))), none, none, none] [] := by
  refine r_aload1 dL_law_620 ?_
  refine r_aload0 dL_law_621 ?_
  refine r_iload5 dL_law_622 ?_
  refine r_iconst (v := 1) dL_law_624 (by decide) ?_
  refine r_iadd dL_law_625 ?_
  refine r_sld dL_law_626 (i := 6 * C + 1) (tp_add (6 * C) 1) (by omega) (by omega) ?_
  rw [show nI (G.2.2.2 (5 + (6 * C + 1))) = p1 from e1]
  refine r_aload3 dL_law_627 ?_
  refine r_callSW dL_law_628 v_L_131 hW rfl rfl rfl (Nat.le_of_ble_eq_true rfl) ⟨(Nat.le_of_ble_eq_true rfl), (Nat.le_of_ble_eq_true rfl)⟩ hk (fun r h1 hP => ?_)
  obtain ⟨rfl, hF1⟩ := hP
  obtain ⟨fs, b, F2, hob, hQ, hJ⟩ := hF h1 hF1
  refine r_istore6 dL_law_631 (Nat.le_of_ble_eq_true rfl) rfl ?_
  refine r_aload2 dL_law_633 ?_
  refine r_aload0 dL_law_634 ?_
  refine r_iload5 dL_law_635 ?_
  refine r_iconst (v := 1) dL_law_637 (by decide) ?_
  refine r_iadd dL_law_638 ?_
  refine r_sld dL_law_639 (i := 6 * C + 1) (tp_add (6 * C) 1) (by omega) (by omega) ?_
  rw [show nI (G.2.2.2 (5 + (6 * C + 1))) = p1 from e1]
  refine r_sV1 dL_law_640 v_L_134 hQ rfl hob rfl rfl rfl (Nat.le_of_ble_eq_true rfl) ⟨(Nat.le_of_ble_eq_true rfl), (Nat.le_of_ble_eq_true rfl)⟩ hk (fun h2 hq => ?_)
  obtain ⟨ov, od, hT, he⟩ := hJ h2 hq
  obtain ⟨u9, π9, ρ9, us9, σ9, s9, n9, tx9, rd9, z9, hi9, pa9, R9, nu9, du9, hs9, ov9, od9, N9, P9, hS9, hV9, eo9, ed9⟩ := id hT
  refine r_istore7 dL_law_643 (Nat.le_of_ble_eq_true rfl) rfl ?_
  refine r_aload2 dL_law_645 ?_
  refine r_pV dL_law_646 v_L_111 (M_thrown hl hS9.mm) rfl hS9.mob rfl rfl rfl (Nat.le_of_ble_eq_true rfl) ⟨(Nat.le_of_ble_eq_true rfl), (Nat.le_of_ble_eq_true rfl)⟩ hk ?_
  refine r_iload6 dL_law_649 ?_
  refine r_icmp_eq (tgt := 656) dL_law_651 (by decide) (fun c651 => ?_) (fun c651 => ?_)
  · refine r_iload6 dL_law_656 ?_
    refine r_if_ne (tgt := 673) dL_law_658 (by decide) (fun c658 => ?_) (fun c658 => ?_)
    · refine r_goto (tgt := 1997) dL_law_673 (by decide) ?_
      refine r_fg 6 ?_
      refine r_fg 7 ?_
      exact kk h2 _ _ _ hT
    · refine r_aload3 dL_law_661 ?_
      refine r_iconst (v := 0) dL_law_662 (by decide) ?_
      refine r_lald dL_law_663 hS9.oc (i := 0) rfl (by decide) (by decide) ?_
      refine r_iload7 dL_law_664 ?_
      refine r_i2l dL_law_666 ?_
      rw [eo9, he (by first | exact c658 | exact Classical.not_not.mp c658)]
      refine r_lcmp dL_law_667 ?_
      rw [lg_cmp_self]
      refine r_if_eq (tgt := 673) dL_law_668 (by decide) (fun c668 => ?_) (fun c668 => ?_)
      · refine r_goto (tgt := 1997) dL_law_673 (by decide) ?_
        refine r_fg 6 ?_
        refine r_fg 7 ?_
        exact kk h2 _ _ _ hT
      · exact absurd rfl c668
  · exact absurd rfl c651

set_option maxRecDepth 100000 in
set_option maxHeartbeats 4000000 in
theorem L_dispute {l : Launch} {G : tp_G} {Q : tp_Q} {k n : Nat} {h : tp_H} {x C : Nat} {mc ms : Nat} {p1 : Int32} {kv : Int32} {F : tp_H → Prop} (hl : l.stackTraces = false) (hC : 6 * C + 6 ≤ G.2.2.2 4) (hN : G.2.2.2 4 ≤ 3072) (hk : k + mc ≤ room_1.cells ∧ n + ms ≤ room_1.slots) (e1 : sc G C 1 = p1) (hW : tp_Met l G mL_dispute mc ms [.ref x, .int p1, .ref (x + 303)] h (tp_PS (some (.int kv)) F) tp_NX) (hF : ∀ h1, F h1 → ∃ fs b F2, h1.2 (x + 298) = some (.inr (6, fs)) ∧ tp_Met l G mX6_dispute 0 0 [.ref (x + 298), .int p1] h1 (tp_PS (some (.int b)) F2) tp_NX ∧ ∀ h2, F2 h2 → ∃ ov od, tl_J G x (C + 1) kv ov od h2 ∧ (kv = 0 → ov = b.toInt64)) (kk : ∀ h2 thr ov od, tl_J G x (C + 1) thr ov od h2 → tp_Run l G mL_law room_1 Q (k + mc) (n + ms) h2 1997 [some (.ref (G.2.2.2 3)), some (.ref x), some (.ref (x + 298)), some (.ref (x + 303)), some (.ref (x + 304)), some (.int (nI (6 * C))), none, none, none] []) : tp_Run l G mL_law room_1 Q k n h 676 [some (.ref (G.2.2.2 3)), some (.ref x), some (.ref (x + 298)), some (.ref (x + 303)), some (.ref (x + 304)), some (.int (nI (6 * C))), none, none, none] [] := by
  refine r_aload1 dL_law_676 ?_
  refine r_aload0 dL_law_677 ?_
  refine r_iload5 dL_law_678 ?_
  refine r_iconst (v := 1) dL_law_680 (by decide) ?_
  refine r_iadd dL_law_681 ?_
  refine r_sld dL_law_682 (i := 6 * C + 1) (tp_add (6 * C) 1) (by omega) (by omega) ?_
  rw [show nI (G.2.2.2 (5 + (6 * C + 1))) = p1 from e1]
  refine r_aload3 dL_law_683 ?_
  refine r_callSW dL_law_684 v_L_135 hW rfl rfl rfl (Nat.le_of_ble_eq_true rfl) ⟨(Nat.le_of_ble_eq_true rfl), (Nat.le_of_ble_eq_true rfl)⟩ hk (fun r h1 hP => ?_)
  obtain ⟨rfl, hF1⟩ := hP
  obtain ⟨fs, b, F2, hob, hQ, hJ⟩ := hF h1 hF1
  refine r_istore6 dL_law_687 (Nat.le_of_ble_eq_true rfl) rfl ?_
  refine r_aload2 dL_law_689 ?_
  refine r_aload0 dL_law_690 ?_
  refine r_iload5 dL_law_691 ?_
  refine r_iconst (v := 1) dL_law_693 (by decide) ?_
  refine r_iadd dL_law_694 ?_
  refine r_sld dL_law_695 (i := 6 * C + 1) (tp_add (6 * C) 1) (by omega) (by omega) ?_
  rw [show nI (G.2.2.2 (5 + (6 * C + 1))) = p1 from e1]
  refine r_sV1 dL_law_696 v_L_137 hQ rfl hob rfl rfl rfl (Nat.le_of_ble_eq_true rfl) ⟨(Nat.le_of_ble_eq_true rfl), (Nat.le_of_ble_eq_true rfl)⟩ hk (fun h2 hq => ?_)
  obtain ⟨ov, od, hT, he⟩ := hJ h2 hq
  obtain ⟨u9, π9, ρ9, us9, σ9, s9, n9, tx9, rd9, z9, hi9, pa9, R9, nu9, du9, hs9, ov9, od9, N9, P9, hS9, hV9, eo9, ed9⟩ := id hT
  refine r_istore7 dL_law_699 (Nat.le_of_ble_eq_true rfl) rfl ?_
  refine r_aload2 dL_law_701 ?_
  refine r_pV dL_law_702 v_L_111 (M_thrown hl hS9.mm) rfl hS9.mob rfl rfl rfl (Nat.le_of_ble_eq_true rfl) ⟨(Nat.le_of_ble_eq_true rfl), (Nat.le_of_ble_eq_true rfl)⟩ hk ?_
  refine r_iload6 dL_law_705 ?_
  refine r_icmp_eq (tgt := 712) dL_law_707 (by decide) (fun c707 => ?_) (fun c707 => ?_)
  · refine r_iload6 dL_law_712 ?_
    refine r_if_ne (tgt := 729) dL_law_714 (by decide) (fun c714 => ?_) (fun c714 => ?_)
    · refine r_goto (tgt := 1997) dL_law_729 (by decide) ?_
      refine r_fg 6 ?_
      refine r_fg 7 ?_
      exact kk h2 _ _ _ hT
    · refine r_aload3 dL_law_717 ?_
      refine r_iconst (v := 0) dL_law_718 (by decide) ?_
      refine r_lald dL_law_719 hS9.oc (i := 0) rfl (by decide) (by decide) ?_
      refine r_iload7 dL_law_720 ?_
      refine r_i2l dL_law_722 ?_
      rw [eo9, he (by first | exact c714 | exact Classical.not_not.mp c714)]
      refine r_lcmp dL_law_723 ?_
      rw [lg_cmp_self]
      refine r_if_eq (tgt := 729) dL_law_724 (by decide) (fun c724 => ?_) (fun c724 => ?_)
      · refine r_goto (tgt := 1997) dL_law_729 (by decide) ?_
        refine r_fg 6 ?_
        refine r_fg 7 ?_
        exact kk h2 _ _ _ hT
      · exact absurd rfl c724
  · exact absurd rfl c707

set_option maxRecDepth 100000 in
set_option maxHeartbeats 4000000 in
theorem L_decide {l : Launch} {G : tp_G} {Q : tp_Q} {k n : Nat} {h : tp_H} {x C : Nat} {mc ms : Nat} {p1 p2 : Int32} {kv : Int32} {F : tp_H → Prop} (hl : l.stackTraces = false) (hC : 6 * C + 6 ≤ G.2.2.2 4) (hN : G.2.2.2 4 ≤ 3072) (hk : k + mc ≤ room_1.cells ∧ n + ms ≤ room_1.slots) (e1 : sc G C 1 = p1) (e2 : sc G C 2 = p2) {b2 : Int32} (hb2 : b2 = if p2 = 0 then 0 else 1) (hW : tp_Met l G mL_decide mc ms [.ref x, .int p1, .int b2, .ref (x + 303)] h (tp_PS (some (.int kv)) F) tp_NX) (hF : ∀ h1, F h1 → ∃ fs b F2, h1.2 (x + 298) = some (.inr (6, fs)) ∧ tp_Met l G mX6_decide 0 0 [.ref (x + 298), .int p1, .int b2] h1 (tp_PS (some (.int b)) F2) tp_NX ∧ ∀ h2, F2 h2 → ∃ ov od, tl_J G x (C + 1) kv ov od h2 ∧ (kv = 0 → ov = b.toInt64)) (kk : ∀ h2 thr ov od, tl_J G x (C + 1) thr ov od h2 → tp_Run l G mL_law room_1 Q (k + mc) (n + ms) h2 1997 [some (.ref (G.2.2.2 3)), some (.ref x), some (.ref (x + 298)), some (.ref (x + 303)), some (.ref (x + 304)), some (.int (nI (6 * C))), none, none, none] []) : tp_Run l G mL_law room_1 Q k n h 732 [some (.ref (G.2.2.2 3)), some (.ref x), some (.ref (x + 298)), some (.ref (x + 303)), some (.ref (x + 304)), some (.int (nI (6 * C))), none, none, none] [] := by
  refine r_aload1 dL_law_732 ?_
  refine r_aload0 dL_law_733 ?_
  refine r_iload5 dL_law_734 ?_
  refine r_iconst (v := 1) dL_law_736 (by decide) ?_
  refine r_iadd dL_law_737 ?_
  refine r_sld dL_law_738 (i := 6 * C + 1) (tp_add (6 * C) 1) (by omega) (by omega) ?_
  rw [show nI (G.2.2.2 (5 + (6 * C + 1))) = p1 from e1]
  refine r_aload0 dL_law_739 ?_
  refine r_iload5 dL_law_740 ?_
  refine r_iconst (v := 2) dL_law_742 (by decide) ?_
  refine r_iadd dL_law_743 ?_
  refine r_sld dL_law_744 (i := 6 * C + 2) (tp_add (6 * C) 2) (by omega) (by omega) ?_
  rw [show nI (G.2.2.2 (5 + (6 * C + 2))) = p2 from e2]
  refine r_if_eq (tgt := 752) dL_law_745 (by decide) (fun c745 => ?_) (fun c745 => ?_)
  · have d0 : p2 = 0 := c745
    rw [if_pos d0] at hb2
    subst hb2
    refine r_iconst (v := 0) dL_law_752 (by decide) ?_
    refine r_aload3 dL_law_753 ?_
    refine r_callSW dL_law_754 v_L_138 hW rfl rfl rfl (Nat.le_of_ble_eq_true rfl) ⟨(Nat.le_of_ble_eq_true rfl), (Nat.le_of_ble_eq_true rfl)⟩ hk (fun r h1 hP => ?_)
    obtain ⟨rfl, hF1⟩ := hP
    obtain ⟨fs, b, F2, hob, hQ, hJ⟩ := hF h1 hF1
    refine r_istore6 dL_law_757 (Nat.le_of_ble_eq_true rfl) rfl ?_
    refine r_aload2 dL_law_759 ?_
    refine r_aload0 dL_law_760 ?_
    refine r_iload5 dL_law_761 ?_
    refine r_iconst (v := 1) dL_law_763 (by decide) ?_
    refine r_iadd dL_law_764 ?_
    refine r_sld dL_law_765 (i := 6 * C + 1) (tp_add (6 * C) 1) (by omega) (by omega) ?_
    rw [show nI (G.2.2.2 (5 + (6 * C + 1))) = p1 from e1]
    refine r_aload0 dL_law_766 ?_
    refine r_iload5 dL_law_767 ?_
    refine r_iconst (v := 2) dL_law_769 (by decide) ?_
    refine r_iadd dL_law_770 ?_
    refine r_sld dL_law_771 (i := 6 * C + 2) (tp_add (6 * C) 2) (by omega) (by omega) ?_
    rw [show nI (G.2.2.2 (5 + (6 * C + 2))) = p2 from e2]
    refine r_if_eq (tgt := 779) dL_law_772 (by decide) (fun c772 => ?_) (fun c772 => ?_)
    · refine r_iconst (v := 0) dL_law_779 (by decide) ?_
      refine r_sV1 dL_law_780 v_L_141 hQ rfl hob rfl rfl rfl (Nat.le_of_ble_eq_true rfl) ⟨(Nat.le_of_ble_eq_true rfl), (Nat.le_of_ble_eq_true rfl)⟩ hk (fun h2 hq => ?_)
      obtain ⟨ov, od, hT, he⟩ := hJ h2 hq
      obtain ⟨u9, π9, ρ9, us9, σ9, s9, n9, tx9, rd9, z9, hi9, pa9, R9, nu9, du9, hs9, ov9, od9, N9, P9, hS9, hV9, eo9, ed9⟩ := id hT
      refine r_istore7 dL_law_783 (Nat.le_of_ble_eq_true rfl) rfl ?_
      refine r_aload2 dL_law_785 ?_
      refine r_pV dL_law_786 v_L_111 (M_thrown hl hS9.mm) rfl hS9.mob rfl rfl rfl (Nat.le_of_ble_eq_true rfl) ⟨(Nat.le_of_ble_eq_true rfl), (Nat.le_of_ble_eq_true rfl)⟩ hk ?_
      refine r_iload6 dL_law_789 ?_
      refine r_icmp_eq (tgt := 796) dL_law_791 (by decide) (fun c791 => ?_) (fun c791 => ?_)
      · refine r_iload6 dL_law_796 ?_
        refine r_if_ne (tgt := 813) dL_law_798 (by decide) (fun c798 => ?_) (fun c798 => ?_)
        · refine r_goto (tgt := 1997) dL_law_813 (by decide) ?_
          refine r_fg 6 ?_
          refine r_fg 7 ?_
          exact kk h2 _ _ _ hT
        · refine r_aload3 dL_law_801 ?_
          refine r_iconst (v := 0) dL_law_802 (by decide) ?_
          refine r_lald dL_law_803 hS9.oc (i := 0) rfl (by decide) (by decide) ?_
          refine r_iload7 dL_law_804 ?_
          refine r_i2l dL_law_806 ?_
          rw [eo9, he (by first | exact c798 | exact Classical.not_not.mp c798)]
          refine r_lcmp dL_law_807 ?_
          rw [lg_cmp_self]
          refine r_if_eq (tgt := 813) dL_law_808 (by decide) (fun c808 => ?_) (fun c808 => ?_)
          · refine r_goto (tgt := 1997) dL_law_813 (by decide) ?_
            refine r_fg 6 ?_
            refine r_fg 7 ?_
            exact kk h2 _ _ _ hT
          · exact absurd rfl c808
      · exact absurd rfl c791
    · exact absurd d0 c772
  · have d0 : ¬ p2 = 0 := c745
    rw [if_neg d0] at hb2
    subst hb2
    refine r_iconst (v := 1) dL_law_748 (by decide) ?_
    refine r_goto (tgt := 753) dL_law_749 (by decide) ?_
    refine r_aload3 dL_law_753 ?_
    refine r_callSW dL_law_754 v_L_138 hW rfl rfl rfl (Nat.le_of_ble_eq_true rfl) ⟨(Nat.le_of_ble_eq_true rfl), (Nat.le_of_ble_eq_true rfl)⟩ hk (fun r h1 hP => ?_)
    obtain ⟨rfl, hF1⟩ := hP
    obtain ⟨fs, b, F2, hob, hQ, hJ⟩ := hF h1 hF1
    refine r_istore6 dL_law_757 (Nat.le_of_ble_eq_true rfl) rfl ?_
    refine r_aload2 dL_law_759 ?_
    refine r_aload0 dL_law_760 ?_
    refine r_iload5 dL_law_761 ?_
    refine r_iconst (v := 1) dL_law_763 (by decide) ?_
    refine r_iadd dL_law_764 ?_
    refine r_sld dL_law_765 (i := 6 * C + 1) (tp_add (6 * C) 1) (by omega) (by omega) ?_
    rw [show nI (G.2.2.2 (5 + (6 * C + 1))) = p1 from e1]
    refine r_aload0 dL_law_766 ?_
    refine r_iload5 dL_law_767 ?_
    refine r_iconst (v := 2) dL_law_769 (by decide) ?_
    refine r_iadd dL_law_770 ?_
    refine r_sld dL_law_771 (i := 6 * C + 2) (tp_add (6 * C) 2) (by omega) (by omega) ?_
    rw [show nI (G.2.2.2 (5 + (6 * C + 2))) = p2 from e2]
    refine r_if_eq (tgt := 779) dL_law_772 (by decide) (fun c772 => ?_) (fun c772 => ?_)
    · exact absurd c772 d0
    · refine r_iconst (v := 1) dL_law_775 (by decide) ?_
      refine r_goto (tgt := 780) dL_law_776 (by decide) ?_
      refine r_sV1 dL_law_780 v_L_141 hQ rfl hob rfl rfl rfl (Nat.le_of_ble_eq_true rfl) ⟨(Nat.le_of_ble_eq_true rfl), (Nat.le_of_ble_eq_true rfl)⟩ hk (fun h2 hq => ?_)
      obtain ⟨ov, od, hT, he⟩ := hJ h2 hq
      obtain ⟨u9, π9, ρ9, us9, σ9, s9, n9, tx9, rd9, z9, hi9, pa9, R9, nu9, du9, hs9, ov9, od9, N9, P9, hS9, hV9, eo9, ed9⟩ := id hT
      refine r_istore7 dL_law_783 (Nat.le_of_ble_eq_true rfl) rfl ?_
      refine r_aload2 dL_law_785 ?_
      refine r_pV dL_law_786 v_L_111 (M_thrown hl hS9.mm) rfl hS9.mob rfl rfl rfl (Nat.le_of_ble_eq_true rfl) ⟨(Nat.le_of_ble_eq_true rfl), (Nat.le_of_ble_eq_true rfl)⟩ hk ?_
      refine r_iload6 dL_law_789 ?_
      refine r_icmp_eq (tgt := 796) dL_law_791 (by decide) (fun c791 => ?_) (fun c791 => ?_)
      · refine r_iload6 dL_law_796 ?_
        refine r_if_ne (tgt := 813) dL_law_798 (by decide) (fun c798 => ?_) (fun c798 => ?_)
        · refine r_goto (tgt := 1997) dL_law_813 (by decide) ?_
          refine r_fg 6 ?_
          refine r_fg 7 ?_
          exact kk h2 _ _ _ hT
        · refine r_aload3 dL_law_801 ?_
          refine r_iconst (v := 0) dL_law_802 (by decide) ?_
          refine r_lald dL_law_803 hS9.oc (i := 0) rfl (by decide) (by decide) ?_
          refine r_iload7 dL_law_804 ?_
          refine r_i2l dL_law_806 ?_
          rw [eo9, he (by first | exact c798 | exact Classical.not_not.mp c798)]
          refine r_lcmp dL_law_807 ?_
          rw [lg_cmp_self]
          refine r_if_eq (tgt := 813) dL_law_808 (by decide) (fun c808 => ?_) (fun c808 => ?_)
          · refine r_goto (tgt := 1997) dL_law_813 (by decide) ?_
            refine r_fg 6 ?_
            refine r_fg 7 ?_
            exact kk h2 _ _ _ hT
          · exact absurd rfl c808
      · exact absurd rfl c791

set_option maxRecDepth 100000 in
set_option maxHeartbeats 4000000 in
theorem L_close {l : Launch} {G : tp_G} {Q : tp_Q} {k n : Nat} {h : tp_H} {x C : Nat} {mc ms : Nat} {p1 : Int32} {kv : Int32} {F : tp_H → Prop} (hl : l.stackTraces = false) (hC : 6 * C + 6 ≤ G.2.2.2 4) (hN : G.2.2.2 4 ≤ 3072) (hk : k + mc ≤ room_1.cells ∧ n + ms ≤ room_1.slots) (e1 : sc G C 1 = p1) (hW : tp_Met l G mL_close mc ms [.ref x, .int p1, .ref (x + 303)] h (tp_PS (some (.int kv)) F) tp_NX) (hF : ∀ h1, F h1 → ∃ fs b F2, h1.2 (x + 298) = some (.inr (6, fs)) ∧ tp_Met l G mX6_close 0 0 [.ref (x + 298), .int p1] h1 (tp_PS (some (.int b)) F2) tp_NX ∧ ∀ h2, F2 h2 → ∃ ov od, tl_J G x (C + 1) kv ov od h2 ∧ (kv = 0 → ov = b.toInt64)) (kk : ∀ h2 thr ov od, tl_J G x (C + 1) thr ov od h2 → tp_Run l G mL_law room_1 Q (k + mc) (n + ms) h2 1997 [some (.ref (G.2.2.2 3)), some (.ref x), some (.ref (x + 298)), some (.ref (x + 303)), some (.ref (x + 304)), some (.int (nI (6 * C))), none, none, none] []) : tp_Run l G mL_law room_1 Q k n h 816 [some (.ref (G.2.2.2 3)), some (.ref x), some (.ref (x + 298)), some (.ref (x + 303)), some (.ref (x + 304)), some (.int (nI (6 * C))), none, none, none] [] := by
  refine r_aload1 dL_law_816 ?_
  refine r_aload0 dL_law_817 ?_
  refine r_iload5 dL_law_818 ?_
  refine r_iconst (v := 1) dL_law_820 (by decide) ?_
  refine r_iadd dL_law_821 ?_
  refine r_sld dL_law_822 (i := 6 * C + 1) (tp_add (6 * C) 1) (by omega) (by omega) ?_
  rw [show nI (G.2.2.2 (5 + (6 * C + 1))) = p1 from e1]
  refine r_aload3 dL_law_823 ?_
  refine r_callSW dL_law_824 v_L_142 hW rfl rfl rfl (Nat.le_of_ble_eq_true rfl) ⟨(Nat.le_of_ble_eq_true rfl), (Nat.le_of_ble_eq_true rfl)⟩ hk (fun r h1 hP => ?_)
  obtain ⟨rfl, hF1⟩ := hP
  obtain ⟨fs, b, F2, hob, hQ, hJ⟩ := hF h1 hF1
  refine r_istore6 dL_law_827 (Nat.le_of_ble_eq_true rfl) rfl ?_
  refine r_aload2 dL_law_829 ?_
  refine r_aload0 dL_law_830 ?_
  refine r_iload5 dL_law_831 ?_
  refine r_iconst (v := 1) dL_law_833 (by decide) ?_
  refine r_iadd dL_law_834 ?_
  refine r_sld dL_law_835 (i := 6 * C + 1) (tp_add (6 * C) 1) (by omega) (by omega) ?_
  rw [show nI (G.2.2.2 (5 + (6 * C + 1))) = p1 from e1]
  refine r_sV1 dL_law_836 v_L_144 hQ rfl hob rfl rfl rfl (Nat.le_of_ble_eq_true rfl) ⟨(Nat.le_of_ble_eq_true rfl), (Nat.le_of_ble_eq_true rfl)⟩ hk (fun h2 hq => ?_)
  obtain ⟨ov, od, hT, he⟩ := hJ h2 hq
  obtain ⟨u9, π9, ρ9, us9, σ9, s9, n9, tx9, rd9, z9, hi9, pa9, R9, nu9, du9, hs9, ov9, od9, N9, P9, hS9, hV9, eo9, ed9⟩ := id hT
  refine r_istore7 dL_law_839 (Nat.le_of_ble_eq_true rfl) rfl ?_
  refine r_aload2 dL_law_841 ?_
  refine r_pV dL_law_842 v_L_111 (M_thrown hl hS9.mm) rfl hS9.mob rfl rfl rfl (Nat.le_of_ble_eq_true rfl) ⟨(Nat.le_of_ble_eq_true rfl), (Nat.le_of_ble_eq_true rfl)⟩ hk ?_
  refine r_iload6 dL_law_845 ?_
  refine r_icmp_eq (tgt := 852) dL_law_847 (by decide) (fun c847 => ?_) (fun c847 => ?_)
  · refine r_iload6 dL_law_852 ?_
    refine r_if_ne (tgt := 869) dL_law_854 (by decide) (fun c854 => ?_) (fun c854 => ?_)
    · refine r_goto (tgt := 1997) dL_law_869 (by decide) ?_
      refine r_fg 6 ?_
      refine r_fg 7 ?_
      exact kk h2 _ _ _ hT
    · refine r_aload3 dL_law_857 ?_
      refine r_iconst (v := 0) dL_law_858 (by decide) ?_
      refine r_lald dL_law_859 hS9.oc (i := 0) rfl (by decide) (by decide) ?_
      refine r_iload7 dL_law_860 ?_
      refine r_i2l dL_law_862 ?_
      rw [eo9, he (by first | exact c854 | exact Classical.not_not.mp c854)]
      refine r_lcmp dL_law_863 ?_
      rw [lg_cmp_self]
      refine r_if_eq (tgt := 869) dL_law_864 (by decide) (fun c864 => ?_) (fun c864 => ?_)
      · refine r_goto (tgt := 1997) dL_law_869 (by decide) ?_
        refine r_fg 6 ?_
        refine r_fg 7 ?_
        exact kk h2 _ _ _ hT
      · exact absurd rfl c864
  · exact absurd rfl c847

set_option maxRecDepth 100000 in
set_option maxHeartbeats 4000000 in
theorem L_pass {l : Launch} {G : tp_G} {Q : tp_Q} {k n : Nat} {h : tp_H} {x C : Nat} {mc ms : Nat} {p1 : Int32} {kv : Int32} {F : tp_H → Prop} (hl : l.stackTraces = false) (hC : 6 * C + 6 ≤ G.2.2.2 4) (hN : G.2.2.2 4 ≤ 3072) (hk : k + mc ≤ room_1.cells ∧ n + ms ≤ room_1.slots) (e1 : sc G C 1 = p1) (hW : tp_Met l G mL_pass mc ms [.ref x, .int p1, .ref (x + 303)] h (tp_PS (some (.int kv)) F) tp_NX) (hF : ∀ h1, F h1 → ∃ fs b F2, h1.2 (x + 298) = some (.inr (6, fs)) ∧ tp_Met l G mX6_pass 0 0 [.ref (x + 298), .int p1] h1 (tp_PS (some (.int b)) F2) tp_NX ∧ ∀ h2, F2 h2 → ∃ ov od, tl_J G x (C + 1) kv ov od h2 ∧ (kv = 0 → ov = b.toInt64)) (kk : ∀ h2 thr ov od, tl_J G x (C + 1) thr ov od h2 → tp_Run l G mL_law room_1 Q (k + mc) (n + ms) h2 1997 [some (.ref (G.2.2.2 3)), some (.ref x), some (.ref (x + 298)), some (.ref (x + 303)), some (.ref (x + 304)), some (.int (nI (6 * C))), none, none, none] []) : tp_Run l G mL_law room_1 Q k n h 872 [some (.ref (G.2.2.2 3)), some (.ref x), some (.ref (x + 298)), some (.ref (x + 303)), some (.ref (x + 304)), some (.int (nI (6 * C))), none, none, none] [] := by
  refine r_aload1 dL_law_872 ?_
  refine r_aload0 dL_law_873 ?_
  refine r_iload5 dL_law_874 ?_
  refine r_iconst (v := 1) dL_law_876 (by decide) ?_
  refine r_iadd dL_law_877 ?_
  refine r_sld dL_law_878 (i := 6 * C + 1) (tp_add (6 * C) 1) (by omega) (by omega) ?_
  rw [show nI (G.2.2.2 (5 + (6 * C + 1))) = p1 from e1]
  refine r_aload3 dL_law_879 ?_
  refine r_callSW dL_law_880 v_L_145 hW rfl rfl rfl (Nat.le_of_ble_eq_true rfl) ⟨(Nat.le_of_ble_eq_true rfl), (Nat.le_of_ble_eq_true rfl)⟩ hk (fun r h1 hP => ?_)
  obtain ⟨rfl, hF1⟩ := hP
  obtain ⟨fs, b, F2, hob, hQ, hJ⟩ := hF h1 hF1
  refine r_istore6 dL_law_883 (Nat.le_of_ble_eq_true rfl) rfl ?_
  refine r_aload2 dL_law_885 ?_
  refine r_aload0 dL_law_886 ?_
  refine r_iload5 dL_law_887 ?_
  refine r_iconst (v := 1) dL_law_889 (by decide) ?_
  refine r_iadd dL_law_890 ?_
  refine r_sld dL_law_891 (i := 6 * C + 1) (tp_add (6 * C) 1) (by omega) (by omega) ?_
  rw [show nI (G.2.2.2 (5 + (6 * C + 1))) = p1 from e1]
  refine r_sV1 dL_law_892 v_L_147 hQ rfl hob rfl rfl rfl (Nat.le_of_ble_eq_true rfl) ⟨(Nat.le_of_ble_eq_true rfl), (Nat.le_of_ble_eq_true rfl)⟩ hk (fun h2 hq => ?_)
  obtain ⟨ov, od, hT, he⟩ := hJ h2 hq
  obtain ⟨u9, π9, ρ9, us9, σ9, s9, n9, tx9, rd9, z9, hi9, pa9, R9, nu9, du9, hs9, ov9, od9, N9, P9, hS9, hV9, eo9, ed9⟩ := id hT
  refine r_istore7 dL_law_895 (Nat.le_of_ble_eq_true rfl) rfl ?_
  refine r_aload2 dL_law_897 ?_
  refine r_pV dL_law_898 v_L_111 (M_thrown hl hS9.mm) rfl hS9.mob rfl rfl rfl (Nat.le_of_ble_eq_true rfl) ⟨(Nat.le_of_ble_eq_true rfl), (Nat.le_of_ble_eq_true rfl)⟩ hk ?_
  refine r_iload6 dL_law_901 ?_
  refine r_icmp_eq (tgt := 908) dL_law_903 (by decide) (fun c903 => ?_) (fun c903 => ?_)
  · refine r_iload6 dL_law_908 ?_
    refine r_if_ne (tgt := 925) dL_law_910 (by decide) (fun c910 => ?_) (fun c910 => ?_)
    · refine r_goto (tgt := 1997) dL_law_925 (by decide) ?_
      refine r_fg 6 ?_
      refine r_fg 7 ?_
      exact kk h2 _ _ _ hT
    · refine r_aload3 dL_law_913 ?_
      refine r_iconst (v := 0) dL_law_914 (by decide) ?_
      refine r_lald dL_law_915 hS9.oc (i := 0) rfl (by decide) (by decide) ?_
      refine r_iload7 dL_law_916 ?_
      refine r_i2l dL_law_918 ?_
      rw [eo9, he (by first | exact c910 | exact Classical.not_not.mp c910)]
      refine r_lcmp dL_law_919 ?_
      rw [lg_cmp_self]
      refine r_if_eq (tgt := 925) dL_law_920 (by decide) (fun c920 => ?_) (fun c920 => ?_)
      · refine r_goto (tgt := 1997) dL_law_925 (by decide) ?_
        refine r_fg 6 ?_
        refine r_fg 7 ?_
        exact kk h2 _ _ _ hT
      · exact absurd rfl c920
  · exact absurd rfl c903

set_option maxRecDepth 100000 in
set_option maxHeartbeats 4000000 in
theorem L_set {l : Launch} {G : tp_G} {Q : tp_Q} {k n : Nat} {h : tp_H} {x C : Nat} {mc ms : Nat} {p1 p2 : Int32} {kv : Int32} {F : tp_H → Prop} (hl : l.stackTraces = false) (hC : 6 * C + 6 ≤ G.2.2.2 4) (hN : G.2.2.2 4 ≤ 3072) (hk : k + mc ≤ room_1.cells ∧ n + ms ≤ room_1.slots) (e1 : sc G C 1 = p1) (e2 : sc G C 2 = p2) (hW : tp_Met l G mL_set mc ms [.ref x, .int p1, .int p2, .ref (x + 303)] h (tp_PS (some (.int kv)) F) tp_NX) (hF : ∀ h1, F h1 → ∃ fs b F2, h1.2 (x + 298) = some (.inr (6, fs)) ∧ tp_Met l G mX6_set 0 0 [.ref (x + 298), .int p1, .int p2] h1 (tp_PS (some (.int b)) F2) tp_NX ∧ ∀ h2, F2 h2 → ∃ ov od, tl_J G x (C + 1) kv ov od h2 ∧ (kv = 0 → ov = b.toInt64)) (kk : ∀ h2 thr ov od, tl_J G x (C + 1) thr ov od h2 → tp_Run l G mL_law room_1 Q (k + mc) (n + ms) h2 1997 [some (.ref (G.2.2.2 3)), some (.ref x), some (.ref (x + 298)), some (.ref (x + 303)), some (.ref (x + 304)), some (.int (nI (6 * C))), none, none, none] []) : tp_Run l G mL_law room_1 Q k n h 928 [some (.ref (G.2.2.2 3)), some (.ref x), some (.ref (x + 298)), some (.ref (x + 303)), some (.ref (x + 304)), some (.int (nI (6 * C))), none, none, none] [] := by
  refine r_aload1 dL_law_928 ?_
  refine r_aload0 dL_law_929 ?_
  refine r_iload5 dL_law_930 ?_
  refine r_iconst (v := 1) dL_law_932 (by decide) ?_
  refine r_iadd dL_law_933 ?_
  refine r_sld dL_law_934 (i := 6 * C + 1) (tp_add (6 * C) 1) (by omega) (by omega) ?_
  rw [show nI (G.2.2.2 (5 + (6 * C + 1))) = p1 from e1]
  refine r_aload0 dL_law_935 ?_
  refine r_iload5 dL_law_936 ?_
  refine r_iconst (v := 2) dL_law_938 (by decide) ?_
  refine r_iadd dL_law_939 ?_
  refine r_sld dL_law_940 (i := 6 * C + 2) (tp_add (6 * C) 2) (by omega) (by omega) ?_
  rw [show nI (G.2.2.2 (5 + (6 * C + 2))) = p2 from e2]
  refine r_aload3 dL_law_941 ?_
  refine r_callSW dL_law_942 v_L_148 hW rfl rfl rfl (Nat.le_of_ble_eq_true rfl) ⟨(Nat.le_of_ble_eq_true rfl), (Nat.le_of_ble_eq_true rfl)⟩ hk (fun r h1 hP => ?_)
  obtain ⟨rfl, hF1⟩ := hP
  obtain ⟨fs, b, F2, hob, hQ, hJ⟩ := hF h1 hF1
  refine r_istore6 dL_law_945 (Nat.le_of_ble_eq_true rfl) rfl ?_
  refine r_aload2 dL_law_947 ?_
  refine r_aload0 dL_law_948 ?_
  refine r_iload5 dL_law_949 ?_
  refine r_iconst (v := 1) dL_law_951 (by decide) ?_
  refine r_iadd dL_law_952 ?_
  refine r_sld dL_law_953 (i := 6 * C + 1) (tp_add (6 * C) 1) (by omega) (by omega) ?_
  rw [show nI (G.2.2.2 (5 + (6 * C + 1))) = p1 from e1]
  refine r_aload0 dL_law_954 ?_
  refine r_iload5 dL_law_955 ?_
  refine r_iconst (v := 2) dL_law_957 (by decide) ?_
  refine r_iadd dL_law_958 ?_
  refine r_sld dL_law_959 (i := 6 * C + 2) (tp_add (6 * C) 2) (by omega) (by omega) ?_
  rw [show nI (G.2.2.2 (5 + (6 * C + 2))) = p2 from e2]
  refine r_sV1 dL_law_960 v_L_150 hQ rfl hob rfl rfl rfl (Nat.le_of_ble_eq_true rfl) ⟨(Nat.le_of_ble_eq_true rfl), (Nat.le_of_ble_eq_true rfl)⟩ hk (fun h2 hq => ?_)
  obtain ⟨ov, od, hT, he⟩ := hJ h2 hq
  obtain ⟨u9, π9, ρ9, us9, σ9, s9, n9, tx9, rd9, z9, hi9, pa9, R9, nu9, du9, hs9, ov9, od9, N9, P9, hS9, hV9, eo9, ed9⟩ := id hT
  refine r_istore7 dL_law_963 (Nat.le_of_ble_eq_true rfl) rfl ?_
  refine r_aload2 dL_law_965 ?_
  refine r_pV dL_law_966 v_L_111 (M_thrown hl hS9.mm) rfl hS9.mob rfl rfl rfl (Nat.le_of_ble_eq_true rfl) ⟨(Nat.le_of_ble_eq_true rfl), (Nat.le_of_ble_eq_true rfl)⟩ hk ?_
  refine r_iload6 dL_law_969 ?_
  refine r_icmp_eq (tgt := 976) dL_law_971 (by decide) (fun c971 => ?_) (fun c971 => ?_)
  · refine r_iload6 dL_law_976 ?_
    refine r_if_ne (tgt := 993) dL_law_978 (by decide) (fun c978 => ?_) (fun c978 => ?_)
    · refine r_goto (tgt := 1997) dL_law_993 (by decide) ?_
      refine r_fg 6 ?_
      refine r_fg 7 ?_
      exact kk h2 _ _ _ hT
    · refine r_aload3 dL_law_981 ?_
      refine r_iconst (v := 0) dL_law_982 (by decide) ?_
      refine r_lald dL_law_983 hS9.oc (i := 0) rfl (by decide) (by decide) ?_
      refine r_iload7 dL_law_984 ?_
      refine r_i2l dL_law_986 ?_
      rw [eo9, he (by first | exact c978 | exact Classical.not_not.mp c978)]
      refine r_lcmp dL_law_987 ?_
      rw [lg_cmp_self]
      refine r_if_eq (tgt := 993) dL_law_988 (by decide) (fun c988 => ?_) (fun c988 => ?_)
      · refine r_goto (tgt := 1997) dL_law_993 (by decide) ?_
        refine r_fg 6 ?_
        refine r_fg 7 ?_
        exact kk h2 _ _ _ hT
      · exact absurd rfl c988
  · exact absurd rfl c971

set_option maxRecDepth 100000 in
set_option maxHeartbeats 4000000 in
theorem L_append {l : Launch} {G : tp_G} {Q : tp_Q} {k n : Nat} {h : tp_H} {x C : Nat} {mc ms : Nat} {p1 : Int32} {kv : Int32} {F : tp_H → Prop} (hl : l.stackTraces = false) (hC : 6 * C + 6 ≤ G.2.2.2 4) (hN : G.2.2.2 4 ≤ 3072) (hk : k + mc ≤ room_1.cells ∧ n + ms ≤ room_1.slots) (e1 : sc G C 1 = p1) (hW : tp_Met l G mL_append mc ms [.ref x, .int p1, .ref (x + 303)] h (tp_PS (some (.int kv)) F) tp_NX) (hF : ∀ h1, F h1 → ∃ fs b F2, h1.2 (x + 298) = some (.inr (6, fs)) ∧ tp_Met l G mX6_append 0 0 [.ref (x + 298), .int p1] h1 (tp_PS (some (.int b)) F2) tp_NX ∧ ∀ h2, F2 h2 → ∃ ov od, tl_J G x (C + 1) kv ov od h2 ∧ (kv = 0 → ov = b.toInt64)) (kk : ∀ h2 thr ov od, tl_J G x (C + 1) thr ov od h2 → tp_Run l G mL_law room_1 Q (k + mc) (n + ms) h2 1997 [some (.ref (G.2.2.2 3)), some (.ref x), some (.ref (x + 298)), some (.ref (x + 303)), some (.ref (x + 304)), some (.int (nI (6 * C))), none, none, none] []) : tp_Run l G mL_law room_1 Q k n h 996 [some (.ref (G.2.2.2 3)), some (.ref x), some (.ref (x + 298)), some (.ref (x + 303)), some (.ref (x + 304)), some (.int (nI (6 * C))), none, none, none] [] := by
  refine r_aload1 dL_law_996 ?_
  refine r_aload0 dL_law_997 ?_
  refine r_iload5 dL_law_998 ?_
  refine r_iconst (v := 1) dL_law_1000 (by decide) ?_
  refine r_iadd dL_law_1001 ?_
  refine r_sld dL_law_1002 (i := 6 * C + 1) (tp_add (6 * C) 1) (by omega) (by omega) ?_
  rw [show nI (G.2.2.2 (5 + (6 * C + 1))) = p1 from e1]
  refine r_aload3 dL_law_1003 ?_
  refine r_callSW dL_law_1004 v_L_151 hW rfl rfl rfl (Nat.le_of_ble_eq_true rfl) ⟨(Nat.le_of_ble_eq_true rfl), (Nat.le_of_ble_eq_true rfl)⟩ hk (fun r h1 hP => ?_)
  obtain ⟨rfl, hF1⟩ := hP
  obtain ⟨fs, b, F2, hob, hQ, hJ⟩ := hF h1 hF1
  refine r_istore6 dL_law_1007 (Nat.le_of_ble_eq_true rfl) rfl ?_
  refine r_aload2 dL_law_1009 ?_
  refine r_aload0 dL_law_1010 ?_
  refine r_iload5 dL_law_1011 ?_
  refine r_iconst (v := 1) dL_law_1013 (by decide) ?_
  refine r_iadd dL_law_1014 ?_
  refine r_sld dL_law_1015 (i := 6 * C + 1) (tp_add (6 * C) 1) (by omega) (by omega) ?_
  rw [show nI (G.2.2.2 (5 + (6 * C + 1))) = p1 from e1]
  refine r_sV1 dL_law_1016 v_L_153 hQ rfl hob rfl rfl rfl (Nat.le_of_ble_eq_true rfl) ⟨(Nat.le_of_ble_eq_true rfl), (Nat.le_of_ble_eq_true rfl)⟩ hk (fun h2 hq => ?_)
  obtain ⟨ov, od, hT, he⟩ := hJ h2 hq
  obtain ⟨u9, π9, ρ9, us9, σ9, s9, n9, tx9, rd9, z9, hi9, pa9, R9, nu9, du9, hs9, ov9, od9, N9, P9, hS9, hV9, eo9, ed9⟩ := id hT
  refine r_istore7 dL_law_1019 (Nat.le_of_ble_eq_true rfl) rfl ?_
  refine r_aload2 dL_law_1021 ?_
  refine r_pV dL_law_1022 v_L_111 (M_thrown hl hS9.mm) rfl hS9.mob rfl rfl rfl (Nat.le_of_ble_eq_true rfl) ⟨(Nat.le_of_ble_eq_true rfl), (Nat.le_of_ble_eq_true rfl)⟩ hk ?_
  refine r_iload6 dL_law_1025 ?_
  refine r_icmp_eq (tgt := 1032) dL_law_1027 (by decide) (fun c1027 => ?_) (fun c1027 => ?_)
  · refine r_iload6 dL_law_1032 ?_
    refine r_if_ne (tgt := 1049) dL_law_1034 (by decide) (fun c1034 => ?_) (fun c1034 => ?_)
    · refine r_goto (tgt := 1997) dL_law_1049 (by decide) ?_
      refine r_fg 6 ?_
      refine r_fg 7 ?_
      exact kk h2 _ _ _ hT
    · refine r_aload3 dL_law_1037 ?_
      refine r_iconst (v := 0) dL_law_1038 (by decide) ?_
      refine r_lald dL_law_1039 hS9.oc (i := 0) rfl (by decide) (by decide) ?_
      refine r_iload7 dL_law_1040 ?_
      refine r_i2l dL_law_1042 ?_
      rw [eo9, he (by first | exact c1034 | exact Classical.not_not.mp c1034)]
      refine r_lcmp dL_law_1043 ?_
      rw [lg_cmp_self]
      refine r_if_eq (tgt := 1049) dL_law_1044 (by decide) (fun c1044 => ?_) (fun c1044 => ?_)
      · refine r_goto (tgt := 1997) dL_law_1049 (by decide) ?_
        refine r_fg 6 ?_
        refine r_fg 7 ?_
        exact kk h2 _ _ _ hT
      · exact absurd rfl c1044
  · exact absurd rfl c1027

set_option maxRecDepth 100000 in
set_option maxHeartbeats 4000000 in
theorem L_run {l : Launch} {G : tp_G} {Q : tp_Q} {k n : Nat} {h : tp_H} {x C : Nat} {mc ms : Nat} {kv : Int32} {F : tp_H → Prop} (hl : l.stackTraces = false) (hC : 6 * C + 6 ≤ G.2.2.2 4) (hN : G.2.2.2 4 ≤ 3072) (hk : k + mc ≤ room_1.cells ∧ n + ms ≤ room_1.slots) (hW : tp_Met l G mL_run mc ms [.ref x, .ref (x + 303)] h (tp_PS (some (.int kv)) F) tp_NX) (hF : ∀ h1, F h1 → ∃ fs b F2, h1.2 (x + 298) = some (.inr (6, fs)) ∧ tp_Met l G mX6_run 0 0 [.ref (x + 298)] h1 (tp_PS (some (.int b)) F2) tp_NX ∧ ∀ h2, F2 h2 → ∃ ov od, tl_J G x (C + 1) kv ov od h2 ∧ (kv = 0 → ov = b.toInt64)) (kk : ∀ h2 thr ov od, tl_J G x (C + 1) thr ov od h2 → tp_Run l G mL_law room_1 Q (k + mc) (n + ms) h2 1997 [some (.ref (G.2.2.2 3)), some (.ref x), some (.ref (x + 298)), some (.ref (x + 303)), some (.ref (x + 304)), some (.int (nI (6 * C))), none, none, none] []) : tp_Run l G mL_law room_1 Q k n h 1078 [some (.ref (G.2.2.2 3)), some (.ref x), some (.ref (x + 298)), some (.ref (x + 303)), some (.ref (x + 304)), some (.int (nI (6 * C))), none, none, none] [] := by
  refine r_aload1 dL_law_1078 ?_
  refine r_aload3 dL_law_1079 ?_
  refine r_callSW dL_law_1080 v_L_162 hW rfl rfl rfl (Nat.le_of_ble_eq_true rfl) ⟨(Nat.le_of_ble_eq_true rfl), (Nat.le_of_ble_eq_true rfl)⟩ hk (fun r h1 hP => ?_)
  obtain ⟨rfl, hF1⟩ := hP
  obtain ⟨fs, b, F2, hob, hQ, hJ⟩ := hF h1 hF1
  refine r_istore6 dL_law_1083 (Nat.le_of_ble_eq_true rfl) rfl ?_
  refine r_aload2 dL_law_1085 ?_
  refine r_sV1 dL_law_1086 v_L_165 hQ rfl hob rfl rfl rfl (Nat.le_of_ble_eq_true rfl) ⟨(Nat.le_of_ble_eq_true rfl), (Nat.le_of_ble_eq_true rfl)⟩ hk (fun h2 hq => ?_)
  obtain ⟨ov, od, hT, he⟩ := hJ h2 hq
  obtain ⟨u9, π9, ρ9, us9, σ9, s9, n9, tx9, rd9, z9, hi9, pa9, R9, nu9, du9, hs9, ov9, od9, N9, P9, hS9, hV9, eo9, ed9⟩ := id hT
  refine r_istore7 dL_law_1089 (Nat.le_of_ble_eq_true rfl) rfl ?_
  refine r_aload2 dL_law_1091 ?_
  refine r_pV dL_law_1092 v_L_111 (M_thrown hl hS9.mm) rfl hS9.mob rfl rfl rfl (Nat.le_of_ble_eq_true rfl) ⟨(Nat.le_of_ble_eq_true rfl), (Nat.le_of_ble_eq_true rfl)⟩ hk ?_
  refine r_iload6 dL_law_1095 ?_
  refine r_icmp_eq (tgt := 1102) dL_law_1097 (by decide) (fun c1097 => ?_) (fun c1097 => ?_)
  · refine r_iload6 dL_law_1102 ?_
    refine r_if_ne (tgt := 1119) dL_law_1104 (by decide) (fun c1104 => ?_) (fun c1104 => ?_)
    · refine r_goto (tgt := 1997) dL_law_1119 (by decide) ?_
      refine r_fg 6 ?_
      refine r_fg 7 ?_
      exact kk h2 _ _ _ hT
    · refine r_aload3 dL_law_1107 ?_
      refine r_iconst (v := 0) dL_law_1108 (by decide) ?_
      refine r_lald dL_law_1109 hS9.oc (i := 0) rfl (by decide) (by decide) ?_
      refine r_iload7 dL_law_1110 ?_
      refine r_i2l dL_law_1112 ?_
      rw [eo9, he (by first | exact c1104 | exact Classical.not_not.mp c1104)]
      refine r_lcmp dL_law_1113 ?_
      rw [lg_cmp_self]
      refine r_if_eq (tgt := 1119) dL_law_1114 (by decide) (fun c1114 => ?_) (fun c1114 => ?_)
      · refine r_goto (tgt := 1997) dL_law_1119 (by decide) ?_
        refine r_fg 6 ?_
        refine r_fg 7 ?_
        exact kk h2 _ _ _ hT
      · exact absurd rfl c1114
  · exact absurd rfl c1097

set_option maxRecDepth 100000 in
set_option maxHeartbeats 4000000 in
theorem L_undo {l : Launch} {G : tp_G} {Q : tp_Q} {k n : Nat} {h : tp_H} {x C : Nat} {mc ms : Nat} {kv : Int32} {F : tp_H → Prop} (hl : l.stackTraces = false) (hC : 6 * C + 6 ≤ G.2.2.2 4) (hN : G.2.2.2 4 ≤ 3072) (hk : k + mc ≤ room_1.cells ∧ n + ms ≤ room_1.slots) (hW : tp_Met l G mL_undo mc ms [.ref x, .ref (x + 303)] h (tp_PS (some (.int kv)) F) tp_NX) (hF : ∀ h1, F h1 → ∃ fs b F2, h1.2 (x + 298) = some (.inr (6, fs)) ∧ tp_Met l G mX6_undo 0 0 [.ref (x + 298)] h1 (tp_PS (some (.int b)) F2) tp_NX ∧ ∀ h2, F2 h2 → ∃ ov od, tl_J G x (C + 1) kv ov od h2 ∧ (kv = 0 → ov = b.toInt64)) (kk : ∀ h2 thr ov od, tl_J G x (C + 1) thr ov od h2 → tp_Run l G mL_law room_1 Q (k + mc) (n + ms) h2 1997 [some (.ref (G.2.2.2 3)), some (.ref x), some (.ref (x + 298)), some (.ref (x + 303)), some (.ref (x + 304)), some (.int (nI (6 * C))), none, none, none] []) : tp_Run l G mL_law room_1 Q k n h 1122 [some (.ref (G.2.2.2 3)), some (.ref x), some (.ref (x + 298)), some (.ref (x + 303)), some (.ref (x + 304)), some (.int (nI (6 * C))), none, none, none] [] := by
  refine r_aload1 dL_law_1122 ?_
  refine r_aload3 dL_law_1123 ?_
  refine r_callSW dL_law_1124 v_L_166 hW rfl rfl rfl (Nat.le_of_ble_eq_true rfl) ⟨(Nat.le_of_ble_eq_true rfl), (Nat.le_of_ble_eq_true rfl)⟩ hk (fun r h1 hP => ?_)
  obtain ⟨rfl, hF1⟩ := hP
  obtain ⟨fs, b, F2, hob, hQ, hJ⟩ := hF h1 hF1
  refine r_istore6 dL_law_1127 (Nat.le_of_ble_eq_true rfl) rfl ?_
  refine r_aload2 dL_law_1129 ?_
  refine r_sV1 dL_law_1130 v_L_168 hQ rfl hob rfl rfl rfl (Nat.le_of_ble_eq_true rfl) ⟨(Nat.le_of_ble_eq_true rfl), (Nat.le_of_ble_eq_true rfl)⟩ hk (fun h2 hq => ?_)
  obtain ⟨ov, od, hT, he⟩ := hJ h2 hq
  obtain ⟨u9, π9, ρ9, us9, σ9, s9, n9, tx9, rd9, z9, hi9, pa9, R9, nu9, du9, hs9, ov9, od9, N9, P9, hS9, hV9, eo9, ed9⟩ := id hT
  refine r_istore7 dL_law_1133 (Nat.le_of_ble_eq_true rfl) rfl ?_
  refine r_aload2 dL_law_1135 ?_
  refine r_pV dL_law_1136 v_L_111 (M_thrown hl hS9.mm) rfl hS9.mob rfl rfl rfl (Nat.le_of_ble_eq_true rfl) ⟨(Nat.le_of_ble_eq_true rfl), (Nat.le_of_ble_eq_true rfl)⟩ hk ?_
  refine r_iload6 dL_law_1139 ?_
  refine r_icmp_eq (tgt := 1146) dL_law_1141 (by decide) (fun c1141 => ?_) (fun c1141 => ?_)
  · refine r_iload6 dL_law_1146 ?_
    refine r_if_ne (tgt := 1163) dL_law_1148 (by decide) (fun c1148 => ?_) (fun c1148 => ?_)
    · refine r_goto (tgt := 1997) dL_law_1163 (by decide) ?_
      refine r_fg 6 ?_
      refine r_fg 7 ?_
      exact kk h2 _ _ _ hT
    · refine r_aload3 dL_law_1151 ?_
      refine r_iconst (v := 0) dL_law_1152 (by decide) ?_
      refine r_lald dL_law_1153 hS9.oc (i := 0) rfl (by decide) (by decide) ?_
      refine r_iload7 dL_law_1154 ?_
      refine r_i2l dL_law_1156 ?_
      rw [eo9, he (by first | exact c1148 | exact Classical.not_not.mp c1148)]
      refine r_lcmp dL_law_1157 ?_
      rw [lg_cmp_self]
      refine r_if_eq (tgt := 1163) dL_law_1158 (by decide) (fun c1158 => ?_) (fun c1158 => ?_)
      · refine r_goto (tgt := 1997) dL_law_1163 (by decide) ?_
        refine r_fg 6 ?_
        refine r_fg 7 ?_
        exact kk h2 _ _ _ hT
      · exact absurd rfl c1158
  · exact absurd rfl c1141

set_option maxRecDepth 100000 in
set_option maxHeartbeats 4000000 in
theorem L_purse {l : Launch} {G : tp_G} {Q : tp_Q} {k n : Nat} {h : tp_H} {x C : Nat} {mc ms : Nat} {p1 p2 p3 : Int32} {kv : Int32} {F : tp_H → Prop} (hl : l.stackTraces = false) (hC : 6 * C + 6 ≤ G.2.2.2 4) (hN : G.2.2.2 4 ≤ 3072) (hk : k + mc ≤ room_1.cells ∧ n + ms ≤ room_1.slots) (e1 : sc G C 1 = p1) (e2 : sc G C 2 = p2) (e3 : sc G C 3 = p3) (hW : tp_Met l G mL_purse mc ms [.ref x, .int p1, .int p2, .int p3, .ref (x + 303)] h (tp_PS (some (.int kv)) F) tp_NX) (hF : ∀ h1, F h1 → ∃ fs b F2, h1.2 (x + 298) = some (.inr (6, fs)) ∧ tp_Met l G mX6_purse 0 0 [.ref (x + 298), .int p1, .int p2, .int p3] h1 (tp_PS (some (.int b)) F2) tp_NX ∧ ∀ h2, F2 h2 → ∃ ov od, tl_J G x (C + 1) kv ov od h2 ∧ (kv = 0 → ov = b.toInt64)) (kk : ∀ h2 thr ov od, tl_J G x (C + 1) thr ov od h2 → tp_Run l G mL_law room_1 Q (k + mc) (n + ms) h2 1997 [some (.ref (G.2.2.2 3)), some (.ref x), some (.ref (x + 298)), some (.ref (x + 303)), some (.ref (x + 304)), some (.int (nI (6 * C))), none, none, none] []) : tp_Run l G mL_law room_1 Q k n h 1166 [some (.ref (G.2.2.2 3)), some (.ref x), some (.ref (x + 298)), some (.ref (x + 303)), some (.ref (x + 304)), some (.int (nI (6 * C))), none, none, none] [] := by
  refine r_aload1 dL_law_1166 ?_
  refine r_aload0 dL_law_1167 ?_
  refine r_iload5 dL_law_1168 ?_
  refine r_iconst (v := 1) dL_law_1170 (by decide) ?_
  refine r_iadd dL_law_1171 ?_
  refine r_sld dL_law_1172 (i := 6 * C + 1) (tp_add (6 * C) 1) (by omega) (by omega) ?_
  rw [show nI (G.2.2.2 (5 + (6 * C + 1))) = p1 from e1]
  refine r_aload0 dL_law_1173 ?_
  refine r_iload5 dL_law_1174 ?_
  refine r_iconst (v := 2) dL_law_1176 (by decide) ?_
  refine r_iadd dL_law_1177 ?_
  refine r_sld dL_law_1178 (i := 6 * C + 2) (tp_add (6 * C) 2) (by omega) (by omega) ?_
  rw [show nI (G.2.2.2 (5 + (6 * C + 2))) = p2 from e2]
  refine r_aload0 dL_law_1179 ?_
  refine r_iload5 dL_law_1180 ?_
  refine r_iconst (v := 3) dL_law_1182 (by decide) ?_
  refine r_iadd dL_law_1183 ?_
  refine r_sld dL_law_1184 (i := 6 * C + 3) (tp_add (6 * C) 3) (by omega) (by omega) ?_
  rw [show nI (G.2.2.2 (5 + (6 * C + 3))) = p3 from e3]
  refine r_aload3 dL_law_1185 ?_
  refine r_callSW dL_law_1186 v_L_169 hW rfl rfl rfl (Nat.le_of_ble_eq_true rfl) ⟨(Nat.le_of_ble_eq_true rfl), (Nat.le_of_ble_eq_true rfl)⟩ hk (fun r h1 hP => ?_)
  obtain ⟨rfl, hF1⟩ := hP
  obtain ⟨fs, b, F2, hob, hQ, hJ⟩ := hF h1 hF1
  refine r_istore6 dL_law_1189 (Nat.le_of_ble_eq_true rfl) rfl ?_
  refine r_aload2 dL_law_1191 ?_
  refine r_aload0 dL_law_1192 ?_
  refine r_iload5 dL_law_1193 ?_
  refine r_iconst (v := 1) dL_law_1195 (by decide) ?_
  refine r_iadd dL_law_1196 ?_
  refine r_sld dL_law_1197 (i := 6 * C + 1) (tp_add (6 * C) 1) (by omega) (by omega) ?_
  rw [show nI (G.2.2.2 (5 + (6 * C + 1))) = p1 from e1]
  refine r_aload0 dL_law_1198 ?_
  refine r_iload5 dL_law_1199 ?_
  refine r_iconst (v := 2) dL_law_1201 (by decide) ?_
  refine r_iadd dL_law_1202 ?_
  refine r_sld dL_law_1203 (i := 6 * C + 2) (tp_add (6 * C) 2) (by omega) (by omega) ?_
  rw [show nI (G.2.2.2 (5 + (6 * C + 2))) = p2 from e2]
  refine r_aload0 dL_law_1204 ?_
  refine r_iload5 dL_law_1205 ?_
  refine r_iconst (v := 3) dL_law_1207 (by decide) ?_
  refine r_iadd dL_law_1208 ?_
  refine r_sld dL_law_1209 (i := 6 * C + 3) (tp_add (6 * C) 3) (by omega) (by omega) ?_
  rw [show nI (G.2.2.2 (5 + (6 * C + 3))) = p3 from e3]
  refine r_sV1 dL_law_1210 v_L_171 hQ rfl hob rfl rfl rfl (Nat.le_of_ble_eq_true rfl) ⟨(Nat.le_of_ble_eq_true rfl), (Nat.le_of_ble_eq_true rfl)⟩ hk (fun h2 hq => ?_)
  obtain ⟨ov, od, hT, he⟩ := hJ h2 hq
  obtain ⟨u9, π9, ρ9, us9, σ9, s9, n9, tx9, rd9, z9, hi9, pa9, R9, nu9, du9, hs9, ov9, od9, N9, P9, hS9, hV9, eo9, ed9⟩ := id hT
  refine r_istore7 dL_law_1213 (Nat.le_of_ble_eq_true rfl) rfl ?_
  refine r_aload2 dL_law_1215 ?_
  refine r_pV dL_law_1216 v_L_111 (M_thrown hl hS9.mm) rfl hS9.mob rfl rfl rfl (Nat.le_of_ble_eq_true rfl) ⟨(Nat.le_of_ble_eq_true rfl), (Nat.le_of_ble_eq_true rfl)⟩ hk ?_
  refine r_iload6 dL_law_1219 ?_
  refine r_icmp_eq (tgt := 1226) dL_law_1221 (by decide) (fun c1221 => ?_) (fun c1221 => ?_)
  · refine r_iload6 dL_law_1226 ?_
    refine r_if_ne (tgt := 1243) dL_law_1228 (by decide) (fun c1228 => ?_) (fun c1228 => ?_)
    · refine r_goto (tgt := 1997) dL_law_1243 (by decide) ?_
      refine r_fg 6 ?_
      refine r_fg 7 ?_
      exact kk h2 _ _ _ hT
    · refine r_aload3 dL_law_1231 ?_
      refine r_iconst (v := 0) dL_law_1232 (by decide) ?_
      refine r_lald dL_law_1233 hS9.oc (i := 0) rfl (by decide) (by decide) ?_
      refine r_iload7 dL_law_1234 ?_
      refine r_i2l dL_law_1236 ?_
      rw [eo9, he (by first | exact c1228 | exact Classical.not_not.mp c1228)]
      refine r_lcmp dL_law_1237 ?_
      rw [lg_cmp_self]
      refine r_if_eq (tgt := 1243) dL_law_1238 (by decide) (fun c1238 => ?_) (fun c1238 => ?_)
      · refine r_goto (tgt := 1997) dL_law_1243 (by decide) ?_
        refine r_fg 6 ?_
        refine r_fg 7 ?_
        exact kk h2 _ _ _ hT
      · exact absurd rfl c1238
  · exact absurd rfl c1221

set_option maxRecDepth 100000 in
set_option maxHeartbeats 4000000 in
theorem L_held {l : Launch} {G : tp_G} {Q : tp_Q} {k n : Nat} {h : tp_H} {x C : Nat} {mc ms : Nat} {p1 p2 : Int32} {kv : Int32} {F : tp_H → Prop} (hl : l.stackTraces = false) (hC : 6 * C + 6 ≤ G.2.2.2 4) (hN : G.2.2.2 4 ≤ 3072) (hk : k + mc ≤ room_1.cells ∧ n + ms ≤ room_1.slots) (e1 : sc G C 1 = p1) (e2 : sc G C 2 = p2) (hW : tp_Met l G mL_held mc ms [.ref x, .int p1, .int p2, .ref (x + 303)] h (tp_PS (some (.int kv)) F) tp_NX) (hF : ∀ h1, F h1 → ∃ fs b F2, h1.2 (x + 298) = some (.inr (6, fs)) ∧ tp_Met l G mX6_held 0 0 [.ref (x + 298), .int p1, .int p2] h1 (tp_PS (some (.int b)) F2) tp_NX ∧ ∀ h2, F2 h2 → ∃ ov od, tl_J G x (C + 1) kv ov od h2 ∧ (kv = 0 → ov = b.toInt64)) (kk : ∀ h2 thr ov od, tl_J G x (C + 1) thr ov od h2 → tp_Run l G mL_law room_1 Q (k + mc) (n + ms) h2 1997 [some (.ref (G.2.2.2 3)), some (.ref x), some (.ref (x + 298)), some (.ref (x + 303)), some (.ref (x + 304)), some (.int (nI (6 * C))), none, none, none] []) : tp_Run l G mL_law room_1 Q k n h 1246 [some (.ref (G.2.2.2 3)), some (.ref x), some (.ref (x + 298)), some (.ref (x + 303)), some (.ref (x + 304)), some (.int (nI (6 * C))), none, none, none] [] := by
  refine r_aload1 dL_law_1246 ?_
  refine r_aload0 dL_law_1247 ?_
  refine r_iload5 dL_law_1248 ?_
  refine r_iconst (v := 1) dL_law_1250 (by decide) ?_
  refine r_iadd dL_law_1251 ?_
  refine r_sld dL_law_1252 (i := 6 * C + 1) (tp_add (6 * C) 1) (by omega) (by omega) ?_
  rw [show nI (G.2.2.2 (5 + (6 * C + 1))) = p1 from e1]
  refine r_aload0 dL_law_1253 ?_
  refine r_iload5 dL_law_1254 ?_
  refine r_iconst (v := 2) dL_law_1256 (by decide) ?_
  refine r_iadd dL_law_1257 ?_
  refine r_sld dL_law_1258 (i := 6 * C + 2) (tp_add (6 * C) 2) (by omega) (by omega) ?_
  rw [show nI (G.2.2.2 (5 + (6 * C + 2))) = p2 from e2]
  refine r_aload3 dL_law_1259 ?_
  refine r_callSW dL_law_1260 v_L_172 hW rfl rfl rfl (Nat.le_of_ble_eq_true rfl) ⟨(Nat.le_of_ble_eq_true rfl), (Nat.le_of_ble_eq_true rfl)⟩ hk (fun r h1 hP => ?_)
  obtain ⟨rfl, hF1⟩ := hP
  obtain ⟨fs, b, F2, hob, hQ, hJ⟩ := hF h1 hF1
  refine r_istore6 dL_law_1263 (Nat.le_of_ble_eq_true rfl) rfl ?_
  refine r_aload2 dL_law_1265 ?_
  refine r_aload0 dL_law_1266 ?_
  refine r_iload5 dL_law_1267 ?_
  refine r_iconst (v := 1) dL_law_1269 (by decide) ?_
  refine r_iadd dL_law_1270 ?_
  refine r_sld dL_law_1271 (i := 6 * C + 1) (tp_add (6 * C) 1) (by omega) (by omega) ?_
  rw [show nI (G.2.2.2 (5 + (6 * C + 1))) = p1 from e1]
  refine r_aload0 dL_law_1272 ?_
  refine r_iload5 dL_law_1273 ?_
  refine r_iconst (v := 2) dL_law_1275 (by decide) ?_
  refine r_iadd dL_law_1276 ?_
  refine r_sld dL_law_1277 (i := 6 * C + 2) (tp_add (6 * C) 2) (by omega) (by omega) ?_
  rw [show nI (G.2.2.2 (5 + (6 * C + 2))) = p2 from e2]
  refine r_sV1 dL_law_1278 v_L_174 hQ rfl hob rfl rfl rfl (Nat.le_of_ble_eq_true rfl) ⟨(Nat.le_of_ble_eq_true rfl), (Nat.le_of_ble_eq_true rfl)⟩ hk (fun h2 hq => ?_)
  obtain ⟨ov, od, hT, he⟩ := hJ h2 hq
  obtain ⟨u9, π9, ρ9, us9, σ9, s9, n9, tx9, rd9, z9, hi9, pa9, R9, nu9, du9, hs9, ov9, od9, N9, P9, hS9, hV9, eo9, ed9⟩ := id hT
  refine r_istore7 dL_law_1281 (Nat.le_of_ble_eq_true rfl) rfl ?_
  refine r_aload2 dL_law_1283 ?_
  refine r_pV dL_law_1284 v_L_111 (M_thrown hl hS9.mm) rfl hS9.mob rfl rfl rfl (Nat.le_of_ble_eq_true rfl) ⟨(Nat.le_of_ble_eq_true rfl), (Nat.le_of_ble_eq_true rfl)⟩ hk ?_
  refine r_iload6 dL_law_1287 ?_
  refine r_icmp_eq (tgt := 1294) dL_law_1289 (by decide) (fun c1289 => ?_) (fun c1289 => ?_)
  · refine r_iload6 dL_law_1294 ?_
    refine r_if_ne (tgt := 1311) dL_law_1296 (by decide) (fun c1296 => ?_) (fun c1296 => ?_)
    · refine r_goto (tgt := 1997) dL_law_1311 (by decide) ?_
      refine r_fg 6 ?_
      refine r_fg 7 ?_
      exact kk h2 _ _ _ hT
    · refine r_aload3 dL_law_1299 ?_
      refine r_iconst (v := 0) dL_law_1300 (by decide) ?_
      refine r_lald dL_law_1301 hS9.oc (i := 0) rfl (by decide) (by decide) ?_
      refine r_iload7 dL_law_1302 ?_
      refine r_i2l dL_law_1304 ?_
      rw [eo9, he (by first | exact c1296 | exact Classical.not_not.mp c1296)]
      refine r_lcmp dL_law_1305 ?_
      rw [lg_cmp_self]
      refine r_if_eq (tgt := 1311) dL_law_1306 (by decide) (fun c1306 => ?_) (fun c1306 => ?_)
      · refine r_goto (tgt := 1997) dL_law_1311 (by decide) ?_
        refine r_fg 6 ?_
        refine r_fg 7 ?_
        exact kk h2 _ _ _ hT
      · exact absurd rfl c1306
  · exact absurd rfl c1289

set_option maxRecDepth 100000 in
set_option maxHeartbeats 4000000 in
theorem L_payment {l : Launch} {G : tp_G} {Q : tp_Q} {k n : Nat} {h : tp_H} {x C : Nat} {mc ms : Nat} {p1 p2 : Int32} {kv : Int32} {F : tp_H → Prop} (hl : l.stackTraces = false) (hC : 6 * C + 6 ≤ G.2.2.2 4) (hN : G.2.2.2 4 ≤ 3072) (hk : k + mc ≤ room_1.cells ∧ n + ms ≤ room_1.slots) (e1 : sc G C 1 = p1) (e2 : sc G C 2 = p2) (hW : tp_Met l G mL_payment mc ms [.ref x, .int p1, .int p2, .ref (x + 303)] h (tp_PS (some (.int kv)) F) tp_NX) (hF : ∀ h1, F h1 → ∃ fs b F2, h1.2 (x + 298) = some (.inr (6, fs)) ∧ tp_Met l G mX6_payment 0 0 [.ref (x + 298), .int p1, .int p2] h1 (tp_PS (some (.int b)) F2) tp_NX ∧ ∀ h2, F2 h2 → ∃ ov od, tl_J G x (C + 1) kv ov od h2 ∧ (kv = 0 → ov = b.toInt64)) (kk : ∀ h2 thr ov od, tl_J G x (C + 1) thr ov od h2 → tp_Run l G mL_law room_1 Q (k + mc) (n + ms) h2 1997 [some (.ref (G.2.2.2 3)), some (.ref x), some (.ref (x + 298)), some (.ref (x + 303)), some (.ref (x + 304)), some (.int (nI (6 * C))), none, none, none] []) : tp_Run l G mL_law room_1 Q k n h 1314 [some (.ref (G.2.2.2 3)), some (.ref x), some (.ref (x + 298)), some (.ref (x + 303)), some (.ref (x + 304)), some (.int (nI (6 * C))), none, none, none] [] := by
  refine r_aload1 dL_law_1314 ?_
  refine r_aload0 dL_law_1315 ?_
  refine r_iload5 dL_law_1316 ?_
  refine r_iconst (v := 1) dL_law_1318 (by decide) ?_
  refine r_iadd dL_law_1319 ?_
  refine r_sld dL_law_1320 (i := 6 * C + 1) (tp_add (6 * C) 1) (by omega) (by omega) ?_
  rw [show nI (G.2.2.2 (5 + (6 * C + 1))) = p1 from e1]
  refine r_aload0 dL_law_1321 ?_
  refine r_iload5 dL_law_1322 ?_
  refine r_iconst (v := 2) dL_law_1324 (by decide) ?_
  refine r_iadd dL_law_1325 ?_
  refine r_sld dL_law_1326 (i := 6 * C + 2) (tp_add (6 * C) 2) (by omega) (by omega) ?_
  rw [show nI (G.2.2.2 (5 + (6 * C + 2))) = p2 from e2]
  refine r_aload3 dL_law_1327 ?_
  refine r_callSW dL_law_1328 v_L_175 hW rfl rfl rfl (Nat.le_of_ble_eq_true rfl) ⟨(Nat.le_of_ble_eq_true rfl), (Nat.le_of_ble_eq_true rfl)⟩ hk (fun r h1 hP => ?_)
  obtain ⟨rfl, hF1⟩ := hP
  obtain ⟨fs, b, F2, hob, hQ, hJ⟩ := hF h1 hF1
  refine r_istore6 dL_law_1331 (Nat.le_of_ble_eq_true rfl) rfl ?_
  refine r_aload2 dL_law_1333 ?_
  refine r_aload0 dL_law_1334 ?_
  refine r_iload5 dL_law_1335 ?_
  refine r_iconst (v := 1) dL_law_1337 (by decide) ?_
  refine r_iadd dL_law_1338 ?_
  refine r_sld dL_law_1339 (i := 6 * C + 1) (tp_add (6 * C) 1) (by omega) (by omega) ?_
  rw [show nI (G.2.2.2 (5 + (6 * C + 1))) = p1 from e1]
  refine r_aload0 dL_law_1340 ?_
  refine r_iload5 dL_law_1341 ?_
  refine r_iconst (v := 2) dL_law_1343 (by decide) ?_
  refine r_iadd dL_law_1344 ?_
  refine r_sld dL_law_1345 (i := 6 * C + 2) (tp_add (6 * C) 2) (by omega) (by omega) ?_
  rw [show nI (G.2.2.2 (5 + (6 * C + 2))) = p2 from e2]
  refine r_sV1 dL_law_1346 v_L_177 hQ rfl hob rfl rfl rfl (Nat.le_of_ble_eq_true rfl) ⟨(Nat.le_of_ble_eq_true rfl), (Nat.le_of_ble_eq_true rfl)⟩ hk (fun h2 hq => ?_)
  obtain ⟨ov, od, hT, he⟩ := hJ h2 hq
  obtain ⟨u9, π9, ρ9, us9, σ9, s9, n9, tx9, rd9, z9, hi9, pa9, R9, nu9, du9, hs9, ov9, od9, N9, P9, hS9, hV9, eo9, ed9⟩ := id hT
  refine r_istore7 dL_law_1349 (Nat.le_of_ble_eq_true rfl) rfl ?_
  refine r_aload2 dL_law_1351 ?_
  refine r_pV dL_law_1352 v_L_111 (M_thrown hl hS9.mm) rfl hS9.mob rfl rfl rfl (Nat.le_of_ble_eq_true rfl) ⟨(Nat.le_of_ble_eq_true rfl), (Nat.le_of_ble_eq_true rfl)⟩ hk ?_
  refine r_iload6 dL_law_1355 ?_
  refine r_icmp_eq (tgt := 1362) dL_law_1357 (by decide) (fun c1357 => ?_) (fun c1357 => ?_)
  · refine r_iload6 dL_law_1362 ?_
    refine r_if_ne (tgt := 1379) dL_law_1364 (by decide) (fun c1364 => ?_) (fun c1364 => ?_)
    · refine r_goto (tgt := 1997) dL_law_1379 (by decide) ?_
      refine r_fg 6 ?_
      refine r_fg 7 ?_
      exact kk h2 _ _ _ hT
    · refine r_aload3 dL_law_1367 ?_
      refine r_iconst (v := 0) dL_law_1368 (by decide) ?_
      refine r_lald dL_law_1369 hS9.oc (i := 0) rfl (by decide) (by decide) ?_
      refine r_iload7 dL_law_1370 ?_
      refine r_i2l dL_law_1372 ?_
      rw [eo9, he (by first | exact c1364 | exact Classical.not_not.mp c1364)]
      refine r_lcmp dL_law_1373 ?_
      rw [lg_cmp_self]
      refine r_if_eq (tgt := 1379) dL_law_1374 (by decide) (fun c1374 => ?_) (fun c1374 => ?_)
      · refine r_goto (tgt := 1997) dL_law_1379 (by decide) ?_
        refine r_fg 6 ?_
        refine r_fg 7 ?_
        exact kk h2 _ _ _ hT
      · exact absurd rfl c1374
  · exact absurd rfl c1357

set_option maxRecDepth 100000 in
set_option maxHeartbeats 4000000 in
theorem L_count {l : Launch} {G : tp_G} {Q : tp_Q} {k n : Nat} {h : tp_H} {x C : Nat} {mc ms : Nat} {p1 : Int32} {kv : Int32} {F : tp_H → Prop} (hl : l.stackTraces = false) (hC : 6 * C + 6 ≤ G.2.2.2 4) (hN : G.2.2.2 4 ≤ 3072) (hk : k + mc ≤ room_1.cells ∧ n + ms ≤ room_1.slots) (e1 : sc G C 1 = p1) (hW : tp_Met l G mL_count mc ms [.ref x, .int p1, .ref (x + 303)] h (tp_PS (some (.int kv)) F) tp_NX) (hF : ∀ h1, F h1 → ∃ fs b F2, h1.2 (x + 298) = some (.inr (6, fs)) ∧ tp_Met l G mX6_count 0 0 [.ref (x + 298), .int p1] h1 (tp_PS (some (.int b)) F2) tp_NX ∧ ∀ h2, F2 h2 → ∃ ov od, tl_J G x (C + 1) kv ov od h2 ∧ (kv = 0 → ov = b.toInt64)) (kk : ∀ h2 thr ov od, tl_J G x (C + 1) thr ov od h2 → tp_Run l G mL_law room_1 Q (k + mc) (n + ms) h2 1997 [some (.ref (G.2.2.2 3)), some (.ref x), some (.ref (x + 298)), some (.ref (x + 303)), some (.ref (x + 304)), some (.int (nI (6 * C))), none, none, none] []) : tp_Run l G mL_law room_1 Q k n h 1382 [some (.ref (G.2.2.2 3)), some (.ref x), some (.ref (x + 298)), some (.ref (x + 303)), some (.ref (x + 304)), some (.int (nI (6 * C))), none, none, none] [] := by
  refine r_aload1 dL_law_1382 ?_
  refine r_aload0 dL_law_1383 ?_
  refine r_iload5 dL_law_1384 ?_
  refine r_iconst (v := 1) dL_law_1386 (by decide) ?_
  refine r_iadd dL_law_1387 ?_
  refine r_sld dL_law_1388 (i := 6 * C + 1) (tp_add (6 * C) 1) (by omega) (by omega) ?_
  rw [show nI (G.2.2.2 (5 + (6 * C + 1))) = p1 from e1]
  refine r_aload3 dL_law_1389 ?_
  refine r_callSW dL_law_1390 v_L_178 hW rfl rfl rfl (Nat.le_of_ble_eq_true rfl) ⟨(Nat.le_of_ble_eq_true rfl), (Nat.le_of_ble_eq_true rfl)⟩ hk (fun r h1 hP => ?_)
  obtain ⟨rfl, hF1⟩ := hP
  obtain ⟨fs, b, F2, hob, hQ, hJ⟩ := hF h1 hF1
  refine r_istore6 dL_law_1393 (Nat.le_of_ble_eq_true rfl) rfl ?_
  refine r_aload2 dL_law_1395 ?_
  refine r_aload0 dL_law_1396 ?_
  refine r_iload5 dL_law_1397 ?_
  refine r_iconst (v := 1) dL_law_1399 (by decide) ?_
  refine r_iadd dL_law_1400 ?_
  refine r_sld dL_law_1401 (i := 6 * C + 1) (tp_add (6 * C) 1) (by omega) (by omega) ?_
  rw [show nI (G.2.2.2 (5 + (6 * C + 1))) = p1 from e1]
  refine r_sV1 dL_law_1402 v_L_180 hQ rfl hob rfl rfl rfl (Nat.le_of_ble_eq_true rfl) ⟨(Nat.le_of_ble_eq_true rfl), (Nat.le_of_ble_eq_true rfl)⟩ hk (fun h2 hq => ?_)
  obtain ⟨ov, od, hT, he⟩ := hJ h2 hq
  obtain ⟨u9, π9, ρ9, us9, σ9, s9, n9, tx9, rd9, z9, hi9, pa9, R9, nu9, du9, hs9, ov9, od9, N9, P9, hS9, hV9, eo9, ed9⟩ := id hT
  refine r_istore7 dL_law_1405 (Nat.le_of_ble_eq_true rfl) rfl ?_
  refine r_aload2 dL_law_1407 ?_
  refine r_pV dL_law_1408 v_L_111 (M_thrown hl hS9.mm) rfl hS9.mob rfl rfl rfl (Nat.le_of_ble_eq_true rfl) ⟨(Nat.le_of_ble_eq_true rfl), (Nat.le_of_ble_eq_true rfl)⟩ hk ?_
  refine r_iload6 dL_law_1411 ?_
  refine r_icmp_eq (tgt := 1418) dL_law_1413 (by decide) (fun c1413 => ?_) (fun c1413 => ?_)
  · refine r_iload6 dL_law_1418 ?_
    refine r_if_ne (tgt := 1435) dL_law_1420 (by decide) (fun c1420 => ?_) (fun c1420 => ?_)
    · refine r_goto (tgt := 1997) dL_law_1435 (by decide) ?_
      refine r_fg 6 ?_
      refine r_fg 7 ?_
      exact kk h2 _ _ _ hT
    · refine r_aload3 dL_law_1423 ?_
      refine r_iconst (v := 0) dL_law_1424 (by decide) ?_
      refine r_lald dL_law_1425 hS9.oc (i := 0) rfl (by decide) (by decide) ?_
      refine r_iload7 dL_law_1426 ?_
      refine r_i2l dL_law_1428 ?_
      rw [eo9, he (by first | exact c1420 | exact Classical.not_not.mp c1420)]
      refine r_lcmp dL_law_1429 ?_
      rw [lg_cmp_self]
      refine r_if_eq (tgt := 1435) dL_law_1430 (by decide) (fun c1430 => ?_) (fun c1430 => ?_)
      · refine r_goto (tgt := 1997) dL_law_1435 (by decide) ?_
        refine r_fg 6 ?_
        refine r_fg 7 ?_
        exact kk h2 _ _ _ hT
      · exact absurd rfl c1430
  · exact absurd rfl c1413

set_option maxRecDepth 100000 in
set_option maxHeartbeats 4000000 in
theorem L_setting {l : Launch} {G : tp_G} {Q : tp_Q} {k n : Nat} {h : tp_H} {x C : Nat} {mc ms : Nat} {p1 : Int32} {kv : Int32} {F : tp_H → Prop} (hl : l.stackTraces = false) (hC : 6 * C + 6 ≤ G.2.2.2 4) (hN : G.2.2.2 4 ≤ 3072) (hk : k + mc ≤ room_1.cells ∧ n + ms ≤ room_1.slots) (e1 : sc G C 1 = p1) (hW : tp_Met l G mL_setting mc ms [.ref x, .int p1, .ref (x + 303)] h (tp_PS (some (.int kv)) F) tp_NX) (hF : ∀ h1, F h1 → ∃ fs b F2, h1.2 (x + 298) = some (.inr (6, fs)) ∧ tp_Met l G mX6_setting 0 0 [.ref (x + 298), .int p1] h1 (tp_PS (some (.int b)) F2) tp_NX ∧ ∀ h2, F2 h2 → ∃ ov od, tl_J G x (C + 1) kv ov od h2 ∧ (kv = 0 → ov = b.toInt64)) (kk : ∀ h2 thr ov od, tl_J G x (C + 1) thr ov od h2 → tp_Run l G mL_law room_1 Q (k + mc) (n + ms) h2 1997 [some (.ref (G.2.2.2 3)), some (.ref x), some (.ref (x + 298)), some (.ref (x + 303)), some (.ref (x + 304)), some (.int (nI (6 * C))), none, none, none] []) : tp_Run l G mL_law room_1 Q k n h 1438 [some (.ref (G.2.2.2 3)), some (.ref x), some (.ref (x + 298)), some (.ref (x + 303)), some (.ref (x + 304)), some (.int (nI (6 * C))), none, none, none] [] := by
  refine r_aload1 dL_law_1438 ?_
  refine r_aload0 dL_law_1439 ?_
  refine r_iload5 dL_law_1440 ?_
  refine r_iconst (v := 1) dL_law_1442 (by decide) ?_
  refine r_iadd dL_law_1443 ?_
  refine r_sld dL_law_1444 (i := 6 * C + 1) (tp_add (6 * C) 1) (by omega) (by omega) ?_
  rw [show nI (G.2.2.2 (5 + (6 * C + 1))) = p1 from e1]
  refine r_aload3 dL_law_1445 ?_
  refine r_callSW dL_law_1446 v_L_181 hW rfl rfl rfl (Nat.le_of_ble_eq_true rfl) ⟨(Nat.le_of_ble_eq_true rfl), (Nat.le_of_ble_eq_true rfl)⟩ hk (fun r h1 hP => ?_)
  obtain ⟨rfl, hF1⟩ := hP
  obtain ⟨fs, b, F2, hob, hQ, hJ⟩ := hF h1 hF1
  refine r_istore6 dL_law_1449 (Nat.le_of_ble_eq_true rfl) rfl ?_
  refine r_aload2 dL_law_1451 ?_
  refine r_aload0 dL_law_1452 ?_
  refine r_iload5 dL_law_1453 ?_
  refine r_iconst (v := 1) dL_law_1455 (by decide) ?_
  refine r_iadd dL_law_1456 ?_
  refine r_sld dL_law_1457 (i := 6 * C + 1) (tp_add (6 * C) 1) (by omega) (by omega) ?_
  rw [show nI (G.2.2.2 (5 + (6 * C + 1))) = p1 from e1]
  refine r_sV1 dL_law_1458 v_L_183 hQ rfl hob rfl rfl rfl (Nat.le_of_ble_eq_true rfl) ⟨(Nat.le_of_ble_eq_true rfl), (Nat.le_of_ble_eq_true rfl)⟩ hk (fun h2 hq => ?_)
  obtain ⟨ov, od, hT, he⟩ := hJ h2 hq
  obtain ⟨u9, π9, ρ9, us9, σ9, s9, n9, tx9, rd9, z9, hi9, pa9, R9, nu9, du9, hs9, ov9, od9, N9, P9, hS9, hV9, eo9, ed9⟩ := id hT
  refine r_istore7 dL_law_1461 (Nat.le_of_ble_eq_true rfl) rfl ?_
  refine r_aload2 dL_law_1463 ?_
  refine r_pV dL_law_1464 v_L_111 (M_thrown hl hS9.mm) rfl hS9.mob rfl rfl rfl (Nat.le_of_ble_eq_true rfl) ⟨(Nat.le_of_ble_eq_true rfl), (Nat.le_of_ble_eq_true rfl)⟩ hk ?_
  refine r_iload6 dL_law_1467 ?_
  refine r_icmp_eq (tgt := 1474) dL_law_1469 (by decide) (fun c1469 => ?_) (fun c1469 => ?_)
  · refine r_iload6 dL_law_1474 ?_
    refine r_if_ne (tgt := 1491) dL_law_1476 (by decide) (fun c1476 => ?_) (fun c1476 => ?_)
    · refine r_goto (tgt := 1997) dL_law_1491 (by decide) ?_
      refine r_fg 6 ?_
      refine r_fg 7 ?_
      exact kk h2 _ _ _ hT
    · refine r_aload3 dL_law_1479 ?_
      refine r_iconst (v := 0) dL_law_1480 (by decide) ?_
      refine r_lald dL_law_1481 hS9.oc (i := 0) rfl (by decide) (by decide) ?_
      refine r_iload7 dL_law_1482 ?_
      refine r_i2l dL_law_1484 ?_
      rw [eo9, he (by first | exact c1476 | exact Classical.not_not.mp c1476)]
      refine r_lcmp dL_law_1485 ?_
      rw [lg_cmp_self]
      refine r_if_eq (tgt := 1491) dL_law_1486 (by decide) (fun c1486 => ?_) (fun c1486 => ?_)
      · refine r_goto (tgt := 1997) dL_law_1491 (by decide) ?_
        refine r_fg 6 ?_
        refine r_fg 7 ?_
        exact kk h2 _ _ _ hT
      · exact absurd rfl c1486
  · exact absurd rfl c1469

set_option maxRecDepth 100000 in
set_option maxHeartbeats 4000000 in
theorem L_ifExchanged {l : Launch} {G : tp_G} {Q : tp_Q} {k n : Nat} {h : tp_H} {x C : Nat} {mc ms : Nat} {p1 p2 p3 p4 : Int32} {kv : Int32} {F : tp_H → Prop} (hl : l.stackTraces = false) (hC : 6 * C + 6 ≤ G.2.2.2 4) (hN : G.2.2.2 4 ≤ 3072) (hk : k + mc ≤ room_1.cells ∧ n + ms ≤ room_1.slots) (e1 : sc G C 1 = p1) (e2 : sc G C 2 = p2) (e3 : sc G C 3 = p3) (e4 : sc G C 4 = p4) (hW : tp_Met l G mL_ifExchanged mc ms [.ref x, .int p1, .int p2, .int p3, .int p4, .ref (x + 303)] h (tp_PS (some (.int kv)) F) tp_NX) (hF : ∀ h1, F h1 → ∃ fs b F2, h1.2 (x + 298) = some (.inr (6, fs)) ∧ tp_Met l G mX6_ifExchanged 0 0 [.ref (x + 298), .int p1, .int p2, .int p3, .int p4] h1 (tp_PS (some (.int b)) F2) tp_NX ∧ ∀ h2, F2 h2 → ∃ ov od, tl_J G x (C + 1) kv ov od h2 ∧ (kv = 0 → ov = b.toInt64)) (kk : ∀ h2 thr ov od, tl_J G x (C + 1) thr ov od h2 → tp_Run l G mL_law room_1 Q (k + mc) (n + ms) h2 1997 [some (.ref (G.2.2.2 3)), some (.ref x), some (.ref (x + 298)), some (.ref (x + 303)), some (.ref (x + 304)), some (.int (nI (6 * C))), none, none, none] []) : tp_Run l G mL_law room_1 Q k n h 1494 [some (.ref (G.2.2.2 3)), some (.ref x), some (.ref (x + 298)), some (.ref (x + 303)), some (.ref (x + 304)), some (.int (nI (6 * C))), none, none, none] [] := by
  refine r_aload1 dL_law_1494 ?_
  refine r_aload0 dL_law_1495 ?_
  refine r_iload5 dL_law_1496 ?_
  refine r_iconst (v := 1) dL_law_1498 (by decide) ?_
  refine r_iadd dL_law_1499 ?_
  refine r_sld dL_law_1500 (i := 6 * C + 1) (tp_add (6 * C) 1) (by omega) (by omega) ?_
  rw [show nI (G.2.2.2 (5 + (6 * C + 1))) = p1 from e1]
  refine r_aload0 dL_law_1501 ?_
  refine r_iload5 dL_law_1502 ?_
  refine r_iconst (v := 2) dL_law_1504 (by decide) ?_
  refine r_iadd dL_law_1505 ?_
  refine r_sld dL_law_1506 (i := 6 * C + 2) (tp_add (6 * C) 2) (by omega) (by omega) ?_
  rw [show nI (G.2.2.2 (5 + (6 * C + 2))) = p2 from e2]
  refine r_aload0 dL_law_1507 ?_
  refine r_iload5 dL_law_1508 ?_
  refine r_iconst (v := 3) dL_law_1510 (by decide) ?_
  refine r_iadd dL_law_1511 ?_
  refine r_sld dL_law_1512 (i := 6 * C + 3) (tp_add (6 * C) 3) (by omega) (by omega) ?_
  rw [show nI (G.2.2.2 (5 + (6 * C + 3))) = p3 from e3]
  refine r_aload0 dL_law_1513 ?_
  refine r_iload5 dL_law_1514 ?_
  refine r_iconst (v := 4) dL_law_1516 (by decide) ?_
  refine r_iadd dL_law_1517 ?_
  refine r_sld dL_law_1518 (i := 6 * C + 4) (tp_add (6 * C) 4) (by omega) (by omega) ?_
  rw [show nI (G.2.2.2 (5 + (6 * C + 4))) = p4 from e4]
  refine r_aload3 dL_law_1519 ?_
  refine r_callSW dL_law_1520 v_L_184 hW rfl rfl rfl (Nat.le_of_ble_eq_true rfl) ⟨(Nat.le_of_ble_eq_true rfl), (Nat.le_of_ble_eq_true rfl)⟩ hk (fun r h1 hP => ?_)
  obtain ⟨rfl, hF1⟩ := hP
  obtain ⟨fs, b, F2, hob, hQ, hJ⟩ := hF h1 hF1
  refine r_istore6 dL_law_1523 (Nat.le_of_ble_eq_true rfl) rfl ?_
  refine r_aload2 dL_law_1525 ?_
  refine r_aload0 dL_law_1526 ?_
  refine r_iload5 dL_law_1527 ?_
  refine r_iconst (v := 1) dL_law_1529 (by decide) ?_
  refine r_iadd dL_law_1530 ?_
  refine r_sld dL_law_1531 (i := 6 * C + 1) (tp_add (6 * C) 1) (by omega) (by omega) ?_
  rw [show nI (G.2.2.2 (5 + (6 * C + 1))) = p1 from e1]
  refine r_aload0 dL_law_1532 ?_
  refine r_iload5 dL_law_1533 ?_
  refine r_iconst (v := 2) dL_law_1535 (by decide) ?_
  refine r_iadd dL_law_1536 ?_
  refine r_sld dL_law_1537 (i := 6 * C + 2) (tp_add (6 * C) 2) (by omega) (by omega) ?_
  rw [show nI (G.2.2.2 (5 + (6 * C + 2))) = p2 from e2]
  refine r_aload0 dL_law_1538 ?_
  refine r_iload5 dL_law_1539 ?_
  refine r_iconst (v := 3) dL_law_1541 (by decide) ?_
  refine r_iadd dL_law_1542 ?_
  refine r_sld dL_law_1543 (i := 6 * C + 3) (tp_add (6 * C) 3) (by omega) (by omega) ?_
  rw [show nI (G.2.2.2 (5 + (6 * C + 3))) = p3 from e3]
  refine r_aload0 dL_law_1544 ?_
  refine r_iload5 dL_law_1545 ?_
  refine r_iconst (v := 4) dL_law_1547 (by decide) ?_
  refine r_iadd dL_law_1548 ?_
  refine r_sld dL_law_1549 (i := 6 * C + 4) (tp_add (6 * C) 4) (by omega) (by omega) ?_
  rw [show nI (G.2.2.2 (5 + (6 * C + 4))) = p4 from e4]
  refine r_sV1 dL_law_1550 v_L_186 hQ rfl hob rfl rfl rfl (Nat.le_of_ble_eq_true rfl) ⟨(Nat.le_of_ble_eq_true rfl), (Nat.le_of_ble_eq_true rfl)⟩ hk (fun h2 hq => ?_)
  obtain ⟨ov, od, hT, he⟩ := hJ h2 hq
  obtain ⟨u9, π9, ρ9, us9, σ9, s9, n9, tx9, rd9, z9, hi9, pa9, R9, nu9, du9, hs9, ov9, od9, N9, P9, hS9, hV9, eo9, ed9⟩ := id hT
  refine r_istore7 dL_law_1553 (Nat.le_of_ble_eq_true rfl) rfl ?_
  refine r_aload2 dL_law_1555 ?_
  refine r_pV dL_law_1556 v_L_111 (M_thrown hl hS9.mm) rfl hS9.mob rfl rfl rfl (Nat.le_of_ble_eq_true rfl) ⟨(Nat.le_of_ble_eq_true rfl), (Nat.le_of_ble_eq_true rfl)⟩ hk ?_
  refine r_iload6 dL_law_1559 ?_
  refine r_icmp_eq (tgt := 1566) dL_law_1561 (by decide) (fun c1561 => ?_) (fun c1561 => ?_)
  · refine r_iload6 dL_law_1566 ?_
    refine r_if_ne (tgt := 1583) dL_law_1568 (by decide) (fun c1568 => ?_) (fun c1568 => ?_)
    · refine r_goto (tgt := 1997) dL_law_1583 (by decide) ?_
      refine r_fg 6 ?_
      refine r_fg 7 ?_
      exact kk h2 _ _ _ hT
    · refine r_aload3 dL_law_1571 ?_
      refine r_iconst (v := 0) dL_law_1572 (by decide) ?_
      refine r_lald dL_law_1573 hS9.oc (i := 0) rfl (by decide) (by decide) ?_
      refine r_iload7 dL_law_1574 ?_
      refine r_i2l dL_law_1576 ?_
      rw [eo9, he (by first | exact c1568 | exact Classical.not_not.mp c1568)]
      refine r_lcmp dL_law_1577 ?_
      rw [lg_cmp_self]
      refine r_if_eq (tgt := 1583) dL_law_1578 (by decide) (fun c1578 => ?_) (fun c1578 => ?_)
      · refine r_goto (tgt := 1997) dL_law_1583 (by decide) ?_
        refine r_fg 6 ?_
        refine r_fg 7 ?_
        exact kk h2 _ _ _ hT
      · exact absurd rfl c1578
  · exact absurd rfl c1561

set_option maxRecDepth 100000 in
set_option maxHeartbeats 4000000 in
theorem L_needed {l : Launch} {G : tp_G} {Q : tp_Q} {k n : Nat} {h : tp_H} {x C : Nat} {mc ms : Nat} {p1 p2 p3 : Int32} {kv : Int32} {F : tp_H → Prop} (hl : l.stackTraces = false) (hC : 6 * C + 6 ≤ G.2.2.2 4) (hN : G.2.2.2 4 ≤ 3072) (hk : k + mc ≤ room_1.cells ∧ n + ms ≤ room_1.slots) (e1 : sc G C 1 = p1) (e2 : sc G C 2 = p2) (e3 : sc G C 3 = p3) (hW : tp_Met l G mL_needed mc ms [.ref x, .int p1, .int p2, .int p3, .ref (x + 303)] h (tp_PS (some (.int kv)) F) tp_NX) (hF : ∀ h1, F h1 → ∃ fs b F2, h1.2 (x + 298) = some (.inr (6, fs)) ∧ tp_Met l G mX6_needed 0 0 [.ref (x + 298), .int p1, .int p2, .int p3] h1 (tp_PS (some (.int b)) F2) tp_NX ∧ ∀ h2, F2 h2 → ∃ ov od, tl_J G x (C + 1) kv ov od h2 ∧ (kv = 0 → ov = b.toInt64)) (kk : ∀ h2 thr ov od, tl_J G x (C + 1) thr ov od h2 → tp_Run l G mL_law room_1 Q (k + mc) (n + ms) h2 1997 [some (.ref (G.2.2.2 3)), some (.ref x), some (.ref (x + 298)), some (.ref (x + 303)), some (.ref (x + 304)), some (.int (nI (6 * C))), none, none, none] []) : tp_Run l G mL_law room_1 Q k n h 1586 [some (.ref (G.2.2.2 3)), some (.ref x), some (.ref (x + 298)), some (.ref (x + 303)), some (.ref (x + 304)), some (.int (nI (6 * C))), none, none, none] [] := by
  refine r_aload1 dL_law_1586 ?_
  refine r_aload0 dL_law_1587 ?_
  refine r_iload5 dL_law_1588 ?_
  refine r_iconst (v := 1) dL_law_1590 (by decide) ?_
  refine r_iadd dL_law_1591 ?_
  refine r_sld dL_law_1592 (i := 6 * C + 1) (tp_add (6 * C) 1) (by omega) (by omega) ?_
  rw [show nI (G.2.2.2 (5 + (6 * C + 1))) = p1 from e1]
  refine r_aload0 dL_law_1593 ?_
  refine r_iload5 dL_law_1594 ?_
  refine r_iconst (v := 2) dL_law_1596 (by decide) ?_
  refine r_iadd dL_law_1597 ?_
  refine r_sld dL_law_1598 (i := 6 * C + 2) (tp_add (6 * C) 2) (by omega) (by omega) ?_
  rw [show nI (G.2.2.2 (5 + (6 * C + 2))) = p2 from e2]
  refine r_aload0 dL_law_1599 ?_
  refine r_iload5 dL_law_1600 ?_
  refine r_iconst (v := 3) dL_law_1602 (by decide) ?_
  refine r_iadd dL_law_1603 ?_
  refine r_sld dL_law_1604 (i := 6 * C + 3) (tp_add (6 * C) 3) (by omega) (by omega) ?_
  rw [show nI (G.2.2.2 (5 + (6 * C + 3))) = p3 from e3]
  refine r_aload3 dL_law_1605 ?_
  refine r_callSW dL_law_1606 v_L_187 hW rfl rfl rfl (Nat.le_of_ble_eq_true rfl) ⟨(Nat.le_of_ble_eq_true rfl), (Nat.le_of_ble_eq_true rfl)⟩ hk (fun r h1 hP => ?_)
  obtain ⟨rfl, hF1⟩ := hP
  obtain ⟨fs, b, F2, hob, hQ, hJ⟩ := hF h1 hF1
  refine r_istore6 dL_law_1609 (Nat.le_of_ble_eq_true rfl) rfl ?_
  refine r_aload2 dL_law_1611 ?_
  refine r_aload0 dL_law_1612 ?_
  refine r_iload5 dL_law_1613 ?_
  refine r_iconst (v := 1) dL_law_1615 (by decide) ?_
  refine r_iadd dL_law_1616 ?_
  refine r_sld dL_law_1617 (i := 6 * C + 1) (tp_add (6 * C) 1) (by omega) (by omega) ?_
  rw [show nI (G.2.2.2 (5 + (6 * C + 1))) = p1 from e1]
  refine r_aload0 dL_law_1618 ?_
  refine r_iload5 dL_law_1619 ?_
  refine r_iconst (v := 2) dL_law_1621 (by decide) ?_
  refine r_iadd dL_law_1622 ?_
  refine r_sld dL_law_1623 (i := 6 * C + 2) (tp_add (6 * C) 2) (by omega) (by omega) ?_
  rw [show nI (G.2.2.2 (5 + (6 * C + 2))) = p2 from e2]
  refine r_aload0 dL_law_1624 ?_
  refine r_iload5 dL_law_1625 ?_
  refine r_iconst (v := 3) dL_law_1627 (by decide) ?_
  refine r_iadd dL_law_1628 ?_
  refine r_sld dL_law_1629 (i := 6 * C + 3) (tp_add (6 * C) 3) (by omega) (by omega) ?_
  rw [show nI (G.2.2.2 (5 + (6 * C + 3))) = p3 from e3]
  refine r_sV1 dL_law_1630 v_L_189 hQ rfl hob rfl rfl rfl (Nat.le_of_ble_eq_true rfl) ⟨(Nat.le_of_ble_eq_true rfl), (Nat.le_of_ble_eq_true rfl)⟩ hk (fun h2 hq => ?_)
  obtain ⟨ov, od, hT, he⟩ := hJ h2 hq
  obtain ⟨u9, π9, ρ9, us9, σ9, s9, n9, tx9, rd9, z9, hi9, pa9, R9, nu9, du9, hs9, ov9, od9, N9, P9, hS9, hV9, eo9, ed9⟩ := id hT
  refine r_istore7 dL_law_1633 (Nat.le_of_ble_eq_true rfl) rfl ?_
  refine r_aload2 dL_law_1635 ?_
  refine r_pV dL_law_1636 v_L_111 (M_thrown hl hS9.mm) rfl hS9.mob rfl rfl rfl (Nat.le_of_ble_eq_true rfl) ⟨(Nat.le_of_ble_eq_true rfl), (Nat.le_of_ble_eq_true rfl)⟩ hk ?_
  refine r_iload6 dL_law_1639 ?_
  refine r_icmp_eq (tgt := 1646) dL_law_1641 (by decide) (fun c1641 => ?_) (fun c1641 => ?_)
  · refine r_iload6 dL_law_1646 ?_
    refine r_if_ne (tgt := 1663) dL_law_1648 (by decide) (fun c1648 => ?_) (fun c1648 => ?_)
    · refine r_goto (tgt := 1997) dL_law_1663 (by decide) ?_
      refine r_fg 6 ?_
      refine r_fg 7 ?_
      exact kk h2 _ _ _ hT
    · refine r_aload3 dL_law_1651 ?_
      refine r_iconst (v := 0) dL_law_1652 (by decide) ?_
      refine r_lald dL_law_1653 hS9.oc (i := 0) rfl (by decide) (by decide) ?_
      refine r_iload7 dL_law_1654 ?_
      refine r_i2l dL_law_1656 ?_
      rw [eo9, he (by first | exact c1648 | exact Classical.not_not.mp c1648)]
      refine r_lcmp dL_law_1657 ?_
      rw [lg_cmp_self]
      refine r_if_eq (tgt := 1663) dL_law_1658 (by decide) (fun c1658 => ?_) (fun c1658 => ?_)
      · refine r_goto (tgt := 1997) dL_law_1663 (by decide) ?_
        refine r_fg 6 ?_
        refine r_fg 7 ?_
        exact kk h2 _ _ _ hT
      · exact absurd rfl c1658
  · exact absurd rfl c1641

set_option maxRecDepth 100000 in
set_option maxHeartbeats 4000000 in
theorem L_room {l : Launch} {G : tp_G} {Q : tp_Q} {k n : Nat} {h : tp_H} {x C : Nat} {mc ms : Nat} {p1 p2 : Int32} {kv : Int32} {F : tp_H → Prop} (hl : l.stackTraces = false) (hC : 6 * C + 6 ≤ G.2.2.2 4) (hN : G.2.2.2 4 ≤ 3072) (hk : k + mc ≤ room_1.cells ∧ n + ms ≤ room_1.slots) (e1 : sc G C 1 = p1) (e2 : sc G C 2 = p2) (hW : tp_Met l G mL_room mc ms [.ref x, .int p1, .int p2, .ref (x + 303)] h (tp_PS (some (.int kv)) F) tp_NX) (hF : ∀ h1, F h1 → ∃ fs b F2, h1.2 (x + 298) = some (.inr (6, fs)) ∧ tp_Met l G mX6_room 0 0 [.ref (x + 298), .int p1, .int p2] h1 (tp_PS (some (.int b)) F2) tp_NX ∧ ∀ h2, F2 h2 → ∃ ov od, tl_J G x (C + 1) kv ov od h2 ∧ (kv = 0 → ov = b.toInt64)) (kk : ∀ h2 thr ov od, tl_J G x (C + 1) thr ov od h2 → tp_Run l G mL_law room_1 Q (k + mc) (n + ms) h2 1997 [some (.ref (G.2.2.2 3)), some (.ref x), some (.ref (x + 298)), some (.ref (x + 303)), some (.ref (x + 304)), some (.int (nI (6 * C))), none, none, none] []) : tp_Run l G mL_law room_1 Q k n h 1666 [some (.ref (G.2.2.2 3)), some (.ref x), some (.ref (x + 298)), some (.ref (x + 303)), some (.ref (x + 304)), some (.int (nI (6 * C))), none, none, none] [] := by
  refine r_aload1 dL_law_1666 ?_
  refine r_aload0 dL_law_1667 ?_
  refine r_iload5 dL_law_1668 ?_
  refine r_iconst (v := 1) dL_law_1670 (by decide) ?_
  refine r_iadd dL_law_1671 ?_
  refine r_sld dL_law_1672 (i := 6 * C + 1) (tp_add (6 * C) 1) (by omega) (by omega) ?_
  rw [show nI (G.2.2.2 (5 + (6 * C + 1))) = p1 from e1]
  refine r_aload0 dL_law_1673 ?_
  refine r_iload5 dL_law_1674 ?_
  refine r_iconst (v := 2) dL_law_1676 (by decide) ?_
  refine r_iadd dL_law_1677 ?_
  refine r_sld dL_law_1678 (i := 6 * C + 2) (tp_add (6 * C) 2) (by omega) (by omega) ?_
  rw [show nI (G.2.2.2 (5 + (6 * C + 2))) = p2 from e2]
  refine r_aload3 dL_law_1679 ?_
  refine r_callSW dL_law_1680 v_L_190 hW rfl rfl rfl (Nat.le_of_ble_eq_true rfl) ⟨(Nat.le_of_ble_eq_true rfl), (Nat.le_of_ble_eq_true rfl)⟩ hk (fun r h1 hP => ?_)
  obtain ⟨rfl, hF1⟩ := hP
  obtain ⟨fs, b, F2, hob, hQ, hJ⟩ := hF h1 hF1
  refine r_istore6 dL_law_1683 (Nat.le_of_ble_eq_true rfl) rfl ?_
  refine r_aload2 dL_law_1685 ?_
  refine r_aload0 dL_law_1686 ?_
  refine r_iload5 dL_law_1687 ?_
  refine r_iconst (v := 1) dL_law_1689 (by decide) ?_
  refine r_iadd dL_law_1690 ?_
  refine r_sld dL_law_1691 (i := 6 * C + 1) (tp_add (6 * C) 1) (by omega) (by omega) ?_
  rw [show nI (G.2.2.2 (5 + (6 * C + 1))) = p1 from e1]
  refine r_aload0 dL_law_1692 ?_
  refine r_iload5 dL_law_1693 ?_
  refine r_iconst (v := 2) dL_law_1695 (by decide) ?_
  refine r_iadd dL_law_1696 ?_
  refine r_sld dL_law_1697 (i := 6 * C + 2) (tp_add (6 * C) 2) (by omega) (by omega) ?_
  rw [show nI (G.2.2.2 (5 + (6 * C + 2))) = p2 from e2]
  refine r_sV1 dL_law_1698 v_L_192 hQ rfl hob rfl rfl rfl (Nat.le_of_ble_eq_true rfl) ⟨(Nat.le_of_ble_eq_true rfl), (Nat.le_of_ble_eq_true rfl)⟩ hk (fun h2 hq => ?_)
  obtain ⟨ov, od, hT, he⟩ := hJ h2 hq
  obtain ⟨u9, π9, ρ9, us9, σ9, s9, n9, tx9, rd9, z9, hi9, pa9, R9, nu9, du9, hs9, ov9, od9, N9, P9, hS9, hV9, eo9, ed9⟩ := id hT
  refine r_istore7 dL_law_1701 (Nat.le_of_ble_eq_true rfl) rfl ?_
  refine r_aload2 dL_law_1703 ?_
  refine r_pV dL_law_1704 v_L_111 (M_thrown hl hS9.mm) rfl hS9.mob rfl rfl rfl (Nat.le_of_ble_eq_true rfl) ⟨(Nat.le_of_ble_eq_true rfl), (Nat.le_of_ble_eq_true rfl)⟩ hk ?_
  refine r_iload6 dL_law_1707 ?_
  refine r_icmp_eq (tgt := 1714) dL_law_1709 (by decide) (fun c1709 => ?_) (fun c1709 => ?_)
  · refine r_iload6 dL_law_1714 ?_
    refine r_if_ne (tgt := 1731) dL_law_1716 (by decide) (fun c1716 => ?_) (fun c1716 => ?_)
    · refine r_goto (tgt := 1997) dL_law_1731 (by decide) ?_
      refine r_fg 6 ?_
      refine r_fg 7 ?_
      exact kk h2 _ _ _ hT
    · refine r_aload3 dL_law_1719 ?_
      refine r_iconst (v := 0) dL_law_1720 (by decide) ?_
      refine r_lald dL_law_1721 hS9.oc (i := 0) rfl (by decide) (by decide) ?_
      refine r_iload7 dL_law_1722 ?_
      refine r_i2l dL_law_1724 ?_
      rw [eo9, he (by first | exact c1716 | exact Classical.not_not.mp c1716)]
      refine r_lcmp dL_law_1725 ?_
      rw [lg_cmp_self]
      refine r_if_eq (tgt := 1731) dL_law_1726 (by decide) (fun c1726 => ?_) (fun c1726 => ?_)
      · refine r_goto (tgt := 1997) dL_law_1731 (by decide) ?_
        refine r_fg 6 ?_
        refine r_fg 7 ?_
        exact kk h2 _ _ _ hT
      · exact absurd rfl c1726
  · exact absurd rfl c1709

set_option maxRecDepth 100000 in
set_option maxHeartbeats 4000000 in
theorem L_whyNot {l : Launch} {G : tp_G} {Q : tp_Q} {k n : Nat} {h : tp_H} {x C : Nat} {mc ms : Nat} {p1 p2 p3 p4 p5 : Int32} {kv : Int32} {F : tp_H → Prop} (hl : l.stackTraces = false) (hC : 6 * C + 6 ≤ G.2.2.2 4) (hN : G.2.2.2 4 ≤ 3072) (hk : k + mc ≤ room_1.cells ∧ n + ms ≤ room_1.slots) (e1 : sc G C 1 = p1) (e2 : sc G C 2 = p2) (e3 : sc G C 3 = p3) (e4 : sc G C 4 = p4) (e5 : sc G C 5 = p5) (hW : tp_Met l G mL_whyNot mc ms [.ref x, .int p1, .int p2, .int p3, .int p4, .int p5, .ref (x + 303)] h (tp_PS (some (.int kv)) F) tp_NX) (hF : ∀ h1, F h1 → ∃ fs b F2, h1.2 (x + 298) = some (.inr (6, fs)) ∧ tp_Met l G mX6_whyNot 0 0 [.ref (x + 298), .int p1, .int p2, .int p3, .int p4, .int p5] h1 (tp_PS (some (.int b)) F2) tp_NX ∧ ∀ h2, F2 h2 → ∃ ov od, tl_J G x (C + 1) kv ov od h2 ∧ (kv = 0 → ov = b.toInt64)) (kk : ∀ h2 thr ov od, tl_J G x (C + 1) thr ov od h2 → tp_Run l G mL_law room_1 Q (k + mc) (n + ms) h2 1997 [some (.ref (G.2.2.2 3)), some (.ref x), some (.ref (x + 298)), some (.ref (x + 303)), some (.ref (x + 304)), some (.int (nI (6 * C))), none, none, none] []) : tp_Run l G mL_law room_1 Q k n h 1734 [some (.ref (G.2.2.2 3)), some (.ref x), some (.ref (x + 298)), some (.ref (x + 303)), some (.ref (x + 304)), some (.int (nI (6 * C))), none, none, none] [] := by
  refine r_aload1 dL_law_1734 ?_
  refine r_aload0 dL_law_1735 ?_
  refine r_iload5 dL_law_1736 ?_
  refine r_iconst (v := 1) dL_law_1738 (by decide) ?_
  refine r_iadd dL_law_1739 ?_
  refine r_sld dL_law_1740 (i := 6 * C + 1) (tp_add (6 * C) 1) (by omega) (by omega) ?_
  rw [show nI (G.2.2.2 (5 + (6 * C + 1))) = p1 from e1]
  refine r_aload0 dL_law_1741 ?_
  refine r_iload5 dL_law_1742 ?_
  refine r_iconst (v := 2) dL_law_1744 (by decide) ?_
  refine r_iadd dL_law_1745 ?_
  refine r_sld dL_law_1746 (i := 6 * C + 2) (tp_add (6 * C) 2) (by omega) (by omega) ?_
  rw [show nI (G.2.2.2 (5 + (6 * C + 2))) = p2 from e2]
  refine r_aload0 dL_law_1747 ?_
  refine r_iload5 dL_law_1748 ?_
  refine r_iconst (v := 3) dL_law_1750 (by decide) ?_
  refine r_iadd dL_law_1751 ?_
  refine r_sld dL_law_1752 (i := 6 * C + 3) (tp_add (6 * C) 3) (by omega) (by omega) ?_
  rw [show nI (G.2.2.2 (5 + (6 * C + 3))) = p3 from e3]
  refine r_aload0 dL_law_1753 ?_
  refine r_iload5 dL_law_1754 ?_
  refine r_iconst (v := 4) dL_law_1756 (by decide) ?_
  refine r_iadd dL_law_1757 ?_
  refine r_sld dL_law_1758 (i := 6 * C + 4) (tp_add (6 * C) 4) (by omega) (by omega) ?_
  rw [show nI (G.2.2.2 (5 + (6 * C + 4))) = p4 from e4]
  refine r_aload0 dL_law_1759 ?_
  refine r_iload5 dL_law_1760 ?_
  refine r_iconst (v := 5) dL_law_1762 (by decide) ?_
  refine r_iadd dL_law_1763 ?_
  refine r_sld dL_law_1764 (i := 6 * C + 5) (tp_add (6 * C) 5) (by omega) (by omega) ?_
  rw [show nI (G.2.2.2 (5 + (6 * C + 5))) = p5 from e5]
  refine r_aload3 dL_law_1765 ?_
  refine r_callSW dL_law_1766 v_L_193 hW rfl rfl rfl (Nat.le_of_ble_eq_true rfl) ⟨(Nat.le_of_ble_eq_true rfl), (Nat.le_of_ble_eq_true rfl)⟩ hk (fun r h1 hP => ?_)
  obtain ⟨rfl, hF1⟩ := hP
  obtain ⟨fs, b, F2, hob, hQ, hJ⟩ := hF h1 hF1
  refine r_istore6 dL_law_1769 (Nat.le_of_ble_eq_true rfl) rfl ?_
  refine r_aload2 dL_law_1771 ?_
  refine r_aload0 dL_law_1772 ?_
  refine r_iload5 dL_law_1773 ?_
  refine r_iconst (v := 1) dL_law_1775 (by decide) ?_
  refine r_iadd dL_law_1776 ?_
  refine r_sld dL_law_1777 (i := 6 * C + 1) (tp_add (6 * C) 1) (by omega) (by omega) ?_
  rw [show nI (G.2.2.2 (5 + (6 * C + 1))) = p1 from e1]
  refine r_aload0 dL_law_1778 ?_
  refine r_iload5 dL_law_1779 ?_
  refine r_iconst (v := 2) dL_law_1781 (by decide) ?_
  refine r_iadd dL_law_1782 ?_
  refine r_sld dL_law_1783 (i := 6 * C + 2) (tp_add (6 * C) 2) (by omega) (by omega) ?_
  rw [show nI (G.2.2.2 (5 + (6 * C + 2))) = p2 from e2]
  refine r_aload0 dL_law_1784 ?_
  refine r_iload5 dL_law_1785 ?_
  refine r_iconst (v := 3) dL_law_1787 (by decide) ?_
  refine r_iadd dL_law_1788 ?_
  refine r_sld dL_law_1789 (i := 6 * C + 3) (tp_add (6 * C) 3) (by omega) (by omega) ?_
  rw [show nI (G.2.2.2 (5 + (6 * C + 3))) = p3 from e3]
  refine r_aload0 dL_law_1790 ?_
  refine r_iload5 dL_law_1791 ?_
  refine r_iconst (v := 4) dL_law_1793 (by decide) ?_
  refine r_iadd dL_law_1794 ?_
  refine r_sld dL_law_1795 (i := 6 * C + 4) (tp_add (6 * C) 4) (by omega) (by omega) ?_
  rw [show nI (G.2.2.2 (5 + (6 * C + 4))) = p4 from e4]
  refine r_aload0 dL_law_1796 ?_
  refine r_iload5 dL_law_1797 ?_
  refine r_iconst (v := 5) dL_law_1799 (by decide) ?_
  refine r_iadd dL_law_1800 ?_
  refine r_sld dL_law_1801 (i := 6 * C + 5) (tp_add (6 * C) 5) (by omega) (by omega) ?_
  rw [show nI (G.2.2.2 (5 + (6 * C + 5))) = p5 from e5]
  refine r_sV1 dL_law_1802 v_L_196 hQ rfl hob rfl rfl rfl (Nat.le_of_ble_eq_true rfl) ⟨(Nat.le_of_ble_eq_true rfl), (Nat.le_of_ble_eq_true rfl)⟩ hk (fun h2 hq => ?_)
  obtain ⟨ov, od, hT, he⟩ := hJ h2 hq
  obtain ⟨u9, π9, ρ9, us9, σ9, s9, n9, tx9, rd9, z9, hi9, pa9, R9, nu9, du9, hs9, ov9, od9, N9, P9, hS9, hV9, eo9, ed9⟩ := id hT
  refine r_istore7 dL_law_1805 (Nat.le_of_ble_eq_true rfl) rfl ?_
  refine r_aload2 dL_law_1807 ?_
  refine r_pV dL_law_1808 v_L_111 (M_thrown hl hS9.mm) rfl hS9.mob rfl rfl rfl (Nat.le_of_ble_eq_true rfl) ⟨(Nat.le_of_ble_eq_true rfl), (Nat.le_of_ble_eq_true rfl)⟩ hk ?_
  refine r_iload6 dL_law_1811 ?_
  refine r_icmp_eq (tgt := 1818) dL_law_1813 (by decide) (fun c1813 => ?_) (fun c1813 => ?_)
  · refine r_iload6 dL_law_1818 ?_
    refine r_if_ne (tgt := 1835) dL_law_1820 (by decide) (fun c1820 => ?_) (fun c1820 => ?_)
    · refine r_goto (tgt := 1997) dL_law_1835 (by decide) ?_
      refine r_fg 6 ?_
      refine r_fg 7 ?_
      exact kk h2 _ _ _ hT
    · refine r_aload3 dL_law_1823 ?_
      refine r_iconst (v := 0) dL_law_1824 (by decide) ?_
      refine r_lald dL_law_1825 hS9.oc (i := 0) rfl (by decide) (by decide) ?_
      refine r_iload7 dL_law_1826 ?_
      refine r_i2l dL_law_1828 ?_
      rw [eo9, he (by first | exact c1820 | exact Classical.not_not.mp c1820)]
      refine r_lcmp dL_law_1829 ?_
      rw [lg_cmp_self]
      refine r_if_eq (tgt := 1835) dL_law_1830 (by decide) (fun c1830 => ?_) (fun c1830 => ?_)
      · refine r_goto (tgt := 1997) dL_law_1835 (by decide) ?_
        refine r_fg 6 ?_
        refine r_fg 7 ?_
        exact kk h2 _ _ _ hT
      · exact absurd rfl c1830
  · exact absurd rfl c1813

set_option maxRecDepth 100000 in
set_option maxHeartbeats 4000000 in
theorem L_ifClosed {l : Launch} {G : tp_G} {Q : tp_Q} {k n : Nat} {h : tp_H} {x C : Nat} {mc ms : Nat} {p1 : Int32} {kv : Int32} {F : tp_H → Prop} (hl : l.stackTraces = false) (hC : 6 * C + 6 ≤ G.2.2.2 4) (hN : G.2.2.2 4 ≤ 3072) (hk : k + mc ≤ room_1.cells ∧ n + ms ≤ room_1.slots) (e1 : sc G C 1 = p1) (hW : tp_Met l G mL_ifClosed mc ms [.ref x, .int p1, .ref (x + 303)] h (tp_PS (some (.int kv)) F) tp_NX) (hF : ∀ h1, F h1 → ∃ fs b F2, h1.2 (x + 298) = some (.inr (6, fs)) ∧ tp_Met l G mX6_ifClosed 0 0 [.ref (x + 298), .int p1] h1 (tp_PS (some (.int b)) F2) tp_NX ∧ ∀ h2, F2 h2 → ∃ ov od, tl_J G x (C + 1) kv ov od h2 ∧ (kv = 0 → ov = b.toInt64)) (kk : ∀ h2 thr ov od, tl_J G x (C + 1) thr ov od h2 → tp_Run l G mL_law room_1 Q (k + mc) (n + ms) h2 1997 [some (.ref (G.2.2.2 3)), some (.ref x), some (.ref (x + 298)), some (.ref (x + 303)), some (.ref (x + 304)), some (.int (nI (6 * C))), none, none, none] []) : tp_Run l G mL_law room_1 Q k n h 1838 [some (.ref (G.2.2.2 3)), some (.ref x), some (.ref (x + 298)), some (.ref (x + 303)), some (.ref (x + 304)), some (.int (nI (6 * C))), none, none, none] [] := by
  refine r_aload1 dL_law_1838 ?_
  refine r_aload0 dL_law_1839 ?_
  refine r_iload5 dL_law_1840 ?_
  refine r_iconst (v := 1) dL_law_1842 (by decide) ?_
  refine r_iadd dL_law_1843 ?_
  refine r_sld dL_law_1844 (i := 6 * C + 1) (tp_add (6 * C) 1) (by omega) (by omega) ?_
  rw [show nI (G.2.2.2 (5 + (6 * C + 1))) = p1 from e1]
  refine r_aload3 dL_law_1845 ?_
  refine r_callSW dL_law_1846 v_L_197 hW rfl rfl rfl (Nat.le_of_ble_eq_true rfl) ⟨(Nat.le_of_ble_eq_true rfl), (Nat.le_of_ble_eq_true rfl)⟩ hk (fun r h1 hP => ?_)
  obtain ⟨rfl, hF1⟩ := hP
  obtain ⟨fs, b, F2, hob, hQ, hJ⟩ := hF h1 hF1
  refine r_istore6 dL_law_1849 (Nat.le_of_ble_eq_true rfl) rfl ?_
  refine r_aload2 dL_law_1851 ?_
  refine r_aload0 dL_law_1852 ?_
  refine r_iload5 dL_law_1853 ?_
  refine r_iconst (v := 1) dL_law_1855 (by decide) ?_
  refine r_iadd dL_law_1856 ?_
  refine r_sld dL_law_1857 (i := 6 * C + 1) (tp_add (6 * C) 1) (by omega) (by omega) ?_
  rw [show nI (G.2.2.2 (5 + (6 * C + 1))) = p1 from e1]
  refine r_sV1 dL_law_1858 v_L_199 hQ rfl hob rfl rfl rfl (Nat.le_of_ble_eq_true rfl) ⟨(Nat.le_of_ble_eq_true rfl), (Nat.le_of_ble_eq_true rfl)⟩ hk (fun h2 hq => ?_)
  obtain ⟨ov, od, hT, he⟩ := hJ h2 hq
  obtain ⟨u9, π9, ρ9, us9, σ9, s9, n9, tx9, rd9, z9, hi9, pa9, R9, nu9, du9, hs9, ov9, od9, N9, P9, hS9, hV9, eo9, ed9⟩ := id hT
  refine r_istore7 dL_law_1861 (Nat.le_of_ble_eq_true rfl) rfl ?_
  refine r_aload2 dL_law_1863 ?_
  refine r_pV dL_law_1864 v_L_111 (M_thrown hl hS9.mm) rfl hS9.mob rfl rfl rfl (Nat.le_of_ble_eq_true rfl) ⟨(Nat.le_of_ble_eq_true rfl), (Nat.le_of_ble_eq_true rfl)⟩ hk ?_
  refine r_iload6 dL_law_1867 ?_
  refine r_icmp_eq (tgt := 1874) dL_law_1869 (by decide) (fun c1869 => ?_) (fun c1869 => ?_)
  · refine r_iload6 dL_law_1874 ?_
    refine r_if_ne (tgt := 1891) dL_law_1876 (by decide) (fun c1876 => ?_) (fun c1876 => ?_)
    · refine r_goto (tgt := 1997) dL_law_1891 (by decide) ?_
      refine r_fg 6 ?_
      refine r_fg 7 ?_
      exact kk h2 _ _ _ hT
    · refine r_aload3 dL_law_1879 ?_
      refine r_iconst (v := 0) dL_law_1880 (by decide) ?_
      refine r_lald dL_law_1881 hS9.oc (i := 0) rfl (by decide) (by decide) ?_
      refine r_iload7 dL_law_1882 ?_
      refine r_i2l dL_law_1884 ?_
      rw [eo9, he (by first | exact c1876 | exact Classical.not_not.mp c1876)]
      refine r_lcmp dL_law_1885 ?_
      rw [lg_cmp_self]
      refine r_if_eq (tgt := 1891) dL_law_1886 (by decide) (fun c1886 => ?_) (fun c1886 => ?_)
      · refine r_goto (tgt := 1997) dL_law_1891 (by decide) ?_
        refine r_fg 6 ?_
        refine r_fg 7 ?_
        exact kk h2 _ _ _ hT
      · exact absurd rfl c1886
  · exact absurd rfl c1869

set_option maxRecDepth 100000 in
set_option maxHeartbeats 4000000 in
theorem L_heldShare {l : Launch} {G : tp_G} {Q : tp_Q} {k n : Nat} {h : tp_H} {x C : Nat} {mc ms : Nat} {p1 p2 : Int32} {kv : Int32} {F : tp_H → Prop} (hl : l.stackTraces = false) (hC : 6 * C + 6 ≤ G.2.2.2 4) (hN : G.2.2.2 4 ≤ 3072) (hk : k + mc ≤ room_1.cells ∧ n + ms ≤ room_1.slots) (e1 : sc G C 1 = p1) (e2 : sc G C 2 = p2) (hW : tp_Met l G mL_heldShare mc ms [.ref x, .int p1, .int p2, .ref (x + 304)] h (tp_PS (some (.int kv)) F) tp_NX) (hF : ∀ h1, F h1 → ∃ fs b F2, h1.2 (x + 298) = some (.inr (6, fs)) ∧ tp_Met l G mX6_heldShare 0 0 [.ref (x + 298), .int p1, .int p2] h1 (tp_PS (some (.double b)) F2) tp_NX ∧ ∀ h2, F2 h2 → ∃ ov od, tl_J G x (C + 1) kv ov od h2 ∧ (kv = 0 → od = b ∧ FP.dcmp b b = some .eq)) (kk : ∀ h2 thr ov od, tl_J G x (C + 1) thr ov od h2 → tp_Run l G mL_law room_1 Q (k + mc) (n + ms) h2 1997 [some (.ref (G.2.2.2 3)), some (.ref x), some (.ref (x + 298)), some (.ref (x + 303)), some (.ref (x + 304)), some (.int (nI (6 * C))), none, none, none] []) : tp_Run l G mL_law room_1 Q k n h 1894 [some (.ref (G.2.2.2 3)), some (.ref x), some (.ref (x + 298)), some (.ref (x + 303)), some (.ref (x + 304)), some (.int (nI (6 * C))), none, none, none] [] := by
  refine r_aload1 dL_law_1894 ?_
  refine r_aload0 dL_law_1895 ?_
  refine r_iload5 dL_law_1896 ?_
  refine r_iconst (v := 1) dL_law_1898 (by decide) ?_
  refine r_iadd dL_law_1899 ?_
  refine r_sld dL_law_1900 (i := 6 * C + 1) (tp_add (6 * C) 1) (by omega) (by omega) ?_
  rw [show nI (G.2.2.2 (5 + (6 * C + 1))) = p1 from e1]
  refine r_aload0 dL_law_1901 ?_
  refine r_iload5 dL_law_1902 ?_
  refine r_iconst (v := 2) dL_law_1904 (by decide) ?_
  refine r_iadd dL_law_1905 ?_
  refine r_sld dL_law_1906 (i := 6 * C + 2) (tp_add (6 * C) 2) (by omega) (by omega) ?_
  rw [show nI (G.2.2.2 (5 + (6 * C + 2))) = p2 from e2]
  refine r_aload4 dL_law_1907 ?_
  refine r_callSW dL_law_1909 v_L_200 hW rfl rfl rfl (Nat.le_of_ble_eq_true rfl) ⟨(Nat.le_of_ble_eq_true rfl), (Nat.le_of_ble_eq_true rfl)⟩ hk (fun r h1 hP => ?_)
  obtain ⟨rfl, hF1⟩ := hP
  obtain ⟨fs, b, F2, hob, hQ, hJ⟩ := hF h1 hF1
  refine r_istore6 dL_law_1912 (Nat.le_of_ble_eq_true rfl) rfl ?_
  refine r_aload2 dL_law_1914 ?_
  refine r_aload0 dL_law_1915 ?_
  refine r_iload5 dL_law_1916 ?_
  refine r_iconst (v := 1) dL_law_1918 (by decide) ?_
  refine r_iadd dL_law_1919 ?_
  refine r_sld dL_law_1920 (i := 6 * C + 1) (tp_add (6 * C) 1) (by omega) (by omega) ?_
  rw [show nI (G.2.2.2 (5 + (6 * C + 1))) = p1 from e1]
  refine r_aload0 dL_law_1921 ?_
  refine r_iload5 dL_law_1922 ?_
  refine r_iconst (v := 2) dL_law_1924 (by decide) ?_
  refine r_iadd dL_law_1925 ?_
  refine r_sld dL_law_1926 (i := 6 * C + 2) (tp_add (6 * C) 2) (by omega) (by omega) ?_
  rw [show nI (G.2.2.2 (5 + (6 * C + 2))) = p2 from e2]
  refine r_sV1 dL_law_1927 v_L_203 hQ rfl hob rfl rfl rfl (Nat.le_of_ble_eq_true rfl) ⟨(Nat.le_of_ble_eq_true rfl), (Nat.le_of_ble_eq_true rfl)⟩ hk (fun h2 hq => ?_)
  obtain ⟨ov, od, hT, he⟩ := hJ h2 hq
  obtain ⟨u9, π9, ρ9, us9, σ9, s9, n9, tx9, rd9, z9, hi9, pa9, R9, nu9, du9, hs9, ov9, od9, N9, P9, hS9, hV9, eo9, ed9⟩ := id hT
  refine r_dstore7 dL_law_1930 (Nat.le_of_ble_eq_true rfl) rfl ?_
  refine r_aload2 dL_law_1932 ?_
  refine r_pV dL_law_1933 v_L_111 (M_thrown hl hS9.mm) rfl hS9.mob rfl rfl rfl (Nat.le_of_ble_eq_true rfl) ⟨(Nat.le_of_ble_eq_true rfl), (Nat.le_of_ble_eq_true rfl)⟩ hk ?_
  refine r_iload6 dL_law_1936 ?_
  refine r_icmp_eq (tgt := 1943) dL_law_1938 (by decide) (fun c1938 => ?_) (fun c1938 => ?_)
  · refine r_iload6 dL_law_1943 ?_
    refine r_if_ne (tgt := 1980) dL_law_1945 (by decide) (fun c1945 => ?_) (fun c1945 => ?_)
    · refine r_goto (tgt := 1997) dL_law_1980 (by decide) ?_
      refine r_fg 6 ?_
      refine r_fg 7 ?_
      exact kk h2 _ _ _ hT
    · refine r_aload4 dL_law_1948 ?_
      refine r_iconst (v := 0) dL_law_1950 (by decide) ?_
      refine r_dald dL_law_1951 hS9.oD (i := 0) rfl (by decide) (by decide) ?_
      refine r_dload7 dL_law_1952 ?_
      obtain ⟨he1, he2⟩ := he (by first | exact c1945 | exact Classical.not_not.mp c1945)
      rw [ed9, he1]
      refine r_dcmp dL_law_1954 ?_
      rw [he2, show Op.cmpValue (some .eq) .l = 0 from rfl]
      refine r_if_eq (tgt := 1980) dL_law_1955 (by decide) (fun c1955 => ?_) (fun c1955 => ?_)
      · refine r_goto (tgt := 1997) dL_law_1980 (by decide) ?_
        refine r_fg 6 ?_
        refine r_fg 7 ?_
        exact kk h2 _ _ _ hT
      · exact absurd rfl c1955
  · exact absurd rfl c1938

