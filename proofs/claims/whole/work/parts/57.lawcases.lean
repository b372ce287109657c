section XLC
variable {G : xG} {σ : List (Nat × Nat)} {ρ : Nat → Int → Option Nat} {M : Nat → Int → Int} {Q : Option xV → xH → Prop}
theorem rq_22 {D : Nat} {x : Int} : rq M (xu M D 22 x) D := ⟨fun c z => xu_c (by omega), fun f z => xu_j (by omega)⟩
theorem md_q {n en : Int} {byt : Int → Int} {M0 M1 : Nat → Int → Int} {D S T : Nat} (h : mdI M1 D n en byt (vw M S)) (hW : wfV n en byt (vw M S)) (hs : sq M0 T M S) : mdI M1 D n en byt (vw M0 T) := ⟨h.1, h.2.1, h.2.2.1, smr_sq hs hW.1.2.1 (fun b a c => (hW.1.2.2 b a c).2.1) h.2.2.2⟩
set_option maxHeartbeats 4000000 in
theorem t_law_5 {B F S T V Z H X C P D : Nat} (hB : isBL σ ρ B F S T V Z H X C P) (hD : isMd σ ρ D) (ho : ord B F S T V Z H X C P D) (hN : gN G ≤ 2048) (h : rel M F S V Z H X D) {i : Int} (hi : 0 ≤ i ∧ i + 4 ≤ gN G) (hgo : ∀ M2, rel M2 F S V Z H X D → xX G mL_law 0 0 962 [(0, xS), (1, xP B), (2, xP D), (3, xI i)] [] (σ, ρ, M2) Q) : xX G mL_law 0 0 251 [(0, xS), (1, xP B), (2, xP D), (3, xI i)] [] (σ, ρ, M) Q := by
  have hI := h.1
  have hW := hI.1
  have hG : wfG (M F 0) (M (S + 1)) (M (S + 2)) (M (S + 3)) := hW.1
  obtain ⟨hM, hx, ha, ht⟩ := h.md ho (fun _ _ => rfl)
  have ho2 := ho
  obtain ⟨o1, o2⟩ := ho2
  have h9 := h.2.2.2.1
  refine x_aload_n (p2 := 252) rfl dL_law_251 rfl ?_
  refine x_sload_n (p2 := 253) rfl dL_law_252 rfl ?_
  refine x_iload_n (p2 := 254) rfl dL_law_253 rfl ?_
  refine x_iconst (p2 := 255) rfl dL_law_254 ⟨by decide, by decide⟩ ?_
  refine x_iadd (p2 := 256) rfl dL_law_255 ⟨by omega, by omega⟩ ?_
  refine x_sld (p2 := 257) rfl dL_law_256 (by omega) (by omega) ?_
  refine x_v1 (p2 := 260) rfl dL_law_257 l_11_35 ok_X9_size rfl hB.sh rfl ?_
  refine t_X9_size hB hI (fun hb => ?_) (fun hb => ?_)
  · skip
    refine x_aload_n (p2 := 261) rfl dL_law_260 rfl ?_
    refine x_sload_n (p2 := 262) rfl dL_law_261 rfl ?_
    refine x_iload_n (p2 := 263) rfl dL_law_262 rfl ?_
    refine x_iconst (p2 := 264) rfl dL_law_263 ⟨by decide, by decide⟩ ?_
    refine x_iadd (p2 := 265) rfl dL_law_264 ⟨by omega, by omega⟩ ?_
    refine x_sld (p2 := 266) rfl dL_law_265 (by omega) (by omega) ?_
    refine x_v1 (p2 := 269) rfl dL_law_266 l_11_38 ok_X10_size rfl hD.sh rfl ?_
    refine t_X10_size hD hM hW (fun h2 => ?_) (fun h2 => absurd hb h2)
    refine x_ic_eq (p2 := 272) (t := 962) (by decide) rfl dL_law_269 (fun hc269 => ?_) (fun hc269 => absurd hc269 (not_not_intro rfl))
    refine x_pick (L2 := [(0, _), (1, _), (2, _), (3, _)]) [0, 1, 2, 3] rfl ?_
    exact hgo _ h
  · skip
    refine x_aload_n (p2 := 261) rfl dL_law_260 rfl ?_
    refine x_sload_n (p2 := 262) rfl dL_law_261 rfl ?_
    refine x_iload_n (p2 := 263) rfl dL_law_262 rfl ?_
    refine x_iconst (p2 := 264) rfl dL_law_263 ⟨by decide, by decide⟩ ?_
    refine x_iadd (p2 := 265) rfl dL_law_264 ⟨by omega, by omega⟩ ?_
    refine x_sld (p2 := 266) rfl dL_law_265 (by omega) (by omega) ?_
    refine x_v1 (p2 := 269) rfl dL_law_266 l_11_38 ok_X10_size rfl hD.sh rfl ?_
    refine t_X10_size hD hM hW (fun h2 => absurd h2 hb) (fun h2 => ?_)
    refine x_ic_eq (p2 := 272) (t := 962) (by decide) rfl dL_law_269 (fun hc269 => ?_) (fun hc269 => absurd hc269 (not_not_intro rfl))
    refine x_pick (L2 := [(0, _), (1, _), (2, _), (3, _)]) [0, 1, 2, 3] rfl ?_
    exact hgo _ h
set_option maxHeartbeats 4000000 in
theorem t_law_6 {B F S T V Z H X C P D : Nat} (hB : isBL σ ρ B F S T V Z H X C P) (hD : isMd σ ρ D) (ho : ord B F S T V Z H X C P D) (hN : gN G ≤ 2048) (h : rel M F S V Z H X D) {i : Int} (hi : 0 ≤ i ∧ i + 4 ≤ gN G) (hgo : ∀ M2, rel M2 F S V Z H X D → xX G mL_law 0 0 962 [(0, xS), (1, xP B), (2, xP D), (3, xI i)] [] (σ, ρ, M2) Q) : xX G mL_law 0 0 274 [(0, xS), (1, xP B), (2, xP D), (3, xI i)] [] (σ, ρ, M) Q := by
  have hI := h.1
  have hW := hI.1
  have hG : wfG (M F 0) (M (S + 1)) (M (S + 2)) (M (S + 3)) := hW.1
  obtain ⟨hM, hx, ha, ht⟩ := h.md ho (fun _ _ => rfl)
  have ho2 := ho
  obtain ⟨o1, o2⟩ := ho2
  have h9 := h.2.2.2.1
  refine x_aload_n (p2 := 275) rfl dL_law_274 rfl ?_
  refine x_sload_n (p2 := 276) rfl dL_law_275 rfl ?_
  refine x_iload_n (p2 := 277) rfl dL_law_276 rfl ?_
  refine x_iconst (p2 := 278) rfl dL_law_277 ⟨by decide, by decide⟩ ?_
  refine x_iadd (p2 := 279) rfl dL_law_278 ⟨by omega, by omega⟩ ?_
  refine x_sld (p2 := 280) rfl dL_law_279 (by omega) (by omega) ?_
  refine x_sload_n (p2 := 281) rfl dL_law_280 rfl ?_
  refine x_iload_n (p2 := 282) rfl dL_law_281 rfl ?_
  refine x_iconst (p2 := 283) rfl dL_law_282 ⟨by decide, by decide⟩ ?_
  refine x_iadd (p2 := 284) rfl dL_law_283 ⟨by omega, by omega⟩ ?_
  refine x_sld (p2 := 285) rfl dL_law_284 (by omega) (by omega) ?_
  refine x_v2 (p2 := 288) rfl dL_law_285 l_11_39 ok_X9_successor rfl hB.sh rfl ?_
  refine t_X9_successor hB hI (fun hb => ?_) (fun hb => ?_)
  · skip
    refine x_aload_n (p2 := 289) rfl dL_law_288 rfl ?_
    refine x_sload_n (p2 := 290) rfl dL_law_289 rfl ?_
    refine x_iload_n (p2 := 291) rfl dL_law_290 rfl ?_
    refine x_iconst (p2 := 292) rfl dL_law_291 ⟨by decide, by decide⟩ ?_
    refine x_iadd (p2 := 293) rfl dL_law_292 ⟨by omega, by omega⟩ ?_
    refine x_sld (p2 := 294) rfl dL_law_293 (by omega) (by omega) ?_
    refine x_sload_n (p2 := 295) rfl dL_law_294 rfl ?_
    refine x_iload_n (p2 := 296) rfl dL_law_295 rfl ?_
    refine x_iconst (p2 := 297) rfl dL_law_296 ⟨by decide, by decide⟩ ?_
    refine x_iadd (p2 := 298) rfl dL_law_297 ⟨by omega, by omega⟩ ?_
    refine x_sld (p2 := 299) rfl dL_law_298 (by omega) (by omega) ?_
    refine x_v2 (p2 := 302) rfl dL_law_299 l_11_43 ok_X10_successor rfl hD.sh rfl ?_
    refine t_X10_successor hD hM hW (fun h2 => ?_) (fun h2 => absurd hb h2)
    refine x_ic_eq (p2 := 305) (t := 962) (by decide) rfl dL_law_302 (fun hc302 => ?_) (fun hc302 => absurd hc302 (not_not_intro rfl))
    refine x_pick (L2 := [(0, _), (1, _), (2, _), (3, _)]) [0, 1, 2, 3] rfl ?_
    exact hgo _ h
  · skip
    refine x_aload_n (p2 := 289) rfl dL_law_288 rfl ?_
    refine x_sload_n (p2 := 290) rfl dL_law_289 rfl ?_
    refine x_iload_n (p2 := 291) rfl dL_law_290 rfl ?_
    refine x_iconst (p2 := 292) rfl dL_law_291 ⟨by decide, by decide⟩ ?_
    refine x_iadd (p2 := 293) rfl dL_law_292 ⟨by omega, by omega⟩ ?_
    refine x_sld (p2 := 294) rfl dL_law_293 (by omega) (by omega) ?_
    refine x_sload_n (p2 := 295) rfl dL_law_294 rfl ?_
    refine x_iload_n (p2 := 296) rfl dL_law_295 rfl ?_
    refine x_iconst (p2 := 297) rfl dL_law_296 ⟨by decide, by decide⟩ ?_
    refine x_iadd (p2 := 298) rfl dL_law_297 ⟨by omega, by omega⟩ ?_
    refine x_sld (p2 := 299) rfl dL_law_298 (by omega) (by omega) ?_
    refine x_v2 (p2 := 302) rfl dL_law_299 l_11_43 ok_X10_successor rfl hD.sh rfl ?_
    refine t_X10_successor hD hM hW (fun h2 => absurd h2 hb) (fun h2 => ?_)
    refine x_ic_eq (p2 := 305) (t := 962) (by decide) rfl dL_law_302 (fun hc302 => ?_) (fun hc302 => absurd hc302 (not_not_intro rfl))
    refine x_pick (L2 := [(0, _), (1, _), (2, _), (3, _)]) [0, 1, 2, 3] rfl ?_
    exact hgo _ h
set_option maxHeartbeats 4000000 in
theorem t_law_7 {B F S T V Z H X C P D : Nat} (hB : isBL σ ρ B F S T V Z H X C P) (hD : isMd σ ρ D) (ho : ord B F S T V Z H X C P D) (hN : gN G ≤ 2048) (h : rel M F S V Z H X D) {i : Int} (hi : 0 ≤ i ∧ i + 4 ≤ gN G) (hgo : ∀ M2, rel M2 F S V Z H X D → xX G mL_law 0 0 962 [(0, xS), (1, xP B), (2, xP D), (3, xI i)] [] (σ, ρ, M2) Q) : xX G mL_law 0 0 307 [(0, xS), (1, xP B), (2, xP D), (3, xI i)] [] (σ, ρ, M) Q := by
  have hI := h.1
  have hW := hI.1
  have hG : wfG (M F 0) (M (S + 1)) (M (S + 2)) (M (S + 3)) := hW.1
  obtain ⟨hM, hx, ha, ht⟩ := h.md ho (fun _ _ => rfl)
  have ho2 := ho
  obtain ⟨o1, o2⟩ := ho2
  have h9 := h.2.2.2.1
  refine x_aload_n (p2 := 308) rfl dL_law_307 rfl ?_
  refine x_sload_n (p2 := 309) rfl dL_law_308 rfl ?_
  refine x_iload_n (p2 := 310) rfl dL_law_309 rfl ?_
  refine x_iconst (p2 := 311) rfl dL_law_310 ⟨by decide, by decide⟩ ?_
  refine x_iadd (p2 := 312) rfl dL_law_311 ⟨by omega, by omega⟩ ?_
  refine x_sld (p2 := 313) rfl dL_law_312 (by omega) (by omega) ?_
  refine x_sload_n (p2 := 314) rfl dL_law_313 rfl ?_
  refine x_iload_n (p2 := 315) rfl dL_law_314 rfl ?_
  refine x_iconst (p2 := 316) rfl dL_law_315 ⟨by decide, by decide⟩ ?_
  refine x_iadd (p2 := 317) rfl dL_law_316 ⟨by omega, by omega⟩ ?_
  refine x_sld (p2 := 318) rfl dL_law_317 (by omega) (by omega) ?_
  refine x_v2 (p2 := 321) rfl dL_law_318 l_11_44 ok_X9_edgeCount rfl hB.sh rfl ?_
  refine t_X9_edgeCount hB hI (fun hb => ?_) (fun hb => ?_)
  · skip
    refine x_aload_n (p2 := 322) rfl dL_law_321 rfl ?_
    refine x_sload_n (p2 := 323) rfl dL_law_322 rfl ?_
    refine x_iload_n (p2 := 324) rfl dL_law_323 rfl ?_
    refine x_iconst (p2 := 325) rfl dL_law_324 ⟨by decide, by decide⟩ ?_
    refine x_iadd (p2 := 326) rfl dL_law_325 ⟨by omega, by omega⟩ ?_
    refine x_sld (p2 := 327) rfl dL_law_326 (by omega) (by omega) ?_
    refine x_sload_n (p2 := 328) rfl dL_law_327 rfl ?_
    refine x_iload_n (p2 := 329) rfl dL_law_328 rfl ?_
    refine x_iconst (p2 := 330) rfl dL_law_329 ⟨by decide, by decide⟩ ?_
    refine x_iadd (p2 := 331) rfl dL_law_330 ⟨by omega, by omega⟩ ?_
    refine x_sld (p2 := 332) rfl dL_law_331 (by omega) (by omega) ?_
    refine x_v2 (p2 := 335) rfl dL_law_332 l_11_47 ok_X10_edgeCount rfl hD.sh rfl ?_
    refine t_X10_edgeCount hD hM hW (fun h2 => ?_) (fun h2 => absurd hb h2)
    refine x_ic_eq (p2 := 338) (t := 962) (by decide) rfl dL_law_335 (fun hc335 => ?_) (fun hc335 => absurd hc335 (not_not_intro rfl))
    refine x_pick (L2 := [(0, _), (1, _), (2, _), (3, _)]) [0, 1, 2, 3] rfl ?_
    exact hgo _ h
  · skip
    refine x_aload_n (p2 := 322) rfl dL_law_321 rfl ?_
    refine x_sload_n (p2 := 323) rfl dL_law_322 rfl ?_
    refine x_iload_n (p2 := 324) rfl dL_law_323 rfl ?_
    refine x_iconst (p2 := 325) rfl dL_law_324 ⟨by decide, by decide⟩ ?_
    refine x_iadd (p2 := 326) rfl dL_law_325 ⟨by omega, by omega⟩ ?_
    refine x_sld (p2 := 327) rfl dL_law_326 (by omega) (by omega) ?_
    refine x_sload_n (p2 := 328) rfl dL_law_327 rfl ?_
    refine x_iload_n (p2 := 329) rfl dL_law_328 rfl ?_
    refine x_iconst (p2 := 330) rfl dL_law_329 ⟨by decide, by decide⟩ ?_
    refine x_iadd (p2 := 331) rfl dL_law_330 ⟨by omega, by omega⟩ ?_
    refine x_sld (p2 := 332) rfl dL_law_331 (by omega) (by omega) ?_
    refine x_v2 (p2 := 335) rfl dL_law_332 l_11_47 ok_X10_edgeCount rfl hD.sh rfl ?_
    refine t_X10_edgeCount hD hM hW (fun h2 => absurd h2 hb) (fun h2 => ?_)
    refine x_ic_eq (p2 := 338) (t := 962) (by decide) rfl dL_law_335 (fun hc335 => ?_) (fun hc335 => absurd hc335 (not_not_intro rfl))
    refine x_pick (L2 := [(0, _), (1, _), (2, _), (3, _)]) [0, 1, 2, 3] rfl ?_
    exact hgo _ h
set_option maxHeartbeats 4000000 in
theorem t_law_8 {B F S T V Z H X C P D : Nat} (hB : isBL σ ρ B F S T V Z H X C P) (hD : isMd σ ρ D) (ho : ord B F S T V Z H X C P D) (hN : gN G ≤ 2048) (h : rel M F S V Z H X D) {i : Int} (hi : 0 ≤ i ∧ i + 4 ≤ gN G) (hgo : ∀ M2, rel M2 F S V Z H X D → xX G mL_law 0 0 962 [(0, xS), (1, xP B), (2, xP D), (3, xI i)] [] (σ, ρ, M2) Q) : xX G mL_law 0 0 340 [(0, xS), (1, xP B), (2, xP D), (3, xI i)] [] (σ, ρ, M) Q := by
  have hI := h.1
  have hW := hI.1
  have hG : wfG (M F 0) (M (S + 1)) (M (S + 2)) (M (S + 3)) := hW.1
  obtain ⟨hM, hx, ha, ht⟩ := h.md ho (fun _ _ => rfl)
  have ho2 := ho
  obtain ⟨o1, o2⟩ := ho2
  have h9 := h.2.2.2.1
  refine x_aload_n (p2 := 341) rfl dL_law_340 rfl ?_
  refine x_sload_n (p2 := 342) rfl dL_law_341 rfl ?_
  refine x_iload_n (p2 := 343) rfl dL_law_342 rfl ?_
  refine x_iconst (p2 := 344) rfl dL_law_343 ⟨by decide, by decide⟩ ?_
  refine x_iadd (p2 := 345) rfl dL_law_344 ⟨by omega, by omega⟩ ?_
  refine x_sld (p2 := 346) rfl dL_law_345 (by omega) (by omega) ?_
  refine x_v1 (p2 := 349) rfl dL_law_346 l_11_48 ok_X9_executions rfl hB.sh rfl ?_
  refine t_X9_executions hB hI (fun hb => ?_) (fun hb => ?_)
  · skip
    refine x_aload_n (p2 := 350) rfl dL_law_349 rfl ?_
    refine x_sload_n (p2 := 351) rfl dL_law_350 rfl ?_
    refine x_iload_n (p2 := 352) rfl dL_law_351 rfl ?_
    refine x_iconst (p2 := 353) rfl dL_law_352 ⟨by decide, by decide⟩ ?_
    refine x_iadd (p2 := 354) rfl dL_law_353 ⟨by omega, by omega⟩ ?_
    refine x_sld (p2 := 355) rfl dL_law_354 (by omega) (by omega) ?_
    refine x_v1 (p2 := 358) rfl dL_law_355 l_11_51 ok_X10_executions rfl hD.sh rfl ?_
    refine t_X10_executions hD hM hW (fun h2 => ?_) (fun h2 => absurd hb h2)
    refine x_ic_eq (p2 := 361) (t := 962) (by decide) rfl dL_law_358 (fun hc358 => ?_) (fun hc358 => absurd hc358 (not_not_intro rfl))
    refine x_pick (L2 := [(0, _), (1, _), (2, _), (3, _)]) [0, 1, 2, 3] rfl ?_
    exact hgo _ h
  · skip
    refine x_aload_n (p2 := 350) rfl dL_law_349 rfl ?_
    refine x_sload_n (p2 := 351) rfl dL_law_350 rfl ?_
    refine x_iload_n (p2 := 352) rfl dL_law_351 rfl ?_
    refine x_iconst (p2 := 353) rfl dL_law_352 ⟨by decide, by decide⟩ ?_
    refine x_iadd (p2 := 354) rfl dL_law_353 ⟨by omega, by omega⟩ ?_
    refine x_sld (p2 := 355) rfl dL_law_354 (by omega) (by omega) ?_
    refine x_v1 (p2 := 358) rfl dL_law_355 l_11_51 ok_X10_executions rfl hD.sh rfl ?_
    refine t_X10_executions hD hM hW (fun h2 => absurd h2 hb) (fun h2 => ?_)
    refine x_ic_eq (p2 := 361) (t := 962) (by decide) rfl dL_law_358 (fun hc358 => ?_) (fun hc358 => absurd hc358 (not_not_intro rfl))
    refine x_pick (L2 := [(0, _), (1, _), (2, _), (3, _)]) [0, 1, 2, 3] rfl ?_
    exact hgo _ h
set_option maxHeartbeats 4000000 in
theorem t_law_9 {B F S T V Z H X C P D : Nat} (hB : isBL σ ρ B F S T V Z H X C P) (hD : isMd σ ρ D) (ho : ord B F S T V Z H X C P D) (hN : gN G ≤ 2048) (h : rel M F S V Z H X D) {i : Int} (hi : 0 ≤ i ∧ i + 4 ≤ gN G) (hgo : ∀ M2, rel M2 F S V Z H X D → xX G mL_law 0 0 962 [(0, xS), (1, xP B), (2, xP D), (3, xI i)] [] (σ, ρ, M2) Q) : xX G mL_law 0 0 363 [(0, xS), (1, xP B), (2, xP D), (3, xI i)] [] (σ, ρ, M) Q := by
  have hI := h.1
  have hW := hI.1
  have hG : wfG (M F 0) (M (S + 1)) (M (S + 2)) (M (S + 3)) := hW.1
  obtain ⟨hM, hx, ha, ht⟩ := h.md ho (fun _ _ => rfl)
  have ho2 := ho
  obtain ⟨o1, o2⟩ := ho2
  have h9 := h.2.2.2.1
  refine x_aload_n (p2 := 364) rfl dL_law_363 rfl ?_
  refine x_sload_n (p2 := 365) rfl dL_law_364 rfl ?_
  refine x_iload_n (p2 := 366) rfl dL_law_365 rfl ?_
  refine x_iconst (p2 := 367) rfl dL_law_366 ⟨by decide, by decide⟩ ?_
  refine x_iadd (p2 := 368) rfl dL_law_367 ⟨by omega, by omega⟩ ?_
  refine x_sld (p2 := 369) rfl dL_law_368 (by omega) (by omega) ?_
  refine x_v1 (p2 := 372) rfl dL_law_369 l_11_52 ok_X9_blockAt rfl hB.sh rfl ?_
  refine t_X9_blockAt hB hI (fun hb => ?_) (fun hb => ?_)
  · skip
    refine x_aload_n (p2 := 373) rfl dL_law_372 rfl ?_
    refine x_sload_n (p2 := 374) rfl dL_law_373 rfl ?_
    refine x_iload_n (p2 := 375) rfl dL_law_374 rfl ?_
    refine x_iconst (p2 := 376) rfl dL_law_375 ⟨by decide, by decide⟩ ?_
    refine x_iadd (p2 := 377) rfl dL_law_376 ⟨by omega, by omega⟩ ?_
    refine x_sld (p2 := 378) rfl dL_law_377 (by omega) (by omega) ?_
    refine x_v1 (p2 := 381) rfl dL_law_378 l_11_55 ok_X10_blockAt rfl hD.sh rfl ?_
    refine t_X10_blockAt hD hM hW (fun h2 => ?_) (fun h2 => absurd hb h2)
    refine x_ic_eq (p2 := 384) (t := 962) (by decide) rfl dL_law_381 (fun hc381 => ?_) (fun hc381 => absurd hc381 (not_not_intro rfl))
    refine x_pick (L2 := [(0, _), (1, _), (2, _), (3, _)]) [0, 1, 2, 3] rfl ?_
    exact hgo _ h
  · skip
    refine x_aload_n (p2 := 373) rfl dL_law_372 rfl ?_
    refine x_sload_n (p2 := 374) rfl dL_law_373 rfl ?_
    refine x_iload_n (p2 := 375) rfl dL_law_374 rfl ?_
    refine x_iconst (p2 := 376) rfl dL_law_375 ⟨by decide, by decide⟩ ?_
    refine x_iadd (p2 := 377) rfl dL_law_376 ⟨by omega, by omega⟩ ?_
    refine x_sld (p2 := 378) rfl dL_law_377 (by omega) (by omega) ?_
    refine x_v1 (p2 := 381) rfl dL_law_378 l_11_55 ok_X10_blockAt rfl hD.sh rfl ?_
    refine t_X10_blockAt hD hM hW (fun h2 => absurd h2 hb) (fun h2 => ?_)
    refine x_ic_eq (p2 := 384) (t := 962) (by decide) rfl dL_law_381 (fun hc381 => ?_) (fun hc381 => absurd hc381 (not_not_intro rfl))
    refine x_pick (L2 := [(0, _), (1, _), (2, _), (3, _)]) [0, 1, 2, 3] rfl ?_
    exact hgo _ h
set_option maxHeartbeats 4000000 in
theorem t_law_14 {B F S T V Z H X C P D : Nat} (hB : isBL σ ρ B F S T V Z H X C P) (hD : isMd σ ρ D) (ho : ord B F S T V Z H X C P D) (hN : gN G ≤ 2048) (h : rel M F S V Z H X D) {i : Int} (hi : 0 ≤ i ∧ i + 4 ≤ gN G) (hgo : ∀ M2, rel M2 F S V Z H X D → xX G mL_law 0 0 962 [(0, xS), (1, xP B), (2, xP D), (3, xI i)] [] (σ, ρ, M2) Q) : xX G mL_law 0 0 448 [(0, xS), (1, xP B), (2, xP D), (3, xI i)] [] (σ, ρ, M) Q := by
  have hI := h.1
  have hW := hI.1
  have hG : wfG (M F 0) (M (S + 1)) (M (S + 2)) (M (S + 3)) := hW.1
  obtain ⟨hM, hx, ha, ht⟩ := h.md ho (fun _ _ => rfl)
  have ho2 := ho
  obtain ⟨o1, o2⟩ := ho2
  have h9 := h.2.2.2.1
  refine x_aload_n (p2 := 449) rfl dL_law_448 rfl ?_
  refine x_sload_n (p2 := 450) rfl dL_law_449 rfl ?_
  refine x_iload_n (p2 := 451) rfl dL_law_450 rfl ?_
  refine x_iconst (p2 := 452) rfl dL_law_451 ⟨by decide, by decide⟩ ?_
  refine x_iadd (p2 := 453) rfl dL_law_452 ⟨by omega, by omega⟩ ?_
  refine x_sld (p2 := 454) rfl dL_law_453 (by omega) (by omega) ?_
  refine x_v1 (p2 := 457) rfl dL_law_454 l_11_72 ok_X9_branchBytes rfl hB.sh rfl ?_
  refine t_X9_branchBytes hB hI (fun hb => ?_) (fun hb => ?_)
  · skip
    refine x_aload_n (p2 := 458) rfl dL_law_457 rfl ?_
    refine x_sload_n (p2 := 459) rfl dL_law_458 rfl ?_
    refine x_iload_n (p2 := 460) rfl dL_law_459 rfl ?_
    refine x_iconst (p2 := 461) rfl dL_law_460 ⟨by decide, by decide⟩ ?_
    refine x_iadd (p2 := 462) rfl dL_law_461 ⟨by omega, by omega⟩ ?_
    refine x_sld (p2 := 463) rfl dL_law_462 (by omega) (by omega) ?_
    refine x_v1 (p2 := 466) rfl dL_law_463 l_11_75 ok_X10_branchBytes rfl hD.sh rfl ?_
    refine t_X10_branchBytes hD hM hW (fun h2 => ?_) (fun h2 => absurd hb h2)
    refine x_ic_eq (p2 := 469) (t := 962) (by decide) rfl dL_law_466 (fun hc466 => ?_) (fun hc466 => absurd hc466 (not_not_intro rfl))
    refine x_pick (L2 := [(0, _), (1, _), (2, _), (3, _)]) [0, 1, 2, 3] rfl ?_
    exact hgo _ h
  · skip
    refine x_aload_n (p2 := 458) rfl dL_law_457 rfl ?_
    refine x_sload_n (p2 := 459) rfl dL_law_458 rfl ?_
    refine x_iload_n (p2 := 460) rfl dL_law_459 rfl ?_
    refine x_iconst (p2 := 461) rfl dL_law_460 ⟨by decide, by decide⟩ ?_
    refine x_iadd (p2 := 462) rfl dL_law_461 ⟨by omega, by omega⟩ ?_
    refine x_sld (p2 := 463) rfl dL_law_462 (by omega) (by omega) ?_
    refine x_v1 (p2 := 466) rfl dL_law_463 l_11_75 ok_X10_branchBytes rfl hD.sh rfl ?_
    refine t_X10_branchBytes hD hM hW (fun h2 => absurd h2 hb) (fun h2 => ?_)
    refine x_ic_eq (p2 := 469) (t := 962) (by decide) rfl dL_law_466 (fun hc466 => ?_) (fun hc466 => absurd hc466 (not_not_intro rfl))
    refine x_pick (L2 := [(0, _), (1, _), (2, _), (3, _)]) [0, 1, 2, 3] rfl ?_
    exact hgo _ h
set_option maxHeartbeats 4000000 in
theorem t_law_15 {B F S T V Z H X C P D : Nat} (hB : isBL σ ρ B F S T V Z H X C P) (hD : isMd σ ρ D) (ho : ord B F S T V Z H X C P D) (hN : gN G ≤ 2048) (h : rel M F S V Z H X D) {i : Int} (hi : 0 ≤ i ∧ i + 4 ≤ gN G) (hgo : ∀ M2, rel M2 F S V Z H X D → xX G mL_law 0 0 962 [(0, xS), (1, xP B), (2, xP D), (3, xI i)] [] (σ, ρ, M2) Q) : xX G mL_law 0 0 471 [(0, xS), (1, xP B), (2, xP D), (3, xI i)] [] (σ, ρ, M) Q := by
  have hI := h.1
  have hW := hI.1
  have hG : wfG (M F 0) (M (S + 1)) (M (S + 2)) (M (S + 3)) := hW.1
  obtain ⟨hM, hx, ha, ht⟩ := h.md ho (fun _ _ => rfl)
  have ho2 := ho
  obtain ⟨o1, o2⟩ := ho2
  have h9 := h.2.2.2.1
  refine x_aload_n (p2 := 472) rfl dL_law_471 rfl ?_
  refine x_sload_n (p2 := 473) rfl dL_law_472 rfl ?_
  refine x_iload_n (p2 := 474) rfl dL_law_473 rfl ?_
  refine x_iconst (p2 := 475) rfl dL_law_474 ⟨by decide, by decide⟩ ?_
  refine x_iadd (p2 := 476) rfl dL_law_475 ⟨by omega, by omega⟩ ?_
  refine x_sld (p2 := 477) rfl dL_law_476 (by omega) (by omega) ?_
  refine x_sload_n (p2 := 478) rfl dL_law_477 rfl ?_
  refine x_iload_n (p2 := 479) rfl dL_law_478 rfl ?_
  refine x_iconst (p2 := 480) rfl dL_law_479 ⟨by decide, by decide⟩ ?_
  refine x_iadd (p2 := 481) rfl dL_law_480 ⟨by omega, by omega⟩ ?_
  refine x_sld (p2 := 482) rfl dL_law_481 (by omega) (by omega) ?_
  refine x_v2 (p2 := 485) rfl dL_law_482 l_11_76 ok_X9_edgeCost rfl hB.sh rfl ?_
  refine t_X9_edgeCost hB hI (fun hb => ?_) (fun hb => ?_)
  · skip
    refine x_aload_n (p2 := 486) rfl dL_law_485 rfl ?_
    refine x_sload_n (p2 := 487) rfl dL_law_486 rfl ?_
    refine x_iload_n (p2 := 488) rfl dL_law_487 rfl ?_
    refine x_iconst (p2 := 489) rfl dL_law_488 ⟨by decide, by decide⟩ ?_
    refine x_iadd (p2 := 490) rfl dL_law_489 ⟨by omega, by omega⟩ ?_
    refine x_sld (p2 := 491) rfl dL_law_490 (by omega) (by omega) ?_
    refine x_sload_n (p2 := 492) rfl dL_law_491 rfl ?_
    refine x_iload_n (p2 := 493) rfl dL_law_492 rfl ?_
    refine x_iconst (p2 := 494) rfl dL_law_493 ⟨by decide, by decide⟩ ?_
    refine x_iadd (p2 := 495) rfl dL_law_494 ⟨by omega, by omega⟩ ?_
    refine x_sld (p2 := 496) rfl dL_law_495 (by omega) (by omega) ?_
    refine x_v2 (p2 := 499) rfl dL_law_496 l_11_79 ok_X10_edgeCost rfl hD.sh rfl ?_
    refine t_X10_edgeCost hD hM hW (fun h2 => ?_) (fun h2 => absurd hb h2)
    refine x_ic_eq (p2 := 502) (t := 962) (by decide) rfl dL_law_499 (fun hc499 => ?_) (fun hc499 => absurd hc499 (not_not_intro rfl))
    refine x_pick (L2 := [(0, _), (1, _), (2, _), (3, _)]) [0, 1, 2, 3] rfl ?_
    exact hgo _ h
  · skip
    refine x_aload_n (p2 := 486) rfl dL_law_485 rfl ?_
    refine x_sload_n (p2 := 487) rfl dL_law_486 rfl ?_
    refine x_iload_n (p2 := 488) rfl dL_law_487 rfl ?_
    refine x_iconst (p2 := 489) rfl dL_law_488 ⟨by decide, by decide⟩ ?_
    refine x_iadd (p2 := 490) rfl dL_law_489 ⟨by omega, by omega⟩ ?_
    refine x_sld (p2 := 491) rfl dL_law_490 (by omega) (by omega) ?_
    refine x_sload_n (p2 := 492) rfl dL_law_491 rfl ?_
    refine x_iload_n (p2 := 493) rfl dL_law_492 rfl ?_
    refine x_iconst (p2 := 494) rfl dL_law_493 ⟨by decide, by decide⟩ ?_
    refine x_iadd (p2 := 495) rfl dL_law_494 ⟨by omega, by omega⟩ ?_
    refine x_sld (p2 := 496) rfl dL_law_495 (by omega) (by omega) ?_
    refine x_v2 (p2 := 499) rfl dL_law_496 l_11_79 ok_X10_edgeCost rfl hD.sh rfl ?_
    refine t_X10_edgeCost hD hM hW (fun h2 => absurd h2 hb) (fun h2 => ?_)
    refine x_ic_eq (p2 := 502) (t := 962) (by decide) rfl dL_law_499 (fun hc499 => ?_) (fun hc499 => absurd hc499 (not_not_intro rfl))
    refine x_pick (L2 := [(0, _), (1, _), (2, _), (3, _)]) [0, 1, 2, 3] rfl ?_
    exact hgo _ h
set_option maxHeartbeats 4000000 in
theorem t_law_4 {B F S T V Z H X C P D : Nat} (hB : isBL σ ρ B F S T V Z H X C P) (hD : isMd σ ρ D) (ho : ord B F S T V Z H X C P D) (hN : gN G ≤ 2048) (h : rel M F S V Z H X D) {i : Int} (hi : 0 ≤ i ∧ i + 4 ≤ gN G) (hgo : ∀ M2, rel M2 F S V Z H X D → xX G mL_law 0 0 962 [(0, xS), (1, xP B), (2, xP D), (3, xI i)] [] (σ, ρ, M2) Q) : xX G mL_law 0 0 238 [(0, xS), (1, xP B), (2, xP D), (3, xI i)] [] (σ, ρ, M) Q := by
  have hI := h.1
  have hW := hI.1
  have hG : wfG (M F 0) (M (S + 1)) (M (S + 2)) (M (S + 3)) := hW.1
  obtain ⟨hM, hx, ha, ht⟩ := h.md ho (fun _ _ => rfl)
  have ho2 := ho
  obtain ⟨o1, o2⟩ := ho2
  have h9 := h.2.2.2.1
  refine x_aload_n (p2 := 239) rfl dL_law_238 rfl ?_
  refine x_v0 (p2 := 242) rfl dL_law_239 l_11_31 ok_X9_blockCount rfl hB.sh rfl ?_
  refine t_X9_blockCount hB hI ?_
  refine x_aload_n (p2 := 243) rfl dL_law_242 rfl ?_
  refine x_v0 (p2 := 246) rfl dL_law_243 l_11_34 ok_X10_blockCount rfl hD.sh rfl ?_
  refine t_X10_blockCount hD hM hW ?_
  refine x_ic_eq (p2 := 249) (t := 962) (by decide) rfl dL_law_246 (fun hc246 => ?_) (fun hc246 => absurd hc246 (not_not_intro rfl))
  refine x_pick (L2 := [(0, _), (1, _), (2, _), (3, _)]) [0, 1, 2, 3] rfl ?_
  exact hgo _ h
set_option maxHeartbeats 4000000 in
theorem t_law_10 {B F S T V Z H X C P D : Nat} (hB : isBL σ ρ B F S T V Z H X C P) (hD : isMd σ ρ D) (ho : ord B F S T V Z H X C P D) (hN : gN G ≤ 2048) (h : rel M F S V Z H X D) {i : Int} (hi : 0 ≤ i ∧ i + 4 ≤ gN G) (hgo : ∀ M2, rel M2 F S V Z H X D → xX G mL_law 0 0 962 [(0, xS), (1, xP B), (2, xP D), (3, xI i)] [] (σ, ρ, M2) Q) : xX G mL_law 0 0 386 [(0, xS), (1, xP B), (2, xP D), (3, xI i)] [] (σ, ρ, M) Q := by
  have hI := h.1
  have hW := hI.1
  have hG : wfG (M F 0) (M (S + 1)) (M (S + 2)) (M (S + 3)) := hW.1
  obtain ⟨hM, hx, ha, ht⟩ := h.md ho (fun _ _ => rfl)
  have ho2 := ho
  obtain ⟨o1, o2⟩ := ho2
  have h9 := h.2.2.2.1
  refine x_aload_n (p2 := 387) rfl dL_law_386 rfl ?_
  refine x_v0 (p2 := 390) rfl dL_law_387 l_11_56 ok_X9_hotCount rfl hB.sh rfl ?_
  refine t_X9_hotCount hB hI ?_
  refine x_aload_n (p2 := 391) rfl dL_law_390 rfl ?_
  refine x_v0 (p2 := 394) rfl dL_law_391 l_11_59 ok_X10_hotCount rfl hD.sh rfl ?_
  refine t_X10_hotCount hD hM hW ?_
  refine x_ic_eq (p2 := 397) (t := 962) (by decide) rfl dL_law_394 (fun hc394 => ?_) (fun hc394 => absurd hc394 (not_not_intro rfl))
  refine x_pick (L2 := [(0, _), (1, _), (2, _), (3, _)]) [0, 1, 2, 3] rfl ?_
  exact hgo _ h
set_option maxHeartbeats 4000000 in
theorem t_law_11 {B F S T V Z H X C P D : Nat} (hB : isBL σ ρ B F S T V Z H X C P) (hD : isMd σ ρ D) (ho : ord B F S T V Z H X C P D) (hN : gN G ≤ 2048) (h : rel M F S V Z H X D) {i : Int} (hi : 0 ≤ i ∧ i + 4 ≤ gN G) (hgo : ∀ M2, rel M2 F S V Z H X D → xX G mL_law 0 0 962 [(0, xS), (1, xP B), (2, xP D), (3, xI i)] [] (σ, ρ, M2) Q) : xX G mL_law 0 0 399 [(0, xS), (1, xP B), (2, xP D), (3, xI i)] [] (σ, ρ, M) Q := by
  have hI := h.1
  have hW := hI.1
  have hG : wfG (M F 0) (M (S + 1)) (M (S + 2)) (M (S + 3)) := hW.1
  obtain ⟨hM, hx, ha, ht⟩ := h.md ho (fun _ _ => rfl)
  have ho2 := ho
  obtain ⟨o1, o2⟩ := ho2
  have h9 := h.2.2.2.1
  refine x_aload_n (p2 := 400) rfl dL_law_399 rfl ?_
  refine x_v0 (p2 := 403) rfl dL_law_400 l_11_60 ok_X9_cost rfl hB.sh rfl ?_
  refine t_X9_cost hB hI ?_
  refine x_aload_n (p2 := 404) rfl dL_law_403 rfl ?_
  refine x_v0 (p2 := 407) rfl dL_law_404 l_11_63 ok_X10_cost rfl hD.sh rfl ?_
  refine t_X10_cost hD hM hW ?_
  refine x_ic_eq (p2 := 410) (t := 962) (by decide) rfl dL_law_407 (fun hc407 => ?_) (fun hc407 => absurd hc407 (not_not_intro rfl))
  refine x_pick (L2 := [(0, _), (1, _), (2, _), (3, _)]) [0, 1, 2, 3] rfl ?_
  exact hgo _ h
set_option maxHeartbeats 4000000 in
theorem t_law_12 {B F S T V Z H X C P D : Nat} (hB : isBL σ ρ B F S T V Z H X C P) (hD : isMd σ ρ D) (ho : ord B F S T V Z H X C P D) (hN : gN G ≤ 2048) (h : rel M F S V Z H X D) {i : Int} (hi : 0 ≤ i ∧ i + 4 ≤ gN G) (hgo : ∀ M2, rel M2 F S V Z H X D → xX G mL_law 0 0 962 [(0, xS), (1, xP B), (2, xP D), (3, xI i)] [] (σ, ρ, M2) Q) : xX G mL_law 0 0 412 [(0, xS), (1, xP B), (2, xP D), (3, xI i)] [] (σ, ρ, M) Q := by
  have hI := h.1
  have hW := hI.1
  have hG : wfG (M F 0) (M (S + 1)) (M (S + 2)) (M (S + 3)) := hW.1
  obtain ⟨hM, hx, ha, ht⟩ := h.md ho (fun _ _ => rfl)
  have ho2 := ho
  obtain ⟨o1, o2⟩ := ho2
  have h9 := h.2.2.2.1
  refine x_aload_n (p2 := 413) rfl dL_law_412 rfl ?_
  refine x_v0 (p2 := 416) rfl dL_law_413 l_11_64 ok_X9_codeSize rfl hB.sh rfl ?_
  refine t_X9_codeSize hB hI ?_
  refine x_aload_n (p2 := 417) rfl dL_law_416 rfl ?_
  refine x_v0 (p2 := 420) rfl dL_law_417 l_11_67 ok_X10_codeSize rfl hD.sh rfl ?_
  refine t_X10_codeSize hD hM hW ?_
  refine x_ic_eq (p2 := 423) (t := 962) (by decide) rfl dL_law_420 (fun hc420 => ?_) (fun hc420 => absurd hc420 (not_not_intro rfl))
  refine x_pick (L2 := [(0, _), (1, _), (2, _), (3, _)]) [0, 1, 2, 3] rfl ?_
  exact hgo _ (h.q ho cq.rf rq_22)
set_option maxHeartbeats 4000000 in
theorem t_law_13 {B F S T V Z H X C P D : Nat} (hB : isBL σ ρ B F S T V Z H X C P) (hD : isMd σ ρ D) (ho : ord B F S T V Z H X C P D) (hN : gN G ≤ 2048) (h : rel M F S V Z H X D) {i : Int} (hi : 0 ≤ i ∧ i + 4 ≤ gN G) (hgo : ∀ M2, rel M2 F S V Z H X D → xX G mL_law 0 0 962 [(0, xS), (1, xP B), (2, xP D), (3, xI i)] [] (σ, ρ, M2) Q) : xX G mL_law 0 0 425 [(0, xS), (1, xP B), (2, xP D), (3, xI i)] [] (σ, ρ, M) Q := by
  have hI := h.1
  have hW := hI.1
  have hG : wfG (M F 0) (M (S + 1)) (M (S + 2)) (M (S + 3)) := hW.1
  obtain ⟨hM, hx, ha, ht⟩ := h.md ho (fun _ _ => rfl)
  have ho2 := ho
  obtain ⟨o1, o2⟩ := ho2
  have h9 := h.2.2.2.1
  refine x_aload_n (p2 := 426) rfl dL_law_425 rfl ?_
  refine x_sload_n (p2 := 427) rfl dL_law_426 rfl ?_
  refine x_iload_n (p2 := 428) rfl dL_law_427 rfl ?_
  refine x_iconst (p2 := 429) rfl dL_law_428 ⟨by decide, by decide⟩ ?_
  refine x_iadd (p2 := 430) rfl dL_law_429 ⟨by omega, by omega⟩ ?_
  refine x_sld (p2 := 431) rfl dL_law_430 (by omega) (by omega) ?_
  refine x_v1 (p2 := 434) rfl dL_law_431 l_11_68 ok_X9_address rfl hB.sh rfl ?_
  refine t_X9_address hB hI (fun hb => ?_) (fun hb => ?_)
  · skip
    refine x_aload_n (p2 := 435) rfl dL_law_434 rfl ?_
    refine x_sload_n (p2 := 436) rfl dL_law_435 rfl ?_
    refine x_iload_n (p2 := 437) rfl dL_law_436 rfl ?_
    refine x_iconst (p2 := 438) rfl dL_law_437 ⟨by decide, by decide⟩ ?_
    refine x_iadd (p2 := 439) rfl dL_law_438 ⟨by omega, by omega⟩ ?_
    refine x_sld (p2 := 440) rfl dL_law_439 (by omega) (by omega) ?_
    refine x_v1 (p2 := 443) rfl dL_law_440 l_11_71 ok_X10_address rfl hD.sh rfl ?_
    refine t_X10_address hD hM hW (fun h2 => ?_) (fun h2 => absurd hb h2)
    refine x_ic_eq (p2 := 446) (t := 962) (by decide) rfl dL_law_443 (fun hc443 => ?_) (fun hc443 => absurd hc443 (not_not_intro rfl))
    refine x_pick (L2 := [(0, _), (1, _), (2, _), (3, _)]) [0, 1, 2, 3] rfl ?_
    exact hgo _ (h.q ho cq.rf rq_22)
  · skip
    refine x_aload_n (p2 := 435) rfl dL_law_434 rfl ?_
    refine x_sload_n (p2 := 436) rfl dL_law_435 rfl ?_
    refine x_iload_n (p2 := 437) rfl dL_law_436 rfl ?_
    refine x_iconst (p2 := 438) rfl dL_law_437 ⟨by decide, by decide⟩ ?_
    refine x_iadd (p2 := 439) rfl dL_law_438 ⟨by omega, by omega⟩ ?_
    refine x_sld (p2 := 440) rfl dL_law_439 (by omega) (by omega) ?_
    refine x_v1 (p2 := 443) rfl dL_law_440 l_11_71 ok_X10_address rfl hD.sh rfl ?_
    refine t_X10_address hD hM hW (fun h2 => absurd h2 hb) (fun h2 => ?_)
    refine x_ic_eq (p2 := 446) (t := 962) (by decide) rfl dL_law_443 (fun hc443 => ?_) (fun hc443 => absurd hc443 (not_not_intro rfl))
    refine x_pick (L2 := [(0, _), (1, _), (2, _), (3, _)]) [0, 1, 2, 3] rfl ?_
    exact hgo _ h
set_option maxHeartbeats 4000000 in
theorem t_law_16 {B F S T V Z H X C P D : Nat} (hB : isBL σ ρ B F S T V Z H X C P) (hD : isMd σ ρ D) (ho : ord B F S T V Z H X C P D) (hN : gN G ≤ 2048) (h : rel M F S V Z H X D) {i : Int} (hi : 0 ≤ i ∧ i + 4 ≤ gN G) (hgo : ∀ M2, rel M2 F S V Z H X D → xX G mL_law 0 0 962 [(0, xS), (1, xP B), (2, xP D), (3, xI i)] [] (σ, ρ, M2) Q) : xX G mL_law 0 0 504 [(0, xS), (1, xP B), (2, xP D), (3, xI i)] [] (σ, ρ, M) Q := by
  have hI := h.1
  have hW := hI.1
  have hG : wfG (M F 0) (M (S + 1)) (M (S + 2)) (M (S + 3)) := hW.1
  obtain ⟨hM, hx, ha, ht⟩ := h.md ho (fun _ _ => rfl)
  have ho2 := ho
  obtain ⟨o1, o2⟩ := ho2
  have h9 := h.2.2.2.1
  refine x_aload_n (p2 := 505) rfl dL_law_504 rfl ?_
  refine x_sload_n (p2 := 506) rfl dL_law_505 rfl ?_
  refine x_iload_n (p2 := 507) rfl dL_law_506 rfl ?_
  refine x_iconst (p2 := 508) rfl dL_law_507 ⟨by decide, by decide⟩ ?_
  refine x_iadd (p2 := 509) rfl dL_law_508 ⟨by omega, by omega⟩ ?_
  refine x_sld (p2 := 510) rfl dL_law_509 (by omega) (by omega) ?_
  refine x_v1 (p2 := 513) rfl dL_law_510 l_11_80 ok_X9_chainHead rfl hB.sh rfl ?_
  refine t_X9_chainHead hB hI (fun hb M1 ed hq1 => ?_) (fun hb => ?_)
  · skip
    refine x_aload_n (p2 := 514) rfl dL_law_513 rfl ?_
    refine x_sload_n (p2 := 515) rfl dL_law_514 rfl ?_
    refine x_iload_n (p2 := 516) rfl dL_law_515 rfl ?_
    refine x_iconst (p2 := 517) rfl dL_law_516 ⟨by decide, by decide⟩ ?_
    refine x_iadd (p2 := 518) rfl dL_law_517 ⟨by omega, by omega⟩ ?_
    refine x_sld (p2 := 519) rfl dL_law_518 (by omega) (by omega) ?_
    refine x_v1 (p2 := 522) rfl dL_law_519 l_11_83 ok_X10_chainHead rfl hD.sh rfl ?_
    rw [mrg_l hG]
    obtain ⟨hM1, hx1, ha1, ht1⟩ := h.md ho (cq.hi ho hq1)
    refine t_X10_chainHead hD hM1 hW (fun h2 M2 hq2 => ?_) (fun h2 => absurd hb h2)
    refine x_ic_eq (p2 := 525) (t := 962) (by decide) rfl dL_law_522 (fun hc522 => ?_) (fun hc522 => absurd hc522 (not_not_intro rfl))
    refine x_pick (L2 := [(0, _), (1, _), (2, _), (3, _)]) [0, 1, 2, 3] rfl ?_
    exact hgo _ (h.q ho hq1 hq2)
  · skip
    refine x_aload_n (p2 := 514) rfl dL_law_513 rfl ?_
    refine x_sload_n (p2 := 515) rfl dL_law_514 rfl ?_
    refine x_iload_n (p2 := 516) rfl dL_law_515 rfl ?_
    refine x_iconst (p2 := 517) rfl dL_law_516 ⟨by decide, by decide⟩ ?_
    refine x_iadd (p2 := 518) rfl dL_law_517 ⟨by omega, by omega⟩ ?_
    refine x_sld (p2 := 519) rfl dL_law_518 (by omega) (by omega) ?_
    refine x_v1 (p2 := 522) rfl dL_law_519 l_11_83 ok_X10_chainHead rfl hD.sh rfl ?_
    refine t_X10_chainHead hD hM hW (fun h2 => absurd h2 hb) (fun h2 => ?_)
    refine x_ic_eq (p2 := 525) (t := 962) (by decide) rfl dL_law_522 (fun hc522 => ?_) (fun hc522 => absurd hc522 (not_not_intro rfl))
    refine x_pick (L2 := [(0, _), (1, _), (2, _), (3, _)]) [0, 1, 2, 3] rfl ?_
    exact hgo _ h
set_option maxHeartbeats 4000000 in
theorem t_law_17 {B F S T V Z H X C P D : Nat} (hB : isBL σ ρ B F S T V Z H X C P) (hD : isMd σ ρ D) (ho : ord B F S T V Z H X C P D) (hN : gN G ≤ 2048) (h : rel M F S V Z H X D) {i : Int} (hi : 0 ≤ i ∧ i + 4 ≤ gN G) (hgo : ∀ M2, rel M2 F S V Z H X D → xX G mL_law 0 0 962 [(0, xS), (1, xP B), (2, xP D), (3, xI i)] [] (σ, ρ, M2) Q) : xX G mL_law 0 0 527 [(0, xS), (1, xP B), (2, xP D), (3, xI i)] [] (σ, ρ, M) Q := by
  have hI := h.1
  have hW := hI.1
  have hG : wfG (M F 0) (M (S + 1)) (M (S + 2)) (M (S + 3)) := hW.1
  obtain ⟨hM, hx, ha, ht⟩ := h.md ho (fun _ _ => rfl)
  have ho2 := ho
  obtain ⟨o1, o2⟩ := ho2
  have h9 := h.2.2.2.1
  refine x_aload_n (p2 := 528) rfl dL_law_527 rfl ?_
  refine x_v0 (p2 := 531) rfl dL_law_528 l_11_84 ok_X9_optimalCost rfl hB.sh rfl ?_
  refine t_X9_optimalCost hB hI (fun M1 hq1 => ?_)
  refine x_aload_n (p2 := 532) rfl dL_law_531 rfl ?_
  refine x_v0 (p2 := 535) rfl dL_law_532 l_11_87 ok_X10_optimalCost rfl hD.sh rfl ?_
  obtain ⟨hM1, hx1, ha1, ht1⟩ := h.md ho (cq.hi ho hq1)
  refine t_X10_optimalCost hD hM1 hW (fun M2 hq2 => ?_)
  refine x_ic_eq (p2 := 538) (t := 962) (by decide) rfl dL_law_535 (fun hc535 => ?_) (fun hc535 => absurd hc535 (not_not_intro rfl))
  refine x_pick (L2 := [(0, _), (1, _), (2, _), (3, _)]) [0, 1, 2, 3] rfl ?_
  exact hgo _ (h.q ho hq1 hq2)
set_option maxHeartbeats 4000000 in
theorem t_law_2 {B F S T V Z H X C P D : Nat} (hB : isBL σ ρ B F S T V Z H X C P) (hD : isMd σ ρ D) (ho : ord B F S T V Z H X C P D) (hN : gN G ≤ 2048) (h : rel M F S V Z H X D) {i : Int} (hi : 0 ≤ i ∧ i + 4 ≤ gN G) (hgo : ∀ M2, rel M2 F S V Z H X D → xX G mL_law 0 0 962 [(0, xS), (1, xP B), (2, xP D), (3, xI i)] [] (σ, ρ, M2) Q) : xX G mL_law 0 0 212 [(0, xS), (1, xP B), (2, xP D), (3, xI i)] [] (σ, ρ, M) Q := by
  have hI := h.1
  have hW := hI.1
  have hG : wfG (M F 0) (M (S + 1)) (M (S + 2)) (M (S + 3)) := hW.1
  obtain ⟨hM, hx, ha, ht⟩ := h.md ho (fun _ _ => rfl)
  have ho2 := ho
  obtain ⟨o1, o2⟩ := ho2
  have h9 := h.2.2.2.1
  refine x_aload_n (p2 := 213) rfl dL_law_212 rfl ?_
  refine x_v0 (p2 := 216) rfl dL_law_213 l_11_23 ok_X9_errorPosition rfl hB.sh rfl ?_
  refine t_X9_errorPosition hB hI (fun M1 hq1 => ?_)
  refine x_aload_n (p2 := 217) rfl dL_law_216 rfl ?_
  refine x_v0 (p2 := 220) rfl dL_law_217 l_11_26 ok_X10_errorPosition rfl hD.sh rfl ?_
  obtain ⟨hM1, hx1, ha1, ht1⟩ := h.md ho (cq.hi ho hq1)
  refine t_X10_errorPosition hD ht1 (fun M2 hf2 => ?_)
  refine x_ic_eq (p2 := 223) (t := 962) (by decide) rfl dL_law_220 (fun hc220 => ?_) (fun hc220 => absurd hc220 (not_not_intro rfl))
  refine x_pick (L2 := [(0, _), (1, _), (2, _), (3, _)]) [0, 1, 2, 3] rfl ?_
  exact hgo _ (h.q ho hq1 hf2.q)
set_option maxHeartbeats 4000000 in
theorem t_law_18 {B F S T V Z H X C P D : Nat} (hB : isBL σ ρ B F S T V Z H X C P) (hD : isMd σ ρ D) (ho : ord B F S T V Z H X C P D) (hN : gN G ≤ 2048) (h : rel M F S V Z H X D) {i : Int} (hi : 0 ≤ i ∧ i + 4 ≤ gN G) (hgo : ∀ M2, rel M2 F S V Z H X D → xX G mL_law 0 0 962 [(0, xS), (1, xP B), (2, xP D), (3, xI i)] [] (σ, ρ, M2) Q) : xX G mL_law 0 0 540 [(0, xS), (1, xP B), (2, xP D), (3, xI i)] [] (σ, ρ, M) Q := by
  have hI := h.1
  have hW := hI.1
  have hG : wfG (M F 0) (M (S + 1)) (M (S + 2)) (M (S + 3)) := hW.1
  obtain ⟨hM, hx, ha, ht⟩ := h.md ho (fun _ _ => rfl)
  have ho2 := ho
  obtain ⟨o1, o2⟩ := ho2
  have h9 := h.2.2.2.1
  refine x_aload_n (p2 := 541) rfl dL_law_540 rfl ?_
  refine x_sload_n (p2 := 542) rfl dL_law_541 rfl ?_
  refine x_iload_n (p2 := 543) rfl dL_law_542 rfl ?_
  refine x_iconst (p2 := 544) rfl dL_law_543 ⟨by decide, by decide⟩ ?_
  refine x_iadd (p2 := 545) rfl dL_law_544 ⟨by omega, by omega⟩ ?_
  refine x_sld (p2 := 546) rfl dL_law_545 (by omega) (by omega) ?_
  refine x_sload_n (p2 := 547) rfl dL_law_546 rfl ?_
  refine x_iload_n (p2 := 548) rfl dL_law_547 rfl ?_
  refine x_iconst (p2 := 549) rfl dL_law_548 ⟨by decide, by decide⟩ ?_
  refine x_iadd (p2 := 550) rfl dL_law_549 ⟨by omega, by omega⟩ ?_
  refine x_sld (p2 := 551) rfl dL_law_550 (by omega) (by omega) ?_
  refine x_v2 (p2 := 554) rfl dL_law_551 l_11_88 ok_X9_bestRotation rfl hB.sh rfl ?_
  refine t_X9_bestRotation hB hI (fun hb => ?_) (fun hb => ?_) (fun hb M0 M1 hs1 hq1 => ?_)
  · skip
    refine x_aload_n (p2 := 555) rfl dL_law_554 rfl ?_
    refine x_sload_n (p2 := 556) rfl dL_law_555 rfl ?_
    refine x_iload_n (p2 := 557) rfl dL_law_556 rfl ?_
    refine x_iconst (p2 := 558) rfl dL_law_557 ⟨by decide, by decide⟩ ?_
    refine x_iadd (p2 := 559) rfl dL_law_558 ⟨by omega, by omega⟩ ?_
    refine x_sld (p2 := 560) rfl dL_law_559 (by omega) (by omega) ?_
    refine x_sload_n (p2 := 561) rfl dL_law_560 rfl ?_
    refine x_iload_n (p2 := 562) rfl dL_law_561 rfl ?_
    refine x_iconst (p2 := 563) rfl dL_law_562 ⟨by decide, by decide⟩ ?_
    refine x_iadd (p2 := 564) rfl dL_law_563 ⟨by omega, by omega⟩ ?_
    refine x_sld (p2 := 565) rfl dL_law_564 (by omega) (by omega) ?_
    refine x_v2 (p2 := 568) rfl dL_law_565 l_11_91 ok_X10_bestRotation rfl hD.sh rfl ?_
    refine t_X10_bestRotation hD hM hW (fun h2 => ?_) (fun h2 => absurd h2.1 hb) (fun h2 => absurd (by omega) hb)
    refine x_ic_eq (p2 := 571) (t := 962) (by decide) rfl dL_law_568 (fun hc568 => ?_) (fun hc568 => absurd hc568 (not_not_intro rfl))
    refine x_pick (L2 := [(0, _), (1, _), (2, _), (3, _)]) [0, 1, 2, 3] rfl ?_
    exact hgo _ h
  · skip
    refine x_aload_n (p2 := 555) rfl dL_law_554 rfl ?_
    refine x_sload_n (p2 := 556) rfl dL_law_555 rfl ?_
    refine x_iload_n (p2 := 557) rfl dL_law_556 rfl ?_
    refine x_iconst (p2 := 558) rfl dL_law_557 ⟨by decide, by decide⟩ ?_
    refine x_iadd (p2 := 559) rfl dL_law_558 ⟨by omega, by omega⟩ ?_
    refine x_sld (p2 := 560) rfl dL_law_559 (by omega) (by omega) ?_
    refine x_sload_n (p2 := 561) rfl dL_law_560 rfl ?_
    refine x_iload_n (p2 := 562) rfl dL_law_561 rfl ?_
    refine x_iconst (p2 := 563) rfl dL_law_562 ⟨by decide, by decide⟩ ?_
    refine x_iadd (p2 := 564) rfl dL_law_563 ⟨by omega, by omega⟩ ?_
    refine x_sld (p2 := 565) rfl dL_law_564 (by omega) (by omega) ?_
    refine x_v2 (p2 := 568) rfl dL_law_565 l_11_91 ok_X10_bestRotation rfl hD.sh rfl ?_
    have e5 : (vw M S).2.2.2.2.1 = M S 5 := rfl
    refine t_X10_bestRotation hD hM hW (fun h2 => absurd hb.1 h2) (fun h2 => ?_) (fun h2 => (by omega : False).elim)
    refine x_ic_eq (p2 := 571) (t := 962) (by decide) rfl dL_law_568 (fun hc568 => ?_) (fun hc568 => absurd hc568 (not_not_intro rfl))
    refine x_pick (L2 := [(0, _), (1, _), (2, _), (3, _)]) [0, 1, 2, 3] rfl ?_
    exact hgo _ h
  · skip
    refine x_aload_n (p2 := 555) rfl dL_law_554 rfl ?_
    refine x_sload_n (p2 := 556) rfl dL_law_555 rfl ?_
    refine x_iload_n (p2 := 557) rfl dL_law_556 rfl ?_
    refine x_iconst (p2 := 558) rfl dL_law_557 ⟨by decide, by decide⟩ ?_
    refine x_iadd (p2 := 559) rfl dL_law_558 ⟨by omega, by omega⟩ ?_
    refine x_sld (p2 := 560) rfl dL_law_559 (by omega) (by omega) ?_
    refine x_sload_n (p2 := 561) rfl dL_law_560 rfl ?_
    refine x_iload_n (p2 := 562) rfl dL_law_561 rfl ?_
    refine x_iconst (p2 := 563) rfl dL_law_562 ⟨by decide, by decide⟩ ?_
    refine x_iadd (p2 := 564) rfl dL_law_563 ⟨by omega, by omega⟩ ?_
    refine x_sld (p2 := 565) rfl dL_law_564 (by omega) (by omega) ?_
    refine x_v2 (p2 := 568) rfl dL_law_565 l_11_91 ok_X10_bestRotation rfl hD.sh rfl ?_
    obtain ⟨hM1, hx1, ha1, ht1⟩ := h.md ho (cq.hi ho hq1)
    have e5 : (vw M0 T).2.2.2.2.1 = M S 5 := hs1.2.2.2.2.1
    refine t_X10_bestRotation hD (md_q hM1 hW hs1) (wfV_q hs1 hW) (fun h2 => absurd (by omega) h2) (fun h2 => (by omega : False).elim) (fun h2 M2 hq2 => ?_)
    refine x_ic_eq (p2 := 571) (t := 962) (by decide) rfl dL_law_568 (fun hc568 => ?_) (fun hc568 => absurd hc568 (not_not_intro rfl))
    refine x_pick (L2 := [(0, _), (1, _), (2, _), (3, _)]) [0, 1, 2, 3] rfl ?_
    exact hgo _ (h.q ho hq1 hq2.q)
set_option maxHeartbeats 4000000 in
theorem t_law_22 {B F S T V Z H X C P D : Nat} (hB : isBL σ ρ B F S T V Z H X C P) (hD : isMd σ ρ D) (ho : ord B F S T V Z H X C P D) (hN : gN G ≤ 2048) (h : rel M F S V Z H X D) {i : Int} (hi : 0 ≤ i ∧ i + 4 ≤ gN G) (hgo : ∀ M2, rel M2 F S V Z H X D → xX G mL_law 0 0 962 [(0, xS), (1, xP B), (2, xP D), (3, xI i)] [] (σ, ρ, M2) Q) : xX G mL_law 0 0 632 [(0, xS), (1, xP B), (2, xP D), (3, xI i)] [] (σ, ρ, M) Q := by
  have hI := h.1
  have hW := hI.1
  have hG : wfG (M F 0) (M (S + 1)) (M (S + 2)) (M (S + 3)) := hW.1
  obtain ⟨hM, hx, ha, ht⟩ := h.md ho (fun _ _ => rfl)
  have ho2 := ho
  obtain ⟨o1, o2⟩ := ho2
  have h9 := h.2.2.2.1
  refine x_aload_n (p2 := 633) rfl dL_law_632 rfl ?_
  refine x_sload_n (p2 := 634) rfl dL_law_633 rfl ?_
  refine x_iload_n (p2 := 635) rfl dL_law_634 rfl ?_
  refine x_iconst (p2 := 636) rfl dL_law_635 ⟨by decide, by decide⟩ ?_
  refine x_iadd (p2 := 637) rfl dL_law_636 ⟨by omega, by omega⟩ ?_
  refine x_sld (p2 := 638) rfl dL_law_637 (by omega) (by omega) ?_
  refine x_sload_n (p2 := 639) rfl dL_law_638 rfl ?_
  refine x_iload_n (p2 := 640) rfl dL_law_639 rfl ?_
  refine x_iconst (p2 := 641) rfl dL_law_640 ⟨by decide, by decide⟩ ?_
  refine x_iadd (p2 := 642) rfl dL_law_641 ⟨by omega, by omega⟩ ?_
  refine x_sld (p2 := 643) rfl dL_law_642 (by omega) (by omega) ?_
  refine x_v2 (p2 := 646) rfl dL_law_643 l_11_104 ok_X9_rotate rfl hB.sh rfl ?_
  refine t_X9_rotate hB hI (fun hb => ?_) (fun hb => ?_) (fun hb M1 hca => ?_)
  · skip
    refine x_aload_n (p2 := 647) rfl dL_law_646 rfl ?_
    refine x_sload_n (p2 := 648) rfl dL_law_647 rfl ?_
    refine x_iload_n (p2 := 649) rfl dL_law_648 rfl ?_
    refine x_iconst (p2 := 650) rfl dL_law_649 ⟨by decide, by decide⟩ ?_
    refine x_iadd (p2 := 651) rfl dL_law_650 ⟨by omega, by omega⟩ ?_
    refine x_sld (p2 := 652) rfl dL_law_651 (by omega) (by omega) ?_
    refine x_sload_n (p2 := 653) rfl dL_law_652 rfl ?_
    refine x_iload_n (p2 := 654) rfl dL_law_653 rfl ?_
    refine x_iconst (p2 := 655) rfl dL_law_654 ⟨by decide, by decide⟩ ?_
    refine x_iadd (p2 := 656) rfl dL_law_655 ⟨by omega, by omega⟩ ?_
    refine x_sld (p2 := 657) rfl dL_law_656 (by omega) (by omega) ?_
    refine x_v2 (p2 := 660) rfl dL_law_657 l_11_107 ok_X10_rotate rfl hD.sh rfl ?_
    refine t_X10_rotate hD hM hW hx ha (fun h2 => ?_) (fun h2 => absurd h2.1 hb) (fun h2 => absurd (by omega) hb)
    refine x_ic_eq (p2 := 663) (t := 962) (by decide) rfl dL_law_660 (fun hc660 => ?_) (fun hc660 => absurd hc660 (not_not_intro rfl))
    refine x_pick (L2 := [(0, _), (1, _), (2, _), (3, _)]) [0, 1, 2, 3] rfl ?_
    exact hgo _ h
  · skip
    refine x_aload_n (p2 := 647) rfl dL_law_646 rfl ?_
    refine x_sload_n (p2 := 648) rfl dL_law_647 rfl ?_
    refine x_iload_n (p2 := 649) rfl dL_law_648 rfl ?_
    refine x_iconst (p2 := 650) rfl dL_law_649 ⟨by decide, by decide⟩ ?_
    refine x_iadd (p2 := 651) rfl dL_law_650 ⟨by omega, by omega⟩ ?_
    refine x_sld (p2 := 652) rfl dL_law_651 (by omega) (by omega) ?_
    refine x_sload_n (p2 := 653) rfl dL_law_652 rfl ?_
    refine x_iload_n (p2 := 654) rfl dL_law_653 rfl ?_
    refine x_iconst (p2 := 655) rfl dL_law_654 ⟨by decide, by decide⟩ ?_
    refine x_iadd (p2 := 656) rfl dL_law_655 ⟨by omega, by omega⟩ ?_
    refine x_sld (p2 := 657) rfl dL_law_656 (by omega) (by omega) ?_
    refine x_v2 (p2 := 660) rfl dL_law_657 l_11_107 ok_X10_rotate rfl hD.sh rfl ?_
    have e5 : (vw M S).2.2.2.2.1 = M S 5 := rfl
    refine t_X10_rotate hD hM hW hx ha (fun h2 => absurd hb.1 h2) (fun h2 => ?_) (fun h2 => (by omega : False).elim)
    refine x_ic_eq (p2 := 663) (t := 962) (by decide) rfl dL_law_660 (fun hc660 => ?_) (fun hc660 => absurd hc660 (not_not_intro rfl))
    refine x_pick (L2 := [(0, _), (1, _), (2, _), (3, _)]) [0, 1, 2, 3] rfl ?_
    exact hgo _ h
  · skip
    refine x_aload_n (p2 := 647) rfl dL_law_646 rfl ?_
    refine x_sload_n (p2 := 648) rfl dL_law_647 rfl ?_
    refine x_iload_n (p2 := 649) rfl dL_law_648 rfl ?_
    refine x_iconst (p2 := 650) rfl dL_law_649 ⟨by decide, by decide⟩ ?_
    refine x_iadd (p2 := 651) rfl dL_law_650 ⟨by omega, by omega⟩ ?_
    refine x_sld (p2 := 652) rfl dL_law_651 (by omega) (by omega) ?_
    refine x_sload_n (p2 := 653) rfl dL_law_652 rfl ?_
    refine x_iload_n (p2 := 654) rfl dL_law_653 rfl ?_
    refine x_iconst (p2 := 655) rfl dL_law_654 ⟨by decide, by decide⟩ ?_
    refine x_iadd (p2 := 656) rfl dL_law_655 ⟨by omega, by omega⟩ ?_
    refine x_sld (p2 := 657) rfl dL_law_656 (by omega) (by omega) ?_
    refine x_v2 (p2 := 660) rfl dL_law_657 l_11_107 ok_X10_rotate rfl hD.sh rfl ?_
    obtain ⟨hM1, hx1, ha1, ht1⟩ := h.md ho (ca.hi ho hI hca)
    have e5 : (vw M S).2.2.2.2.1 = M S 5 := rfl
    refine t_X10_rotate hD hM1 hW hx1 ha1 (fun h2 => absurd (by omega) h2) (fun h2 => (by omega : False).elim) (fun h2 M2 hra => ?_)
    refine x_ic_eq (p2 := 663) (t := 962) (by decide) rfl dL_law_660 (fun hc660 => ?_) (fun hc660 => absurd hc660 (not_not_intro rfl))
    refine x_pick (L2 := [(0, _), (1, _), (2, _), (3, _)]) [0, 1, 2, 3] rfl ?_
    exact hgo _ (h.a ho hca hra (wfV_tn hW ⟨hb.1, hb.2.1⟩ hb.2.2.1))
set_option maxHeartbeats 4000000 in
theorem t_law_21 {B F S T V Z H X C P D : Nat} (hB : isBL σ ρ B F S T V Z H X C P) (hD : isMd σ ρ D) (ho : ord B F S T V Z H X C P D) (hN : gN G ≤ 2048) (h : rel M F S V Z H X D) {i : Int} (hi : 0 ≤ i ∧ i + 4 ≤ gN G) (hgo : ∀ M2, rel M2 F S V Z H X D → xX G mL_law 0 0 962 [(0, xS), (1, xP B), (2, xP D), (3, xI i)] [] (σ, ρ, M2) Q) : xX G mL_law 0 0 599 [(0, xS), (1, xP B), (2, xP D), (3, xI i)] [] (σ, ρ, M) Q := by
  have hI := h.1
  have hW := hI.1
  have hG : wfG (M F 0) (M (S + 1)) (M (S + 2)) (M (S + 3)) := hW.1
  obtain ⟨hM, hx, ha, ht⟩ := h.md ho (fun _ _ => rfl)
  have ho2 := ho
  obtain ⟨o1, o2⟩ := ho2
  have h9 := h.2.2.2.1
  refine x_aload_n (p2 := 600) rfl dL_law_599 rfl ?_
  refine x_sload_n (p2 := 601) rfl dL_law_600 rfl ?_
  refine x_iload_n (p2 := 602) rfl dL_law_601 rfl ?_
  refine x_iconst (p2 := 603) rfl dL_law_602 ⟨by decide, by decide⟩ ?_
  refine x_iadd (p2 := 604) rfl dL_law_603 ⟨by omega, by omega⟩ ?_
  refine x_sld (p2 := 605) rfl dL_law_604 (by omega) (by omega) ?_
  refine x_sload_n (p2 := 606) rfl dL_law_605 rfl ?_
  refine x_iload_n (p2 := 607) rfl dL_law_606 rfl ?_
  refine x_iconst (p2 := 608) rfl dL_law_607 ⟨by decide, by decide⟩ ?_
  refine x_iadd (p2 := 609) rfl dL_law_608 ⟨by omega, by omega⟩ ?_
  refine x_sld (p2 := 610) rfl dL_law_609 (by omega) (by omega) ?_
  refine x_v2 (p2 := 613) rfl dL_law_610 l_11_100 ok_X9_swap rfl hB.sh rfl ?_
  refine t_X9_swap hB hI (fun hb => ?_) (fun hb => ?_) (fun hb M1 hca => ?_)
  · skip
    refine x_aload_n (p2 := 614) rfl dL_law_613 rfl ?_
    refine x_sload_n (p2 := 615) rfl dL_law_614 rfl ?_
    refine x_iload_n (p2 := 616) rfl dL_law_615 rfl ?_
    refine x_iconst (p2 := 617) rfl dL_law_616 ⟨by decide, by decide⟩ ?_
    refine x_iadd (p2 := 618) rfl dL_law_617 ⟨by omega, by omega⟩ ?_
    refine x_sld (p2 := 619) rfl dL_law_618 (by omega) (by omega) ?_
    refine x_sload_n (p2 := 620) rfl dL_law_619 rfl ?_
    refine x_iload_n (p2 := 621) rfl dL_law_620 rfl ?_
    refine x_iconst (p2 := 622) rfl dL_law_621 ⟨by decide, by decide⟩ ?_
    refine x_iadd (p2 := 623) rfl dL_law_622 ⟨by omega, by omega⟩ ?_
    refine x_sld (p2 := 624) rfl dL_law_623 (by omega) (by omega) ?_
    refine x_v2 (p2 := 627) rfl dL_law_624 l_11_103 ok_X10_swap rfl hD.sh rfl ?_
    refine t_X10_swap hD hM hW hx ha (fun h2 => ?_) (fun h2 => absurd h2.1 hb) (fun h2 => absurd (by omega) hb)
    refine x_ic_eq (p2 := 630) (t := 962) (by decide) rfl dL_law_627 (fun hc627 => ?_) (fun hc627 => absurd hc627 (not_not_intro rfl))
    refine x_pick (L2 := [(0, _), (1, _), (2, _), (3, _)]) [0, 1, 2, 3] rfl ?_
    exact hgo _ h
  · skip
    refine x_aload_n (p2 := 614) rfl dL_law_613 rfl ?_
    refine x_sload_n (p2 := 615) rfl dL_law_614 rfl ?_
    refine x_iload_n (p2 := 616) rfl dL_law_615 rfl ?_
    refine x_iconst (p2 := 617) rfl dL_law_616 ⟨by decide, by decide⟩ ?_
    refine x_iadd (p2 := 618) rfl dL_law_617 ⟨by omega, by omega⟩ ?_
    refine x_sld (p2 := 619) rfl dL_law_618 (by omega) (by omega) ?_
    refine x_sload_n (p2 := 620) rfl dL_law_619 rfl ?_
    refine x_iload_n (p2 := 621) rfl dL_law_620 rfl ?_
    refine x_iconst (p2 := 622) rfl dL_law_621 ⟨by decide, by decide⟩ ?_
    refine x_iadd (p2 := 623) rfl dL_law_622 ⟨by omega, by omega⟩ ?_
    refine x_sld (p2 := 624) rfl dL_law_623 (by omega) (by omega) ?_
    refine x_v2 (p2 := 627) rfl dL_law_624 l_11_103 ok_X10_swap rfl hD.sh rfl ?_
    refine t_X10_swap hD hM hW hx ha (fun h2 => absurd hb.1 h2) (fun h2 => ?_) (fun h2 => (by omega : False).elim)
    refine x_ic_eq (p2 := 630) (t := 962) (by decide) rfl dL_law_627 (fun hc627 => ?_) (fun hc627 => absurd hc627 (not_not_intro rfl))
    refine x_pick (L2 := [(0, _), (1, _), (2, _), (3, _)]) [0, 1, 2, 3] rfl ?_
    exact hgo _ h
  · skip
    refine x_aload_n (p2 := 614) rfl dL_law_613 rfl ?_
    refine x_sload_n (p2 := 615) rfl dL_law_614 rfl ?_
    refine x_iload_n (p2 := 616) rfl dL_law_615 rfl ?_
    refine x_iconst (p2 := 617) rfl dL_law_616 ⟨by decide, by decide⟩ ?_
    refine x_iadd (p2 := 618) rfl dL_law_617 ⟨by omega, by omega⟩ ?_
    refine x_sld (p2 := 619) rfl dL_law_618 (by omega) (by omega) ?_
    refine x_sload_n (p2 := 620) rfl dL_law_619 rfl ?_
    refine x_iload_n (p2 := 621) rfl dL_law_620 rfl ?_
    refine x_iconst (p2 := 622) rfl dL_law_621 ⟨by decide, by decide⟩ ?_
    refine x_iadd (p2 := 623) rfl dL_law_622 ⟨by omega, by omega⟩ ?_
    refine x_sld (p2 := 624) rfl dL_law_623 (by omega) (by omega) ?_
    refine x_v2 (p2 := 627) rfl dL_law_624 l_11_103 ok_X10_swap rfl hD.sh rfl ?_
    obtain ⟨hM1, hx1, ha1, ht1⟩ := h.md ho (ca.hi ho hI hca)
    refine t_X10_swap hD hM1 hW hx1 ha1 (fun h2 => absurd (by omega) h2) (fun h2 => (by omega : False).elim) (fun h2 M2 hra => ?_)
    refine x_ic_eq (p2 := 630) (t := 962) (by decide) rfl dL_law_627 (fun hc627 => ?_) (fun hc627 => absurd hc627 (not_not_intro rfl))
    refine x_pick (L2 := [(0, _), (1, _), (2, _), (3, _)]) [0, 1, 2, 3] rfl ?_
    exact hgo _ (h.a ho hca hra (wfV_sw hW ⟨hb.1, hb.2.1⟩ hb.2.2))
set_option maxHeartbeats 4000000 in
theorem t_law_23 {B F S T V Z H X C P D : Nat} (hB : isBL σ ρ B F S T V Z H X C P) (hD : isMd σ ρ D) (ho : ord B F S T V Z H X C P D) (hN : gN G ≤ 2048) (h : rel M F S V Z H X D) {i : Int} (hi : 0 ≤ i ∧ i + 4 ≤ gN G) (hgo : ∀ M2, rel M2 F S V Z H X D → xX G mL_law 0 0 962 [(0, xS), (1, xP B), (2, xP D), (3, xI i)] [] (σ, ρ, M2) Q) : xX G mL_law 0 0 665 [(0, xS), (1, xP B), (2, xP D), (3, xI i)] [] (σ, ρ, M) Q := by
  have hI := h.1
  have hW := hI.1
  have hG : wfG (M F 0) (M (S + 1)) (M (S + 2)) (M (S + 3)) := hW.1
  obtain ⟨hM, hx, ha, ht⟩ := h.md ho (fun _ _ => rfl)
  have ho2 := ho
  obtain ⟨o1, o2⟩ := ho2
  have h9 := h.2.2.2.1
  refine x_aload_n (p2 := 666) rfl dL_law_665 rfl ?_
  refine x_sload_n (p2 := 667) rfl dL_law_666 rfl ?_
  refine x_iload_n (p2 := 668) rfl dL_law_667 rfl ?_
  refine x_iconst (p2 := 669) rfl dL_law_668 ⟨by decide, by decide⟩ ?_
  refine x_iadd (p2 := 670) rfl dL_law_669 ⟨by omega, by omega⟩ ?_
  refine x_sld (p2 := 671) rfl dL_law_670 (by omega) (by omega) ?_
  refine x_v1 (p2 := 674) rfl dL_law_671 l_11_108 ok_X9_split rfl hB.sh rfl ?_
  refine t_X9_split hB hI (fun hb => ?_) (fun hb M1 hca => ?_)
  · skip
    refine x_aload_n (p2 := 675) rfl dL_law_674 rfl ?_
    refine x_sload_n (p2 := 676) rfl dL_law_675 rfl ?_
    refine x_iload_n (p2 := 677) rfl dL_law_676 rfl ?_
    refine x_iconst (p2 := 678) rfl dL_law_677 ⟨by decide, by decide⟩ ?_
    refine x_iadd (p2 := 679) rfl dL_law_678 ⟨by omega, by omega⟩ ?_
    refine x_sld (p2 := 680) rfl dL_law_679 (by omega) (by omega) ?_
    refine x_v1 (p2 := 683) rfl dL_law_680 l_11_111 ok_X10_split rfl hD.sh rfl ?_
    refine t_X10_split hD hM hW hx ha (fun h2 => ?_) (fun h2 => absurd h2 hb)
    refine x_ic_eq (p2 := 686) (t := 962) (by decide) rfl dL_law_683 (fun hc683 => ?_) (fun hc683 => absurd hc683 (not_not_intro rfl))
    refine x_pick (L2 := [(0, _), (1, _), (2, _), (3, _)]) [0, 1, 2, 3] rfl ?_
    exact hgo _ h
  · skip
    refine x_aload_n (p2 := 675) rfl dL_law_674 rfl ?_
    refine x_sload_n (p2 := 676) rfl dL_law_675 rfl ?_
    refine x_iload_n (p2 := 677) rfl dL_law_676 rfl ?_
    refine x_iconst (p2 := 678) rfl dL_law_677 ⟨by decide, by decide⟩ ?_
    refine x_iadd (p2 := 679) rfl dL_law_678 ⟨by omega, by omega⟩ ?_
    refine x_sld (p2 := 680) rfl dL_law_679 (by omega) (by omega) ?_
    refine x_v1 (p2 := 683) rfl dL_law_680 l_11_111 ok_X10_split rfl hD.sh rfl ?_
    obtain ⟨hM1, hx1, ha1, ht1⟩ := h.md ho (ca.hi ho hI hca)
    refine t_X10_split hD hM1 hW hx1 ha1 (fun h2 => absurd hb h2) (fun h2 M2 hra => ?_)
    refine x_ic_eq (p2 := 686) (t := 962) (by decide) rfl dL_law_683 (fun hc683 => ?_) (fun hc683 => absurd hc683 (not_not_intro rfl))
    refine x_pick (L2 := [(0, _), (1, _), (2, _), (3, _)]) [0, 1, 2, 3] rfl ?_
    exact hgo _ (h.a ho hca hra (wfV_dv hW))
set_option maxHeartbeats 4000000 in
theorem t_law_24 {B F S T V Z H X C P D : Nat} (hB : isBL σ ρ B F S T V Z H X C P) (hD : isMd σ ρ D) (ho : ord B F S T V Z H X C P D) (hN : gN G ≤ 2048) (h : rel M F S V Z H X D) {i : Int} (hi : 0 ≤ i ∧ i + 4 ≤ gN G) (hgo : ∀ M2, rel M2 F S V Z H X D → xX G mL_law 0 0 962 [(0, xS), (1, xP B), (2, xP D), (3, xI i)] [] (σ, ρ, M2) Q) : xX G mL_law 0 0 688 [(0, xS), (1, xP B), (2, xP D), (3, xI i)] [] (σ, ρ, M) Q := by
  have hI := h.1
  have hW := hI.1
  have hG : wfG (M F 0) (M (S + 1)) (M (S + 2)) (M (S + 3)) := hW.1
  obtain ⟨hM, hx, ha, ht⟩ := h.md ho (fun _ _ => rfl)
  have ho2 := ho
  obtain ⟨o1, o2⟩ := ho2
  have h9 := h.2.2.2.1
  refine x_aload_n (p2 := 689) rfl dL_law_688 rfl ?_
  refine x_sload_n (p2 := 690) rfl dL_law_689 rfl ?_
  refine x_iload_n (p2 := 691) rfl dL_law_690 rfl ?_
  refine x_iconst (p2 := 692) rfl dL_law_691 ⟨by decide, by decide⟩ ?_
  refine x_iadd (p2 := 693) rfl dL_law_692 ⟨by omega, by omega⟩ ?_
  refine x_sld (p2 := 694) rfl dL_law_693 (by omega) (by omega) ?_
  refine x_v1 (p2 := 697) rfl dL_law_694 l_11_112 ok_X9_bypass rfl hB.sh rfl ?_
  refine t_X9_bypass hB hI (fun hb => ?_) (fun hb => ?_) (fun hb M1 hca => ?_)
  · skip
    refine x_aload_n (p2 := 698) rfl dL_law_697 rfl ?_
    refine x_sload_n (p2 := 699) rfl dL_law_698 rfl ?_
    refine x_iload_n (p2 := 700) rfl dL_law_699 rfl ?_
    refine x_iconst (p2 := 701) rfl dL_law_700 ⟨by decide, by decide⟩ ?_
    refine x_iadd (p2 := 702) rfl dL_law_701 ⟨by omega, by omega⟩ ?_
    refine x_sld (p2 := 703) rfl dL_law_702 (by omega) (by omega) ?_
    refine x_v1 (p2 := 706) rfl dL_law_703 l_11_115 ok_X10_bypass rfl hD.sh rfl ?_
    refine t_X10_bypass hD hM hW hx ha (fun h2 => ?_) (fun h2 => absurd h2.1 hb) (fun h2 => absurd ⟨by omega, h2.2.1⟩ hb)
    refine x_ic_eq (p2 := 709) (t := 962) (by decide) rfl dL_law_706 (fun hc706 => ?_) (fun hc706 => absurd hc706 (not_not_intro rfl))
    refine x_pick (L2 := [(0, _), (1, _), (2, _), (3, _)]) [0, 1, 2, 3] rfl ?_
    exact hgo _ h
  · skip
    refine x_aload_n (p2 := 698) rfl dL_law_697 rfl ?_
    refine x_sload_n (p2 := 699) rfl dL_law_698 rfl ?_
    refine x_iload_n (p2 := 700) rfl dL_law_699 rfl ?_
    refine x_iconst (p2 := 701) rfl dL_law_700 ⟨by decide, by decide⟩ ?_
    refine x_iadd (p2 := 702) rfl dL_law_701 ⟨by omega, by omega⟩ ?_
    refine x_sld (p2 := 703) rfl dL_law_702 (by omega) (by omega) ?_
    refine x_v1 (p2 := 706) rfl dL_law_703 l_11_115 ok_X10_bypass rfl hD.sh rfl ?_
    refine t_X10_bypass hD hM hW hx ha (fun h2 => absurd hb.1 h2) (fun h2 => ?_) (fun h2 => hb.2.elim (fun z => absurd z (by omega)) (fun z => z.elim (fun z => absurd h2.2.2.1 z) (fun z => z.elim (fun z => absurd h2.2.2.2.1 z) (fun z => absurd z h2.2.2.2.2))))
    refine x_ic_eq (p2 := 709) (t := 962) (by decide) rfl dL_law_706 (fun hc706 => ?_) (fun hc706 => absurd hc706 (not_not_intro rfl))
    refine x_pick (L2 := [(0, _), (1, _), (2, _), (3, _)]) [0, 1, 2, 3] rfl ?_
    exact hgo _ h
  · skip
    refine x_aload_n (p2 := 698) rfl dL_law_697 rfl ?_
    refine x_sload_n (p2 := 699) rfl dL_law_698 rfl ?_
    refine x_iload_n (p2 := 700) rfl dL_law_699 rfl ?_
    refine x_iconst (p2 := 701) rfl dL_law_700 ⟨by decide, by decide⟩ ?_
    refine x_iadd (p2 := 702) rfl dL_law_701 ⟨by omega, by omega⟩ ?_
    refine x_sld (p2 := 703) rfl dL_law_702 (by omega) (by omega) ?_
    refine x_v1 (p2 := 706) rfl dL_law_703 l_11_115 ok_X10_bypass rfl hD.sh rfl ?_
    obtain ⟨hM1, hx1, ha1, ht1⟩ := h.md ho (ca.hi ho hI hca)
    refine t_X10_bypass hD hM1 hW hx1 ha1 (fun h2 => absurd ⟨by omega, hb.2.1⟩ h2) (fun h2 => h2.2.elim (fun z => absurd z (by omega)) (fun z => z.elim (fun z => absurd hb.2.2.1 z) (fun z => z.elim (fun z => absurd hb.2.2.2.1 z) (fun z => absurd z hb.2.2.2.2)))) (fun h2 M2 hra => ?_)
    refine x_ic_eq (p2 := 709) (t := 962) (by decide) rfl dL_law_706 (fun hc706 => ?_) (fun hc706 => absurd hc706 (not_not_intro rfl))
    refine x_pick (L2 := [(0, _), (1, _), (2, _), (3, _)]) [0, 1, 2, 3] rfl ?_
    exact hgo _ (h.a ho hca hra (wfV_ga hW ⟨by omega, hb.2.1⟩ hb.2.2.2.1 hb.2.2.2.2))
set_option maxHeartbeats 4000000 in
theorem t_law_25 {B F S T V Z H X C P D : Nat} (hB : isBL σ ρ B F S T V Z H X C P) (hD : isMd σ ρ D) (ho : ord B F S T V Z H X C P D) (hN : gN G ≤ 2048) (h : rel M F S V Z H X D) {i : Int} (hi : 0 ≤ i ∧ i + 4 ≤ gN G) (hgo : ∀ M2, rel M2 F S V Z H X D → xX G mL_law 0 0 962 [(0, xS), (1, xP B), (2, xP D), (3, xI i)] [] (σ, ρ, M2) Q) : xX G mL_law 0 0 711 [(0, xS), (1, xP B), (2, xP D), (3, xI i)] [] (σ, ρ, M) Q := by
  have hI := h.1
  have hW := hI.1
  have hG : wfG (M F 0) (M (S + 1)) (M (S + 2)) (M (S + 3)) := hW.1
  obtain ⟨hM, hx, ha, ht⟩ := h.md ho (fun _ _ => rfl)
  have ho2 := ho
  obtain ⟨o1, o2⟩ := ho2
  have h9 := h.2.2.2.1
  refine x_aload_n (p2 := 712) rfl dL_law_711 rfl ?_
  refine x_sload_n (p2 := 713) rfl dL_law_712 rfl ?_
  refine x_iload_n (p2 := 714) rfl dL_law_713 rfl ?_
  refine x_iconst (p2 := 715) rfl dL_law_714 ⟨by decide, by decide⟩ ?_
  refine x_iadd (p2 := 716) rfl dL_law_715 ⟨by omega, by omega⟩ ?_
  refine x_sld (p2 := 717) rfl dL_law_716 (by omega) (by omega) ?_
  refine x_sload_n (p2 := 718) rfl dL_law_717 rfl ?_
  refine x_iload_n (p2 := 719) rfl dL_law_718 rfl ?_
  refine x_iconst (p2 := 720) rfl dL_law_719 ⟨by decide, by decide⟩ ?_
  refine x_iadd (p2 := 721) rfl dL_law_720 ⟨by omega, by omega⟩ ?_
  refine x_sld (p2 := 722) rfl dL_law_721 (by omega) (by omega) ?_
  refine x_sload_n (p2 := 723) rfl dL_law_722 rfl ?_
  refine x_iload_n (p2 := 724) rfl dL_law_723 rfl ?_
  refine x_iconst (p2 := 725) rfl dL_law_724 ⟨by decide, by decide⟩ ?_
  refine x_iadd (p2 := 726) rfl dL_law_725 ⟨by omega, by omega⟩ ?_
  refine x_sld (p2 := 727) rfl dL_law_726 (by omega) (by omega) ?_
  refine x_v3 (p2 := 730) rfl dL_law_727 l_11_116 ok_X9_setCount rfl hB.sh rfl ?_
  refine t_X9_setCount hB hI (fun hb => ?_) (fun hb hb2 => ?_) (fun hb hb2 M1 hca => ?_)
  · skip
    refine x_aload_n (p2 := 731) rfl dL_law_730 rfl ?_
    refine x_sload_n (p2 := 732) rfl dL_law_731 rfl ?_
    refine x_iload_n (p2 := 733) rfl dL_law_732 rfl ?_
    refine x_iconst (p2 := 734) rfl dL_law_733 ⟨by decide, by decide⟩ ?_
    refine x_iadd (p2 := 735) rfl dL_law_734 ⟨by omega, by omega⟩ ?_
    refine x_sld (p2 := 736) rfl dL_law_735 (by omega) (by omega) ?_
    refine x_sload_n (p2 := 737) rfl dL_law_736 rfl ?_
    refine x_iload_n (p2 := 738) rfl dL_law_737 rfl ?_
    refine x_iconst (p2 := 739) rfl dL_law_738 ⟨by decide, by decide⟩ ?_
    refine x_iadd (p2 := 740) rfl dL_law_739 ⟨by omega, by omega⟩ ?_
    refine x_sld (p2 := 741) rfl dL_law_740 (by omega) (by omega) ?_
    refine x_sload_n (p2 := 742) rfl dL_law_741 rfl ?_
    refine x_iload_n (p2 := 743) rfl dL_law_742 rfl ?_
    refine x_iconst (p2 := 744) rfl dL_law_743 ⟨by decide, by decide⟩ ?_
    refine x_iadd (p2 := 745) rfl dL_law_744 ⟨by omega, by omega⟩ ?_
    refine x_sld (p2 := 746) rfl dL_law_745 (by omega) (by omega) ?_
    refine x_v3 (p2 := 749) rfl dL_law_746 l_11_120 ok_X10_setCount rfl hD.sh rfl ?_
    refine t_X10_setCount hD hM hW hx ha (fun h2 => ?_) (fun h2 => absurd h2 hb) (fun h2 => absurd h2 hb)
    refine x_ic_eq (p2 := 752) (t := 962) (by decide) rfl dL_law_749 (fun hc749 => ?_) (fun hc749 => absurd hc749 (not_not_intro rfl))
    refine x_pick (L2 := [(0, _), (1, _), (2, _), (3, _)]) [0, 1, 2, 3] rfl ?_
    exact hgo _ h
  · skip
    refine x_aload_n (p2 := 731) rfl dL_law_730 rfl ?_
    refine x_sload_n (p2 := 732) rfl dL_law_731 rfl ?_
    refine x_iload_n (p2 := 733) rfl dL_law_732 rfl ?_
    refine x_iconst (p2 := 734) rfl dL_law_733 ⟨by decide, by decide⟩ ?_
    refine x_iadd (p2 := 735) rfl dL_law_734 ⟨by omega, by omega⟩ ?_
    refine x_sld (p2 := 736) rfl dL_law_735 (by omega) (by omega) ?_
    refine x_sload_n (p2 := 737) rfl dL_law_736 rfl ?_
    refine x_iload_n (p2 := 738) rfl dL_law_737 rfl ?_
    refine x_iconst (p2 := 739) rfl dL_law_738 ⟨by decide, by decide⟩ ?_
    refine x_iadd (p2 := 740) rfl dL_law_739 ⟨by omega, by omega⟩ ?_
    refine x_sld (p2 := 741) rfl dL_law_740 (by omega) (by omega) ?_
    refine x_sload_n (p2 := 742) rfl dL_law_741 rfl ?_
    refine x_iload_n (p2 := 743) rfl dL_law_742 rfl ?_
    refine x_iconst (p2 := 744) rfl dL_law_743 ⟨by decide, by decide⟩ ?_
    refine x_iadd (p2 := 745) rfl dL_law_744 ⟨by omega, by omega⟩ ?_
    refine x_sld (p2 := 746) rfl dL_law_745 (by omega) (by omega) ?_
    refine x_v3 (p2 := 749) rfl dL_law_746 l_11_120 ok_X10_setCount rfl hD.sh rfl ?_
    refine t_X10_setCount hD hM hW hx ha (fun h2 => absurd hb h2) (fun h2 h3 => ?_) (fun h2 h3 => absurd h3 hb2)
    refine x_ic_eq (p2 := 752) (t := 962) (by decide) rfl dL_law_749 (fun hc749 => ?_) (fun hc749 => absurd hc749 (not_not_intro rfl))
    refine x_pick (L2 := [(0, _), (1, _), (2, _), (3, _)]) [0, 1, 2, 3] rfl ?_
    exact hgo _ h
  · skip
    refine x_aload_n (p2 := 731) rfl dL_law_730 rfl ?_
    refine x_sload_n (p2 := 732) rfl dL_law_731 rfl ?_
    refine x_iload_n (p2 := 733) rfl dL_law_732 rfl ?_
    refine x_iconst (p2 := 734) rfl dL_law_733 ⟨by decide, by decide⟩ ?_
    refine x_iadd (p2 := 735) rfl dL_law_734 ⟨by omega, by omega⟩ ?_
    refine x_sld (p2 := 736) rfl dL_law_735 (by omega) (by omega) ?_
    refine x_sload_n (p2 := 737) rfl dL_law_736 rfl ?_
    refine x_iload_n (p2 := 738) rfl dL_law_737 rfl ?_
    refine x_iconst (p2 := 739) rfl dL_law_738 ⟨by decide, by decide⟩ ?_
    refine x_iadd (p2 := 740) rfl dL_law_739 ⟨by omega, by omega⟩ ?_
    refine x_sld (p2 := 741) rfl dL_law_740 (by omega) (by omega) ?_
    refine x_sload_n (p2 := 742) rfl dL_law_741 rfl ?_
    refine x_iload_n (p2 := 743) rfl dL_law_742 rfl ?_
    refine x_iconst (p2 := 744) rfl dL_law_743 ⟨by decide, by decide⟩ ?_
    refine x_iadd (p2 := 745) rfl dL_law_744 ⟨by omega, by omega⟩ ?_
    refine x_sld (p2 := 746) rfl dL_law_745 (by omega) (by omega) ?_
    refine x_v3 (p2 := 749) rfl dL_law_746 l_11_120 ok_X10_setCount rfl hD.sh rfl ?_
    obtain ⟨hM1, hx1, ha1, ht1⟩ := h.md ho (ca.hi ho hI hca)
    refine t_X10_setCount hD hM1 hW hx1 ha1 (fun h2 => absurd hb h2) (fun h2 h3 => absurd hb2 h3) (fun h2 h3 M2 hra => ?_)
    refine x_ic_eq (p2 := 752) (t := 962) (by decide) rfl dL_law_749 (fun hc749 => ?_) (fun hc749 => absurd hc749 (not_not_intro rfl))
    refine x_pick (L2 := [(0, _), (1, _), (2, _), (3, _)]) [0, 1, 2, 3] rfl ?_
    exact hgo _ (h.a ho hca hra ⟨wfG_ct hG hb2, hW.2⟩)
set_option maxHeartbeats 4000000 in
theorem t_law_26 {B F S T V Z H X C P D : Nat} (hB : isBL σ ρ B F S T V Z H X C P) (hD : isMd σ ρ D) (ho : ord B F S T V Z H X C P D) (hN : gN G ≤ 2048) (h : rel M F S V Z H X D) {i : Int} (hi : 0 ≤ i ∧ i + 4 ≤ gN G) (hgo : ∀ M2, rel M2 F S V Z H X D → xX G mL_law 0 0 962 [(0, xS), (1, xP B), (2, xP D), (3, xI i)] [] (σ, ρ, M2) Q) : xX G mL_law 0 0 754 [(0, xS), (1, xP B), (2, xP D), (3, xI i)] [] (σ, ρ, M) Q := by
  have hI := h.1
  have hW := hI.1
  have hG : wfG (M F 0) (M (S + 1)) (M (S + 2)) (M (S + 3)) := hW.1
  obtain ⟨hM, hx, ha, ht⟩ := h.md ho (fun _ _ => rfl)
  have ho2 := ho
  obtain ⟨o1, o2⟩ := ho2
  have h9 := h.2.2.2.1
  refine x_aload_n (p2 := 755) rfl dL_law_754 rfl ?_
  refine x_sload_n (p2 := 756) rfl dL_law_755 rfl ?_
  refine x_iload_n (p2 := 757) rfl dL_law_756 rfl ?_
  refine x_iconst (p2 := 758) rfl dL_law_757 ⟨by decide, by decide⟩ ?_
  refine x_iadd (p2 := 759) rfl dL_law_758 ⟨by omega, by omega⟩ ?_
  refine x_sld (p2 := 760) rfl dL_law_759 (by omega) (by omega) ?_
  refine x_v1 (p2 := 763) rfl dL_law_760 l_11_121 ok_X9_setAlignment rfl hB.sh rfl ?_
  refine t_X9_setAlignment hB hI (fun hb => ?_) (fun hb M1 hca => ?_)
  · skip
    refine x_aload_n (p2 := 764) rfl dL_law_763 rfl ?_
    refine x_sload_n (p2 := 765) rfl dL_law_764 rfl ?_
    refine x_iload_n (p2 := 766) rfl dL_law_765 rfl ?_
    refine x_iconst (p2 := 767) rfl dL_law_766 ⟨by decide, by decide⟩ ?_
    refine x_iadd (p2 := 768) rfl dL_law_767 ⟨by omega, by omega⟩ ?_
    refine x_sld (p2 := 769) rfl dL_law_768 (by omega) (by omega) ?_
    refine x_v1 (p2 := 772) rfl dL_law_769 l_11_124 ok_X10_setAlignment rfl hD.sh rfl ?_
    refine t_X10_setAlignment hD hM hW hx ha (fun h2 => ?_) (fun h2 => absurd h2 hb)
    refine x_ic_eq (p2 := 775) (t := 962) (by decide) rfl dL_law_772 (fun hc772 => ?_) (fun hc772 => absurd hc772 (not_not_intro rfl))
    refine x_pick (L2 := [(0, _), (1, _), (2, _), (3, _)]) [0, 1, 2, 3] rfl ?_
    exact hgo _ h
  · skip
    refine x_aload_n (p2 := 764) rfl dL_law_763 rfl ?_
    refine x_sload_n (p2 := 765) rfl dL_law_764 rfl ?_
    refine x_iload_n (p2 := 766) rfl dL_law_765 rfl ?_
    refine x_iconst (p2 := 767) rfl dL_law_766 ⟨by decide, by decide⟩ ?_
    refine x_iadd (p2 := 768) rfl dL_law_767 ⟨by omega, by omega⟩ ?_
    refine x_sld (p2 := 769) rfl dL_law_768 (by omega) (by omega) ?_
    refine x_v1 (p2 := 772) rfl dL_law_769 l_11_124 ok_X10_setAlignment rfl hD.sh rfl ?_
    obtain ⟨hM1, hx1, ha1, ht1⟩ := h.md ho (ca.hi ho hI hca)
    refine t_X10_setAlignment hD hM1 hW hx1 ha1 (fun h2 => absurd hb h2) (fun h2 M2 hra => ?_)
    refine x_ic_eq (p2 := 775) (t := 962) (by decide) rfl dL_law_772 (fun hc772 => ?_) (fun hc772 => absurd hc772 (not_not_intro rfl))
    refine x_pick (L2 := [(0, _), (1, _), (2, _), (3, _)]) [0, 1, 2, 3] rfl ?_
    exact hgo _ (h.a ho hca hra ⟨hW.1, hW.2.1, hb, hW.2.2.2⟩)
set_option maxHeartbeats 4000000 in
theorem t_law_19 {B F S T V Z H X C P D : Nat} (hB : isBL σ ρ B F S T V Z H X C P) (hD : isMd σ ρ D) (ho : ord B F S T V Z H X C P D) (hN : gN G ≤ 2048) (h : rel M F S V Z H X D) {i : Int} (hi : 0 ≤ i ∧ i + 4 ≤ gN G) (hgo : ∀ M2, rel M2 F S V Z H X D → xX G mL_law 0 0 962 [(0, xS), (1, xP B), (2, xP D), (3, xI i)] [] (σ, ρ, M2) Q) : xX G mL_law 0 0 573 [(0, xS), (1, xP B), (2, xP D), (3, xI i)] [] (σ, ρ, M) Q := by
  have hI := h.1
  have hW := hI.1
  have hG : wfG (M F 0) (M (S + 1)) (M (S + 2)) (M (S + 3)) := hW.1
  obtain ⟨hM, hx, ha, ht⟩ := h.md ho (fun _ _ => rfl)
  have ho2 := ho
  obtain ⟨o1, o2⟩ := ho2
  have h9 := h.2.2.2.1
  refine x_aload_n (p2 := 574) rfl dL_law_573 rfl ?_
  refine x_v0 (p2 := 577) rfl dL_law_574 l_11_92 ok_X9_orderByChains rfl hB.sh rfl ?_
  refine t_X9_orderByChains hB hI (fun M1 hd nx hd1 hd2 hca => ?_)
  refine x_aload_n (p2 := 578) rfl dL_law_577 rfl ?_
  refine x_v0 (p2 := 581) rfl dL_law_578 l_11_95 ok_X10_orderByChains rfl hD.sh rfl ?_
  obtain ⟨hM1, hx1, ha1, ht1⟩ := h.md ho (ca.hi ho hI hca)
  refine t_X10_orderByChains hD hM1 hW hx1 ha1 hd1 hd2 (fun M2 hra => ?_)
  refine x_ic_eq (p2 := 584) (t := 962) (by decide) rfl dL_law_581 (fun hc581 => ?_) (fun hc581 => absurd hc581 (not_not_intro rfl))
  refine x_pick (L2 := [(0, _), (1, _), (2, _), (3, _)]) [0, 1, 2, 3] rfl ?_
  obtain ⟨c0, hC0⟩ := mgl_ch hG
  have hn1 := hG.1
  have hC := chn_agr (by omega) hd1 hd2 hC0
  exact hgo _ (h.a ho hca hra ⟨hG, aro_wf hG hC, hW.2.2⟩)
set_option maxHeartbeats 4000000 in
theorem t_law_20 {B F S T V Z H X C P D : Nat} (hB : isBL σ ρ B F S T V Z H X C P) (hD : isMd σ ρ D) (ho : ord B F S T V Z H X C P D) (hN : gN G ≤ 2048) (h : rel M F S V Z H X D) {i : Int} (hi : 0 ≤ i ∧ i + 4 ≤ gN G) (hgo : ∀ M2, rel M2 F S V Z H X D → xX G mL_law 0 0 962 [(0, xS), (1, xP B), (2, xP D), (3, xI i)] [] (σ, ρ, M2) Q) : xX G mL_law 0 0 586 [(0, xS), (1, xP B), (2, xP D), (3, xI i)] [] (σ, ρ, M) Q := by
  have hI := h.1
  have hW := hI.1
  have hG : wfG (M F 0) (M (S + 1)) (M (S + 2)) (M (S + 3)) := hW.1
  obtain ⟨hM, hx, ha, ht⟩ := h.md ho (fun _ _ => rfl)
  have ho2 := ho
  obtain ⟨o1, o2⟩ := ho2
  have h9 := h.2.2.2.1
  refine x_aload_n (p2 := 587) rfl dL_law_586 rfl ?_
  refine x_v0 (p2 := 590) rfl dL_law_587 l_11_96 ok_X9_orderOptimally rfl hB.sh rfl ?_
  refine t_X9_orderOptimally hB hI (fun M1 hca => ?_)
  refine x_aload_n (p2 := 591) rfl dL_law_590 rfl ?_
  refine x_v0 (p2 := 594) rfl dL_law_591 l_11_99 ok_X10_orderOptimally rfl hD.sh rfl ?_
  obtain ⟨hM1, hx1, ha1, ht1⟩ := h.md ho (ca.hi ho hI hca)
  refine t_X10_orderOptimally hD hM1 hW hx1 ha1 (fun M2 hra => ?_)
  refine x_ic_eq (p2 := 597) (t := 962) (by decide) rfl dL_law_594 (fun hc594 => ?_) (fun hc594 => absurd hc594 (not_not_intro rfl))
  refine x_pick (L2 := [(0, _), (1, _), (2, _), (3, _)]) [0, 1, 2, 3] rfl ?_
  exact hgo _ (h.a ho hca hra (vop_wf hW))
set_option maxHeartbeats 4000000 in
theorem t_law_28 {B F S T V Z H X C P D : Nat} (hB : isBL σ ρ B F S T V Z H X C P) (hD : isMd σ ρ D) (ho : ord B F S T V Z H X C P D) (hN : gN G ≤ 2048) (h : rel M F S V Z H X D) {i : Int} (hi : 0 ≤ i ∧ i + 4 ≤ gN G) (hgo : ∀ M2, rel M2 F S V Z H X D → xX G mL_law 0 0 962 [(0, xS), (1, xP B), (2, xP D), (3, xI i)] [] (σ, ρ, M2) Q) : xX G mL_law 0 0 790 [(0, xS), (1, xP B), (2, xP D), (3, xI i)] [] (σ, ρ, M) Q := by
  have hI := h.1
  have hW := hI.1
  have hG : wfG (M F 0) (M (S + 1)) (M (S + 2)) (M (S + 3)) := hW.1
  obtain ⟨hM, hx, ha, ht⟩ := h.md ho (fun _ _ => rfl)
  have ho2 := ho
  obtain ⟨o1, o2⟩ := ho2
  have h9 := h.2.2.2.1
  refine x_aload_n (p2 := 791) rfl dL_law_790 rfl ?_
  refine x_sload_n (p2 := 792) rfl dL_law_791 rfl ?_
  refine x_iload_n (p2 := 793) rfl dL_law_792 rfl ?_
  refine x_iconst (p2 := 794) rfl dL_law_793 ⟨by decide, by decide⟩ ?_
  refine x_iadd (p2 := 795) rfl dL_law_794 ⟨by omega, by omega⟩ ?_
  refine x_sld (p2 := 796) rfl dL_law_795 (by omega) (by omega) ?_
  refine x_sload_n (p2 := 797) rfl dL_law_796 rfl ?_
  refine x_iload_n (p2 := 798) rfl dL_law_797 rfl ?_
  refine x_iconst (p2 := 799) rfl dL_law_798 ⟨by decide, by decide⟩ ?_
  refine x_iadd (p2 := 800) rfl dL_law_799 ⟨by omega, by omega⟩ ?_
  refine x_sld (p2 := 801) rfl dL_law_800 (by omega) (by omega) ?_
  refine x_i2l (p2 := 802) rfl dL_law_801 ?_
  refine x_bipush (p2 := 804) rfl dL_law_802 ⟨by decide, ⟨by decide, by decide⟩⟩ ?_
  refine x_lshl (p2 := 805) rfl dL_law_804 ?_
  refine x_sload_n (p2 := 806) rfl dL_law_805 rfl ?_
  refine x_iload_n (p2 := 807) rfl dL_law_806 rfl ?_
  refine x_iconst (p2 := 808) rfl dL_law_807 ⟨by decide, by decide⟩ ?_
  refine x_iadd (p2 := 809) rfl dL_law_808 ⟨by omega, by omega⟩ ?_
  refine x_sld (p2 := 810) rfl dL_law_809 (by omega) (by omega) ?_
  refine x_i2l (p2 := 811) rfl dL_law_810 ?_
  refine x_ldc2 (p2 := 814) rfl dL_law_811 q_11_129 ?_
  refine x_land (p2 := 815) rfl dL_law_814 ?_
  refine x_lor (p2 := 816) rfl dL_law_815 ?_
  refine x_v2 (p2 := 819) rfl dL_law_816 l_11_131 ok_X9_runScript rfl hB.sh rfl ?_
  refine t_X9_runScript hB hI (fun hb => ?_) (fun hb M0 M1 hs1 hq1 => ?_)
  · skip
    refine x_aload_n (p2 := 820) rfl dL_law_819 rfl ?_
    refine x_sload_n (p2 := 821) rfl dL_law_820 rfl ?_
    refine x_iload_n (p2 := 822) rfl dL_law_821 rfl ?_
    refine x_iconst (p2 := 823) rfl dL_law_822 ⟨by decide, by decide⟩ ?_
    refine x_iadd (p2 := 824) rfl dL_law_823 ⟨by omega, by omega⟩ ?_
    refine x_sld (p2 := 825) rfl dL_law_824 (by omega) (by omega) ?_
    refine x_sload_n (p2 := 826) rfl dL_law_825 rfl ?_
    refine x_iload_n (p2 := 827) rfl dL_law_826 rfl ?_
    refine x_iconst (p2 := 828) rfl dL_law_827 ⟨by decide, by decide⟩ ?_
    refine x_iadd (p2 := 829) rfl dL_law_828 ⟨by omega, by omega⟩ ?_
    refine x_sld (p2 := 830) rfl dL_law_829 (by omega) (by omega) ?_
    refine x_i2l (p2 := 831) rfl dL_law_830 ?_
    refine x_bipush (p2 := 833) rfl dL_law_831 ⟨by decide, ⟨by decide, by decide⟩⟩ ?_
    refine x_lshl (p2 := 834) rfl dL_law_833 ?_
    refine x_sload_n (p2 := 835) rfl dL_law_834 rfl ?_
    refine x_iload_n (p2 := 836) rfl dL_law_835 rfl ?_
    refine x_iconst (p2 := 837) rfl dL_law_836 ⟨by decide, by decide⟩ ?_
    refine x_iadd (p2 := 838) rfl dL_law_837 ⟨by omega, by omega⟩ ?_
    refine x_sld (p2 := 839) rfl dL_law_838 (by omega) (by omega) ?_
    refine x_i2l (p2 := 840) rfl dL_law_839 ?_
    refine x_ldc2 (p2 := 843) rfl dL_law_840 q_11_129 ?_
    refine x_land (p2 := 844) rfl dL_law_843 ?_
    refine x_lor (p2 := 845) rfl dL_law_844 ?_
    refine x_v2 (p2 := 848) rfl dL_law_845 l_11_135 ok_X10_runScript rfl hD.sh rfl ?_
    refine t_X10_runScript hD hM hW (fun h2 => ?_) (fun h2 => absurd h2 hb)
    refine x_ic_eq (p2 := 851) (t := 962) (by decide) rfl dL_law_848 (fun hc848 => ?_) (fun hc848 => absurd hc848 (not_not_intro rfl))
    refine x_pick (L2 := [(0, _), (1, _), (2, _), (3, _)]) [0, 1, 2, 3] rfl ?_
    exact hgo _ h
  · skip
    refine x_aload_n (p2 := 820) rfl dL_law_819 rfl ?_
    refine x_sload_n (p2 := 821) rfl dL_law_820 rfl ?_
    refine x_iload_n (p2 := 822) rfl dL_law_821 rfl ?_
    refine x_iconst (p2 := 823) rfl dL_law_822 ⟨by decide, by decide⟩ ?_
    refine x_iadd (p2 := 824) rfl dL_law_823 ⟨by omega, by omega⟩ ?_
    refine x_sld (p2 := 825) rfl dL_law_824 (by omega) (by omega) ?_
    refine x_sload_n (p2 := 826) rfl dL_law_825 rfl ?_
    refine x_iload_n (p2 := 827) rfl dL_law_826 rfl ?_
    refine x_iconst (p2 := 828) rfl dL_law_827 ⟨by decide, by decide⟩ ?_
    refine x_iadd (p2 := 829) rfl dL_law_828 ⟨by omega, by omega⟩ ?_
    refine x_sld (p2 := 830) rfl dL_law_829 (by omega) (by omega) ?_
    refine x_i2l (p2 := 831) rfl dL_law_830 ?_
    refine x_bipush (p2 := 833) rfl dL_law_831 ⟨by decide, ⟨by decide, by decide⟩⟩ ?_
    refine x_lshl (p2 := 834) rfl dL_law_833 ?_
    refine x_sload_n (p2 := 835) rfl dL_law_834 rfl ?_
    refine x_iload_n (p2 := 836) rfl dL_law_835 rfl ?_
    refine x_iconst (p2 := 837) rfl dL_law_836 ⟨by decide, by decide⟩ ?_
    refine x_iadd (p2 := 838) rfl dL_law_837 ⟨by omega, by omega⟩ ?_
    refine x_sld (p2 := 839) rfl dL_law_838 (by omega) (by omega) ?_
    refine x_i2l (p2 := 840) rfl dL_law_839 ?_
    refine x_ldc2 (p2 := 843) rfl dL_law_840 q_11_129 ?_
    refine x_land (p2 := 844) rfl dL_law_843 ?_
    refine x_lor (p2 := 845) rfl dL_law_844 ?_
    refine x_v2 (p2 := 848) rfl dL_law_845 l_11_135 ok_X10_runScript rfl hD.sh rfl ?_
    obtain ⟨hM1, hx1, ha1, ht1⟩ := h.md ho (cq.hi ho hq1)
    refine t_X10_runScript hD (md_q hM1 hW hs1) (wfV_q hs1 hW) (fun h2 => absurd hb h2) (fun h2 M2 hq2 => ?_)
    refine x_ic_eq (p2 := 851) (t := 962) (by decide) rfl dL_law_848 (fun hc848 => ?_) (fun hc848 => absurd hc848 (not_not_intro rfl))
    refine x_pick (L2 := [(0, _), (1, _), (2, _), (3, _)]) [0, 1, 2, 3] rfl ?_
    exact hgo _ (h.q ho hq1 hq2.q)
set_option maxHeartbeats 4000000 in
theorem t_law_29 {B F S T V Z H X C P D : Nat} (hB : isBL σ ρ B F S T V Z H X C P) (hD : isMd σ ρ D) (ho : ord B F S T V Z H X C P D) (hN : gN G ≤ 2048) (h : rel M F S V Z H X D) {i : Int} (hi : 0 ≤ i ∧ i + 4 ≤ gN G) (hgo : ∀ M2, rel M2 F S V Z H X D → xX G mL_law 0 0 962 [(0, xS), (1, xP B), (2, xP D), (3, xI i)] [] (σ, ρ, M2) Q) : xX G mL_law 0 0 853 [(0, xS), (1, xP B), (2, xP D), (3, xI i)] [] (σ, ρ, M) Q := by
  have hI := h.1
  have hW := hI.1
  have hG : wfG (M F 0) (M (S + 1)) (M (S + 2)) (M (S + 3)) := hW.1
  obtain ⟨hM, hx, ha, ht⟩ := h.md ho (fun _ _ => rfl)
  have ho2 := ho
  obtain ⟨o1, o2⟩ := ho2
  have h9 := h.2.2.2.1
  refine x_aload_n (p2 := 854) rfl dL_law_853 rfl ?_
  refine x_sload_n (p2 := 855) rfl dL_law_854 rfl ?_
  refine x_iload_n (p2 := 856) rfl dL_law_855 rfl ?_
  refine x_iconst (p2 := 857) rfl dL_law_856 ⟨by decide, by decide⟩ ?_
  refine x_iadd (p2 := 858) rfl dL_law_857 ⟨by omega, by omega⟩ ?_
  refine x_sld (p2 := 859) rfl dL_law_858 (by omega) (by omega) ?_
  refine x_i2l (p2 := 860) rfl dL_law_859 ?_
  refine x_bipush (p2 := 862) rfl dL_law_860 ⟨by decide, ⟨by decide, by decide⟩⟩ ?_
  refine x_lshl (p2 := 863) rfl dL_law_862 ?_
  refine x_sload_n (p2 := 864) rfl dL_law_863 rfl ?_
  refine x_iload_n (p2 := 865) rfl dL_law_864 rfl ?_
  refine x_iconst (p2 := 866) rfl dL_law_865 ⟨by decide, by decide⟩ ?_
  refine x_iadd (p2 := 867) rfl dL_law_866 ⟨by omega, by omega⟩ ?_
  refine x_sld (p2 := 868) rfl dL_law_867 (by omega) (by omega) ?_
  refine x_i2l (p2 := 869) rfl dL_law_868 ?_
  refine x_ldc2 (p2 := 872) rfl dL_law_869 q_11_129 ?_
  refine x_land (p2 := 873) rfl dL_law_872 ?_
  refine x_lor (p2 := 874) rfl dL_law_873 ?_
  refine x_sload_n (p2 := 875) rfl dL_law_874 rfl ?_
  refine x_iload_n (p2 := 876) rfl dL_law_875 rfl ?_
  refine x_iconst (p2 := 877) rfl dL_law_876 ⟨by decide, by decide⟩ ?_
  refine x_iadd (p2 := 878) rfl dL_law_877 ⟨by omega, by omega⟩ ?_
  refine x_sld (p2 := 879) rfl dL_law_878 (by omega) (by omega) ?_
  refine x_v2 (p2 := 882) rfl dL_law_879 l_11_136 ok_X9_execute rfl hB.sh rfl ?_
  refine t_X9_execute hB hI (fun hb => ?_) (fun hb => ?_)
  · skip
    refine x_aload_n (p2 := 883) rfl dL_law_882 rfl ?_
    refine x_sload_n (p2 := 884) rfl dL_law_883 rfl ?_
    refine x_iload_n (p2 := 885) rfl dL_law_884 rfl ?_
    refine x_iconst (p2 := 886) rfl dL_law_885 ⟨by decide, by decide⟩ ?_
    refine x_iadd (p2 := 887) rfl dL_law_886 ⟨by omega, by omega⟩ ?_
    refine x_sld (p2 := 888) rfl dL_law_887 (by omega) (by omega) ?_
    refine x_i2l (p2 := 889) rfl dL_law_888 ?_
    refine x_bipush (p2 := 891) rfl dL_law_889 ⟨by decide, ⟨by decide, by decide⟩⟩ ?_
    refine x_lshl (p2 := 892) rfl dL_law_891 ?_
    refine x_sload_n (p2 := 893) rfl dL_law_892 rfl ?_
    refine x_iload_n (p2 := 894) rfl dL_law_893 rfl ?_
    refine x_iconst (p2 := 895) rfl dL_law_894 ⟨by decide, by decide⟩ ?_
    refine x_iadd (p2 := 896) rfl dL_law_895 ⟨by omega, by omega⟩ ?_
    refine x_sld (p2 := 897) rfl dL_law_896 (by omega) (by omega) ?_
    refine x_i2l (p2 := 898) rfl dL_law_897 ?_
    refine x_ldc2 (p2 := 901) rfl dL_law_898 q_11_129 ?_
    refine x_land (p2 := 902) rfl dL_law_901 ?_
    refine x_lor (p2 := 903) rfl dL_law_902 ?_
    refine x_sload_n (p2 := 904) rfl dL_law_903 rfl ?_
    refine x_iload_n (p2 := 905) rfl dL_law_904 rfl ?_
    refine x_iconst (p2 := 906) rfl dL_law_905 ⟨by decide, by decide⟩ ?_
    refine x_iadd (p2 := 907) rfl dL_law_906 ⟨by omega, by omega⟩ ?_
    refine x_sld (p2 := 908) rfl dL_law_907 (by omega) (by omega) ?_
    refine x_v2 (p2 := 911) rfl dL_law_908 l_11_140 ok_X10_execute rfl hD.sh rfl ?_
    refine t_X10_execute hD hM hW (fun h2 => ?_) (fun h2 => absurd h2 hb)
    refine x_ic_eq (p2 := 914) (t := 962) (by decide) rfl dL_law_911 (fun hc911 => ?_) (fun hc911 => absurd hc911 (not_not_intro rfl))
    refine x_pick (L2 := [(0, _), (1, _), (2, _), (3, _)]) [0, 1, 2, 3] rfl ?_
    exact hgo _ h
  · skip
    refine x_aload_n (p2 := 883) rfl dL_law_882 rfl ?_
    refine x_sload_n (p2 := 884) rfl dL_law_883 rfl ?_
    refine x_iload_n (p2 := 885) rfl dL_law_884 rfl ?_
    refine x_iconst (p2 := 886) rfl dL_law_885 ⟨by decide, by decide⟩ ?_
    refine x_iadd (p2 := 887) rfl dL_law_886 ⟨by omega, by omega⟩ ?_
    refine x_sld (p2 := 888) rfl dL_law_887 (by omega) (by omega) ?_
    refine x_i2l (p2 := 889) rfl dL_law_888 ?_
    refine x_bipush (p2 := 891) rfl dL_law_889 ⟨by decide, ⟨by decide, by decide⟩⟩ ?_
    refine x_lshl (p2 := 892) rfl dL_law_891 ?_
    refine x_sload_n (p2 := 893) rfl dL_law_892 rfl ?_
    refine x_iload_n (p2 := 894) rfl dL_law_893 rfl ?_
    refine x_iconst (p2 := 895) rfl dL_law_894 ⟨by decide, by decide⟩ ?_
    refine x_iadd (p2 := 896) rfl dL_law_895 ⟨by omega, by omega⟩ ?_
    refine x_sld (p2 := 897) rfl dL_law_896 (by omega) (by omega) ?_
    refine x_i2l (p2 := 898) rfl dL_law_897 ?_
    refine x_ldc2 (p2 := 901) rfl dL_law_898 q_11_129 ?_
    refine x_land (p2 := 902) rfl dL_law_901 ?_
    refine x_lor (p2 := 903) rfl dL_law_902 ?_
    refine x_sload_n (p2 := 904) rfl dL_law_903 rfl ?_
    refine x_iload_n (p2 := 905) rfl dL_law_904 rfl ?_
    refine x_iconst (p2 := 906) rfl dL_law_905 ⟨by decide, by decide⟩ ?_
    refine x_iadd (p2 := 907) rfl dL_law_906 ⟨by omega, by omega⟩ ?_
    refine x_sld (p2 := 908) rfl dL_law_907 (by omega) (by omega) ?_
    refine x_v2 (p2 := 911) rfl dL_law_908 l_11_140 ok_X10_execute rfl hD.sh rfl ?_
    refine t_X10_execute hD hM hW (fun h2 => absurd hb h2) (fun h2 => ?_)
    refine x_ic_eq (p2 := 914) (t := 962) (by decide) rfl dL_law_911 (fun hc911 => ?_) (fun hc911 => absurd hc911 (not_not_intro rfl))
    refine x_pick (L2 := [(0, _), (1, _), (2, _), (3, _)]) [0, 1, 2, 3] rfl ?_
    exact hgo _ h
set_option maxHeartbeats 4000000 in
theorem t_law_27 {B F S T V Z H X C P D : Nat} (hB : isBL σ ρ B F S T V Z H X C P) (hD : isMd σ ρ D) (ho : ord B F S T V Z H X C P D) (hN : gN G ≤ 2048) (h : rel M F S V Z H X D) {i : Int} (hi : 0 ≤ i ∧ i + 4 ≤ gN G) (hgo : ∀ M2, rel M2 F S V Z H X D → xX G mL_law 0 0 962 [(0, xS), (1, xP B), (2, xP D), (3, xI i)] [] (σ, ρ, M2) Q) : xX G mL_law 0 0 777 [(0, xS), (1, xP B), (2, xP D), (3, xI i)] [] (σ, ρ, M) Q := by
  have hI := h.1
  have hW := hI.1
  have hG : wfG (M F 0) (M (S + 1)) (M (S + 2)) (M (S + 3)) := hW.1
  obtain ⟨hM, hx, ha, ht⟩ := h.md ho (fun _ _ => rfl)
  have ho2 := ho
  obtain ⟨o1, o2⟩ := ho2
  have h9 := h.2.2.2.1
  refine x_aload_n (p2 := 778) rfl dL_law_777 rfl ?_
  refine x_v0 (p2 := 781) rfl dL_law_778 l_11_125 ok_X9_undo rfl hB.sh rfl ?_
  refine t_X9_undo hB hI (fun hb => ?_) (fun hb M1 g1 g2 g3 g4 => ?_)
  · skip
    refine x_aload_n (p2 := 782) rfl dL_law_781 rfl ?_
    refine x_v0 (p2 := 785) rfl dL_law_782 l_11_128 ok_X10_undo rfl hD.sh rfl ?_
    refine t_X10_undo hD hx ha (fun h2 => ?_) (fun h2 => (by omega : False).elim)
    refine x_ic_eq (p2 := 788) (t := 962) (by decide) rfl dL_law_785 (fun hc785 => ?_) (fun hc785 => absurd hc785 (not_not_intro rfl))
    refine x_pick (L2 := [(0, _), (1, _), (2, _), (3, _)]) [0, 1, 2, 3] rfl ?_
    exact hgo _ h
  · skip
    refine x_aload_n (p2 := 782) rfl dL_law_781 rfl ?_
    refine x_v0 (p2 := 785) rfl dL_law_782 l_11_128 ok_X10_undo rfl hD.sh rfl ?_
    have eD : M1 D = M D := g1 D (by omega) (by omega)
    refine t_X10_undo hD (by rw [eD]; exact hx) (by rw [eD]; exact ha) (fun h2 => (by rw [eD] at h2; omega : False).elim) (fun h2 M2 k1 k2 k3 k4 k5 => ?_)
    refine x_ic_eq (p2 := 788) (t := 962) (by decide) rfl dL_law_785 (fun hc785 => ?_) (fun hc785 => absurd hc785 (not_not_intro (by rw [eD, h9])))
    refine x_pick (L2 := [(0, _), (1, _), (2, _), (3, _)]) [0, 1, 2, 3] rfl ?_
    exact hgo _ (h.undo ho hb g1 g2 g3 g4 k1 k2 k3 k4 k5)
set_option maxHeartbeats 4000000 in
theorem t_law_30 {B F S T V Z H X C P D : Nat} (hB : isBL σ ρ B F S T V Z H X C P) (hD : isMd σ ρ D) (ho : ord B F S T V Z H X C P D) (hN : gN G ≤ 2048) (h : rel M F S V Z H X D) {i : Int} (hi : 0 ≤ i ∧ i + 4 ≤ gN G) (hgo : ∀ M2, rel M2 F S V Z H X D → xX G mL_law 0 0 962 [(0, xS), (1, xP B), (2, xP D), (3, xI i)] [] (σ, ρ, M2) Q) : xX G mL_law 0 0 916 [(0, xS), (1, xP B), (2, xP D), (3, xI i)] [] (σ, ρ, M) Q := by
  have hI := h.1
  have hW := hI.1
  have hG : wfG (M F 0) (M (S + 1)) (M (S + 2)) (M (S + 3)) := hW.1
  obtain ⟨hM, hx, ha, ht⟩ := h.md ho (fun _ _ => rfl)
  have ho2 := ho
  obtain ⟨o1, o2⟩ := ho2
  have h9 := h.2.2.2.1
  refine x_aload_n (p2 := 917) rfl dL_law_916 rfl ?_
  refine x_sload_n (p2 := 918) rfl dL_law_917 rfl ?_
  refine x_iload_n (p2 := 919) rfl dL_law_918 rfl ?_
  refine x_iconst (p2 := 920) rfl dL_law_919 ⟨by decide, by decide⟩ ?_
  refine x_iadd (p2 := 921) rfl dL_law_920 ⟨by omega, by omega⟩ ?_
  refine x_sld (p2 := 922) rfl dL_law_921 (by omega) (by omega) ?_
  refine x_v1 (p2 := 925) rfl dL_law_922 l_11_141 ok_X9_save rfl hB.sh rfl ?_
  refine t_X9_save hB hI (fun hb => ?_) (fun hb M1 g1 g2 g3 => ?_)
  · skip
    refine x_aload_n (p2 := 926) rfl dL_law_925 rfl ?_
    refine x_sload_n (p2 := 927) rfl dL_law_926 rfl ?_
    refine x_iload_n (p2 := 928) rfl dL_law_927 rfl ?_
    refine x_iconst (p2 := 929) rfl dL_law_928 ⟨by decide, by decide⟩ ?_
    refine x_iadd (p2 := 930) rfl dL_law_929 ⟨by omega, by omega⟩ ?_
    refine x_sld (p2 := 931) rfl dL_law_930 (by omega) (by omega) ?_
    refine x_v1 (p2 := 934) rfl dL_law_931 l_11_144 ok_X10_save rfl hD.sh rfl ?_
    refine t_X10_save hD (fun h2 => ?_) (fun h2 => absurd h2 hb)
    refine x_ic_eq (p2 := 937) (t := 962) (by decide) rfl dL_law_934 (fun hc934 => ?_) (fun hc934 => absurd hc934 (not_not_intro rfl))
    refine x_pick (L2 := [(0, _), (1, _), (2, _), (3, _)]) [0, 1, 2, 3] rfl ?_
    exact hgo _ h
  · skip
    refine x_aload_n (p2 := 926) rfl dL_law_925 rfl ?_
    refine x_sload_n (p2 := 927) rfl dL_law_926 rfl ?_
    refine x_iload_n (p2 := 928) rfl dL_law_927 rfl ?_
    refine x_iconst (p2 := 929) rfl dL_law_928 ⟨by decide, by decide⟩ ?_
    refine x_iadd (p2 := 930) rfl dL_law_929 ⟨by omega, by omega⟩ ?_
    refine x_sld (p2 := 931) rfl dL_law_930 (by omega) (by omega) ?_
    refine x_v1 (p2 := 934) rfl dL_law_931 l_11_144 ok_X10_save rfl hD.sh rfl ?_
    have e3 : M1 (D + 3) = M (D + 3) := g1 _ (by omega) (by omega)
    refine t_X10_save hD (fun h2 => absurd hb h2) (fun h2 M2 k1 k2 k3 k4 => ?_)
    refine x_ic_eq (p2 := 937) (t := 962) (by decide) rfl dL_law_934 (fun hc934 => ?_) (fun hc934 => absurd hc934 (not_not_intro (by rw [e3]; exact hM.2.2.2.h.symm)))
    refine x_pick (L2 := [(0, _), (1, _), (2, _), (3, _)]) [0, 1, 2, 3] rfl ?_
    exact hgo _ (h.save ho hb g1 g2 g3 k1 k2 k3 k4)
set_option maxHeartbeats 4000000 in
theorem t_law_31 {B F S T V Z H X C P D : Nat} (hB : isBL σ ρ B F S T V Z H X C P) (hD : isMd σ ρ D) (ho : ord B F S T V Z H X C P D) (hN : gN G ≤ 2048) (h : rel M F S V Z H X D) {i : Int} (hi : 0 ≤ i ∧ i + 4 ≤ gN G) (hgo : ∀ M2, rel M2 F S V Z H X D → xX G mL_law 0 0 962 [(0, xS), (1, xP B), (2, xP D), (3, xI i)] [] (σ, ρ, M2) Q) : xX G mL_law 0 0 939 [(0, xS), (1, xP B), (2, xP D), (3, xI i)] [] (σ, ρ, M) Q := by
  have hI := h.1
  have hW := hI.1
  have hG : wfG (M F 0) (M (S + 1)) (M (S + 2)) (M (S + 3)) := hW.1
  obtain ⟨hM, hx, ha, ht⟩ := h.md ho (fun _ _ => rfl)
  have ho2 := ho
  obtain ⟨o1, o2⟩ := ho2
  have h9 := h.2.2.2.1
  refine x_aload_n (p2 := 940) rfl dL_law_939 rfl ?_
  refine x_sload_n (p2 := 941) rfl dL_law_940 rfl ?_
  refine x_iload_n (p2 := 942) rfl dL_law_941 rfl ?_
  refine x_iconst (p2 := 943) rfl dL_law_942 ⟨by decide, by decide⟩ ?_
  refine x_iadd (p2 := 944) rfl dL_law_943 ⟨by omega, by omega⟩ ?_
  refine x_sld (p2 := 945) rfl dL_law_944 (by omega) (by omega) ?_
  refine x_v1 (p2 := 948) rfl dL_law_945 l_11_145 ok_X9_restore rfl hB.sh rfl ?_
  refine t_X9_restore hB hI (fun hb => ?_) (fun hb hz => ?_) (fun hb hz M1 g1 g3 g4 g2 => ?_)
  · skip
    refine x_aload_n (p2 := 949) rfl dL_law_948 rfl ?_
    refine x_sload_n (p2 := 950) rfl dL_law_949 rfl ?_
    refine x_iload_n (p2 := 951) rfl dL_law_950 rfl ?_
    refine x_iconst (p2 := 952) rfl dL_law_951 ⟨by decide, by decide⟩ ?_
    refine x_iadd (p2 := 953) rfl dL_law_952 ⟨by omega, by omega⟩ ?_
    refine x_sld (p2 := 954) rfl dL_law_953 (by omega) (by omega) ?_
    refine x_v1 (p2 := 957) rfl dL_law_954 l_11_148 ok_X10_restore rfl hD.sh rfl ?_
    refine t_X10_restore hD (fun h2 => ?_) (fun h2 => absurd h2 hb) (fun h2 => absurd h2 hb)
    refine x_ic_eq (p2 := 960) (t := 962) (by decide) rfl dL_law_957 (fun hc957 => ?_) (fun hc957 => absurd hc957 (not_not_intro rfl))
    refine x_pick (L2 := [(0, _), (1, _), (2, _), (3, _)]) [0, 1, 2, 3] rfl ?_
    exact hgo _ h
  · skip
    refine x_aload_n (p2 := 949) rfl dL_law_948 rfl ?_
    refine x_sload_n (p2 := 950) rfl dL_law_949 rfl ?_
    refine x_iload_n (p2 := 951) rfl dL_law_950 rfl ?_
    refine x_iconst (p2 := 952) rfl dL_law_951 ⟨by decide, by decide⟩ ?_
    refine x_iadd (p2 := 953) rfl dL_law_952 ⟨by omega, by omega⟩ ?_
    refine x_sld (p2 := 954) rfl dL_law_953 (by omega) (by omega) ?_
    refine x_v1 (p2 := 957) rfl dL_law_954 l_11_148 ok_X10_restore rfl hD.sh rfl ?_
    have hk := h.2.2.2.2.2.2 _ hb.1 hb.2
    refine t_X10_restore hD (fun h2 => absurd hb h2) (fun h2 h3 => ?_) (fun h2 h3 => absurd (hk.1.trans hz) h3)
    refine x_ic_eq (p2 := 960) (t := 962) (by decide) rfl dL_law_957 (fun hc957 => ?_) (fun hc957 => absurd hc957 (not_not_intro rfl))
    refine x_pick (L2 := [(0, _), (1, _), (2, _), (3, _)]) [0, 1, 2, 3] rfl ?_
    exact hgo _ h
  · skip
    refine x_aload_n (p2 := 949) rfl dL_law_948 rfl ?_
    refine x_sload_n (p2 := 950) rfl dL_law_949 rfl ?_
    refine x_iload_n (p2 := 951) rfl dL_law_950 rfl ?_
    refine x_iconst (p2 := 952) rfl dL_law_951 ⟨by decide, by decide⟩ ?_
    refine x_iadd (p2 := 953) rfl dL_law_952 ⟨by omega, by omega⟩ ?_
    refine x_sld (p2 := 954) rfl dL_law_953 (by omega) (by omega) ?_
    refine x_v1 (p2 := 957) rfl dL_law_954 l_11_148 ok_X10_restore rfl hD.sh rfl ?_
    have hk := h.2.2.2.2.2.2 _ hb.1 hb.2
    have e8 : M1 (D + 8) = M (D + 8) := g1 _ (by omega) (by omega)
    have e7 : M1 (D + 7) = M (D + 7) := g1 _ (by omega) (by omega)
    have hkh := (hk.2 hz).h
    refine t_X10_restore hD (fun h2 => absurd hb h2) (fun h2 h3 => (by rw [e8, hk.1] at h3; omega : False).elim) (fun h2 h3 M2 k1 k2 k3 k4 => ?_)
    refine x_ic_eq (p2 := 960) (t := 962) (by decide) rfl dL_law_957 (fun hc957 => ?_) (fun hc957 => absurd hc957 (not_not_intro (by rw [e7]; rw [Int.add_zero] at hkh; exact hkh.symm)))
    refine x_pick (L2 := [(0, _), (1, _), (2, _), (3, _)]) [0, 1, 2, 3] rfl ?_
    exact hgo _ (h.rest ho hb hz g1 g3 g4 g2 k1 k2 k3 k4)
set_option maxHeartbeats 4000000 in
theorem t_law_3 {B F S T V Z H X C P D : Nat} (hB : isBL σ ρ B F S T V Z H X C P) (hD : isMd σ ρ D) (ho : ord B F S T V Z H X C P D) (hN : gN G ≤ 2048) (h : rel M F S V Z H X D) {i : Int} (hi : 0 ≤ i ∧ i + 4 ≤ gN G) (hgo : ∀ M2, rel M2 F S V Z H X D → xX G mL_law 0 0 962 [(0, xS), (1, xP B), (2, xP D), (3, xI i)] [] (σ, ρ, M2) Q) : xX G mL_law 0 0 225 [(0, xS), (1, xP B), (2, xP D), (3, xI i)] [] (σ, ρ, M) Q := by
  have hI := h.1
  have hW := hI.1
  have hG : wfG (M F 0) (M (S + 1)) (M (S + 2)) (M (S + 3)) := hW.1
  obtain ⟨hM, hx, ha, ht⟩ := h.md ho (fun _ _ => rfl)
  have ho2 := ho
  obtain ⟨o1, o2⟩ := ho2
  have h9 := h.2.2.2.1
  refine x_aload_n (p2 := 226) rfl dL_law_225 rfl ?_
  refine x_v0 (p2 := 229) rfl dL_law_226 l_11_27 ok_X9_load rfl hB.sh rfl ?_
  refine t_X9_load hB hI (fun hb M1 hq1 => ?_) (fun hb M1 g1 g2 g3 g4 g5 g6 g7 g8 g9 g10 g11 => ?_)
  · skip
    refine x_aload_n (p2 := 230) rfl dL_law_229 rfl ?_
    refine x_v0 (p2 := 233) rfl dL_law_230 l_11_30 ok_X10_load rfl hD.sh rfl ?_
    obtain ⟨hM1, hx1, ha1, ht1⟩ := h.md ho (cq.hi ho hq1)
    refine t_X10_load hD ht1 (fun h2 M2 hf2 => ?_) (fun h2 => absurd h2 hb)
    refine x_ic_eq (p2 := 236) (t := 962) (by decide) rfl dL_law_233 (fun hc233 => ?_) (fun hc233 => absurd hc233 (not_not_intro rfl))
    refine x_pick (L2 := [(0, _), (1, _), (2, _), (3, _)]) [0, 1, 2, 3] rfl ?_
    exact hgo _ (h.q ho hq1 hf2.q)
  · skip
    refine x_aload_n (p2 := 230) rfl dL_law_229 rfl ?_
    refine x_v0 (p2 := 233) rfl dL_law_230 l_11_30 ok_X10_load rfl hD.sh rfl ?_
    obtain ⟨hM1, hx1, ha1, ht1⟩ := h.md ho (fun c hc => g1 c (by omega) (by omega) (by omega) (by omega) (by omega) (by omega))
    refine t_X10_load hD ht1 (fun h2 => absurd hb h2) (fun h2 M2 k1 k2 k3 k4 k5 k6 k7 k8 k9 k10 => ?_)
    refine x_ic_eq (p2 := 236) (t := 962) (by decide) rfl dL_law_233 (fun hc233 => ?_) (fun hc233 => absurd hc233 (not_not_intro rfl))
    refine x_pick (L2 := [(0, _), (1, _), (2, _), (3, _)]) [0, 1, 2, 3] rfl ?_
    exact hgo _ (h.load ho rfl rfl hb.1 g1 g2 g3 g4 g5 g6 g7 g8 g9 g10 g11 k1 k2 k3 k4 k5 k6 k7 k8 k9 k10)
set_option maxHeartbeats 4000000 in
theorem t_law_1 {B F S T V Z H X C P D : Nat} (hB : isBL σ ρ B F S T V Z H X C P) (hD : isMd σ ρ D) (ho : ord B F S T V Z H X C P D) (hN : gN G ≤ 2048) (h : rel M F S V Z H X D) {i : Int} (hi : 0 ≤ i ∧ i + 4 ≤ gN G) (hgo : ∀ M2, rel M2 F S V Z H X D → xX G mL_law 0 0 962 [(0, xS), (1, xP B), (2, xP D), (3, xI i)] [] (σ, ρ, M2) Q) : xX G mL_law 0 0 199 [(0, xS), (1, xP B), (2, xP D), (3, xI i)] [] (σ, ρ, M) Q := by
  have hI := h.1
  have hW := hI.1
  have hG : wfG (M F 0) (M (S + 1)) (M (S + 2)) (M (S + 3)) := hW.1
  obtain ⟨hM, hx, ha, ht⟩ := h.md ho (fun _ _ => rfl)
  have ho2 := ho
  obtain ⟨o1, o2⟩ := ho2
  have h9 := h.2.2.2.1
  refine x_aload_n (p2 := 200) rfl dL_law_199 rfl ?_
  refine x_v0 (p2 := 203) rfl dL_law_200 l_11_18 ok_X9_clearText rfl hB.sh rfl ?_
  refine t_X9_clearText hB hI ?_
  refine x_aload_n (p2 := 204) rfl dL_law_203 rfl ?_
  refine x_v0 (p2 := 207) rfl dL_law_204 l_11_22 ok_X10_clearText rfl hD.sh rfl ?_
  refine t_X10_clearText hD ?_
  refine x_ic_eq (p2 := 210) (t := 962) (by decide) rfl dL_law_207 (fun hc207 => ?_) (fun hc207 => absurd hc207 (not_not_intro (by rw [xu_c (show D ≠ X by omega)]; exact ht.1.symm)))
  refine x_pick (L2 := [(0, _), (1, _), (2, _), (3, _)]) [0, 1, 2, 3] rfl ?_
  refine hgo _ (h.tx ho (fun c z1 z2 z3 z4 => by rw [xu_c z3, xu_c z1]) (fun f z => by rw [xu_j z, xu_c (show D ≠ X by omega)]) ⟨?_, ?_, ?_, fun j a b => ?_⟩)
  · rw [xu_s, xu_c (show X ≠ D by omega), xu_s]
  · rw [xu_c (show X ≠ D by omega), xu_s]; omega
  · rw [xu_c (show X ≠ D by omega), xu_s]; omega
  · rw [xu_c (show X ≠ D by omega), xu_s] at b; omega
set_option maxHeartbeats 4000000 in
theorem t_law_0 {B F S T V Z H X C P D : Nat} (hB : isBL σ ρ B F S T V Z H X C P) (hD : isMd σ ρ D) (ho : ord B F S T V Z H X C P D) (hN : gN G ≤ 2048) (h : rel M F S V Z H X D) {i : Int} (hi : 0 ≤ i ∧ i + 4 ≤ gN G) (hgo : ∀ M2, rel M2 F S V Z H X D → xX G mL_law 0 0 962 [(0, xS), (1, xP B), (2, xP D), (3, xI i)] [] (σ, ρ, M2) Q) : xX G mL_law 0 0 176 [(0, xS), (1, xP B), (2, xP D), (3, xI i)] [] (σ, ρ, M) Q := by
  have hI := h.1
  have hW := hI.1
  have hG : wfG (M F 0) (M (S + 1)) (M (S + 2)) (M (S + 3)) := hW.1
  obtain ⟨hM, hx, ha, ht⟩ := h.md ho (fun _ _ => rfl)
  have ho2 := ho
  obtain ⟨o1, o2⟩ := ho2
  have h9 := h.2.2.2.1
  refine x_aload_n (p2 := 177) rfl dL_law_176 rfl ?_
  refine x_sload_n (p2 := 178) rfl dL_law_177 rfl ?_
  refine x_iload_n (p2 := 179) rfl dL_law_178 rfl ?_
  refine x_iconst (p2 := 180) rfl dL_law_179 ⟨by decide, by decide⟩ ?_
  refine x_iadd (p2 := 181) rfl dL_law_180 ⟨by omega, by omega⟩ ?_
  refine x_sld (p2 := 182) rfl dL_law_181 (by omega) (by omega) ?_
  refine x_v1 (p2 := 185) rfl dL_law_182 l_11_13 ok_X9_append rfl hB.sh rfl ?_
  refine t_X9_append hB hI (fun hb => ?_) (fun hb hb2 => ?_) (fun hb hb2 => ?_)
  · skip
    refine x_aload_n (p2 := 186) rfl dL_law_185 rfl ?_
    refine x_sload_n (p2 := 187) rfl dL_law_186 rfl ?_
    refine x_iload_n (p2 := 188) rfl dL_law_187 rfl ?_
    refine x_iconst (p2 := 189) rfl dL_law_188 ⟨by decide, by decide⟩ ?_
    refine x_iadd (p2 := 190) rfl dL_law_189 ⟨by omega, by omega⟩ ?_
    refine x_sld (p2 := 191) rfl dL_law_190 (by omega) (by omega) ?_
    refine x_v1 (p2 := 194) rfl dL_law_191 l_11_17 ok_X10_append rfl hD.sh rfl ?_
    refine t_X10_append hD (by have := ht.1; have := ht.2.1; have := ht.2.2.1; omega) (fun h2 => ?_) (fun h2 => absurd h2 hb) (fun h2 => absurd h2 hb)
    refine x_ic_eq (p2 := 197) (t := 962) (by decide) rfl dL_law_194 (fun hc194 => ?_) (fun hc194 => absurd hc194 (not_not_intro rfl))
    refine x_pick (L2 := [(0, _), (1, _), (2, _), (3, _)]) [0, 1, 2, 3] rfl ?_
    exact hgo _ h
  · skip
    refine x_aload_n (p2 := 186) rfl dL_law_185 rfl ?_
    refine x_sload_n (p2 := 187) rfl dL_law_186 rfl ?_
    refine x_iload_n (p2 := 188) rfl dL_law_187 rfl ?_
    refine x_iconst (p2 := 189) rfl dL_law_188 ⟨by decide, by decide⟩ ?_
    refine x_iadd (p2 := 190) rfl dL_law_189 ⟨by omega, by omega⟩ ?_
    refine x_sld (p2 := 191) rfl dL_law_190 (by omega) (by omega) ?_
    refine x_v1 (p2 := 194) rfl dL_law_191 l_11_17 ok_X10_append rfl hD.sh rfl ?_
    refine t_X10_append hD (by have := ht.1; have := ht.2.1; have := ht.2.2.1; omega) (fun h2 => absurd hb h2) (fun h2 h3 => ?_) (fun h2 h3 => (by have := ht.1; omega : False).elim)
    refine x_ic_eq (p2 := 197) (t := 962) (by decide) rfl dL_law_194 (fun hc194 => ?_) (fun hc194 => absurd hc194 (not_not_intro rfl))
    refine x_pick (L2 := [(0, _), (1, _), (2, _), (3, _)]) [0, 1, 2, 3] rfl ?_
    exact hgo _ h
  · skip
    refine x_aload_n (p2 := 186) rfl dL_law_185 rfl ?_
    refine x_sload_n (p2 := 187) rfl dL_law_186 rfl ?_
    refine x_iload_n (p2 := 188) rfl dL_law_187 rfl ?_
    refine x_iconst (p2 := 189) rfl dL_law_188 ⟨by decide, by decide⟩ ?_
    refine x_iadd (p2 := 190) rfl dL_law_189 ⟨by omega, by omega⟩ ?_
    refine x_sld (p2 := 191) rfl dL_law_190 (by omega) (by omega) ?_
    refine x_v1 (p2 := 194) rfl dL_law_191 l_11_17 ok_X10_append rfl hD.sh rfl ?_
    generalize hM1 : xu (xu M (X + 8) (M X 3) _) X 3 (M X 3 + 1) = M1
    have eD : M1 D = M D := by rw [← hM1, xu_c (show D ≠ X by omega), xu_c (show D ≠ X + 8 by omega)]
    have t1 := ht.1
    have t2 := ht.2.1
    have t3 := ht.2.2.1
    refine t_X10_append hD (by rw [eD]; omega) (fun h2 => absurd hb h2) (fun h2 h3 => (by rw [eD] at h3; omega : False).elim) (fun h2 h3 => ?_)
    refine x_ic_eq (p2 := 197) (t := 962) (by decide) rfl dL_law_194 (fun hc194 => ?_) (fun hc194 => absurd hc194 (not_not_intro (by rw [eD, t1])))
    refine x_pick (L2 := [(0, _), (1, _), (2, _), (3, _)]) [0, 1, 2, 3] rfl ?_
    have eX : M1 X 3 = M X 3 + 1 := by rw [← hM1, xu_s]
    have eX8 : ∀ j, M1 (X + 8) j = upf (M (X + 8)) (M X 3) _ j := fun j => by rw [← hM1, xu_c (show X + 8 ≠ X by omega), xu_eq, xw_s]
    have e1 : M1 (D + 1) = M (D + 1) := by rw [← hM1, xu_c (show D + 1 ≠ X by omega), xu_c (show D + 1 ≠ X + 8 by omega)]
    refine hgo _ (h.tx ho (fun c z1 z2 z3 z4 => by rw [xu_c z3, xu_c z4, ← hM1, xu_c z1, xu_c z2]) (fun f z => by rw [xu_j z, xu_c (show D ≠ D + 1 by omega), eD]) ⟨?_, ?_, ?_, fun j a b => ?_⟩)
    · rw [xu_s, xu_c (show X ≠ D by omega), xu_c (show X ≠ D + 1 by omega), eX, eD, t1]
    · rw [xu_c (show X ≠ D by omega), xu_c (show X ≠ D + 1 by omega), eX]; omega
    · rw [xu_c (show X ≠ D by omega), xu_c (show X ≠ D + 1 by omega), eX]; omega
    · rw [xu_c (show X ≠ D by omega), xu_c (show X ≠ D + 1 by omega), eX] at b
      rw [xu_c (show D + 1 ≠ D by omega), xu_c (show X + 8 ≠ D by omega), xu_c (show X + 8 ≠ D + 1 by omega), eX8, eD, t1]
      by_cases hj : j = M X 3
      · rw [hj, xu_s, upf_s]; exact ⟨rfl, hb⟩
      · rw [xu_j hj, upf_n hj, e1]; exact ht.2.2.2 j a (by omega)
end XLC
