section XBO
variable {G : xG} {σ : List (Nat × Nat)} {ρ : Nat → Int → Option Nat} {M : Nat → Int → Int} {Q : Option xV → xH → Prop}
set_option maxHeartbeats 4000000 in
theorem t_X9_orderByChains {B F S T V Z H X C P : Nat} (hB : isBL σ ρ B F S T V Z H X C P) (hI : clI M F S V Z H X) (hq : ∀ M2 hd nx, agr (M F 0) hd (mgl (M F 0) (M (S + 1)) (M (S + 2)) (M (S + 3))).1 → agr (M F 0) nx (mgl (M F 0) (M (S + 1)) (M (S + 2)) (M (S + 3))).2 → ca M M2 S H C P (M (S + 1), M (S + 2), M (S + 3), (aro (M F 0) hd nx (M (S + 1)) (M (S + 2)) (M (S + 3)) (M (S + 4))), M F 0, M S 6) → Q (some (xI (tcs (M F 0) (M (S + 1)) (M (S + 2)) (M (S + 3)) (aro (M F 0) hd nx (M (S + 1)) (M (S + 2)) (M (S + 3)) (M (S + 4))) (M F 0)))) (σ, ρ, M2)) : xX G mX9_orderByChains 0 0 0 [(0, xP B)] [] (σ, ρ, M) Q := by
  have hl := hB.lt
  obtain ⟨hW, hho, hhh, hhs, hzs, htx⟩ := id hI
  have hG : wfG (M F 0) (M (S + 1)) (M (S + 2)) (M (S + 3)) := hW.1
  have hO : wfO (M F 0) (M (S + 4)) (M S 5) := hW.2.1
  have he := hW.2.2.2.1
  have h8 := hG.2.1
  have hrg : H + 2 ≤ rg H ((M H 1 + M H 2) % 14) ∧ rg H ((M H 1 + M H 2) % 14) + 4 ≤ H + 71 := by unfold rg; omega
  refine x_aload_n (p2 := 1) rfl dX9_orderByChains_0 rfl ?_
  refine x_getr (p2 := 4) (kz := 5) rfl dX9_orderByChains_1 f_9_39 rfl rfl hB.sh hB.r5 ?_
  refine x_aload_n (p2 := 5) rfl dX9_orderByChains_4 rfl ?_
  refine x_getr (p2 := 8) (kz := 1) rfl dX9_orderByChains_5 f_9_21 rfl rfl hB.sh hB.r1 ?_
  refine x_v1 (p2 := 11) rfl dX9_orderByChains_8 l_9_164 ok_X2_remember rfl hB.h.sh rfl ?_
  refine t_X2_remember hB.h hB.s (by omega) hho hhh (fun M8 hf8 hs8 h18 h28 => ?_)
  have hvs : vw M8 S = vw M S := vw_c (fun c z1 z2 => hf8 c (by omega) (by omega))
  have hF : M8 F = M F := hf8 F (by omega) (by omega)
  have hF1 : M8 (F + 1) = M (F + 1) := hf8 (F + 1) (by omega) (by omega)
  have e1 : M8 (S + 1) = M (S + 1) := hf8 _ (by omega) (by omega)
  have e2 : M8 (S + 2) = M (S + 2) := hf8 _ (by omega) (by omega)
  have e3 : M8 (S + 3) = M (S + 3) := hf8 _ (by omega) (by omega)
  have e4 : M8 (S + 4) = M (S + 4) := hf8 _ (by omega) (by omega)
  have e0 : M8 S = M S := hf8 _ (by omega) (by omega)
  refine x_aload_n (p2 := 12) rfl dX9_orderByChains_11 rfl ?_
  refine x_getr (p2 := 15) (kz := 7) rfl dX9_orderByChains_12 f_9_53 rfl rfl hB.sh hB.r7 ?_
  refine x_aload_n (p2 := 16) rfl dX9_orderByChains_15 rfl ?_
  refine x_getr (p2 := 19) (kz := 1) rfl dX9_orderByChains_16 f_9_21 rfl rfl hB.sh hB.r1 ?_
  refine x_v1 (p2 := 22) rfl dX9_orderByChains_19 l_9_148 ok_X0_merge rfl hB.c.sh rfl ?_
  refine t_X0_merge hB.c hB.s (by omega) (by rw [hF, e1, e2, e3]; exact hG) (fun M19 ed hf19 hc h1 h2 => ?_)
  rw [hF, e1, e2, e3, mrg_l hG] at hc h1 h2
  have v1 : M19 (S + 1) = M (S + 1) := (hf19 _ (by omega)).trans e1
  have v2 : M19 (S + 2) = M (S + 2) := (hf19 _ (by omega)).trans e2
  have v3 : M19 (S + 3) = M (S + 3) := (hf19 _ (by omega)).trans e3
  have v4 : M19 (S + 4) = M (S + 4) := (hf19 _ (by omega)).trans e4
  have v0 : M19 S = M S := (hf19 _ (by omega)).trans e0
  have vF : M19 F = M F := (hf19 _ (by omega)).trans hF
  obtain ⟨cc0, hC0⟩ := mgl_ch hG
  have hn1 := hG.1
  have hC := chn_agr (by omega) h1 h2 hC0
  have hwA := aro_wf (od := M (S + 4)) hG hC
  refine x_aload_n (p2 := 23) rfl dX9_orderByChains_22 rfl ?_
  refine x_getr (p2 := 26) (kz := 7) rfl dX9_orderByChains_23 f_9_53 rfl rfl hB.sh hB.r7 ?_
  refine x_aload_n (p2 := 27) rfl dX9_orderByChains_26 rfl ?_
  refine x_getr (p2 := 30) (kz := 1) rfl dX9_orderByChains_27 f_9_21 rfl rfl hB.sh hB.r1 ?_
  refine x_v1 (p2 := 33) rfl dX9_orderByChains_30 l_9_167 ok_X0_arrange rfl hB.c.sh rfl ?_
  refine t_X0_arrange hB.c hB.s (by omega) (by rw [vF, v1, v2, v3]; exact hG) (fun x x0 x1 => ?_) (fun M30 hf30 h30 h530 h630 => ?_)
  · rw [vF] at x1 ⊢
    rw [h2 x x0 x1]; exact (hc x x0 x1).2.2
  rw [vF, v1, v2, v3, v4] at h30
  rw [vF] at h530
  rw [v0] at h630
  have w1 : M30 (S + 1) = M (S + 1) := (hf30 _ (by omega) (by omega) (by omega)).trans v1
  have w2 : M30 (S + 2) = M (S + 2) := (hf30 _ (by omega) (by omega) (by omega)).trans v2
  have w3 : M30 (S + 3) = M (S + 3) := (hf30 _ (by omega) (by omega) (by omega)).trans v3
  have wF : M30 F = M F := (hf30 _ (by omega) (by omega) (by omega)).trans vF
  have w4 := h30
  have w5 := h530
  have w6 := h630
  refine x_aload_n (p2 := 34) rfl dX9_orderByChains_33 rfl ?_
  refine x_getr (p2 := 37) (kz := 1) rfl dX9_orderByChains_34 f_9_21 rfl rfl hB.sh hB.r1 ?_
  refine x_v0 (p2 := 40) rfl dX9_orderByChains_37 l_9_125 ok_X7_totalCost rfl hB.s.sh rfl ?_
  refine t_X7_totalCost hB.s (by rw [wF, w1, w2, w3]; exact hG) (by rw [wF, w4, w5]; exact hwA) ?_
  rw [wF, w1, w2, w3, w4, w5]
  refine x_iret dX9_orderByChains_40 rfl ?_
  refine hq _ (M19 (C + 1)) (M19 (C + 2)) h1 h2 (ca.mk hf8 hs8 h18 h28 (by omega) (fun c z1 z2 => (hf30 c (by omega) (by omega) (by omega)).trans (hf19 c (by omega))) ?_)
  unfold vw
  rw [w1, w2, w3, w4, w5, w6]
set_option maxHeartbeats 4000000 in
theorem t_X9_orderOptimally {B F S T V Z H X C P : Nat} (hB : isBL σ ρ B F S T V Z H X C P) (hI : clI M F S V Z H X) (hq : ∀ M2, ca M M2 S H C P (vop (M F 0) (vw M S)) → Q (some (xI (tcs (M F 0) (vop (M F 0) (vw M S)).1 (vop (M F 0) (vw M S)).2.1 (vop (M F 0) (vw M S)).2.2.1 (vop (M F 0) (vw M S)).2.2.2.1 (vop (M F 0) (vw M S)).2.2.2.2.1))) (σ, ρ, M2)) : xX G mX9_orderOptimally 0 0 0 [(0, xP B)] [] (σ, ρ, M) Q := by
  have hl := hB.lt
  obtain ⟨hW, hho, hhh, hhs, hzs, htx⟩ := id hI
  have hG : wfG (M F 0) (M (S + 1)) (M (S + 2)) (M (S + 3)) := hW.1
  have hO : wfO (M F 0) (M (S + 4)) (M S 5) := hW.2.1
  have he := hW.2.2.2.1
  have h8 := hG.2.1
  have hrg : H + 2 ≤ rg H ((M H 1 + M H 2) % 14) ∧ rg H ((M H 1 + M H 2) % 14) + 4 ≤ H + 71 := by unfold rg; omega
  refine x_aload_n (p2 := 1) rfl dX9_orderOptimally_0 rfl ?_
  refine x_getr (p2 := 4) (kz := 5) rfl dX9_orderOptimally_1 f_9_39 rfl rfl hB.sh hB.r5 ?_
  refine x_aload_n (p2 := 5) rfl dX9_orderOptimally_4 rfl ?_
  refine x_getr (p2 := 8) (kz := 1) rfl dX9_orderOptimally_5 f_9_21 rfl rfl hB.sh hB.r1 ?_
  refine x_v1 (p2 := 11) rfl dX9_orderOptimally_8 l_9_164 ok_X2_remember rfl hB.h.sh rfl ?_
  refine t_X2_remember hB.h hB.s (by omega) hho hhh (fun M8 hf8 hs8 h18 h28 => ?_)
  have hvs : vw M8 S = vw M S := vw_c (fun c z1 z2 => hf8 c (by omega) (by omega))
  have hF : M8 F = M F := hf8 F (by omega) (by omega)
  have hF1 : M8 (F + 1) = M (F + 1) := hf8 (F + 1) (by omega) (by omega)
  have e1 : M8 (S + 1) = M (S + 1) := hf8 _ (by omega) (by omega)
  have e2 : M8 (S + 2) = M (S + 2) := hf8 _ (by omega) (by omega)
  have e3 : M8 (S + 3) = M (S + 3) := hf8 _ (by omega) (by omega)
  have e4 : M8 (S + 4) = M (S + 4) := hf8 _ (by omega) (by omega)
  have e0 : M8 S = M S := hf8 _ (by omega) (by omega)
  have hn1 := hG.1
  have hWv := vop_wf hW
  refine x_aload_n (p2 := 12) rfl dX9_orderOptimally_11 rfl ?_
  refine x_getr (p2 := 15) (kz := 8) rfl dX9_orderOptimally_12 f_9_60 rfl rfl hB.sh hB.r8 ?_
  refine x_aload_n (p2 := 16) rfl dX9_orderOptimally_15 rfl ?_
  refine x_getr (p2 := 19) (kz := 1) rfl dX9_orderOptimally_16 f_9_21 rfl rfl hB.sh hB.r1 ?_
  refine x_v1 (p2 := 22) rfl dX9_orderOptimally_19 l_9_170 ok_X3_arrange rfl hB.p.sh rfl ?_
  refine t_X3_arrange hB.p hB.s (by omega) (by rw [hF, e1, e2, e3]; exact hG) (by rw [hF, e4, e0]; exact hO) (fun M19 hf19 h19 => ?_)
  rw [hF, e1, e2, e3, e4, e0] at h19
  have w1 : M19 (S + 1) = M (S + 1) := (hf19 _ (by omega) (by omega)).trans e1
  have w2 : M19 (S + 2) = M (S + 2) := (hf19 _ (by omega) (by omega)).trans e2
  have w3 : M19 (S + 3) = M (S + 3) := (hf19 _ (by omega) (by omega)).trans e3
  have w0 : M19 S = M S := (hf19 _ (by omega) (by omega)).trans e0
  have wF : M19 F = M F := (hf19 _ (by omega) (by omega)).trans hF
  have w4 : M19 (S + 4) = (vop (M F 0) (vw M S)).2.2.2.1 := h19
  refine x_aload_n (p2 := 23) rfl dX9_orderOptimally_22 rfl ?_
  refine x_getr (p2 := 26) (kz := 1) rfl dX9_orderOptimally_23 f_9_21 rfl rfl hB.sh hB.r1 ?_
  refine x_v0 (p2 := 29) rfl dX9_orderOptimally_26 l_9_125 ok_X7_totalCost rfl hB.s.sh rfl ?_
  refine t_X7_totalCost hB.s (by rw [wF, w1, w2, w3]; exact hG) (by rw [wF, w4, w0]; exact hWv.2.1) ?_
  rw [wF, w1, w2, w3, w4, w0]
  refine x_iret dX9_orderOptimally_29 rfl ?_
  refine hq _ (ca.mk hf8 hs8 h18 h28 (by omega) (fun c z1 z2 => hf19 c (by omega) (by omega)) ?_)
  unfold vw
  rw [w1, w2, w3, w4, w0]; rfl
end XBO
