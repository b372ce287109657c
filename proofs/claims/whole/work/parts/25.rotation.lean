section XBR
variable {G : xG} {σ : List (Nat × Nat)} {ρ : Nat → Int → Option Nat} {M : Nat → Int → Int} {Q : Option xV → xH → Prop}
def trn (f l : Int) (od : Int → Int) : Int → Int := upf (tnf (l - f).toNat f od) l (od f)
def brl (n : Int) (ex tg ct : Int → Int) (ht f l : Int) : Nat → Int → (Int → Int) → Int → Int → Int
  | 0, _, _, best, _ => best
  | m + 1, r, od, best, bc => if tcs n ex tg ct (trn f l od) ht < bc then brl n ex tg ct ht f l m (r + 1) (trn f l od) r (tcs n ex tg ct (trn f l od) ht) else brl n ex tg ct ht f l m (r + 1) (trn f l od) best bc
set_option maxHeartbeats 4000000 in
theorem t_br_l {B F S T V Z H X C P : Nat} (hB : isBL σ ρ B F S T V Z H X C P) {f l : Int} (hf : 0 < f ∧ f ≤ l) (hl : l < M F 0) (hG : wfG (M F 0) (M (T + 1)) (M (T + 2)) (M (T + 3))) : ∀ (m : Nat) (r best bc : Int) (od : Int → Int), 1 ≤ r → r + m = l - f + 1 → wfO (M F 0) od (M T 5) → (∀ M2, (∀ c, c ≠ T + 4 → M2 c = M c) → Q (some (xI (brl (M F 0) (M (T + 1)) (M (T + 2)) (M (T + 3)) (M T 5) f l m r od best bc))) (σ, ρ, M2)) → xX G mX9_bestRotation 0 0 42 [(0, xP B), (1, xI f), (2, xI l), (3, xI 0), (4, xI best), (5, xI bc), (6, xI r)] [] (σ, ρ, xw M (T + 4) od) Q := by
  intro m
  have hlt := hB.lt
  have h8 := hG.2.1
  induction m with
  | zero =>
    intro r best bc od h0 hm hO hq
    refine x_iload (p2 := 44) rfl dX9_bestRotation_42 rfl ?_
    refine x_iload_n (p2 := 45) rfl dX9_bestRotation_44 rfl ?_
    refine x_iload_n (p2 := 46) rfl dX9_bestRotation_45 rfl ?_
    refine x_isub (p2 := 47) rfl dX9_bestRotation_46 ⟨by omega, by omega⟩ ?_
    refine x_ic_gt (p2 := 50) (t := 89) (by decide) rfl dX9_bestRotation_47 (fun hc47 => ?_) (fun hc47 => absurd hc47 (by omega))
    refine x_iload (p2 := 91) rfl dX9_bestRotation_89 rfl ?_
    refine x_iret dX9_bestRotation_91 rfl ?_
    exact hq _ (fun c z => xw_n z)
  | succ m ih =>
    intro r best bc od h0 hm hO hq
    unfold brl at hq
    refine x_iload (p2 := 44) rfl dX9_bestRotation_42 rfl ?_
    refine x_iload_n (p2 := 45) rfl dX9_bestRotation_44 rfl ?_
    refine x_iload_n (p2 := 46) rfl dX9_bestRotation_45 rfl ?_
    refine x_isub (p2 := 47) rfl dX9_bestRotation_46 ⟨by omega, by omega⟩ ?_
    refine x_ic_gt (p2 := 50) (t := 89) (by decide) rfl dX9_bestRotation_47 (fun hc47 => ?_) (fun hc47 => ?_)
    · exact absurd hc47 (by omega)
    refine x_aload_n (p2 := 51) rfl dX9_bestRotation_50 rfl ?_
    refine x_getr (p2 := 54) (kz := 2) rfl dX9_bestRotation_51 f_9_25 rfl rfl hB.sh hB.r2 ?_
    refine x_iload_n (p2 := 55) rfl dX9_bestRotation_54 rfl ?_
    refine x_iload_n (p2 := 56) rfl dX9_bestRotation_55 rfl ?_
    refine x_v2 (p2 := 59) rfl dX9_bestRotation_56 l_9_160 ok_X7_turn rfl hB.t.sh rfl ?_
    refine t_X7_turn hB.t (by omega) (by omega) ?_
    refine x_aload_n (p2 := 60) rfl dX9_bestRotation_59 rfl ?_
    refine x_getr (p2 := 63) (kz := 2) rfl dX9_bestRotation_60 f_9_25 rfl rfl hB.sh hB.r2 ?_
    refine x_v0 (p2 := 66) rfl dX9_bestRotation_63 l_9_125 ok_X7_totalCost rfl hB.t.sh rfl ?_
    have hO2 := wfO_tn hO hf (show l < M F 0 by omega)
    rw [xw_s, xw_xw, show upf (tnf (l - f).toNat f od) l (od f) = trn f l od from rfl]
    refine t_X7_totalCost hB.t ?_ ?_ ?_
    · rw [xw_n (show F ≠ T + 4 by omega), xw_n (show T + 1 ≠ T + 4 by omega), xw_n (show T + 2 ≠ T + 4 by omega), xw_n (show T + 3 ≠ T + 4 by omega)]; exact hG
    · rw [xw_n (show F ≠ T + 4 by omega), xw_n (show T ≠ T + 4 by omega), xw_s]; exact hO2
    rw [xw_n (show F ≠ T + 4 by omega), xw_n (show T + 1 ≠ T + 4 by omega), xw_n (show T + 2 ≠ T + 4 by omega), xw_n (show T + 3 ≠ T + 4 by omega), xw_n (show T ≠ T + 4 by omega), xw_s]
    refine x_istore (p2 := 68) (i := 7) (L2 := [(0, _), (1, _), (2, _), (3, _), (4, _), (5, _), (6, _), (7, _)]) rfl dX9_bestRotation_66 ⟨rfl, Nat.le_of_ble_eq_true rfl⟩ rfl ?_
    refine x_iload (p2 := 70) rfl dX9_bestRotation_68 rfl ?_
    refine x_iload (p2 := 72) rfl dX9_bestRotation_70 rfl ?_
    refine x_ic_ge (p2 := 75) (t := 83) (by decide) rfl dX9_bestRotation_72 (fun hc72 => ?_) (fun hc72 => ?_)
    · skip
      refine x_iinc (p2 := 86) (L2 := [(0, _), (1, _), (2, _), (3, _), (4, _), (5, _), (6, _), (7, _)]) rfl dX9_bestRotation_83 rfl ⟨by omega, by omega⟩ ⟨rfl, Nat.le_of_ble_eq_true rfl⟩ rfl ?_
      refine x_goto (t := 42) (by decide) dX9_bestRotation_86 ?_
      refine x_pick (L2 := [(0, _), (1, _), (2, _), (3, _), (4, _), (5, _), (6, _)]) [0, 1, 2, 3, 4, 5, 6] rfl ?_
      first
        | (rw [if_neg (show ¬ _ by omega)] at hq
           exact ih _ _ _ _ (by omega) (by omega) hO2 hq)
        | (rw [if_pos (show _ by omega)] at hq
           exact ih _ _ _ _ (by omega) (by omega) hO2 hq)
    · skip
      refine x_iload (p2 := 77) rfl dX9_bestRotation_75 rfl ?_
      refine x_istore (p2 := 79) (i := 4) (L2 := [(0, _), (1, _), (2, _), (3, _), (4, _), (5, _), (6, _), (7, _)]) rfl dX9_bestRotation_77 ⟨rfl, Nat.le_of_ble_eq_true rfl⟩ rfl ?_
      refine x_iload (p2 := 81) rfl dX9_bestRotation_79 rfl ?_
      refine x_istore (p2 := 83) (i := 5) (L2 := [(0, _), (1, _), (2, _), (3, _), (4, _), (5, _), (6, _), (7, _)]) rfl dX9_bestRotation_81 ⟨rfl, Nat.le_of_ble_eq_true rfl⟩ rfl ?_
      refine x_iinc (p2 := 86) (L2 := [(0, _), (1, _), (2, _), (3, _), (4, _), (5, _), (6, _), (7, _)]) rfl dX9_bestRotation_83 rfl ⟨by omega, by omega⟩ ⟨rfl, Nat.le_of_ble_eq_true rfl⟩ rfl ?_
      refine x_goto (t := 42) (by decide) dX9_bestRotation_86 ?_
      refine x_pick (L2 := [(0, _), (1, _), (2, _), (3, _), (4, _), (5, _), (6, _)]) [0, 1, 2, 3, 4, 5, 6] rfl ?_
      first
        | (rw [if_neg (show ¬ _ by omega)] at hq
           exact ih _ _ _ _ (by omega) (by omega) hO2 hq)
        | (rw [if_pos (show _ by omega)] at hq
           exact ih _ _ _ _ (by omega) (by omega) hO2 hq)
set_option maxHeartbeats 4000000 in
theorem t_X9_bestRotation {B F S T V Z H X C P : Nat} (hB : isBL σ ρ B F S T V Z H X C P) (hI : clI M F S V Z H X) {i j : Int} (k1 : ¬ (0 ≤ i ∧ i < M F 0 ∧ 0 ≤ j ∧ j < M F 0) → Q (some (xI (-1))) (σ, ρ, M)) (k3 : (0 ≤ i ∧ i < M F 0 ∧ 0 ≤ j ∧ j < M F 0) ∧ (i = 0 ∨ j < i ∨ M S 5 ≤ j) → Q (some (xI (-3))) (σ, ρ, M)) (hq : (0 < i ∧ i ≤ j ∧ j < M F 0 ∧ j < M S 5) → ∀ M1 M2, sq M1 T M S → cq M M2 T X C P → Q (some (xI (brl (M F 0) (M1 (T + 1)) (M1 (T + 2)) (M1 (T + 3)) (M1 T 5) i j (j - i).toNat 1 (M1 (T + 4)) 0 (tcs (M F 0) (M1 (T + 1)) (M1 (T + 2)) (M1 (T + 3)) (M1 (T + 4)) (M1 T 5))))) (σ, ρ, M2)) : xX G mX9_bestRotation 0 0 0 [(0, xP B), (1, xI i), (2, xI j)] [] (σ, ρ, M) Q := by
  have hl := hB.lt
  obtain ⟨hW, hho, hhh, hhs, hzs, htx⟩ := id hI
  have hG : wfG (M F 0) (M (S + 1)) (M (S + 2)) (M (S + 3)) := hW.1
  have hO : wfO (M F 0) (M (S + 4)) (M S 5) := hW.2.1
  have he := hW.2.2.2.1
  have h8 := hG.2.1
  have hrg : H + 2 ≤ rg H ((M H 1 + M H 2) % 14) ∧ rg H ((M H 1 + M H 2) % 14) + 4 ≤ H + 71 := by unfold rg; omega
  refine x_aload_n (p2 := 1) rfl dX9_bestRotation_0 rfl ?_
  refine x_getr (p2 := 4) (kz := 1) rfl dX9_bestRotation_1 f_9_21 rfl rfl hB.sh hB.r1 ?_
  refine x_iload_n (p2 := 5) rfl dX9_bestRotation_4 rfl ?_
  refine x_iload_n (p2 := 6) rfl dX9_bestRotation_5 rfl ?_
  refine x_v2 (p2 := 9) rfl dX9_bestRotation_6 l_9_157 ok_X7_refusalToTurn rfl hB.s.sh rfl ?_
  refine t_X7_refusalToTurn hB.s (fun hr6 => ?_) (fun hr6 => ?_) (fun hr6 => ?_)
  · skip
    refine x_istore_n (p2 := 10) (i := 3) (L2 := [(0, _), (1, _), (2, _), (3, _)]) rfl dX9_bestRotation_9 rfl ⟨rfl, Nat.le_of_ble_eq_true rfl⟩ rfl ?_
    refine x_iload_n (p2 := 11) rfl dX9_bestRotation_10 rfl ?_
    refine x_if_eq (p2 := 14) (t := 16) (by decide) rfl dX9_bestRotation_11 (fun hc => absurd hc (by decide)) (fun _ => ?_)
    refine x_iload_n (p2 := 15) rfl dX9_bestRotation_14 rfl ?_
    refine x_iret dX9_bestRotation_15 rfl ?_
    exact k1 hr6
  · skip
    refine x_istore_n (p2 := 10) (i := 3) (L2 := [(0, _), (1, _), (2, _), (3, _)]) rfl dX9_bestRotation_9 rfl ⟨rfl, Nat.le_of_ble_eq_true rfl⟩ rfl ?_
    refine x_iload_n (p2 := 11) rfl dX9_bestRotation_10 rfl ?_
    refine x_if_eq (p2 := 14) (t := 16) (by decide) rfl dX9_bestRotation_11 (fun hc => absurd hc (by decide)) (fun _ => ?_)
    refine x_iload_n (p2 := 15) rfl dX9_bestRotation_14 rfl ?_
    refine x_iret dX9_bestRotation_15 rfl ?_
    exact k3 hr6
  · skip
    refine x_istore_n (p2 := 10) (i := 3) (L2 := [(0, _), (1, _), (2, _), (3, _)]) rfl dX9_bestRotation_9 rfl ⟨rfl, Nat.le_of_ble_eq_true rfl⟩ rfl ?_
    refine x_iload_n (p2 := 11) rfl dX9_bestRotation_10 rfl ?_
    refine x_if_eq (p2 := 14) (t := 16) (by decide) rfl dX9_bestRotation_11 (fun _ => ?_) (fun hc => absurd hc (by decide))
    refine x_aload_n (p2 := 17) rfl dX9_bestRotation_16 rfl ?_
    refine x_getr (p2 := 20) (kz := 2) rfl dX9_bestRotation_17 f_9_25 rfl rfl hB.sh hB.r2 ?_
    refine x_aload_n (p2 := 21) rfl dX9_bestRotation_20 rfl ?_
    refine x_getr (p2 := 24) (kz := 1) rfl dX9_bestRotation_21 f_9_21 rfl rfl hB.sh hB.r1 ?_
    refine x_v1 (p2 := 27) rfl dX9_bestRotation_24 l_9_84 ok_X7_copyFrom rfl hB.t.sh rfl ?_
    refine t_X7_copyFrom hB.t hB.s (by omega) (fun M24 hM24 => ?_)
    refine x_iconst (p2 := 28) rfl dX9_bestRotation_27 ⟨by decide, by decide⟩ ?_
    refine x_istore (p2 := 30) (i := 4) (L2 := [(0, _), (1, _), (2, _), (3, _), (4, _)]) rfl dX9_bestRotation_28 ⟨rfl, Nat.le_of_ble_eq_true rfl⟩ rfl ?_
    refine x_aload_n (p2 := 31) rfl dX9_bestRotation_30 rfl ?_
    refine x_getr (p2 := 34) (kz := 2) rfl dX9_bestRotation_31 f_9_25 rfl rfl hB.sh hB.r2 ?_
    refine x_v0 (p2 := 37) rfl dX9_bestRotation_34 l_9_125 ok_X7_totalCost rfl hB.t.sh rfl ?_
    have hF : M24 F = M F := hM24.f F (by omega)
    have hF1 : M24 (F + 1) = M (F + 1) := hM24.f (F + 1) (by omega)
    have hW2 : wfV (M24 F 0) (M24 F 1) (M24 (F + 1)) (vw M24 T) := by rw [hF, hF1]; exact wfV_q hM24.sq hW
    refine t_X7_totalCost hB.t hW2.1 hW2.2.1 ?_
    refine x_istore (p2 := 39) (i := 5) (L2 := [(0, _), (1, _), (2, _), (3, _), (4, _), (5, _)]) rfl dX9_bestRotation_37 ⟨rfl, Nat.le_of_ble_eq_true rfl⟩ rfl ?_
    refine x_iconst (p2 := 40) rfl dX9_bestRotation_39 ⟨by decide, by decide⟩ ?_
    refine x_istore (p2 := 42) (i := 6) (L2 := [(0, _), (1, _), (2, _), (3, _), (4, _), (5, _), (6, _)]) rfl dX9_bestRotation_40 ⟨rfl, Nat.le_of_ble_eq_true rfl⟩ rfl ?_
    refine x_pick (L2 := [(0, _), (1, _), (2, _), (3, _), (4, _), (5, _), (6, _)]) [0, 1, 2, 3, 4, 5, 6] rfl ?_
    rw [show (σ, ρ, M24) = (σ, ρ, xw M24 (T + 4) (M24 (T + 4))) by rw [xw_id]]
    refine t_br_l hB (by omega) (by rw [hF]; omega) hW2.1 (j - i).toNat 1 0 _ _ (by omega) (by omega) hW2.2.1 (fun M2 hs => ?_)
    rw [hF]
    exact hq hr6 M24 M2 hM24.sq ⟨fun c z1 z2 z3 z4 => (hs c (by omega)).trans (hM24.f c z2), by rw [hs X (by omega), hM24.f X (by omega)]⟩
end XBR
