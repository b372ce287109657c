section XMN
variable {G : xG} {σ : List (Nat × Nat)} {ρ : Nat → Int → Option Nat} {M : Nat → Int → Int} {Q : Option xV → xH → Prop}
def rotf (f l r : Int) (od : Int → Int) (x : Int) : Int := if f ≤ x ∧ x ≤ l then (if x + r ≤ l then od (x + r) else od (x + r - (l - f + 1))) else od x
theorem rotf_0 {f l : Int} {od : Int → Int} : rotf f l 0 od = od := by
  funext x; unfold rotf
  split
  · rw [if_pos (by omega), Int.add_zero]
  · rfl
theorem rotf_s {f l r : Int} {od : Int → Int} (hf : f ≤ l) (h0 : 0 ≤ r) (h1 : r + 1 ≤ l - f) : trn f l (rotf f l r od) = rotf f l (r + 1) od := by
  funext x
  unfold trn
  rw [trn_at hf]
  by_cases hx : x = l
  · rw [if_pos hx]; unfold rotf
    rw [if_pos (by omega), if_pos (by omega), if_pos (by omega), if_neg (by omega)]
    congr 1; omega
  · rw [if_neg hx]
    by_cases h2 : f ≤ x ∧ x < l
    · rw [if_pos h2]; unfold rotf
      rw [if_pos (by omega), if_pos (show f ≤ x ∧ x ≤ l by omega)]
      by_cases h3 : x + 1 + r ≤ l
      · rw [if_pos h3, if_pos (by omega)]; congr 1; omega
      · rw [if_neg h3, if_neg (by omega)]; congr 1; omega
    · rw [if_neg h2]; unfold rotf
      rw [if_neg (by omega), if_neg (by omega)]
def tgt (d r j : Int) : Int := if j < r then j - r + d else j - r
theorem tgt_ok {d r j : Int} (h0 : 0 ≤ j) (h1 : j < d) (h2 : 0 < r) (h3 : r < d) : (j - r + d) % d = tgt d r j := by
  unfold tgt
  split
  · exact Int.emod_eq_of_lt (by omega) (by omega)
  · rw [Int.add_emod_right]; exact Int.emod_eq_of_lt (by omega) (by omega)
set_option maxHeartbeats 4000000 in
theorem t_lr_l {D : Nat} (hD : isMd σ ρ D) {f l r d : Int} (hf : 0 < f ∧ f ≤ l) (hl : l < 8) (hd : d = l - f + 1) (hr1 : 1 ≤ r ∧ r ≤ l - f) (hq : ∀ M2, (∀ c, c ≠ D + 4 → M2 c = M c) → (∀ y, y < 2 + f ∨ 2 + l < y → M2 (D + 4) y = M (D + 4) y) → (∀ j, 0 ≤ j → j < d → M2 (D + 4) (2 + f + tgt d r j) = M (D + 3) (2 + f + j)) → Q none (σ, ρ, M2)) : ∀ (m : Nat) (i : Int) (M1 : Nat → Int → Int), 0 ≤ i → i + m = d → (∀ c, c ≠ D + 4 → M1 c = M c) → (∀ y, y < 2 + f ∨ 2 + l < y → M1 (D + 4) y = M (D + 4) y) → (∀ j, 0 ≤ j → j < i → M1 (D + 4) (2 + f + tgt d r j) = M (D + 3) (2 + f + j)) → xX G mX10_layRotated 0 0 18 [(0, xP D), (1, xP (D + 3)), (2, xI f), (3, xI l), (4, xI r), (5, xI d), (6, xI i)] [] (σ, ρ, M1) Q := by
  intro m
  induction m with
  | zero =>
    intro i M1 h0 hm g1 g2 g3
    refine x_iload (p2 := 20) rfl dX10_layRotated_18 rfl ?_
    refine x_iload (p2 := 22) rfl dX10_layRotated_20 rfl ?_
    refine x_ic_ge (p2 := 25) (t := 59) (by decide) rfl dX10_layRotated_22 (fun hc22 => ?_) (fun hc22 => absurd hc22 (by omega))
    refine x_vret dX10_layRotated_59 rfl ?_
    exact hq M1 g1 g2 (fun j a b => g3 j a (by omega))
  | succ m ih =>
    intro i M1 h0 hm g1 g2 g3
    refine x_iload (p2 := 20) rfl dX10_layRotated_18 rfl ?_
    refine x_iload (p2 := 22) rfl dX10_layRotated_20 rfl ?_
    refine x_ic_ge (p2 := 25) (t := 59) (by decide) rfl dX10_layRotated_22 (fun hc22 => ?_) (fun hc22 => ?_)
    · exact absurd hc22 (by omega)
    refine x_aload_n (p2 := 26) rfl dX10_layRotated_25 rfl ?_
    refine x_getr (p2 := 29) (kz := 6) rfl dX10_layRotated_26 f_10_19 rfl rfl hD.sh hD.r6 ?_
    refine x_iconst (p2 := 30) rfl dX10_layRotated_29 ⟨by decide, by decide⟩ ?_
    refine x_iload_n (p2 := 31) rfl dX10_layRotated_30 rfl ?_
    refine x_iadd (p2 := 32) rfl dX10_layRotated_31 ⟨by omega, by omega⟩ ?_
    refine x_iload (p2 := 34) rfl dX10_layRotated_32 rfl ?_
    refine x_iload (p2 := 36) rfl dX10_layRotated_34 rfl ?_
    refine x_isub (p2 := 37) rfl dX10_layRotated_36 ⟨by omega, by omega⟩ ?_
    refine x_iload (p2 := 39) rfl dX10_layRotated_37 rfl ?_
    refine x_iadd (p2 := 40) rfl dX10_layRotated_39 ⟨by omega, by omega⟩ ?_
    refine x_iload (p2 := 42) rfl dX10_layRotated_40 rfl ?_
    refine x_irem (p2 := 43) rfl dX10_layRotated_42 (by omega) (by omega) ?_
    rw [tgt_ok h0 (by omega) (by omega) (by omega)]
    have htg : 0 ≤ tgt d r i ∧ tgt d r i < d := by unfold tgt; split <;> omega
    refine x_iadd (p2 := 44) rfl dX10_layRotated_43 ⟨by omega, by omega⟩ ?_
    refine x_aload_n (p2 := 45) rfl dX10_layRotated_44 rfl ?_
    refine x_iconst (p2 := 46) rfl dX10_layRotated_45 ⟨by decide, by decide⟩ ?_
    refine x_iload_n (p2 := 47) rfl dX10_layRotated_46 rfl ?_
    refine x_iadd (p2 := 48) rfl dX10_layRotated_47 ⟨by omega, by omega⟩ ?_
    refine x_iload (p2 := 50) rfl dX10_layRotated_48 rfl ?_
    refine x_iadd (p2 := 51) rfl dX10_layRotated_50 ⟨by omega, by omega⟩ ?_
    refine x_iald (p2 := 52) rfl dX10_layRotated_51 hD.a5 (by omega) (by omega) ?_
    rw [g1 (D + 3) (by omega)]
    refine x_iast (p2 := 53) rfl dX10_layRotated_52 hD.a6 (by omega) (by omega) ?_
    refine x_iinc (p2 := 56) (L2 := [(0, _), (1, _), (2, _), (3, _), (4, _), (5, _), (6, _)]) rfl dX10_layRotated_53 rfl ⟨by omega, by omega⟩ ⟨rfl, Nat.le_of_ble_eq_true rfl⟩ rfl ?_
    refine x_goto (t := 18) (by decide) dX10_layRotated_56 ?_
    refine x_pick (L2 := [(0, _), (1, _), (2, _), (3, _), (4, _), (5, _), (6, _)]) [0, 1, 2, 3, 4, 5, 6] rfl ?_
    refine ih _ _ (by omega) (by omega) (fun c z => by rw [xu_c z]; exact g1 c z) (fun y z => by rw [xu_j (by omega)]; exact g2 y z) (fun j a b => ?_)
    by_cases hj : j = i
    · rw [hj, xu_s]
    · have : tgt d r j ≠ tgt d r i := by unfold tgt; split <;> split <;> omega
      rw [xu_j (by omega)]; exact g3 j a (by omega)
set_option maxHeartbeats 4000000 in
theorem t_X10_layRotated {D : Nat} (hD : isMd σ ρ D) {n f l r : Int} {v : vV} (h8 : n ≤ 8) (hx2 : ∀ b, 0 ≤ b → b < n → v.1 b ≤ 2) (hr : smr n v (M (D + 3))) (hf : 0 < f ∧ f ≤ l) (hl : l < n) (hr1 : 1 ≤ r ∧ r ≤ l - f) (hq : ∀ M2, (∀ c, c ≠ D + 4 → M2 c = M c) → smr n (v.1, v.2.1, v.2.2.1, rotf f l r v.2.2.2.1, v.2.2.2.2.1, v.2.2.2.2.2) (M2 (D + 4)) → Q none (σ, ρ, M2)) : xX G mX10_layRotated 0 0 0 [(0, xP D), (1, xP (D + 3)), (2, xI f), (3, xI l), (4, xI r)] [] (σ, ρ, M) Q := by
  refine x_aload_n (p2 := 1) rfl dX10_layRotated_0 rfl ?_
  refine x_aload_n (p2 := 2) rfl dX10_layRotated_1 rfl ?_
  refine x_getr (p2 := 5) (kz := 6) rfl dX10_layRotated_2 f_10_19 rfl rfl hD.sh hD.r6 ?_
  refine x_s2 (p2 := 8) rfl dX10_layRotated_5 l_10_100 ok_X10_copy rfl rfl ?_
  refine t_X10_copy hD.a5 hD.a6 (by omega) (fun M5 hs5 hv5 => ?_)
  refine x_iload_n (p2 := 9) rfl dX10_layRotated_8 rfl ?_
  refine x_iload_n (p2 := 10) rfl dX10_layRotated_9 rfl ?_
  refine x_isub (p2 := 11) rfl dX10_layRotated_10 ⟨by omega, by omega⟩ ?_
  refine x_iconst (p2 := 12) rfl dX10_layRotated_11 ⟨by decide, by decide⟩ ?_
  refine x_iadd (p2 := 13) rfl dX10_layRotated_12 ⟨by omega, by omega⟩ ?_
  refine x_istore (p2 := 15) (i := 5) (L2 := [(0, _), (1, _), (2, _), (3, _), (4, _), (5, _)]) rfl dX10_layRotated_13 ⟨rfl, Nat.le_of_ble_eq_true rfl⟩ rfl ?_
  refine x_iconst (p2 := 16) rfl dX10_layRotated_15 ⟨by decide, by decide⟩ ?_
  refine x_istore (p2 := 18) (i := 6) (L2 := [(0, _), (1, _), (2, _), (3, _), (4, _), (5, _), (6, _)]) rfl dX10_layRotated_16 ⟨rfl, Nat.le_of_ble_eq_true rfl⟩ rfl ?_
  refine x_pick (L2 := [(0, _), (1, _), (2, _), (3, _), (4, _), (5, _), (6, _)]) [0, 1, 2, 3, 4, 5, 6] rfl ?_
  refine t_lr_l hD hf (by omega) rfl hr1 (fun M2 q1 q2 q3 => ?_) (l - f + 1).toNat 0 M5 (by omega) (by omega) (fun _ _ => rfl) (fun _ _ => rfl) (fun j a b => by omega)
  refine hq M2 (fun c z => (q1 c z).trans (hs5 c z)) (smr_o (smr_cp hr h8 hx2 hv5) h8 (fun x z => q2 x (by omega)) (fun x x0 x1 => ?_) hx2)
  have ho : ∀ j, 0 ≤ j → j < l - f + 1 → M5 (D + 3) (2 + f + j) = v.2.2.2.1 (f + j) := fun j a b => by
    rw [hs5 _ (by omega), show 2 + f + j = 2 + (f + j) by omega]; exact hr.o (by omega) (by omega)
  unfold rotf
  by_cases h1 : f ≤ x ∧ x ≤ l
  · rw [if_pos h1]
    by_cases h2 : x + r ≤ l
    · rw [if_pos h2]
      have := q3 (x - f + r) (by omega) (by omega)
      rw [ho _ (by omega) (by omega), tgt, if_neg (by omega), show 2 + f + (x - f + r - r) = 2 + x by omega, show f + (x - f + r) = x + r by omega] at this
      exact this
    · rw [if_neg h2]
      have := q3 (x - f + r - (l - f + 1)) (by omega) (by omega)
      rw [ho _ (by omega) (by omega), tgt, if_pos (by omega), show 2 + f + (x - f + r - (l - f + 1) - r + (l - f + 1)) = 2 + x by omega, show f + (x - f + r - (l - f + 1)) = x + r - (l - f + 1) by omega] at this
      exact this
  · rw [if_neg h1, q2 _ (by omega), hv5 _ (by omega) (by omega)]
    exact hr.o x0 x1
set_option maxHeartbeats 4000000 in
theorem t_br2 {D : Nat} (hD : isMd σ ρ D) {n en : Int} {byt : Int → Int} {v : vV} (hM : mdI M D n en byt v) (hW : wfV n en byt v) {f l : Int} (hfl : 0 < f ∧ f ≤ l) (hln : l < n) : ∀ (m : Nat) (r best bc : Int) (M1 : Nat → Int → Int), 1 ≤ r → r + m = l - f + 1 → rt M M1 D → wfO n (rotf f l (r - 1) v.2.2.2.1) v.2.2.2.2.1 → (∀ M2, rt M M2 D → Q (some (xI (brl n v.1 v.2.1 v.2.2.1 v.2.2.2.2.1 f l m r (rotf f l (r - 1) v.2.2.2.1) best bc))) (σ, ρ, M2)) → xX G mX10_bestRotation 0 0 33 [(0, xP D), (1, xI f), (2, xI l), (3, xI 0), (4, xI best), (5, xI bc), (6, xI r)] [] (σ, ρ, M1) Q := by
  obtain ⟨hn, hen, hyb, hr⟩ := id hM
  have hG := hW.1
  have hO := hW.2.1
  have hA := hW.2.2.1
  have he : M D 4 = en ∧ 0 ≤ en ∧ en ≤ 99 := ⟨hen, hW.2.2.2.1⟩
  have hy : ∀ b, 0 ≤ b → b < n → M (D + 2) b = byt b ∧ 0 ≤ byt b ∧ byt b ≤ 9 := fun b a c => ⟨hyb b a c, hW.2.2.2.2 b a c⟩
  have h8 := hG.2.1
  have h1 := hG.1
  have hx2 : ∀ b, 0 ≤ b → b < n → v.1 b ≤ 2 := fun b a c => (hG.2.2 b a c).2.1
  have hO5 := hO.2.2.2
  intro m
  induction m with
  | zero =>
    intro r best bc M1 h0 hm hf1 hOr hq
    refine x_iload (p2 := 35) rfl dX10_bestRotation_33 rfl ?_
    refine x_iload_n (p2 := 36) rfl dX10_bestRotation_35 rfl ?_
    refine x_iload_n (p2 := 37) rfl dX10_bestRotation_36 rfl ?_
    refine x_isub (p2 := 38) rfl dX10_bestRotation_37 ⟨by omega, by omega⟩ ?_
    refine x_ic_gt (p2 := 41) (t := 101) (by decide) rfl dX10_bestRotation_38 (fun hc38 => ?_) (fun hc38 => absurd hc38 (by omega))
    refine x_iload (p2 := 103) rfl dX10_bestRotation_101 rfl ?_
    refine x_iret dX10_bestRotation_103 rfl ?_
    exact hq M1 hf1
  | succ m ih =>
    intro r best bc M1 h0 hm hf1 hOr hq
    unfold brl at hq
    rw [rotf_s hfl.2 (by omega) (by omega), show r - 1 + 1 = r by omega] at hq
    refine x_iload (p2 := 35) rfl dX10_bestRotation_33 rfl ?_
    refine x_iload_n (p2 := 36) rfl dX10_bestRotation_35 rfl ?_
    refine x_iload_n (p2 := 37) rfl dX10_bestRotation_36 rfl ?_
    refine x_isub (p2 := 38) rfl dX10_bestRotation_37 ⟨by omega, by omega⟩ ?_
    refine x_ic_gt (p2 := 41) (t := 101) (by decide) rfl dX10_bestRotation_38 (fun hc38 => ?_) (fun hc38 => ?_)
    · exact absurd hc38 (by omega)
    refine x_aload_n (p2 := 42) rfl dX10_bestRotation_41 rfl ?_
    refine x_aload_n (p2 := 43) rfl dX10_bestRotation_42 rfl ?_
    refine x_getr (p2 := 46) (kz := 5) rfl dX10_bestRotation_43 f_10_16 rfl rfl hD.sh hD.r5 ?_
    refine x_iload_n (p2 := 47) rfl dX10_bestRotation_46 rfl ?_
    refine x_iload_n (p2 := 48) rfl dX10_bestRotation_47 rfl ?_
    refine x_iload (p2 := 50) rfl dX10_bestRotation_48 rfl ?_
    refine x_v4 (p2 := 53) rfl dX10_bestRotation_50 l_10_167 ok_X10_layRotated rfl hD.sh rfl ?_
    refine t_X10_layRotated hD h8 hx2 (by rw [hf1.1 (D + 3) (by omega) (by omega) (by omega)]; exact hr) hfl hln (by omega) (fun M2 hs hv => ?_)
    refine x_aload_n (p2 := 54) rfl dX10_bestRotation_53 rfl ?_
    refine x_aload_n (p2 := 55) rfl dX10_bestRotation_54 rfl ?_
    refine x_getr (p2 := 58) (kz := 6) rfl dX10_bestRotation_55 f_10_19 rfl rfl hD.sh hD.r6 ?_
    refine x_v1 (p2 := 61) rfl dX10_bestRotation_58 l_10_140 ok_X10_costOf rfl hD.sh rfl ?_
    have hO2 := wfO_tn hOr hfl hln
    rw [show upf (tnf (l - f).toNat f (rotf f l (r - 1) v.2.2.2.1)) l (rotf f l (r - 1) v.2.2.2.1 f) = trn f l (rotf f l (r - 1) v.2.2.2.1) from rfl, rotf_s hfl.2 (by omega) (by omega), show r - 1 + 1 = r by omega] at hO2
    refine t_X10_costOf hD hD.a6 (v := (v.1, v.2.1, v.2.2.1, rotf f l r v.2.2.2.1, v.2.2.2.2.1, v.2.2.2.2.2)) (by rw [hs D (by omega), hf1.2 2 (by omega)]; exact hn) hv hG hO2 ?_
    refine x_istore (p2 := 63) (i := 7) (L2 := [(0, _), (1, _), (2, _), (3, _), (4, _), (5, _), (6, _), (7, _)]) rfl dX10_bestRotation_61 ⟨rfl, Nat.le_of_ble_eq_true rfl⟩ rfl ?_
    refine x_iload (p2 := 65) rfl dX10_bestRotation_63 rfl ?_
    refine x_iload (p2 := 67) rfl dX10_bestRotation_65 rfl ?_
    refine x_ic_ge (p2 := 70) (t := 75) (by decide) rfl dX10_bestRotation_67 (fun hc67 => ?_) (fun hc67 => ?_)
    · skip
      refine x_iload (p2 := 77) rfl dX10_bestRotation_75 rfl ?_
      refine x_istore (p2 := 79) (i := 4) (L2 := [(0, _), (1, _), (2, _), (3, _), (4, _), (5, _), (6, _), (7, _)]) rfl dX10_bestRotation_77 ⟨rfl, Nat.le_of_ble_eq_true rfl⟩ rfl ?_
      refine x_iload (p2 := 81) rfl dX10_bestRotation_79 rfl ?_
      refine x_iload (p2 := 83) rfl dX10_bestRotation_81 rfl ?_
      refine x_ic_ge (p2 := 86) (t := 91) (by decide) rfl dX10_bestRotation_83 (fun hc83 => ?_) (fun hc83 => ?_)
      · skip
        refine x_iload (p2 := 93) rfl dX10_bestRotation_91 rfl ?_
        refine x_istore (p2 := 95) (i := 5) (L2 := [(0, _), (1, _), (2, _), (3, _), (4, _), (5, _), (6, _), (7, _)]) rfl dX10_bestRotation_93 ⟨rfl, Nat.le_of_ble_eq_true rfl⟩ rfl ?_
        refine x_iinc (p2 := 98) (L2 := [(0, _), (1, _), (2, _), (3, _), (4, _), (5, _), (6, _), (7, _)]) rfl dX10_bestRotation_95 rfl ⟨by omega, by omega⟩ ⟨rfl, Nat.le_of_ble_eq_true rfl⟩ rfl ?_
        refine x_goto (t := 33) (by decide) dX10_bestRotation_98 ?_
        refine x_pick (L2 := [(0, _), (1, _), (2, _), (3, _), (4, _), (5, _), (6, _)]) [0, 1, 2, 3, 4, 5, 6] rfl ?_
        have hrt : rt M M2 D := hf1.tr ⟨fun c z1 z2 z3 => hs c z2, fun f z => by rw [hs D (by omega)]⟩
        have hc67' := hc67
        dsimp only at hc67' hO2
        first
          | exact absurd hc83 (by omega)
          | (rw [if_neg (show ¬ _ < _ from Int.not_lt.2 hc67')] at hq
             refine ih (r + 1) _ _ M2 (by omega) (by omega) hrt ?_ ?_
             · rw [show r + 1 - 1 = r by omega]; exact hO2
             · rw [show r + 1 - 1 = r by omega]; exact hq)
          | (rw [if_pos hc67'] at hq
             refine ih (r + 1) _ _ M2 (by omega) (by omega) hrt ?_ ?_
             · rw [show r + 1 - 1 = r by omega]; exact hO2
             · rw [show r + 1 - 1 = r by omega]; exact hq)
      · skip
        refine x_iload (p2 := 88) rfl dX10_bestRotation_86 rfl ?_
        refine x_goto (t := 93) (by decide) dX10_bestRotation_88 ?_
        refine x_istore (p2 := 95) (i := 5) (L2 := [(0, _), (1, _), (2, _), (3, _), (4, _), (5, _), (6, _), (7, _)]) rfl dX10_bestRotation_93 ⟨rfl, Nat.le_of_ble_eq_true rfl⟩ rfl ?_
        refine x_iinc (p2 := 98) (L2 := [(0, _), (1, _), (2, _), (3, _), (4, _), (5, _), (6, _), (7, _)]) rfl dX10_bestRotation_95 rfl ⟨by omega, by omega⟩ ⟨rfl, Nat.le_of_ble_eq_true rfl⟩ rfl ?_
        refine x_goto (t := 33) (by decide) dX10_bestRotation_98 ?_
        refine x_pick (L2 := [(0, _), (1, _), (2, _), (3, _), (4, _), (5, _), (6, _)]) [0, 1, 2, 3, 4, 5, 6] rfl ?_
        have hrt : rt M M2 D := hf1.tr ⟨fun c z1 z2 z3 => hs c z2, fun f z => by rw [hs D (by omega)]⟩
        have hc67' := hc67
        dsimp only at hc67' hO2
        first
          | exact absurd hc83 (by omega)
          | (rw [if_neg (show ¬ _ < _ from Int.not_lt.2 hc67')] at hq
             refine ih (r + 1) _ _ M2 (by omega) (by omega) hrt ?_ ?_
             · rw [show r + 1 - 1 = r by omega]; exact hO2
             · rw [show r + 1 - 1 = r by omega]; exact hq)
          | (rw [if_pos hc67'] at hq
             refine ih (r + 1) _ _ M2 (by omega) (by omega) hrt ?_ ?_
             · rw [show r + 1 - 1 = r by omega]; exact hO2
             · rw [show r + 1 - 1 = r by omega]; exact hq)
    · skip
      refine x_iload (p2 := 72) rfl dX10_bestRotation_70 rfl ?_
      refine x_goto (t := 77) (by decide) dX10_bestRotation_72 ?_
      refine x_istore (p2 := 79) (i := 4) (L2 := [(0, _), (1, _), (2, _), (3, _), (4, _), (5, _), (6, _), (7, _)]) rfl dX10_bestRotation_77 ⟨rfl, Nat.le_of_ble_eq_true rfl⟩ rfl ?_
      refine x_iload (p2 := 81) rfl dX10_bestRotation_79 rfl ?_
      refine x_iload (p2 := 83) rfl dX10_bestRotation_81 rfl ?_
      refine x_ic_ge (p2 := 86) (t := 91) (by decide) rfl dX10_bestRotation_83 (fun hc83 => ?_) (fun hc83 => ?_)
      · skip
        refine x_iload (p2 := 93) rfl dX10_bestRotation_91 rfl ?_
        refine x_istore (p2 := 95) (i := 5) (L2 := [(0, _), (1, _), (2, _), (3, _), (4, _), (5, _), (6, _), (7, _)]) rfl dX10_bestRotation_93 ⟨rfl, Nat.le_of_ble_eq_true rfl⟩ rfl ?_
        refine x_iinc (p2 := 98) (L2 := [(0, _), (1, _), (2, _), (3, _), (4, _), (5, _), (6, _), (7, _)]) rfl dX10_bestRotation_95 rfl ⟨by omega, by omega⟩ ⟨rfl, Nat.le_of_ble_eq_true rfl⟩ rfl ?_
        refine x_goto (t := 33) (by decide) dX10_bestRotation_98 ?_
        refine x_pick (L2 := [(0, _), (1, _), (2, _), (3, _), (4, _), (5, _), (6, _)]) [0, 1, 2, 3, 4, 5, 6] rfl ?_
        have hrt : rt M M2 D := hf1.tr ⟨fun c z1 z2 z3 => hs c z2, fun f z => by rw [hs D (by omega)]⟩
        have hc67' := hc67
        dsimp only at hc67' hO2
        first
          | exact absurd hc83 (by omega)
          | (rw [if_neg (show ¬ _ < _ from Int.not_lt.2 hc67')] at hq
             refine ih (r + 1) _ _ M2 (by omega) (by omega) hrt ?_ ?_
             · rw [show r + 1 - 1 = r by omega]; exact hO2
             · rw [show r + 1 - 1 = r by omega]; exact hq)
          | (rw [if_pos hc67'] at hq
             refine ih (r + 1) _ _ M2 (by omega) (by omega) hrt ?_ ?_
             · rw [show r + 1 - 1 = r by omega]; exact hO2
             · rw [show r + 1 - 1 = r by omega]; exact hq)
      · skip
        refine x_iload (p2 := 88) rfl dX10_bestRotation_86 rfl ?_
        refine x_goto (t := 93) (by decide) dX10_bestRotation_88 ?_
        refine x_istore (p2 := 95) (i := 5) (L2 := [(0, _), (1, _), (2, _), (3, _), (4, _), (5, _), (6, _), (7, _)]) rfl dX10_bestRotation_93 ⟨rfl, Nat.le_of_ble_eq_true rfl⟩ rfl ?_
        refine x_iinc (p2 := 98) (L2 := [(0, _), (1, _), (2, _), (3, _), (4, _), (5, _), (6, _), (7, _)]) rfl dX10_bestRotation_95 rfl ⟨by omega, by omega⟩ ⟨rfl, Nat.le_of_ble_eq_true rfl⟩ rfl ?_
        refine x_goto (t := 33) (by decide) dX10_bestRotation_98 ?_
        refine x_pick (L2 := [(0, _), (1, _), (2, _), (3, _), (4, _), (5, _), (6, _)]) [0, 1, 2, 3, 4, 5, 6] rfl ?_
        have hrt : rt M M2 D := hf1.tr ⟨fun c z1 z2 z3 => hs c z2, fun f z => by rw [hs D (by omega)]⟩
        have hc67' := hc67
        dsimp only at hc67' hO2
        first
          | exact absurd hc83 (by omega)
          | (rw [if_neg (show ¬ _ < _ from Int.not_lt.2 hc67')] at hq
             refine ih (r + 1) _ _ M2 (by omega) (by omega) hrt ?_ ?_
             · rw [show r + 1 - 1 = r by omega]; exact hO2
             · rw [show r + 1 - 1 = r by omega]; exact hq)
          | (rw [if_pos hc67'] at hq
             refine ih (r + 1) _ _ M2 (by omega) (by omega) hrt ?_ ?_
             · rw [show r + 1 - 1 = r by omega]; exact hO2
             · rw [show r + 1 - 1 = r by omega]; exact hq)
set_option maxHeartbeats 4000000 in
theorem t_X10_bestRotation {D : Nat} (hD : isMd σ ρ D) {n en : Int} {byt : Int → Int} {v : vV} (hM : mdI M D n en byt v) (hW : wfV n en byt v) {i j : Int} (k1 : ¬ (0 ≤ i ∧ i < n ∧ 0 ≤ j ∧ j < n) → Q (some (xI (-1))) (σ, ρ, M)) (k3 : (0 ≤ i ∧ i < n ∧ 0 ≤ j ∧ j < n) ∧ (i = 0 ∨ j < i ∨ v.2.2.2.2.1 ≤ j) → Q (some (xI (-3))) (σ, ρ, M)) (hq : 0 < i ∧ i ≤ j ∧ j < n ∧ j < v.2.2.2.2.1 → ∀ M2, rt M M2 D → Q (some (xI (brl n v.1 v.2.1 v.2.2.1 v.2.2.2.2.1 i j (j - i).toNat 1 v.2.2.2.1 0 (tcs n v.1 v.2.1 v.2.2.1 v.2.2.2.1 v.2.2.2.2.1)))) (σ, ρ, M2)) : xX G mX10_bestRotation 0 0 0 [(0, xP D), (1, xI i), (2, xI j)] [] (σ, ρ, M) Q := by
  obtain ⟨hn, hen, hyb, hr⟩ := id hM
  have hG := hW.1
  have hO := hW.2.1
  have hA := hW.2.2.1
  have he : M D 4 = en ∧ 0 ≤ en ∧ en ≤ 99 := ⟨hen, hW.2.2.2.1⟩
  have hy : ∀ b, 0 ≤ b → b < n → M (D + 2) b = byt b ∧ 0 ≤ byt b ∧ byt b ≤ 9 := fun b a c => ⟨hyb b a c, hW.2.2.2.2 b a c⟩
  have h8 := hG.2.1
  have h1 := hG.1
  have hx2 : ∀ b, 0 ≤ b → b < n → v.1 b ≤ 2 := fun b a c => (hG.2.2 b a c).2.1
  have hO5 := hO.2.2.2
  refine x_aload_n (p2 := 1) rfl dX10_bestRotation_0 rfl ?_
  refine x_aload_n (p2 := 2) rfl dX10_bestRotation_1 rfl ?_
  refine x_getr (p2 := 5) (kz := 5) rfl dX10_bestRotation_2 f_10_16 rfl rfl hD.sh hD.r5 ?_
  refine x_iload_n (p2 := 6) rfl dX10_bestRotation_5 rfl ?_
  refine x_iload_n (p2 := 7) rfl dX10_bestRotation_6 rfl ?_
  refine x_v3 (p2 := 10) rfl dX10_bestRotation_7 l_10_164 ok_X10_rangeError rfl hD.sh rfl ?_
  refine t_X10_rangeError hD hD.a5 hn hr hG (fun hb7 => ?_) (fun hb7 => ?_) (fun hb7 => ?_)
  · skip
    refine x_istore_n (p2 := 11) (i := 3) (L2 := [(0, _), (1, _), (2, _), (3, _)]) rfl dX10_bestRotation_10 rfl ⟨rfl, Nat.le_of_ble_eq_true rfl⟩ rfl ?_
    refine x_iload_n (p2 := 12) rfl dX10_bestRotation_11 rfl ?_
    refine x_if_eq (p2 := 15) (t := 17) (by decide) rfl dX10_bestRotation_12 (fun hc => absurd hc (by decide)) (fun _ => ?_)
    refine x_iload_n (p2 := 16) rfl dX10_bestRotation_15 rfl ?_
    refine x_iret dX10_bestRotation_16 rfl ?_
    exact k1 hb7
  · skip
    refine x_istore_n (p2 := 11) (i := 3) (L2 := [(0, _), (1, _), (2, _), (3, _)]) rfl dX10_bestRotation_10 rfl ⟨rfl, Nat.le_of_ble_eq_true rfl⟩ rfl ?_
    refine x_iload_n (p2 := 12) rfl dX10_bestRotation_11 rfl ?_
    refine x_if_eq (p2 := 15) (t := 17) (by decide) rfl dX10_bestRotation_12 (fun hc => absurd hc (by decide)) (fun _ => ?_)
    refine x_iload_n (p2 := 16) rfl dX10_bestRotation_15 rfl ?_
    refine x_iret dX10_bestRotation_16 rfl ?_
    exact k3 hb7
  · skip
    refine x_istore_n (p2 := 11) (i := 3) (L2 := [(0, _), (1, _), (2, _), (3, _)]) rfl dX10_bestRotation_10 rfl ⟨rfl, Nat.le_of_ble_eq_true rfl⟩ rfl ?_
    refine x_iload_n (p2 := 12) rfl dX10_bestRotation_11 rfl ?_
    refine x_if_eq (p2 := 15) (t := 17) (by decide) rfl dX10_bestRotation_12 (fun _ => ?_) (fun hc => absurd hc (by decide))
    refine x_iconst (p2 := 18) rfl dX10_bestRotation_17 ⟨by decide, by decide⟩ ?_
    refine x_istore (p2 := 20) (i := 4) (L2 := [(0, _), (1, _), (2, _), (3, _), (4, _)]) rfl dX10_bestRotation_18 ⟨rfl, Nat.le_of_ble_eq_true rfl⟩ rfl ?_
    refine x_aload_n (p2 := 21) rfl dX10_bestRotation_20 rfl ?_
    refine x_aload_n (p2 := 22) rfl dX10_bestRotation_21 rfl ?_
    refine x_getr (p2 := 25) (kz := 5) rfl dX10_bestRotation_22 f_10_16 rfl rfl hD.sh hD.r5 ?_
    refine x_v1 (p2 := 28) rfl dX10_bestRotation_25 l_10_140 ok_X10_costOf rfl hD.sh rfl ?_
    refine t_X10_costOf hD hD.a5 hn hr hG hO ?_
    refine x_istore (p2 := 30) (i := 5) (L2 := [(0, _), (1, _), (2, _), (3, _), (4, _), (5, _)]) rfl dX10_bestRotation_28 ⟨rfl, Nat.le_of_ble_eq_true rfl⟩ rfl ?_
    refine x_iconst (p2 := 31) rfl dX10_bestRotation_30 ⟨by decide, by decide⟩ ?_
    refine x_istore (p2 := 33) (i := 6) (L2 := [(0, _), (1, _), (2, _), (3, _), (4, _), (5, _), (6, _)]) rfl dX10_bestRotation_31 ⟨rfl, Nat.le_of_ble_eq_true rfl⟩ rfl ?_
    refine x_pick (L2 := [(0, _), (1, _), (2, _), (3, _), (4, _), (5, _), (6, _)]) [0, 1, 2, 3, 4, 5, 6] rfl ?_
    refine t_br2 hD hM hW (by omega) (by omega) (j - i).toNat 1 0 _ M (by omega) (by omega) rt.rf ?_ (fun M2 h2 => ?_)
    · rw [show (1 : Int) - 1 = 0 by omega, rotf_0]; exact hO
    · rw [show (1 : Int) - 1 = 0 by omega, rotf_0]; exact hq hb7 M2 h2
end XMN
