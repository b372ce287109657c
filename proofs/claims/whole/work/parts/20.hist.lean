section XTW
variable {G : xG} {σ : List (Nat × Nat)} {ρ : Nat → Int → Option Nat} {M : Nat → Int → Int} {Q : Option xV → xH → Prop}
def txL (M : Nat → Int → Int) (X : Nat) : Prop := 0 ≤ M X 3 ∧ M X 3 ≤ 99 ∧ (∀ j, 0 ≤ j → j < M X 3 → 0 ≤ M (X + 8) j ∧ M (X + 8) j ≤ 255)
theorem txI.l {X : Nat} (h : txI M X) : txL M X := ⟨h.1, h.2.1, h.2.2.1⟩
theorem rdk_p {tx : Int → Int} {ln n : Int} : ∀ (m : Nat) (p : Int), p ≤ ln → p ≤ (rdk tx ln n m p).2 ∧ (rdk tx ln n m p).2 ≤ ln
  | 0, p, h => by unfold rdk; dsimp only; omega
  | m + 1, p, h => by
    have h1 := rdb_p (tx := tx) (n := n) h
    unfold rdk
    split
    · have := rdk_p (tx := tx) (ln := ln) (n := n) m (rdb tx ln n p).2 h1.2
      omega
    · exact h1
theorem rdh_t {tx : Int → Int} {ln : Int} (h : (rdh tx ln).1 = true) : (0 < ln ∧ tx 0 = 66) ∧ dgt tx ln 1 1 8 = true ∧ (rdc tx ln 2).1 = true ∧ (rdh tx ln).2 = 4 := by
  unfold rdh at h ⊢
  by_cases h1 : 0 < ln ∧ tx 0 = 66
  · rw [if_pos h1] at h ⊢
    by_cases h2 : dgt tx ln 1 1 8 = true
    · rw [if_pos h2] at h ⊢
      exact ⟨h1, h2, h, (rdc_t h).2.2⟩
    · rw [if_neg h2] at h; cases h
  · rw [if_neg h1] at h; cases h
theorem rdh_p {tx : Int → Int} {ln : Int} (h0 : 0 ≤ ln) : 0 ≤ (rdh tx ln).2 ∧ (rdh tx ln).2 ≤ ln := by
  unfold rdh
  by_cases h1 : 0 < ln ∧ tx 0 = 66
  · rw [if_pos h1]
    by_cases h2 : dgt tx ln 1 1 8 = true
    · rw [if_pos h2]
      have a := of_decide_eq_true h2
      have := rdc_p (tx := tx) (show 2 ≤ ln by omega)
      omega
    · rw [if_neg h2]; dsimp only; omega
  · rw [if_neg h1]; dsimp only; omega
theorem prs_p {tx : Int → Int} {ln : Int} (h0 : 0 ≤ ln) : 0 ≤ (prs tx ln).2 ∧ (prs tx ln).2 ≤ ln := by
  have h := rdh_p (tx := tx) h0
  unfold prs
  split
  · have := rdk_p (tx := tx) (ln := ln) (n := tx 1 - 48) (tx 1 - 48).toNat (rdh tx ln).2 h.2
    omega
  · exact h
set_option maxHeartbeats 4000000 in
theorem t_X6_readBlocks {X : Nat} (hX : isTx σ ρ X) (hI : txI M X) (hn : 1 ≤ M (X + 1) 0 ∧ M (X + 1) 0 ≤ 8) (h4 : M X 4 = 4) (k1 : ((rdk (M (X + 8)) (M X 3) (M (X + 1) 0) (M (X + 1) 0).toNat (M X 4))).1 = true → ∀ M2, frT M M2 X → M2 X 4 = ((rdk (M (X + 8)) (M X 3) (M (X + 1) 0) (M (X + 1) 0).toNat (M X 4))).2 → M2 (X + 1) = M (X + 1) → M2 (X + 3) = M (X + 3) → M2 (X + 7) = M (X + 7) → (∀ x, 0 ≤ x → x < M (X + 1) 0 → cnt (M (X + 8)) (M2 (X + 2)) (M2 (X + 4)) (M2 (X + 5)) (M2 (X + 6)) x (bps (M (X + 8)) x.toNat)) → Q (some (xI 1)) (σ, ρ, M2)) (k0 : ¬ ((rdk (M (X + 8)) (M X 3) (M (X + 1) 0) (M (X + 1) 0).toNat (M X 4))).1 = true → ∀ M2, frT M M2 X → M2 X 4 = ((rdk (M (X + 8)) (M X 3) (M (X + 1) 0) (M (X + 1) 0).toNat (M X 4))).2 → Q (some (xI 0)) (σ, ρ, M2)) : xX G mX6_readBlocks 0 0 0 [(0, xP X)] [] (σ, ρ, M) Q := by
  refine x_iconst (p2 := 1) rfl dX6_readBlocks_0 ⟨by decide, by decide⟩ ?_
  refine x_istore_n (p2 := 2) (i := 1) (L2 := [(0, _), (1, _)]) rfl dX6_readBlocks_1 rfl ⟨rfl, Nat.le_of_ble_eq_true rfl⟩ rfl ?_
  refine x_pick (L2 := [(0, _), (1, _)]) [0, 1] rfl ?_
  exact t_rk_l hX (M (X + 1) 0).toNat 0 M hI hn (by omega) (by omega) h4 (fun x a c => by omega) (fun x a c => by omega) k1 k0
set_option maxHeartbeats 4000000 in
theorem t_X6_readHead {X : Nat} (hX : isTx σ ρ X) (hI : txI M X) (h4 : M X 4 = 0) (k1 : ((rdh (M (X + 8)) (M X 3))).1 = true → ∀ M2, frT M M2 X → M2 X 4 = 4 → M2 (X + 1) 0 = (M (X + 8)) 1 - 48 → M2 (X + 1) 1 = 10 * ((M (X + 8)) 2 - 48) + ((M (X + 8)) 3 - 48) → (∀ j, 0 ≤ j → j < 8 → M2 (X + 7) j = j) → M2 (X + 3) 5 = (M (X + 8)) 1 - 48 → M2 (X + 3) 6 = 1 → Q (some (xI 1)) (σ, ρ, M2)) (k0 : ¬ ((rdh (M (X + 8)) (M X 3))).1 = true → ∀ M2, frT M M2 X → M2 X 4 = ((rdh (M (X + 8)) (M X 3))).2 → Q (some (xI 0)) (σ, ρ, M2)) : xX G mX6_readHead 0 0 0 [(0, xP X)] [] (σ, ρ, M) Q := by
  obtain ⟨i1, i2, i3, i4, i5⟩ := id hI
  refine x_aload_n (p2 := 1) rfl dX6_readHead_0 rfl ?_
  refine x_geti (p2 := 4) (kz := 4) rfl dX6_readHead_1 f_6_35 rfl rfl hX.sh ?_
  refine x_aload_n (p2 := 5) rfl dX6_readHead_4 rfl ?_
  refine x_geti (p2 := 8) (kz := 3) rfl dX6_readHead_5 f_6_31 rfl rfl hX.sh ?_
  refine x_ic_ge (p2 := 11) (t := 25) (by decide) rfl dX6_readHead_8 (fun hc8 => ?_) (fun hc8 => ?_)
  · skip
    refine x_iconst (p2 := 26) rfl dX6_readHead_25 ⟨by decide, by decide⟩ ?_
    refine x_zret dX6_readHead_26 rfl (by omega) ?_
    have hz : ¬ (0 < M X 3 ∧ M (X + 8) 0 = 66) := by omega
    unfold rdh at k0
    rw [if_neg hz] at k0
    exact k0 (fun z => by cases z) M frT.rf h4
  · skip
    refine x_aload_n (p2 := 12) rfl dX6_readHead_11 rfl ?_
    refine x_getr (p2 := 15) (kz := 2) rfl dX6_readHead_12 f_6_27 rfl rfl hX.sh hX.r2 ?_
    refine x_aload_n (p2 := 16) rfl dX6_readHead_15 rfl ?_
    refine x_geti (p2 := 19) (kz := 4) rfl dX6_readHead_16 f_6_35 rfl rfl hX.sh ?_
    refine x_iald (p2 := 20) rfl dX6_readHead_19 hX.a2 (by omega) (by omega) ?_
    rw [h4]
    refine x_bipush (p2 := 22) rfl dX6_readHead_20 ⟨by decide, ⟨by decide, by decide⟩⟩ ?_
    refine x_ic_eq (p2 := 25) (t := 27) (by decide) rfl dX6_readHead_22 (fun hc22 => ?_) (fun hc22 => ?_)
    · skip
      refine x_aload_n (p2 := 28) rfl dX6_readHead_27 rfl ?_
      refine x_dup (p2 := 29) rfl dX6_readHead_28 rfl ?_
      refine x_geti (p2 := 32) (kz := 4) rfl dX6_readHead_29 f_6_35 rfl rfl hX.sh ?_
      rw [h4]
      refine x_iconst (p2 := 33) rfl dX6_readHead_32 ⟨by decide, by decide⟩ ?_
      refine x_iadd (p2 := 34) rfl dX6_readHead_33 ⟨by omega, by omega⟩ ?_
      refine x_puti (p2 := 37) (kz := 4) rfl dX6_readHead_34 f_6_35 rfl rfl rfl hX.sh ?_
      generalize hM5 : xu M X 4 (0 + 1) = M5
      have hf5 : frT M M5 X := by rw [← hM5]; exact frT.at
      have e85 : M5 (X + 8) = M (X + 8) := hf5.1 _ (by omega)
      have e45 : M5 X 4 = 1 := by rw [← hM5, xu_s]; omega
      have hI5 := hI.mv hf5 (by rw [e45]; omega) (by rw [e45]; omega)
      have hz0 : 0 < M X 3 ∧ M (X + 8) 0 = 66 := by omega
      have hlt := hX.st.lt
      refine x_aload_n (p2 := 38) rfl dX6_readHead_37 rfl ?_
      refine x_iconst (p2 := 39) rfl dX6_readHead_38 ⟨by decide, by decide⟩ ?_
      refine x_bipush (p2 := 41) rfl dX6_readHead_39 ⟨by decide, ⟨by decide, by decide⟩⟩ ?_
      refine x_v2 (p2 := 44) rfl dX6_readHead_41 l_6_45 ok_X6_readDigit rfl hX.sh rfl ?_
      refine t_X6_readDigit hX hI5 (by omega) (fun hb41 => ?_) (fun hb41 => ?_)
      all_goals rw [e85, hf5.2, e45] at hb41
      · skip
        try rw [e85, e45]
        refine x_istore_n (p2 := 45) (i := 1) (L2 := [(0, _), (1, _)]) rfl dX6_readHead_44 rfl ⟨rfl, Nat.le_of_ble_eq_true rfl⟩ rfl ?_
        refine x_iload_n (p2 := 46) rfl dX6_readHead_45 rfl ?_
        refine x_if_ge (p2 := 49) (t := 51) (by decide) rfl dX6_readHead_46 (fun hc46 => ?_) (fun hc46 => absurd hc46 (by have := of_decide_eq_true hb41; omega))
        have hb41' := of_decide_eq_true hb41
        refine x_aload_n (p2 := 52) rfl dX6_readHead_51 rfl ?_
        refine x_getr (p2 := 55) (kz := 0) rfl dX6_readHead_52 f_6_12 rfl rfl hX.sh hX.r0 ?_
        refine x_iload_n (p2 := 56) rfl dX6_readHead_55 rfl ?_
        refine x_puti (p2 := 59) (kz := 0) rfl dX6_readHead_56 f_6_49 rfl rfl rfl hX.st.fr.sh ?_
        generalize hM6 : xu (xu M5 X 4 (1 + 1)) (X + 1) 0 (M (X + 8) 1 - 48) = M6
        have hf6 : frT M5 M6 X := by rw [← hM6]; exact frT.at.tr (frT.cell (by omega))
        have e86 : M6 (X + 8) = M (X + 8) := (hf6.1 _ (by omega)).trans e85
        have e46 : M6 X 4 = 2 := by rw [← hM6, xu_c (by omega), xu_s]; omega
        have b6 : M6 (X + 1) 0 = M (X + 8) 1 - 48 := by rw [← hM6, xu_s]
        have hI6 := hI5.mv hf6 (by rw [e46]; omega) (by rw [e46, hf5.2]; omega)
        refine x_aload_n (p2 := 60) rfl dX6_readHead_59 rfl ?_
        refine x_v0 (p2 := 63) rfl dX6_readHead_60 l_6_52 ok_X6_readCount rfl hX.sh rfl ?_
        refine t_X6_readCount hX hI6 (fun hb60 M7 g7 hf7 ha7 => ?_) (fun hb60 M7 g7 hf7 ha7 => ?_)
        all_goals rw [e86, hf6.2, hf5.2, e46] at hb60
        · skip
          try rw [e86, e46]
          refine x_istore_n (p2 := 64) (i := 2) (L2 := [(0, _), (1, _), (2, _)]) rfl dX6_readHead_63 rfl ⟨rfl, Nat.le_of_ble_eq_true rfl⟩ rfl ?_
          refine x_aload_n (p2 := 65) rfl dX6_readHead_64 rfl ?_
          refine x_getr (p2 := 68) (kz := 0) rfl dX6_readHead_65 f_6_12 rfl rfl hX.sh hX.r0 ?_
          refine x_iload_n (p2 := 69) rfl dX6_readHead_68 rfl ?_
          refine x_puti (p2 := 72) (kz := 1) rfl dX6_readHead_69 f_6_56 rfl rfl rfl hX.st.fr.sh ?_
          generalize hM8 : xu M7 (X + 1) 1 _ = M8
          have hf8 : frT M7 M8 X := by rw [← hM8]; exact frT.cell (by omega)
          refine x_aload_n (p2 := 73) rfl dX6_readHead_72 rfl ?_
          refine x_getr (p2 := 76) (kz := 1) rfl dX6_readHead_73 f_6_23 rfl rfl hX.sh hX.r1 ?_
          refine x_v0 (p2 := 79) rfl dX6_readHead_76 l_6_59 ok_X7_layOutByNumber rfl hX.st.sh rfl ?_
          refine t_X7_layOutByNumber hX.st (fun M76 hA76 hB76 hC76 hD76 => ?_)
          have hf9 : frT M8 M76 X := ⟨fun c h => hD76 c (by omega) (by omega), by rw [hD76 X (by omega) (by omega)]⟩
          have e1 : M76 (X + 1) = M8 (X + 1) := hD76 (X + 1) (by omega) (by omega)
          have e0 : M76 X 4 = M7 X 4 := by rw [hD76 X (by omega) (by omega), ← hM8, xu_c (by omega)]
          refine x_iload_n (p2 := 80) rfl dX6_readHead_79 rfl ?_
          refine x_if_lt (p2 := 83) (t := 87) (by decide) rfl dX6_readHead_80 (fun hc80 => ?_) (fun hc80 => ?_)
          · exact absurd hc80 (by have := rdc_t hb60; have z1 := of_decide_eq_true this.1; have z2 := of_decide_eq_true this.2.1; rw [show (2 : Int) + 1 = 3 by omega] at *; omega)
          refine x_iconst (p2 := 84) rfl dX6_readHead_83 ⟨by decide, by decide⟩ ?_
          refine x_goto (t := 88) (by decide) dX6_readHead_84 ?_
          refine x_zret dX6_readHead_88 rfl (by omega) ?_
          unfold rdh at k1
          rw [if_pos hz0, if_pos hb41] at k1
          refine k1 hb60 M76 ((((hf5.tr hf6).tr hf7).tr hf8).tr hf9) (by rw [e0, ha7, e46]; omega) ?_ ?_ hA76 ?_ hC76
          · rw [e1, ← hM8, xu_j (by omega), g7 _ (by omega), b6]
          · rw [e1, ← hM8, xu_s]; rfl
          · rw [hB76, ← hM8, xu_j (by omega), g7 _ (by omega), b6]
        · skip
          try rw [e86, e46]
          refine x_istore_n (p2 := 64) (i := 2) (L2 := [(0, _), (1, _), (2, _)]) rfl dX6_readHead_63 rfl ⟨rfl, Nat.le_of_ble_eq_true rfl⟩ rfl ?_
          refine x_aload_n (p2 := 65) rfl dX6_readHead_64 rfl ?_
          refine x_getr (p2 := 68) (kz := 0) rfl dX6_readHead_65 f_6_12 rfl rfl hX.sh hX.r0 ?_
          refine x_iload_n (p2 := 69) rfl dX6_readHead_68 rfl ?_
          refine x_puti (p2 := 72) (kz := 1) rfl dX6_readHead_69 f_6_56 rfl rfl rfl hX.st.fr.sh ?_
          generalize hM8 : xu M7 (X + 1) 1 _ = M8
          have hf8 : frT M7 M8 X := by rw [← hM8]; exact frT.cell (by omega)
          refine x_aload_n (p2 := 73) rfl dX6_readHead_72 rfl ?_
          refine x_getr (p2 := 76) (kz := 1) rfl dX6_readHead_73 f_6_23 rfl rfl hX.sh hX.r1 ?_
          refine x_v0 (p2 := 79) rfl dX6_readHead_76 l_6_59 ok_X7_layOutByNumber rfl hX.st.sh rfl ?_
          refine t_X7_layOutByNumber hX.st (fun M76 hA76 hB76 hC76 hD76 => ?_)
          have hf9 : frT M8 M76 X := ⟨fun c h => hD76 c (by omega) (by omega), by rw [hD76 X (by omega) (by omega)]⟩
          have e1 : M76 (X + 1) = M8 (X + 1) := hD76 (X + 1) (by omega) (by omega)
          have e0 : M76 X 4 = M7 X 4 := by rw [hD76 X (by omega) (by omega), ← hM8, xu_c (by omega)]
          refine x_iload_n (p2 := 80) rfl dX6_readHead_79 rfl ?_
          refine x_if_lt (p2 := 83) (t := 87) (by decide) rfl dX6_readHead_80 (fun _ => ?_) (fun hc => absurd hc (by decide))
          refine x_iconst (p2 := 88) rfl dX6_readHead_87 ⟨by decide, by decide⟩ ?_
          refine x_zret dX6_readHead_88 rfl (by omega) ?_
          unfold rdh at k0
          rw [if_pos hz0, if_pos hb41] at k0
          refine k0 hb60 M76 ((((hf5.tr hf6).tr hf7).tr hf8).tr hf9) (by rw [e0, ha7, e86, hf6.2, hf5.2, e46])
      · skip
        try rw [e85, e45]
        refine x_istore_n (p2 := 45) (i := 1) (L2 := [(0, _), (1, _)]) rfl dX6_readHead_44 rfl ⟨rfl, Nat.le_of_ble_eq_true rfl⟩ rfl ?_
        refine x_iload_n (p2 := 46) rfl dX6_readHead_45 rfl ?_
        refine x_if_ge (p2 := 49) (t := 51) (by decide) rfl dX6_readHead_46 (fun hc => absurd hc (by decide)) (fun _ => ?_)
        refine x_iconst (p2 := 50) rfl dX6_readHead_49 ⟨by decide, by decide⟩ ?_
        refine x_zret dX6_readHead_50 rfl (by omega) ?_
        unfold rdh at k0
        rw [if_pos hz0, if_neg hb41] at k0
        exact k0 (fun z => by cases z) M5 hf5 e45
    · skip
      refine x_iconst (p2 := 26) rfl dX6_readHead_25 ⟨by decide, by decide⟩ ?_
      refine x_zret dX6_readHead_26 rfl (by omega) ?_
      have hz : ¬ (0 < M X 3 ∧ M (X + 8) 0 = 66) := by omega
      unfold rdh at k0
      rw [if_neg hz] at k0
      exact k0 (fun z => by cases z) M frT.rf h4
set_option maxHeartbeats 4000000 in
theorem t_X6_read {X : Nat} (hX : isTx σ ρ X) (hI : txL M X) (k1 : ((prs (M (X + 8)) (M X 3))).1 = true ∧ ((prs (M (X + 8)) (M X 3))).2 = M X 3 → ∀ M2, frT M M2 X → M2 (X + 1) 0 = (M (X + 8)) 1 - 48 → M2 (X + 1) 1 = 10 * ((M (X + 8)) 2 - 48) + ((M (X + 8)) 3 - 48) → (∀ j, 0 ≤ j → j < 8 → M2 (X + 7) j = j) → M2 (X + 3) 5 = (M (X + 8)) 1 - 48 → M2 (X + 3) 6 = 1 → (∀ x, 0 ≤ x → x < (M (X + 8)) 1 - 48 → cnt (M (X + 8)) (M2 (X + 2)) (M2 (X + 4)) (M2 (X + 5)) (M2 (X + 6)) x (bps (M (X + 8)) x.toNat)) → Q (some (xI (-9))) (σ, ρ, M2)) (k0 : ¬ (((prs (M (X + 8)) (M X 3))).1 = true ∧ ((prs (M (X + 8)) (M X 3))).2 = M X 3) → ∀ M2, frT M M2 X → Q (some (xI ((prs (M (X + 8)) (M X 3))).2)) (σ, ρ, M2)) : xX G mX6_read 0 0 0 [(0, xP X)] [] (σ, ρ, M) Q := by
  obtain ⟨i1, i2, i3⟩ := id hI
  have hlt := hX.st.lt
  unfold prs at k1 k0
  refine x_aload_n (p2 := 1) rfl dX6_read_0 rfl ?_
  refine x_iconst (p2 := 2) rfl dX6_read_1 ⟨by decide, by decide⟩ ?_
  refine x_puti (p2 := 5) (kz := 4) rfl dX6_read_2 f_6_35 rfl rfl rfl hX.sh ?_
  refine x_aload_n (p2 := 6) rfl dX6_read_5 rfl ?_
  refine x_v0 (p2 := 9) rfl dX6_read_6 l_6_38 ok_X6_readHead rfl hX.sh rfl ?_
  generalize hM5 : xu M X 4 0 = M5
  have hf5 : frT M M5 X := by rw [← hM5]; exact frT.at
  have e8 : M5 (X + 8) = M (X + 8) := hf5.1 _ (by omega)
  have e4 : M5 X 4 = 0 := by rw [← hM5, xu_s]
  have hI5 : txI M5 X := ⟨by rw [hf5.2]; exact i1, by rw [hf5.2]; exact i2, (by rw [hf5.2, e8]; exact i3), by rw [e4]; omega, by rw [e4, hf5.2]; omega⟩
  refine t_X6_readHead hX hI5 e4 (fun hb M6 hf6 ha6 b6 c6 d6 s6 l6 => ?_) (fun hb M6 hf6 ha6 => ?_)
  all_goals rw [e8, hf5.2] at hb
  all_goals try rw [e8] at b6 c6 s6
  · skip
    refine x_if_eq (p2 := 12) (t := 34) (by decide) rfl dX6_read_9 (fun hc => absurd hc (by decide)) (fun _ => ?_)
    refine x_aload_n (p2 := 13) rfl dX6_read_12 rfl ?_
    refine x_v0 (p2 := 16) rfl dX6_read_13 l_6_42 ok_X6_readBlocks rfl hX.sh rfl ?_
    have hr := rdh_t hb
    have hd1 := of_decide_eq_true hr.2.1
    have hd2 := of_decide_eq_true (rdc_t hr.2.2.1).2.1
    have e86 : M6 (X + 8) = M (X + 8) := (hf6.1 _ (by omega)).trans e8
    have hI6 := hI5.mv hf6 (by rw [ha6]; omega) (by rw [ha6, hf5.2]; omega)
    rw [if_pos hb, hr.2.2.2] at k1 k0
    refine t_X6_readBlocks hX hI6 (by rw [b6]; omega) ha6 (fun hk M7 hf7 ha7 g1 g3 g7 gc => ?_) (fun hk M7 hf7 ha7 => ?_)
    all_goals rw [e86, hf6.2, hf5.2, b6, ha6] at hk ha7
    · skip
      refine x_if_eq (p2 := 19) (t := 34) (by decide) rfl dX6_read_16 (fun hc => absurd hc (by decide)) (fun _ => ?_)
      refine x_aload_n (p2 := 20) rfl dX6_read_19 rfl ?_
      refine x_geti (p2 := 23) (kz := 4) rfl dX6_read_20 f_6_35 rfl rfl hX.sh ?_
      refine x_aload_n (p2 := 24) rfl dX6_read_23 rfl ?_
      refine x_geti (p2 := 27) (kz := 3) rfl dX6_read_24 f_6_31 rfl rfl hX.sh ?_
      refine x_ic_ne (p2 := 30) (t := 34) (by decide) rfl dX6_read_27 (fun hc27 => ?_) (fun hc27 => ?_)
      · skip
        refine x_iconst (p2 := 35) rfl dX6_read_34 ⟨by decide, by decide⟩ ?_
        refine x_istore_n (p2 := 36) (i := 1) (L2 := [(0, _), (1, _)]) rfl dX6_read_35 rfl ⟨rfl, Nat.le_of_ble_eq_true rfl⟩ rfl ?_
        refine x_iload_n (p2 := 37) rfl dX6_read_36 rfl ?_
        refine x_if_eq (p2 := 40) (t := 45) (by decide) rfl dX6_read_37 (fun _ => ?_) (fun hc => absurd hc (by decide))
        refine x_aload_n (p2 := 46) rfl dX6_read_45 rfl ?_
        refine x_geti (p2 := 49) (kz := 4) rfl dX6_read_46 f_6_35 rfl rfl hX.sh ?_
        refine x_iret dX6_read_49 rfl ?_
        first
          | (rw [if_neg hb] at k0
             rw [ha6, e8, hf5.2]
             exact k0 (fun z => by cases z.1) M6 (hf5.tr hf6))
          | (have hc' := hc27
             rw [ha7, hf7.2, hf6.2, hf5.2] at hc'
             rw [ha7]
             exact k0 (fun z => hc' z.2) M7 ((hf5.tr hf6).tr hf7))
          | (rw [ha7]
             exact k0 (fun z => hk z.1) M7 ((hf5.tr hf6).tr hf7))
      · skip
        refine x_iconst (p2 := 31) rfl dX6_read_30 ⟨by decide, by decide⟩ ?_
        refine x_goto (t := 35) (by decide) dX6_read_31 ?_
        refine x_istore_n (p2 := 36) (i := 1) (L2 := [(0, _), (1, _)]) rfl dX6_read_35 rfl ⟨rfl, Nat.le_of_ble_eq_true rfl⟩ rfl ?_
        refine x_iload_n (p2 := 37) rfl dX6_read_36 rfl ?_
        refine x_if_eq (p2 := 40) (t := 45) (by decide) rfl dX6_read_37 (fun hc => absurd hc (by decide)) (fun _ => ?_)
        refine x_bipush (p2 := 42) rfl dX6_read_40 ⟨by decide, ⟨by decide, by decide⟩⟩ ?_
        refine x_goto (t := 49) (by decide) dX6_read_42 ?_
        refine x_iret dX6_read_49 rfl ?_
        rw [e86, b6] at gc
        have hc' := hc27
        rw [ha7, hf7.2, hf6.2, hf5.2] at hc'
        refine k1 ⟨hk, hc'⟩ M7 ((hf5.tr hf6).tr hf7) ?_ ?_ ?_ ?_ ?_ gc
        · rw [g1]; exact b6
        · rw [g1]; exact c6
        · rw [g7]; exact d6
        · rw [g3]; exact s6
        · rw [g3]; exact l6
    · skip
      refine x_if_eq (p2 := 19) (t := 34) (by decide) rfl dX6_read_16 (fun _ => ?_) (fun hc => absurd hc (by decide))
      refine x_iconst (p2 := 35) rfl dX6_read_34 ⟨by decide, by decide⟩ ?_
      refine x_istore_n (p2 := 36) (i := 1) (L2 := [(0, _), (1, _)]) rfl dX6_read_35 rfl ⟨rfl, Nat.le_of_ble_eq_true rfl⟩ rfl ?_
      refine x_iload_n (p2 := 37) rfl dX6_read_36 rfl ?_
      refine x_if_eq (p2 := 40) (t := 45) (by decide) rfl dX6_read_37 (fun _ => ?_) (fun hc => absurd hc (by decide))
      refine x_aload_n (p2 := 46) rfl dX6_read_45 rfl ?_
      refine x_geti (p2 := 49) (kz := 4) rfl dX6_read_46 f_6_35 rfl rfl hX.sh ?_
      refine x_iret dX6_read_49 rfl ?_
      first
        | (rw [if_neg hb] at k0
           rw [ha6, e8, hf5.2]
           exact k0 (fun z => by cases z.1) M6 (hf5.tr hf6))
        | (have hc' := hc27
           rw [ha7, hf7.2, hf6.2, hf5.2] at hc'
           rw [ha7]
           exact k0 (fun z => hc' z.2) M7 ((hf5.tr hf6).tr hf7))
        | (rw [ha7]
           exact k0 (fun z => hk z.1) M7 ((hf5.tr hf6).tr hf7))
  · skip
    refine x_if_eq (p2 := 12) (t := 34) (by decide) rfl dX6_read_9 (fun _ => ?_) (fun hc => absurd hc (by decide))
    refine x_iconst (p2 := 35) rfl dX6_read_34 ⟨by decide, by decide⟩ ?_
    refine x_istore_n (p2 := 36) (i := 1) (L2 := [(0, _), (1, _)]) rfl dX6_read_35 rfl ⟨rfl, Nat.le_of_ble_eq_true rfl⟩ rfl ?_
    refine x_iload_n (p2 := 37) rfl dX6_read_36 rfl ?_
    refine x_if_eq (p2 := 40) (t := 45) (by decide) rfl dX6_read_37 (fun _ => ?_) (fun hc => absurd hc (by decide))
    refine x_aload_n (p2 := 46) rfl dX6_read_45 rfl ?_
    refine x_geti (p2 := 49) (kz := 4) rfl dX6_read_46 f_6_35 rfl rfl hX.sh ?_
    refine x_iret dX6_read_49 rfl ?_
    first
      | (rw [if_neg hb] at k0
         rw [ha6, e8, hf5.2]
         exact k0 (fun z => by cases z.1) M6 (hf5.tr hf6))
      | (have hc' := hc27
         rw [ha7, hf7.2, hf6.2, hf5.2] at hc'
         rw [ha7]
         exact k0 (fun z => hc' z.2) M7 ((hf5.tr hf6).tr hf7))
      | (rw [ha7]
         exact k0 (fun z => hk z.1) M7 ((hf5.tr hf6).tr hf7))
set_option maxHeartbeats 4000000 in
theorem t_X6_addSign {X : Nat} (hX : isTx σ ρ X) (hI : txL M X) {c : Int} (k2 : ¬ (0 ≤ c ∧ c ≤ 255) → Q (some (xI (-2))) (σ, ρ, M)) (k4 : (0 ≤ c ∧ c ≤ 255) → M X 3 = 99 → Q (some (xI (-4))) (σ, ρ, M)) (k0 : (0 ≤ c ∧ c ≤ 255) → M X 3 < 99 → Q (some (xI (M X 3 + 1))) (σ, ρ, xu (xu M (X + 8) (M X 3) c) X 3 (M X 3 + 1))) : xX G mX6_addSign 0 0 0 [(0, xP X), (1, xI c)] [] (σ, ρ, M) Q := by
  obtain ⟨i1, i2, i3⟩ := id hI
  refine x_iload_n (p2 := 1) rfl dX6_addSign_0 rfl ?_
  refine x_if_lt (p2 := 4) (t := 11) (by decide) rfl dX6_addSign_1 (fun hc1 => ?_) (fun hc1 => ?_)
  · skip
    refine x_bipush (p2 := 13) rfl dX6_addSign_11 ⟨by decide, ⟨by decide, by decide⟩⟩ ?_
    refine x_iret dX6_addSign_13 rfl ?_
    exact k2 (by omega)
  · skip
    refine x_iload_n (p2 := 5) rfl dX6_addSign_4 rfl ?_
    refine x_sipush (p2 := 8) rfl dX6_addSign_5 ⟨by decide, ⟨by decide, by decide⟩⟩ ?_
    refine x_ic_le (p2 := 11) (t := 14) (by decide) rfl dX6_addSign_8 (fun hc8 => ?_) (fun hc8 => ?_)
    · skip
      refine x_aload_n (p2 := 15) rfl dX6_addSign_14 rfl ?_
      refine x_geti (p2 := 18) (kz := 3) rfl dX6_addSign_15 f_6_31 rfl rfl hX.sh ?_
      refine x_bipush (p2 := 20) rfl dX6_addSign_18 ⟨by decide, ⟨by decide, by decide⟩⟩ ?_
      refine x_ic_lt (p2 := 23) (t := 26) (by decide) rfl dX6_addSign_20 (fun hc20 => ?_) (fun hc20 => ?_)
      · skip
        refine x_aload_n (p2 := 27) rfl dX6_addSign_26 rfl ?_
        refine x_getr (p2 := 30) (kz := 2) rfl dX6_addSign_27 f_6_27 rfl rfl hX.sh hX.r2 ?_
        refine x_aload_n (p2 := 31) rfl dX6_addSign_30 rfl ?_
        refine x_geti (p2 := 34) (kz := 3) rfl dX6_addSign_31 f_6_31 rfl rfl hX.sh ?_
        refine x_iload_n (p2 := 35) rfl dX6_addSign_34 rfl ?_
        refine x_iast (p2 := 36) rfl dX6_addSign_35 hX.a2 (by omega) (by omega) ?_
        refine x_aload_n (p2 := 37) rfl dX6_addSign_36 rfl ?_
        refine x_dup (p2 := 38) rfl dX6_addSign_37 rfl ?_
        refine x_geti (p2 := 41) (kz := 3) rfl dX6_addSign_38 f_6_31 rfl rfl hX.sh ?_
        rw [xu_c (by omega)]
        refine x_iconst (p2 := 42) rfl dX6_addSign_41 ⟨by decide, by decide⟩ ?_
        refine x_iadd (p2 := 43) rfl dX6_addSign_42 ⟨by omega, by omega⟩ ?_
        refine x_puti (p2 := 46) (kz := 3) rfl dX6_addSign_43 f_6_31 rfl rfl rfl hX.sh ?_
        refine x_aload_n (p2 := 47) rfl dX6_addSign_46 rfl ?_
        refine x_geti (p2 := 50) (kz := 3) rfl dX6_addSign_47 f_6_31 rfl rfl hX.sh ?_
        rw [xu_s]
        refine x_iret dX6_addSign_50 rfl ?_
        exact k0 (by omega) (by omega)
      · skip
        refine x_bipush (p2 := 25) rfl dX6_addSign_23 ⟨by decide, ⟨by decide, by decide⟩⟩ ?_
        refine x_iret dX6_addSign_25 rfl ?_
        exact k4 (by omega) (by omega)
    · skip
      refine x_bipush (p2 := 13) rfl dX6_addSign_11 ⟨by decide, ⟨by decide, by decide⟩⟩ ?_
      refine x_iret dX6_addSign_13 rfl ?_
      exact k2 (by omega)
set_option maxHeartbeats 4000000 in
theorem t_X6_dropSigns {X : Nat} (hX : isTx σ ρ X) (hq : Q (some (xI (M X 3))) (σ, ρ, xu M X 3 0)) : xX G mX6_dropSigns 0 0 0 [(0, xP X)] [] (σ, ρ, M) Q := by
  refine x_aload_n (p2 := 1) rfl dX6_dropSigns_0 rfl ?_
  refine x_geti (p2 := 4) (kz := 3) rfl dX6_dropSigns_1 f_6_31 rfl rfl hX.sh ?_
  refine x_istore_n (p2 := 5) (i := 1) (L2 := [(0, _), (1, _)]) rfl dX6_dropSigns_4 rfl ⟨rfl, Nat.le_of_ble_eq_true rfl⟩ rfl ?_
  refine x_aload_n (p2 := 6) rfl dX6_dropSigns_5 rfl ?_
  refine x_iconst (p2 := 7) rfl dX6_dropSigns_6 ⟨by decide, by decide⟩ ?_
  refine x_puti (p2 := 10) (kz := 3) rfl dX6_dropSigns_7 f_6_31 rfl rfl rfl hX.sh ?_
  refine x_iload_n (p2 := 11) rfl dX6_dropSigns_10 rfl ?_
  refine x_iret dX6_dropSigns_11 rfl ?_
  exact hq
/-- History at H: its ring at H + 1, the States behind it -/
def rg (H : Nat) (i : Int) : Nat := H + 2 + 5 * i.toNat
def isHi (σ : List (Nat × Nat)) (ρ : Nat → Int → Option Nat) (H F : Nat) : Prop := σ[H]? = some (2, xN 2) ∧ ρ H 0 = some (H + 1) ∧ σ[H + 1]? = some (102, 14) ∧ ∀ i, 0 ≤ i → i < 14 → ρ (H + 1) i = some (rg H i) ∧ isSt σ ρ (rg H i) F
theorem isHi.sh {H F : Nat} (h : isHi σ ρ H F) : σ[H]? = some (2, xN 2) := h.1
theorem isHi.r0 {H F : Nat} (h : isHi σ ρ H F) : ρ H 0 = some (H + 1) := h.2.1
theorem isHi.a0 {H F : Nat} (h : isHi σ ρ H F) : σ[H + 1]? = some (102, 14) := h.2.2.1
/-- State S of M' holds what State T of M holds -/
def sq (M' : Nat → Int → Int) (S : Nat) (M : Nat → Int → Int) (T : Nat) : Prop := (∀ j, 0 ≤ j → j < 8 → M' (S + 1) j = M (T + 1) j) ∧ (∀ j, 0 ≤ j → j < 16 → M' (S + 2) j = M (T + 2) j) ∧ (∀ j, 0 ≤ j → j < 16 → M' (S + 3) j = M (T + 3) j) ∧ (∀ j, 0 ≤ j → j < 8 → M' (S + 4) j = M (T + 4) j) ∧ M' S 5 = M T 5 ∧ M' S 6 = M T 6
theorem cpSt.sq {M2 : Nat → Int → Int} {S T : Nat} (h : cpSt M M2 S T) : sq M2 S M T := ⟨h.1, h.2.1, h.2.2.1, h.2.2.2.1, h.2.2.2.2.1, h.2.2.2.2.2.1⟩
theorem cpSt.f {M2 : Nat → Int → Int} {S T : Nat} (h : cpSt M M2 S T) : ∀ c, c < S ∨ S + 4 < c → M2 c = M c := h.2.2.2.2.2.2
theorem sq.mv {M1 M2 M3 M4 : Nat → Int → Int} {S T : Nat} (h : sq M1 S M2 T) (h1 : ∀ c, S ≤ c → c ≤ S + 4 → M3 c = M1 c) (h2 : ∀ c, T ≤ c → c ≤ T + 4 → M4 c = M2 c) : sq M3 S M4 T := by
  obtain ⟨a, b, c, d, e, f⟩ := h
  refine ⟨fun j q r => ?_, fun j q r => ?_, fun j q r => ?_, fun j q r => ?_, ?_, ?_⟩
  · rw [h1 _ (by omega) (by omega), h2 _ (by omega) (by omega)]; exact a j q r
  · rw [h1 _ (by omega) (by omega), h2 _ (by omega) (by omega)]; exact b j q r
  · rw [h1 _ (by omega) (by omega), h2 _ (by omega) (by omega)]; exact c j q r
  · rw [h1 _ (by omega) (by omega), h2 _ (by omega) (by omega)]; exact d j q r
  · rw [h1 _ (by omega) (by omega), h2 _ (by omega) (by omega)]; exact e
  · rw [h1 _ (by omega) (by omega), h2 _ (by omega) (by omega)]; exact f
theorem sq.tr {M1 M2 M3 : Nat → Int → Int} {S T U : Nat} (h : sq M1 S M2 T) (g : sq M2 T M3 U) : sq M1 S M3 U := ⟨fun j q r => (h.1 j q r).trans (g.1 j q r), fun j q r => (h.2.1 j q r).trans (g.2.1 j q r), fun j q r => (h.2.2.1 j q r).trans (g.2.2.1 j q r), fun j q r => (h.2.2.2.1 j q r).trans (g.2.2.2.1 j q r), h.2.2.2.2.1.trans g.2.2.2.2.1, h.2.2.2.2.2.trans g.2.2.2.2.2⟩
set_option maxHeartbeats 4000000 in
theorem t_X2_forget {H F : Nat} (hH : isHi σ ρ H F) (hq : Q none (σ, ρ, xu M H 2 0)) : xX G mX2_forget 0 0 0 [(0, xP H)] [] (σ, ρ, M) Q := by
  refine x_aload_n (p2 := 1) rfl dX2_forget_0 rfl ?_
  refine x_iconst (p2 := 2) rfl dX2_forget_1 ⟨by decide, by decide⟩ ?_
  refine x_puti (p2 := 5) (kz := 2) rfl dX2_forget_2 f_2_21 rfl rfl rfl hH.sh ?_
  refine x_vret dX2_forget_5 rfl ?_
  exact hq
set_option maxHeartbeats 4000000 in
theorem t_rem_t {H S F : Nat} (hH : isHi σ ρ H F) (hS : isSt σ ρ S F) (hd : S + 4 < H ∨ H + 71 < S) (ho : 0 ≤ M H 1 ∧ M H 1 < 14) (hh : 0 ≤ M H 2 ∧ M H 2 < 14) (hq : ∀ M2, (∀ c, c ≠ H → (c < rg H ((M H 1 + M H 2) % 14) ∨ rg H ((M H 1 + M H 2) % 14) + 4 < c) → M2 c = M c) → sq M2 (rg H ((M H 1 + M H 2) % 14)) M S → M2 H 1 = M H 1 → M2 H 2 = M H 2 + 1 → Q none (σ, ρ, M2)) : xX G mX2_remember 0 0 32 [(0, xP H), (1, xP S)] [] (σ, ρ, M) Q := by
  obtain ⟨hr, hs⟩ := hH.2.2.2 ((M H 1 + M H 2) % 14) (by omega) (by omega)
  have hb : H + 2 ≤ rg H ((M H 1 + M H 2) % 14) ∧ rg H ((M H 1 + M H 2) % 14) + 4 ≤ H + 71 := by unfold rg; omega
  refine x_aload_n (p2 := 33) rfl dX2_remember_32 rfl ?_
  refine x_getr (p2 := 36) (kz := 0) rfl dX2_remember_33 f_2_11 rfl rfl hH.sh hH.r0 ?_
  refine x_aload_n (p2 := 37) rfl dX2_remember_36 rfl ?_
  refine x_geti (p2 := 40) (kz := 1) rfl dX2_remember_37 f_2_17 rfl rfl hH.sh ?_
  refine x_aload_n (p2 := 41) rfl dX2_remember_40 rfl ?_
  refine x_geti (p2 := 44) (kz := 2) rfl dX2_remember_41 f_2_21 rfl rfl hH.sh ?_
  refine x_iadd (p2 := 45) rfl dX2_remember_44 ⟨by omega, by omega⟩ ?_
  refine x_bipush (p2 := 47) rfl dX2_remember_45 ⟨by decide, ⟨by decide, by decide⟩⟩ ?_
  refine x_irem (p2 := 48) rfl dX2_remember_47 (by omega) (by omega) ?_
  refine x_aald (p2 := 49) rfl dX2_remember_48 hH.a0 (by omega) (by omega) hr ?_
  refine x_aload_n (p2 := 50) rfl dX2_remember_49 rfl ?_
  refine x_v1 (p2 := 53) rfl dX2_remember_50 l_2_27 ok_X7_copyFrom rfl hs.sh rfl ?_
  refine t_X7_copyFrom hs hS (by omega) (fun M50 hM50 => ?_)
  refine x_aload_n (p2 := 54) rfl dX2_remember_53 rfl ?_
  refine x_dup (p2 := 55) rfl dX2_remember_54 rfl ?_
  refine x_geti (p2 := 58) (kz := 2) rfl dX2_remember_55 f_2_21 rfl rfl hH.sh ?_
  rw [hM50.f H (by omega)]
  refine x_iconst (p2 := 59) rfl dX2_remember_58 ⟨by decide, by decide⟩ ?_
  refine x_iadd (p2 := 60) rfl dX2_remember_59 ⟨by omega, by omega⟩ ?_
  refine x_puti (p2 := 63) (kz := 2) rfl dX2_remember_60 f_2_21 rfl rfl rfl hH.sh ?_
  refine x_vret dX2_remember_63 rfl ?_
  refine hq _ (fun c h1 h2 => ?_) (hM50.sq.mv (fun c h1 h2 => xu_c (by omega)) (fun _ _ _ => rfl)) ?_ ?_
  · rw [xu_c h1, hM50.f c h2]
  · rw [xu_j (by omega), hM50.f H (by omega)]
  · rw [xu_s]
set_option maxHeartbeats 4000000 in
theorem t_X2_remember {H S F : Nat} (hH : isHi σ ρ H F) (hS : isSt σ ρ S F) (hd : S + 4 < H ∨ H + 71 < S) (ho : 0 ≤ M H 1 ∧ M H 1 < 14) (hh : 0 ≤ M H 2 ∧ M H 2 ≤ 14) (hq : ∀ M2, (∀ c, c ≠ H → (c < rg H ((M H 1 + M H 2) % 14) ∨ rg H ((M H 1 + M H 2) % 14) + 4 < c) → M2 c = M c) → sq M2 (rg H ((M H 1 + M H 2) % 14)) M S → M2 H 1 = (if M H 2 = 14 then (M H 1 + 1) % 14 else M H 1) → M2 H 2 = (if M H 2 = 14 then 14 else M H 2 + 1) → Q none (σ, ρ, M2)) : xX G mX2_remember 0 0 0 [(0, xP H), (1, xP S)] [] (σ, ρ, M) Q := by
  refine x_aload_n (p2 := 1) rfl dX2_remember_0 rfl ?_
  refine x_geti (p2 := 4) (kz := 2) rfl dX2_remember_1 f_2_21 rfl rfl hH.sh ?_
  refine x_bipush (p2 := 6) rfl dX2_remember_4 ⟨by decide, ⟨by decide, by decide⟩⟩ ?_
  refine x_ic_ne (p2 := 9) (t := 32) (by decide) rfl dX2_remember_6 (fun hc6 => ?_) (fun hc6 => ?_)
  · skip
    refine x_pick (L2 := [(0, _), (1, _)]) [0, 1] rfl ?_
    first
      | (rw [if_neg hc6, if_neg hc6] at hq
         exact t_rem_t hH hS hd ho (by omega) hq)
      | (rw [if_pos hc6, if_pos hc6] at hq
         generalize hM5 : xu (xu M H 1 ((M H 1 + 1) % 14)) H 2 (M H 2 - 1) = M5
         have e1 : M5 H 1 = (M H 1 + 1) % 14 := by rw [← hM5, xu_j (by omega), xu_s]
         have e2 : M5 H 2 = M H 2 - 1 := by rw [← hM5, xu_s]
         have ec : ∀ c, c ≠ H → M5 c = M c := fun c h => by rw [← hM5, xu_c h, xu_c h]
         have ew : (M5 H 1 + M5 H 2) % 14 = (M H 1 + M H 2) % 14 := by rw [e1, e2]; omega
         refine t_rem_t hH hS hd (by rw [e1]; omega) (by rw [e2]; omega) (fun M2 q1 q2 q3 q4 => ?_)
         rw [ew] at q1 q2
         exact hq M2 (fun c h1 h2 => (q1 c h1 h2).trans (ec c h1)) (q2.mv (fun _ _ _ => rfl) (fun c h1 h2 => (ec c (by omega)).symm)) (q3.trans e1) (by rw [q4, e2]; omega))
  · skip
    refine x_aload_n (p2 := 10) rfl dX2_remember_9 rfl ?_
    refine x_aload_n (p2 := 11) rfl dX2_remember_10 rfl ?_
    refine x_geti (p2 := 14) (kz := 1) rfl dX2_remember_11 f_2_17 rfl rfl hH.sh ?_
    refine x_iconst (p2 := 15) rfl dX2_remember_14 ⟨by decide, by decide⟩ ?_
    refine x_iadd (p2 := 16) rfl dX2_remember_15 ⟨by omega, by omega⟩ ?_
    refine x_bipush (p2 := 18) rfl dX2_remember_16 ⟨by decide, ⟨by decide, by decide⟩⟩ ?_
    refine x_irem (p2 := 19) rfl dX2_remember_18 (by omega) (by omega) ?_
    refine x_puti (p2 := 22) (kz := 1) rfl dX2_remember_19 f_2_17 rfl rfl rfl hH.sh ?_
    refine x_aload_n (p2 := 23) rfl dX2_remember_22 rfl ?_
    refine x_dup (p2 := 24) rfl dX2_remember_23 rfl ?_
    refine x_geti (p2 := 27) (kz := 2) rfl dX2_remember_24 f_2_21 rfl rfl hH.sh ?_
    rw [xu_j (by omega)]
    refine x_iconst (p2 := 28) rfl dX2_remember_27 ⟨by decide, by decide⟩ ?_
    refine x_isub (p2 := 29) rfl dX2_remember_28 ⟨by omega, by omega⟩ ?_
    refine x_puti (p2 := 32) (kz := 2) rfl dX2_remember_29 f_2_21 rfl rfl rfl hH.sh ?_
    refine x_pick (L2 := [(0, _), (1, _)]) [0, 1] rfl ?_
    first
      | (rw [if_neg hc6, if_neg hc6] at hq
         exact t_rem_t hH hS hd ho (by omega) hq)
      | (rw [if_pos hc6, if_pos hc6] at hq
         generalize hM5 : xu (xu M H 1 ((M H 1 + 1) % 14)) H 2 (M H 2 - 1) = M5
         have e1 : M5 H 1 = (M H 1 + 1) % 14 := by rw [← hM5, xu_j (by omega), xu_s]
         have e2 : M5 H 2 = M H 2 - 1 := by rw [← hM5, xu_s]
         have ec : ∀ c, c ≠ H → M5 c = M c := fun c h => by rw [← hM5, xu_c h, xu_c h]
         have ew : (M5 H 1 + M5 H 2) % 14 = (M H 1 + M H 2) % 14 := by rw [e1, e2]; omega
         refine t_rem_t hH hS hd (by rw [e1]; omega) (by rw [e2]; omega) (fun M2 q1 q2 q3 q4 => ?_)
         rw [ew] at q1 q2
         exact hq M2 (fun c h1 h2 => (q1 c h1 h2).trans (ec c h1)) (q2.mv (fun _ _ _ => rfl) (fun c h1 h2 => (ec c (by omega)).symm)) (q3.trans e1) (by rw [q4, e2]; omega))
set_option maxHeartbeats 4000000 in
theorem t_X2_takeBack {H S F : Nat} (hH : isHi σ ρ H F) (hS : isSt σ ρ S F) (hd : S + 4 < H ∨ H + 71 < S) (ho : 0 ≤ M H 1 ∧ M H 1 < 14) (hh : 0 ≤ M H 2 ∧ M H 2 ≤ 14) (k3 : M H 2 = 0 → Q (some (xI (-3))) (σ, ρ, M)) (k0 : 0 < M H 2 → ∀ M2, (∀ c, c ≠ H → (c < S ∨ S + 4 < c) → M2 c = M c) → sq M2 S M (rg H ((M H 1 + M H 2 - 1) % 14)) → M2 H 1 = M H 1 → M2 H 2 = M H 2 - 1 → Q (some (xI (M H 2 - 1))) (σ, ρ, M2)) : xX G mX2_takeBack 0 0 0 [(0, xP H), (1, xP S)] [] (σ, ρ, M) Q := by
  obtain ⟨hr, hs⟩ := hH.2.2.2 ((M H 1 + M H 2 - 1) % 14) (by omega) (by omega)
  have hb : H + 2 ≤ rg H ((M H 1 + M H 2 - 1) % 14) ∧ rg H ((M H 1 + M H 2 - 1) % 14) + 4 ≤ H + 71 := by unfold rg; omega
  refine x_aload_n (p2 := 1) rfl dX2_takeBack_0 rfl ?_
  refine x_geti (p2 := 4) (kz := 2) rfl dX2_takeBack_1 f_2_21 rfl rfl hH.sh ?_
  refine x_if_ne (p2 := 7) (t := 10) (by decide) rfl dX2_takeBack_4 (fun hc4 => ?_) (fun hc4 => ?_)
  · skip
    refine x_aload_n (p2 := 11) rfl dX2_takeBack_10 rfl ?_
    refine x_dup (p2 := 12) rfl dX2_takeBack_11 rfl ?_
    refine x_geti (p2 := 15) (kz := 2) rfl dX2_takeBack_12 f_2_21 rfl rfl hH.sh ?_
    refine x_iconst (p2 := 16) rfl dX2_takeBack_15 ⟨by decide, by decide⟩ ?_
    refine x_isub (p2 := 17) rfl dX2_takeBack_16 ⟨by omega, by omega⟩ ?_
    refine x_puti (p2 := 20) (kz := 2) rfl dX2_takeBack_17 f_2_21 rfl rfl rfl hH.sh ?_
    refine x_aload_n (p2 := 21) rfl dX2_takeBack_20 rfl ?_
    refine x_aload_n (p2 := 22) rfl dX2_takeBack_21 rfl ?_
    refine x_getr (p2 := 25) (kz := 0) rfl dX2_takeBack_22 f_2_11 rfl rfl hH.sh hH.r0 ?_
    refine x_aload_n (p2 := 26) rfl dX2_takeBack_25 rfl ?_
    refine x_geti (p2 := 29) (kz := 1) rfl dX2_takeBack_26 f_2_17 rfl rfl hH.sh ?_
    rw [xu_j (by omega)]
    refine x_aload_n (p2 := 30) rfl dX2_takeBack_29 rfl ?_
    refine x_geti (p2 := 33) (kz := 2) rfl dX2_takeBack_30 f_2_21 rfl rfl hH.sh ?_
    rw [xu_s]
    refine x_iadd (p2 := 34) rfl dX2_takeBack_33 ⟨by omega, by omega⟩ ?_
    refine x_bipush (p2 := 36) rfl dX2_takeBack_34 ⟨by decide, ⟨by decide, by decide⟩⟩ ?_
    refine x_irem (p2 := 37) rfl dX2_takeBack_36 (by omega) (by omega) ?_
    rw [show M H 1 + (M H 2 - 1) = M H 1 + M H 2 - 1 by omega]
    refine x_aald (p2 := 38) rfl dX2_takeBack_37 hH.a0 (by omega) (by omega) hr ?_
    refine x_v1 (p2 := 41) rfl dX2_takeBack_38 l_2_27 ok_X7_copyFrom rfl hS.sh rfl ?_
    refine t_X7_copyFrom hS hs (by omega) (fun M38 hM38 => ?_)
    refine x_aload_n (p2 := 42) rfl dX2_takeBack_41 rfl ?_
    refine x_geti (p2 := 45) (kz := 2) rfl dX2_takeBack_42 f_2_21 rfl rfl hH.sh ?_
    rw [hM38.f H (by omega), xu_s]
    refine x_iret dX2_takeBack_45 rfl ?_
    refine k0 (by omega) _ (fun c h1 h2 => ?_) (hM38.sq.mv (fun _ _ _ => rfl) (fun c h1 h2 => (xu_c (by omega)).symm)) ?_ ?_
    · rw [hM38.f c h2, xu_c h1]
    · rw [hM38.f H (by omega), xu_j (by omega)]
    · rw [hM38.f H (by omega), xu_s]
  · skip
    refine x_bipush (p2 := 9) rfl dX2_takeBack_7 ⟨by decide, ⟨by decide, by decide⟩⟩ ?_
    refine x_iret dX2_takeBack_9 rfl ?_
    exact k3 (by omega)
end XTW
