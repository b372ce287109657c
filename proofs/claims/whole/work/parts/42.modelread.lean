section XMT
variable {G : xG} {σ : List (Nat × Nat)} {ρ : Nat → Int → Option Nat} {M : Nat → Int → Int} {Q : Option xV → xH → Prop}
theorem prs_f {tx : Int → Int} {ln x : Int} (h : rdh tx ln = (false, x)) : prs tx ln = (false, x) := by
  unfold prs; rw [h]; rfl
set_option maxHeartbeats 4000000 in
theorem t_rt2 {D : Nat} (hD : isMd σ ρ D) {tx : Int → Int} {ln : Int} (hT : rtx M D tx ln) (k1 : (prs tx ln).1 = true ∧ (prs tx ln).2 = ln → ∀ M2, frR M M2 D → M2 D 14 = tx 1 - 48 → M2 D 15 = 10 * (tx 2 - 48) + (tx 3 - 48) → (∀ x, 0 ≤ x → x < tx 1 - 48 → cntR tx (M2 (D + 9)) (M2 (D + 10)) x (bps tx x.toNat)) → Q (some (xI (-9))) (σ, ρ, M2)) (k0 : ¬ ((prs tx ln).1 = true ∧ (prs tx ln).2 = ln) → ∀ M2, frR M M2 D → Q (some (xI (prs tx ln).2)) (σ, ρ, M2)) {M2 : Nat → Int → Int} (g : ∀ c, c ≠ D + 10 → M2 c = M c) : xX G mX10_readText 0 0 21 [(0, xP D)] [] (σ, ρ, M2) Q := by
  have hf2 : frR M M2 D := ⟨fun c _ _ z => g c z, fun f _ _ _ => by rw [g D (by omega)]⟩
  have hT2 := hT.mv hf2
  obtain ⟨t1, t2, t3, t4⟩ := id hT2
  refine x_aload_n (p2 := 22) rfl dX10_readText_21 rfl ?_
  refine x_geti (p2 := 25) (kz := 1) rfl dX10_readText_22 f_10_67 rfl rfl hD.sh ?_
  rw [t1]
  refine x_if_eq (p2 := 28) (t := 39) (by decide) rfl dX10_readText_25 (fun hc25 => ?_) (fun hc25 => ?_)
  · skip
    refine x_iconst (p2 := 40) rfl dX10_readText_39 ⟨by decide, by decide⟩ ?_
    refine x_iret dX10_readText_40 rfl ?_
    have hp := prs_f (x := 0) (show rdh tx ln = (false, 0) by unfold rdh; rw [if_neg (by omega)])
    rw [hp] at k0
    exact k0 (fun z => by cases z.1) M2 hf2
  · skip
    have hz0 := t4 0 (by omega) (by omega)
    refine x_aload_n (p2 := 29) rfl dX10_readText_28 rfl ?_
    refine x_getr (p2 := 32) (kz := 0) rfl dX10_readText_29 f_10_7 rfl rfl hD.sh hD.r0 ?_
    refine x_iconst (p2 := 33) rfl dX10_readText_32 ⟨by decide, by decide⟩ ?_
    refine x_iald (p2 := 34) rfl dX10_readText_33 hD.a0 (by omega) (by omega) ?_
    rw [hz0.1]
    refine x_bipush (p2 := 36) rfl dX10_readText_34 ⟨by decide, ⟨by decide, by decide⟩⟩ ?_
    refine x_ic_eq (p2 := 39) (t := 41) (by decide) rfl dX10_readText_36 (fun hc36 => ?_) (fun hc36 => ?_)
    · skip
      refine x_aload_n (p2 := 42) rfl dX10_readText_41 rfl ?_
      refine x_iconst (p2 := 43) rfl dX10_readText_42 ⟨by decide, by decide⟩ ?_
      refine x_puti (p2 := 46) (kz := 13) rfl dX10_readText_43 f_10_70 rfl rfl rfl hD.sh ?_
      refine x_aload_n (p2 := 47) rfl dX10_readText_46 rfl ?_
      refine x_aload_n (p2 := 48) rfl dX10_readText_47 rfl ?_
      refine x_iconst (p2 := 49) rfl dX10_readText_48 ⟨by decide, by decide⟩ ?_
      refine x_bipush (p2 := 51) rfl dX10_readText_49 ⟨by decide, ⟨by decide, by decide⟩⟩ ?_
      refine x_v2 (p2 := 54) rfl dX10_readText_51 l_10_73 ok_X10_figure rfl hD.sh rfl ?_
      refine t_X10_figure hD (hT2.mv (frR.u (Or.inl rfl))) (p := 1) ⟨xu_s, by omega, by omega⟩ (by omega) (fun hb51 => ?_) (fun hb51 => ?_)
      · skip
        refine x_puti (p2 := 57) (kz := 14) rfl dX10_readText_54 f_10_77 rfl rfl rfl hD.sh ?_
        refine x_aload_n (p2 := 58) rfl dX10_readText_57 rfl ?_
        refine x_aload_n (p2 := 59) rfl dX10_readText_58 rfl ?_
        refine x_geti (p2 := 62) (kz := 14) rfl dX10_readText_59 f_10_77 rfl rfl hD.sh ?_
        rw [xu_s]
        refine x_bipush (p2 := 64) rfl dX10_readText_62 ⟨by decide, ⟨by decide, by decide⟩⟩ ?_
        refine x_ic_ne (p2 := 67) (t := 72) (by decide) rfl dX10_readText_64 (fun hc64 => ?_) (fun hc64 => absurd hc64 (by have := of_decide_eq_true hb51; omega))
        generalize hM6 : xu (xu (xu M2 D 13 1) D 13 (1 + 1)) D 14 (tx 1 - 48) = M6
        have hf6 : frR M2 M6 D := by rw [← hM6]; exact ((frR.u (Or.inl rfl)).tr (frR.u (Or.inl rfl))).tr (frR.u (Or.inr (Or.inl rfl)))
        have z1 := of_decide_eq_true hb51
        have d13 : M6 D 13 = 2 := by rw [← hM6, xu_j (by omega), xu_s]; omega
        have d14 : M6 D 14 = tx 1 - 48 := by rw [← hM6, xu_s]
        refine x_aload_n (p2 := 73) rfl dX10_readText_72 rfl ?_
        refine x_v0 (p2 := 76) rfl dX10_readText_73 l_10_80 ok_X10_twoFigures rfl hD.sh rfl ?_
        refine t_X10_twoFigures hD (hT2.mv hf6) (p := 2) ⟨d13, by omega, by omega⟩ (fun hb73 M7 hf7 hc7 hg7 h137 => ?_) (fun hb73 M7 hf7 hc7 hg7 h137 => ?_)
        · skip
          refine x_puti (p2 := 79) (kz := 15) rfl dX10_readText_76 f_10_88 rfl rfl rfl hD.sh ?_
          refine x_aload_n (p2 := 80) rfl dX10_readText_79 rfl ?_
          refine x_geti (p2 := 83) (kz := 15) rfl dX10_readText_80 f_10_88 rfl rfl hD.sh ?_
          rw [xu_s]
          refine x_bipush (p2 := 85) rfl dX10_readText_83 ⟨by decide, ⟨by decide, by decide⟩⟩ ?_
          refine x_ic_ne (p2 := 88) (t := 93) (by decide) rfl dX10_readText_85 (fun hc85 => ?_) (fun hc85 => absurd hc85 (by have := rdc_t hb73; have y1 := of_decide_eq_true this.1; have y2 := of_decide_eq_true this.2.1; rw [show (2 : Int) + 1 = 3 by omega] at *; omega))
          refine x_iconst (p2 := 94) rfl dX10_readText_93 ⟨by decide, by decide⟩ ?_
          refine x_istore_n (p2 := 95) (i := 1) (L2 := [(0, _), (1, _)]) rfl dX10_readText_94 rfl ⟨rfl, Nat.le_of_ble_eq_true rfl⟩ rfl ?_
          refine x_pick (L2 := [(0, _), (1, _)]) [0, 1] rfl ?_
          have hh : (rdh tx ln).1 = true := by unfold rdh; rw [if_pos (by omega), if_pos hb51]; exact hb73
          have hr := rdh_t hh
          have y2 := of_decide_eq_true (rdc_t hb73).2.1
          have hpr : prs tx ln = rdk tx ln (tx 1 - 48) (tx 1 - 48).toNat 4 := by unfold prs; rw [if_pos hh, hr.2.2.2]
          rw [hpr] at k1 k0
          generalize hM8 : xu M7 D 15 (10 * (tx 2 - 48) + (tx (2 + 1) - 48)) = M8
          have hf8 : frR M7 M8 D := by rw [← hM8]; exact frR.u (Or.inr (Or.inr rfl))
          have hfa := ((hf2.tr hf6).tr hf7).tr hf8
          have e13 : M8 D 13 = 4 := by rw [← hM8, xu_j (by omega), h137]; omega
          have e14 : M8 D 14 = tx 1 - 48 := by rw [← hM8, xu_j (by omega), hg7 14 (by omega), d14]
          have e15 : M8 D 15 = 10 * (tx 2 - 48) + (tx 3 - 48) := by rw [← hM8, xu_s]; rfl
          refine t_rt1 (n := tx 1 - 48) hD (tx 1 - 48).toNat 0 M8 (hT.mv hfa) ⟨e14, by omega, by omega⟩ (by omega) (by omega) e13 ⟨show (0 : Int) ≤ 4 by omega, show 4 ≤ ln by omega⟩ (fun x a c => by omega) (fun x a c => by omega) (fun w1 w2 M3 q1 q2 q3 => ?_) (fun w M3 q1 => ?_)
          · exact k1 ⟨w1, w2⟩ M3 (hfa.tr q1) ((q2 14 (by omega)).trans e14) ((q2 15 (by omega)).trans e15) q3
          · exact k0 w M3 (hfa.tr q1)
        · skip
          refine x_puti (p2 := 79) (kz := 15) rfl dX10_readText_76 f_10_88 rfl rfl rfl hD.sh ?_
          refine x_aload_n (p2 := 80) rfl dX10_readText_79 rfl ?_
          refine x_geti (p2 := 83) (kz := 15) rfl dX10_readText_80 f_10_88 rfl rfl hD.sh ?_
          rw [xu_s]
          refine x_bipush (p2 := 85) rfl dX10_readText_83 ⟨by decide, ⟨by decide, by decide⟩⟩ ?_
          refine x_ic_ne (p2 := 88) (t := 93) (by decide) rfl dX10_readText_85 (fun hc => absurd hc (by decide)) (fun _ => ?_)
          refine x_aload_n (p2 := 89) rfl dX10_readText_88 rfl ?_
          refine x_geti (p2 := 92) (kz := 13) rfl dX10_readText_89 f_10_70 rfl rfl hD.sh ?_
          refine x_iret dX10_readText_92 rfl ?_
          first
            | (have hp := prs_f (x := 1) (show rdh tx ln = (false, 1) by unfold rdh; rw [if_pos (by omega), if_neg hb51])
               rw [hp] at k0
               rw [xu_j (by omega), xu_j (by omega), xu_s]
               exact k0 (fun z => by cases z.1) _ (hf2.tr (((frR.u (Or.inl rfl)).tr (frR.u (Or.inr (Or.inl rfl)))).tr (frR.u (Or.inr (Or.inr rfl))))))
            | (have hp := prs_f (x := (rdc tx ln 2).2) (show rdh tx ln = (false, (rdc tx ln 2).2) by
                 unfold rdh; rw [if_pos (by omega), if_pos hb51]
                 exact Prod.ext (by simpa using hb73) rfl)
               rw [hp] at k0
               rw [xu_j (by omega), h137]
               exact k0 (fun z => by cases z.1) _ (((hf2.tr hf6).tr hf7).tr (frR.u (Or.inr (Or.inr rfl)))))
      · skip
        refine x_puti (p2 := 57) (kz := 14) rfl dX10_readText_54 f_10_77 rfl rfl rfl hD.sh ?_
        refine x_aload_n (p2 := 58) rfl dX10_readText_57 rfl ?_
        refine x_aload_n (p2 := 59) rfl dX10_readText_58 rfl ?_
        refine x_geti (p2 := 62) (kz := 14) rfl dX10_readText_59 f_10_77 rfl rfl hD.sh ?_
        rw [xu_s]
        refine x_bipush (p2 := 64) rfl dX10_readText_62 ⟨by decide, ⟨by decide, by decide⟩⟩ ?_
        refine x_ic_ne (p2 := 67) (t := 72) (by decide) rfl dX10_readText_64 (fun hc => absurd hc (by decide)) (fun _ => ?_)
        refine x_bipush (p2 := 69) rfl dX10_readText_67 ⟨by decide, ⟨by decide, by decide⟩⟩ ?_
        refine x_goto (t := 76) (by decide) dX10_readText_69 ?_
        refine x_puti (p2 := 79) (kz := 15) rfl dX10_readText_76 f_10_88 rfl rfl rfl hD.sh ?_
        refine x_aload_n (p2 := 80) rfl dX10_readText_79 rfl ?_
        refine x_geti (p2 := 83) (kz := 15) rfl dX10_readText_80 f_10_88 rfl rfl hD.sh ?_
        rw [xu_s]
        refine x_bipush (p2 := 85) rfl dX10_readText_83 ⟨by decide, ⟨by decide, by decide⟩⟩ ?_
        refine x_ic_ne (p2 := 88) (t := 93) (by decide) rfl dX10_readText_85 (fun hc => absurd hc (by decide)) (fun _ => ?_)
        refine x_aload_n (p2 := 89) rfl dX10_readText_88 rfl ?_
        refine x_geti (p2 := 92) (kz := 13) rfl dX10_readText_89 f_10_70 rfl rfl hD.sh ?_
        refine x_iret dX10_readText_92 rfl ?_
        first
          | (have hp := prs_f (x := 1) (show rdh tx ln = (false, 1) by unfold rdh; rw [if_pos (by omega), if_neg hb51])
             rw [hp] at k0
             rw [xu_j (by omega), xu_j (by omega), xu_s]
             exact k0 (fun z => by cases z.1) _ (hf2.tr (((frR.u (Or.inl rfl)).tr (frR.u (Or.inr (Or.inl rfl)))).tr (frR.u (Or.inr (Or.inr rfl))))))
          | (have hp := prs_f (x := (rdc tx ln 2).2) (show rdh tx ln = (false, (rdc tx ln 2).2) by
               unfold rdh; rw [if_pos (by omega), if_pos hb51]
               exact Prod.ext (by simpa using hb73) rfl)
             rw [hp] at k0
             rw [xu_j (by omega), h137]
             exact k0 (fun z => by cases z.1) _ (((hf2.tr hf6).tr hf7).tr (frR.u (Or.inr (Or.inr rfl)))))
    · skip
      refine x_iconst (p2 := 40) rfl dX10_readText_39 ⟨by decide, by decide⟩ ?_
      refine x_iret dX10_readText_40 rfl ?_
      have hp := prs_f (x := 0) (show rdh tx ln = (false, 0) by unfold rdh; rw [if_neg (by omega)])
      rw [hp] at k0
      exact k0 (fun z => by cases z.1) M2 hf2
set_option maxHeartbeats 4000000 in
theorem t_X10_readText {D : Nat} (hD : isMd σ ρ D) {tx : Int → Int} {ln : Int} (hT : rtx M D tx ln) (k1 : (prs tx ln).1 = true ∧ (prs tx ln).2 = ln → ∀ M2, frR M M2 D → M2 D 14 = tx 1 - 48 → M2 D 15 = 10 * (tx 2 - 48) + (tx 3 - 48) → (∀ x, 0 ≤ x → x < tx 1 - 48 → cntR tx (M2 (D + 9)) (M2 (D + 10)) x (bps tx x.toNat)) → Q (some (xI (-9))) (σ, ρ, M2)) (k0 : ¬ ((prs tx ln).1 = true ∧ (prs tx ln).2 = ln) → ∀ M2, frR M M2 D → Q (some (xI (prs tx ln).2)) (σ, ρ, M2)) : xX G mX10_readText 0 0 0 [(0, xP D)] [] (σ, ρ, M) Q := by
  refine x_iconst (p2 := 1) rfl dX10_readText_0 ⟨by decide, by decide⟩ ?_
  refine x_istore_n (p2 := 2) (i := 1) (L2 := [(0, _), (1, _)]) rfl dX10_readText_1 rfl ⟨rfl, Nat.le_of_ble_eq_true rfl⟩ rfl ?_
  refine x_pick (L2 := [(0, _), (1, _)]) [0, 1] rfl ?_
  exact t_rt0 hD (fun M2 g => t_rt2 hD hT k1 k0 g) 50 0 M (by omega) (by omega) (fun _ _ => rfl)
set_option maxHeartbeats 4000000 in
theorem t_X10_errorPosition {D : Nat} (hD : isMd σ ρ D) {tx : Int → Int} {ln : Int} (hT : rtx M D tx ln) (hq : ∀ M2, frR M M2 D → Q (some (xI (erp tx ln))) (σ, ρ, M2)) : xX G mX10_errorPosition 0 0 0 [(0, xP D)] [] (σ, ρ, M) Q := by
  refine x_aload_n (p2 := 1) rfl dX10_errorPosition_0 rfl ?_
  refine x_v0 (p2 := 4) rfl dX10_errorPosition_1 l_10_94 ok_X10_readText rfl hD.sh rfl ?_
  refine t_X10_readText hD hT (fun hb M2 hf q1 q2 q3 => ?_) (fun hb M2 hf => ?_)
  · skip
    refine x_iret dX10_errorPosition_4 rfl ?_
    unfold erp at hq
    rw [if_pos hb] at hq
    exact hq M2 hf
  · skip
    refine x_iret dX10_errorPosition_4 rfl ?_
    unfold erp at hq
    rw [if_neg hb] at hq
    exact hq M2 hf
end XMT
