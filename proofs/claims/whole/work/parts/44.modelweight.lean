section XMV
variable {G : xG} {σ : List (Nat × Nat)} {ρ : Nat → Int → Option Nat} {M : Nat → Int → Int} {Q : Option xV → xH → Prop}
set_option maxHeartbeats 4000000 in
theorem t_wo1 {D : Nat} (hD : isMd σ ρ D) {n : Int} {v : vV} (hn : M D 2 = n) (hr : smr n v (M (D + 3))) (hG : wfG n v.1 v.2.1 v.2.2.1) {hd : Int → Int} {pl : Int → Bool} {c : Int} (hh : ∀ x, 0 ≤ x → x < n → M (D + 11) x = hd x) (hpl : ∀ x, 0 ≤ x → x < n → (M (D + 13) x ≠ 0 ↔ pl x = true)) {b : Int} (hb1 : 0 ≤ b) (hb2 : b < n) : ∀ (m : Nat) (k s : Int), 0 ≤ k → k + m = v.1 b → 0 ≤ s → s ≤ 198 * b + 99 * k → xX G mX10_weightOf 0 0 124 [(0, xP D), (1, xI c), (2, xI (s + sg (wt1 hd v.2.1 v.2.2.1 pl c b) k m)), (3, xI b)] [] (σ, ρ, M) Q → xX G mX10_weightOf 0 0 15 [(0, xP D), (1, xI c), (2, xI s), (3, xI b), (4, xI k)] [] (σ, ρ, M) Q := by
  have h8 := hG.2.1
  have h1 := hG.1
  have hx2 : ∀ b, 0 ≤ b → b < n → v.1 b ≤ 2 := fun b a c => (hG.2.2 b a c).2.1
  obtain ⟨w1, w2, w3, w4⟩ := hG.2.2 b hb1 hb2
  have hpb := hpl b hb1 hb2
  intro m
  induction m with
  | zero =>
    intro k s h0 hm hs1 hs2 hq
    refine x_iload (p2 := 17) rfl dX10_weightOf_15 rfl ?_
    refine x_aload_n (p2 := 18) rfl dX10_weightOf_17 rfl ?_
    refine x_getr (p2 := 21) (kz := 5) rfl dX10_weightOf_18 f_10_16 rfl rfl hD.sh hD.r5 ?_
    refine x_bipush (p2 := 23) rfl dX10_weightOf_21 ⟨by decide, ⟨by decide, by decide⟩⟩ ?_
    refine x_iload_n (p2 := 24) rfl dX10_weightOf_23 rfl ?_
    refine x_iadd (p2 := 25) rfl dX10_weightOf_24 ⟨by omega, by omega⟩ ?_
    refine x_iald (p2 := 26) rfl dX10_weightOf_25 hD.a5 (by omega) (by omega) ?_
    rw [hr.x hb1 hb2]
    refine x_ic_ge (p2 := 29) (t := 124) (by decide) rfl dX10_weightOf_26 (fun hc26 => ?_) (fun hc26 => absurd hc26 (by omega))
    refine x_pick (L2 := [(0, _), (1, _), (2, _), (3, _)]) [0, 1, 2, 3] rfl ?_
    unfold sg at hq; rw [Int.add_zero] at hq; exact hq
  | succ m ih =>
    intro k s h0 hm hs1 hs2 hq
    unfold sg at hq
    rw [← Int.add_assoc] at hq
    refine x_iload (p2 := 17) rfl dX10_weightOf_15 rfl ?_
    refine x_aload_n (p2 := 18) rfl dX10_weightOf_17 rfl ?_
    refine x_getr (p2 := 21) (kz := 5) rfl dX10_weightOf_18 f_10_16 rfl rfl hD.sh hD.r5 ?_
    refine x_bipush (p2 := 23) rfl dX10_weightOf_21 ⟨by decide, ⟨by decide, by decide⟩⟩ ?_
    refine x_iload_n (p2 := 24) rfl dX10_weightOf_23 rfl ?_
    refine x_iadd (p2 := 25) rfl dX10_weightOf_24 ⟨by omega, by omega⟩ ?_
    refine x_iald (p2 := 26) rfl dX10_weightOf_25 hD.a5 (by omega) (by omega) ?_
    rw [hr.x hb1 hb2]
    refine x_ic_ge (p2 := 29) (t := 124) (by decide) rfl dX10_weightOf_26 (fun hc26 => ?_) (fun hc26 => ?_)
    · exact absurd hc26 (by omega)
    have wk := w3 k h0 (by omega)
    have hpt := hpl _ wk.1 wk.2.1
    refine x_aload_n (p2 := 30) rfl dX10_weightOf_29 rfl ?_
    refine x_getr (p2 := 33) (kz := 5) rfl dX10_weightOf_30 f_10_16 rfl rfl hD.sh hD.r5 ?_
    refine x_bipush (p2 := 35) rfl dX10_weightOf_33 ⟨by decide, ⟨by decide, by decide⟩⟩ ?_
    refine x_iconst (p2 := 36) rfl dX10_weightOf_35 ⟨by decide, by decide⟩ ?_
    refine x_iload_n (p2 := 37) rfl dX10_weightOf_36 rfl ?_
    refine x_imul (p2 := 38) rfl dX10_weightOf_37 ⟨by omega, by omega⟩ ?_
    refine x_iadd (p2 := 39) rfl dX10_weightOf_38 ⟨by omega, by omega⟩ ?_
    refine x_iload (p2 := 41) rfl dX10_weightOf_39 rfl ?_
    refine x_iadd (p2 := 42) rfl dX10_weightOf_41 ⟨by omega, by omega⟩ ?_
    refine x_iald (p2 := 43) rfl dX10_weightOf_42 hD.a5 (by omega) (by omega) ?_
    rw [hr.t hb1 hb2 h0 (by omega)]
    refine x_istore (p2 := 45) (i := 5) (L2 := [(0, _), (1, _), (2, _), (3, _), (4, _), (5, _)]) rfl dX10_weightOf_43 ⟨rfl, Nat.le_of_ble_eq_true rfl⟩ rfl ?_
    refine x_aload_n (p2 := 46) rfl dX10_weightOf_45 rfl ?_
    refine x_getr (p2 := 49) (kz := 20) rfl dX10_weightOf_46 f_10_47 rfl rfl hD.sh hD.r20 ?_
    refine x_iload_n (p2 := 50) rfl dX10_weightOf_49 rfl ?_
    refine x_zald (p2 := 51) rfl dX10_weightOf_50 hD.a20 (by omega) (by omega) ?_
    refine x_if_eq (p2 := 54) (t := 65) (by decide) rfl dX10_weightOf_51 (fun hc51 => ?_) (fun hc51 => ?_)
    · skip
      refine x_aload_n (p2 := 66) rfl dX10_weightOf_65 rfl ?_
      refine x_getr (p2 := 69) (kz := 20) rfl dX10_weightOf_66 f_10_47 rfl rfl hD.sh hD.r20 ?_
      refine x_iload (p2 := 71) rfl dX10_weightOf_69 rfl ?_
      refine x_zald (p2 := 72) rfl dX10_weightOf_71 hD.a20 (by omega) (by omega) ?_
      refine x_if_eq (p2 := 75) (t := 89) (by decide) rfl dX10_weightOf_72 (fun hc72 => ?_) (fun hc72 => ?_)
      · skip
        refine x_iconst (p2 := 90) rfl dX10_weightOf_89 ⟨by decide, by decide⟩ ?_
        refine x_istore (p2 := 92) (i := 6) (L2 := [(0, _), (1, _), (2, _), (3, _), (4, _), (5, _), (6, _)]) rfl dX10_weightOf_90 ⟨rfl, Nat.le_of_ble_eq_true rfl⟩ rfl ?_
        refine x_iload_n (p2 := 93) rfl dX10_weightOf_92 rfl ?_
        refine x_iload (p2 := 95) rfl dX10_weightOf_93 rfl ?_
        refine x_if_eq (p2 := 98) (t := 115) (by decide) rfl dX10_weightOf_95 (fun _ => ?_) (fun hc => absurd hc (by decide))
        refine x_iconst (p2 := 116) rfl dX10_weightOf_115 ⟨by decide, by decide⟩ ?_
        refine x_iadd (p2 := 117) rfl dX10_weightOf_116 ⟨by omega, by omega⟩ ?_
        refine x_istore_n (p2 := 118) (i := 2) (L2 := [(0, _), (1, _), (2, _), (3, _), (4, _), (5, _), (6, _)]) rfl dX10_weightOf_117 rfl ⟨rfl, Nat.le_of_ble_eq_true rfl⟩ rfl ?_
        refine x_iinc (p2 := 121) (L2 := [(0, _), (1, _), (2, _), (3, _), (4, _), (5, _), (6, _)]) rfl dX10_weightOf_118 rfl ⟨by omega, by omega⟩ ⟨rfl, Nat.le_of_ble_eq_true rfl⟩ rfl ?_
        refine x_goto (t := 15) (by decide) dX10_weightOf_121 ?_
        refine x_pick (L2 := [(0, _), (1, _), (2, _), (3, _), (4, _)]) [0, 1, 2, 3, 4] rfl ?_
        have hw1 : wt1 hd v.2.1 v.2.2.1 pl c b k = 0 := by
          unfold wt1
          refine if_neg (fun z => z.elim (fun y => ?_) (fun y => ?_))
          · first
              | exact absurd (hpb.2 y.1) (by omega)
              | exact hc62 y.2
          · first
              | exact absurd (hpt.2 y.2) (by omega)
              | exact hc82 y.1
        rw [hw1] at hq
        exact ih _ _ (by omega) (by omega) (by omega) (by omega) hq
      · skip
        refine x_aload_n (p2 := 76) rfl dX10_weightOf_75 rfl ?_
        refine x_getr (p2 := 79) (kz := 18) rfl dX10_weightOf_76 f_10_41 rfl rfl hD.sh hD.r18 ?_
        refine x_iload_n (p2 := 80) rfl dX10_weightOf_79 rfl ?_
        refine x_iald (p2 := 81) rfl dX10_weightOf_80 hD.a18 (by omega) (by omega) ?_
        rw [hh b hb1 hb2]
        refine x_iload_n (p2 := 82) rfl dX10_weightOf_81 rfl ?_
        refine x_ic_ne (p2 := 85) (t := 89) (by decide) rfl dX10_weightOf_82 (fun hc82 => ?_) (fun hc82 => ?_)
        · skip
          refine x_iconst (p2 := 90) rfl dX10_weightOf_89 ⟨by decide, by decide⟩ ?_
          refine x_istore (p2 := 92) (i := 6) (L2 := [(0, _), (1, _), (2, _), (3, _), (4, _), (5, _), (6, _)]) rfl dX10_weightOf_90 ⟨rfl, Nat.le_of_ble_eq_true rfl⟩ rfl ?_
          refine x_iload_n (p2 := 93) rfl dX10_weightOf_92 rfl ?_
          refine x_iload (p2 := 95) rfl dX10_weightOf_93 rfl ?_
          refine x_if_eq (p2 := 98) (t := 115) (by decide) rfl dX10_weightOf_95 (fun _ => ?_) (fun hc => absurd hc (by decide))
          refine x_iconst (p2 := 116) rfl dX10_weightOf_115 ⟨by decide, by decide⟩ ?_
          refine x_iadd (p2 := 117) rfl dX10_weightOf_116 ⟨by omega, by omega⟩ ?_
          refine x_istore_n (p2 := 118) (i := 2) (L2 := [(0, _), (1, _), (2, _), (3, _), (4, _), (5, _), (6, _)]) rfl dX10_weightOf_117 rfl ⟨rfl, Nat.le_of_ble_eq_true rfl⟩ rfl ?_
          refine x_iinc (p2 := 121) (L2 := [(0, _), (1, _), (2, _), (3, _), (4, _), (5, _), (6, _)]) rfl dX10_weightOf_118 rfl ⟨by omega, by omega⟩ ⟨rfl, Nat.le_of_ble_eq_true rfl⟩ rfl ?_
          refine x_goto (t := 15) (by decide) dX10_weightOf_121 ?_
          refine x_pick (L2 := [(0, _), (1, _), (2, _), (3, _), (4, _)]) [0, 1, 2, 3, 4] rfl ?_
          have hw1 : wt1 hd v.2.1 v.2.2.1 pl c b k = 0 := by
            unfold wt1
            refine if_neg (fun z => z.elim (fun y => ?_) (fun y => ?_))
            · first
                | exact absurd (hpb.2 y.1) (by omega)
                | exact hc62 y.2
            · first
                | exact absurd (hpt.2 y.2) (by omega)
                | exact hc82 y.1
          rw [hw1] at hq
          exact ih _ _ (by omega) (by omega) (by omega) (by omega) hq
        · skip
          refine x_iconst (p2 := 86) rfl dX10_weightOf_85 ⟨by decide, by decide⟩ ?_
          refine x_goto (t := 90) (by decide) dX10_weightOf_86 ?_
          refine x_istore (p2 := 92) (i := 6) (L2 := [(0, _), (1, _), (2, _), (3, _), (4, _), (5, _), (6, _)]) rfl dX10_weightOf_90 ⟨rfl, Nat.le_of_ble_eq_true rfl⟩ rfl ?_
          refine x_iload_n (p2 := 93) rfl dX10_weightOf_92 rfl ?_
          refine x_iload (p2 := 95) rfl dX10_weightOf_93 rfl ?_
          refine x_if_eq (p2 := 98) (t := 115) (by decide) rfl dX10_weightOf_95 (fun hc => absurd hc (by decide)) (fun _ => ?_)
          refine x_aload_n (p2 := 99) rfl dX10_weightOf_98 rfl ?_
          refine x_getr (p2 := 102) (kz := 5) rfl dX10_weightOf_99 f_10_16 rfl rfl hD.sh hD.r5 ?_
          refine x_bipush (p2 := 104) rfl dX10_weightOf_102 ⟨by decide, ⟨by decide, by decide⟩⟩ ?_
          refine x_iconst (p2 := 105) rfl dX10_weightOf_104 ⟨by decide, by decide⟩ ?_
          refine x_iload_n (p2 := 106) rfl dX10_weightOf_105 rfl ?_
          refine x_imul (p2 := 107) rfl dX10_weightOf_106 ⟨by omega, by omega⟩ ?_
          refine x_iadd (p2 := 108) rfl dX10_weightOf_107 ⟨by omega, by omega⟩ ?_
          refine x_iload (p2 := 110) rfl dX10_weightOf_108 rfl ?_
          refine x_iadd (p2 := 111) rfl dX10_weightOf_110 ⟨by omega, by omega⟩ ?_
          refine x_iald (p2 := 112) rfl dX10_weightOf_111 hD.a5 (by omega) (by omega) ?_
          rw [hr.c hb1 hb2 h0 (by omega)]
          refine x_goto (t := 116) (by decide) dX10_weightOf_112 ?_
          refine x_iadd (p2 := 117) rfl dX10_weightOf_116 ⟨by omega, by omega⟩ ?_
          refine x_istore_n (p2 := 118) (i := 2) (L2 := [(0, _), (1, _), (2, _), (3, _), (4, _), (5, _), (6, _)]) rfl dX10_weightOf_117 rfl ⟨rfl, Nat.le_of_ble_eq_true rfl⟩ rfl ?_
          refine x_iinc (p2 := 121) (L2 := [(0, _), (1, _), (2, _), (3, _), (4, _), (5, _), (6, _)]) rfl dX10_weightOf_118 rfl ⟨by omega, by omega⟩ ⟨rfl, Nat.le_of_ble_eq_true rfl⟩ rfl ?_
          refine x_goto (t := 15) (by decide) dX10_weightOf_121 ?_
          refine x_pick (L2 := [(0, _), (1, _), (2, _), (3, _), (4, _)]) [0, 1, 2, 3, 4] rfl ?_
          have hw1 : wt1 hd v.2.1 v.2.2.1 pl c b k = v.2.2.1 (2 * b + k) := by
            unfold wt1
            refine if_pos ?_
            first
              | exact Or.inr ⟨hc82, hpt.1 hc72⟩
              | exact Or.inl ⟨hpb.1 hc51, hc62⟩
          rw [hw1] at hq
          exact ih _ _ (by omega) (by omega) (by omega) (by omega) hq
    · skip
      refine x_aload_n (p2 := 55) rfl dX10_weightOf_54 rfl ?_
      refine x_getr (p2 := 58) (kz := 18) rfl dX10_weightOf_55 f_10_41 rfl rfl hD.sh hD.r18 ?_
      refine x_iload (p2 := 60) rfl dX10_weightOf_58 rfl ?_
      refine x_iald (p2 := 61) rfl dX10_weightOf_60 hD.a18 (by omega) (by omega) ?_
      rw [hh _ wk.1 wk.2.1]
      refine x_iload_n (p2 := 62) rfl dX10_weightOf_61 rfl ?_
      refine x_ic_eq (p2 := 65) (t := 85) (by decide) rfl dX10_weightOf_62 (fun hc62 => ?_) (fun hc62 => ?_)
      · skip
        refine x_iconst (p2 := 86) rfl dX10_weightOf_85 ⟨by decide, by decide⟩ ?_
        refine x_goto (t := 90) (by decide) dX10_weightOf_86 ?_
        refine x_istore (p2 := 92) (i := 6) (L2 := [(0, _), (1, _), (2, _), (3, _), (4, _), (5, _), (6, _)]) rfl dX10_weightOf_90 ⟨rfl, Nat.le_of_ble_eq_true rfl⟩ rfl ?_
        refine x_iload_n (p2 := 93) rfl dX10_weightOf_92 rfl ?_
        refine x_iload (p2 := 95) rfl dX10_weightOf_93 rfl ?_
        refine x_if_eq (p2 := 98) (t := 115) (by decide) rfl dX10_weightOf_95 (fun hc => absurd hc (by decide)) (fun _ => ?_)
        refine x_aload_n (p2 := 99) rfl dX10_weightOf_98 rfl ?_
        refine x_getr (p2 := 102) (kz := 5) rfl dX10_weightOf_99 f_10_16 rfl rfl hD.sh hD.r5 ?_
        refine x_bipush (p2 := 104) rfl dX10_weightOf_102 ⟨by decide, ⟨by decide, by decide⟩⟩ ?_
        refine x_iconst (p2 := 105) rfl dX10_weightOf_104 ⟨by decide, by decide⟩ ?_
        refine x_iload_n (p2 := 106) rfl dX10_weightOf_105 rfl ?_
        refine x_imul (p2 := 107) rfl dX10_weightOf_106 ⟨by omega, by omega⟩ ?_
        refine x_iadd (p2 := 108) rfl dX10_weightOf_107 ⟨by omega, by omega⟩ ?_
        refine x_iload (p2 := 110) rfl dX10_weightOf_108 rfl ?_
        refine x_iadd (p2 := 111) rfl dX10_weightOf_110 ⟨by omega, by omega⟩ ?_
        refine x_iald (p2 := 112) rfl dX10_weightOf_111 hD.a5 (by omega) (by omega) ?_
        rw [hr.c hb1 hb2 h0 (by omega)]
        refine x_goto (t := 116) (by decide) dX10_weightOf_112 ?_
        refine x_iadd (p2 := 117) rfl dX10_weightOf_116 ⟨by omega, by omega⟩ ?_
        refine x_istore_n (p2 := 118) (i := 2) (L2 := [(0, _), (1, _), (2, _), (3, _), (4, _), (5, _), (6, _)]) rfl dX10_weightOf_117 rfl ⟨rfl, Nat.le_of_ble_eq_true rfl⟩ rfl ?_
        refine x_iinc (p2 := 121) (L2 := [(0, _), (1, _), (2, _), (3, _), (4, _), (5, _), (6, _)]) rfl dX10_weightOf_118 rfl ⟨by omega, by omega⟩ ⟨rfl, Nat.le_of_ble_eq_true rfl⟩ rfl ?_
        refine x_goto (t := 15) (by decide) dX10_weightOf_121 ?_
        refine x_pick (L2 := [(0, _), (1, _), (2, _), (3, _), (4, _)]) [0, 1, 2, 3, 4] rfl ?_
        have hw1 : wt1 hd v.2.1 v.2.2.1 pl c b k = v.2.2.1 (2 * b + k) := by
          unfold wt1
          refine if_pos ?_
          first
            | exact Or.inr ⟨hc82, hpt.1 hc72⟩
            | exact Or.inl ⟨hpb.1 hc51, hc62⟩
        rw [hw1] at hq
        exact ih _ _ (by omega) (by omega) (by omega) (by omega) hq
      · skip
        refine x_aload_n (p2 := 66) rfl dX10_weightOf_65 rfl ?_
        refine x_getr (p2 := 69) (kz := 20) rfl dX10_weightOf_66 f_10_47 rfl rfl hD.sh hD.r20 ?_
        refine x_iload (p2 := 71) rfl dX10_weightOf_69 rfl ?_
        refine x_zald (p2 := 72) rfl dX10_weightOf_71 hD.a20 (by omega) (by omega) ?_
        refine x_if_eq (p2 := 75) (t := 89) (by decide) rfl dX10_weightOf_72 (fun hc72 => ?_) (fun hc72 => ?_)
        · skip
          refine x_iconst (p2 := 90) rfl dX10_weightOf_89 ⟨by decide, by decide⟩ ?_
          refine x_istore (p2 := 92) (i := 6) (L2 := [(0, _), (1, _), (2, _), (3, _), (4, _), (5, _), (6, _)]) rfl dX10_weightOf_90 ⟨rfl, Nat.le_of_ble_eq_true rfl⟩ rfl ?_
          refine x_iload_n (p2 := 93) rfl dX10_weightOf_92 rfl ?_
          refine x_iload (p2 := 95) rfl dX10_weightOf_93 rfl ?_
          refine x_if_eq (p2 := 98) (t := 115) (by decide) rfl dX10_weightOf_95 (fun _ => ?_) (fun hc => absurd hc (by decide))
          refine x_iconst (p2 := 116) rfl dX10_weightOf_115 ⟨by decide, by decide⟩ ?_
          refine x_iadd (p2 := 117) rfl dX10_weightOf_116 ⟨by omega, by omega⟩ ?_
          refine x_istore_n (p2 := 118) (i := 2) (L2 := [(0, _), (1, _), (2, _), (3, _), (4, _), (5, _), (6, _)]) rfl dX10_weightOf_117 rfl ⟨rfl, Nat.le_of_ble_eq_true rfl⟩ rfl ?_
          refine x_iinc (p2 := 121) (L2 := [(0, _), (1, _), (2, _), (3, _), (4, _), (5, _), (6, _)]) rfl dX10_weightOf_118 rfl ⟨by omega, by omega⟩ ⟨rfl, Nat.le_of_ble_eq_true rfl⟩ rfl ?_
          refine x_goto (t := 15) (by decide) dX10_weightOf_121 ?_
          refine x_pick (L2 := [(0, _), (1, _), (2, _), (3, _), (4, _)]) [0, 1, 2, 3, 4] rfl ?_
          have hw1 : wt1 hd v.2.1 v.2.2.1 pl c b k = 0 := by
            unfold wt1
            refine if_neg (fun z => z.elim (fun y => ?_) (fun y => ?_))
            · first
                | exact absurd (hpb.2 y.1) (by omega)
                | exact hc62 y.2
            · first
                | exact absurd (hpt.2 y.2) (by omega)
                | exact hc82 y.1
          rw [hw1] at hq
          exact ih _ _ (by omega) (by omega) (by omega) (by omega) hq
        · skip
          refine x_aload_n (p2 := 76) rfl dX10_weightOf_75 rfl ?_
          refine x_getr (p2 := 79) (kz := 18) rfl dX10_weightOf_76 f_10_41 rfl rfl hD.sh hD.r18 ?_
          refine x_iload_n (p2 := 80) rfl dX10_weightOf_79 rfl ?_
          refine x_iald (p2 := 81) rfl dX10_weightOf_80 hD.a18 (by omega) (by omega) ?_
          rw [hh b hb1 hb2]
          refine x_iload_n (p2 := 82) rfl dX10_weightOf_81 rfl ?_
          refine x_ic_ne (p2 := 85) (t := 89) (by decide) rfl dX10_weightOf_82 (fun hc82 => ?_) (fun hc82 => ?_)
          · skip
            refine x_iconst (p2 := 90) rfl dX10_weightOf_89 ⟨by decide, by decide⟩ ?_
            refine x_istore (p2 := 92) (i := 6) (L2 := [(0, _), (1, _), (2, _), (3, _), (4, _), (5, _), (6, _)]) rfl dX10_weightOf_90 ⟨rfl, Nat.le_of_ble_eq_true rfl⟩ rfl ?_
            refine x_iload_n (p2 := 93) rfl dX10_weightOf_92 rfl ?_
            refine x_iload (p2 := 95) rfl dX10_weightOf_93 rfl ?_
            refine x_if_eq (p2 := 98) (t := 115) (by decide) rfl dX10_weightOf_95 (fun _ => ?_) (fun hc => absurd hc (by decide))
            refine x_iconst (p2 := 116) rfl dX10_weightOf_115 ⟨by decide, by decide⟩ ?_
            refine x_iadd (p2 := 117) rfl dX10_weightOf_116 ⟨by omega, by omega⟩ ?_
            refine x_istore_n (p2 := 118) (i := 2) (L2 := [(0, _), (1, _), (2, _), (3, _), (4, _), (5, _), (6, _)]) rfl dX10_weightOf_117 rfl ⟨rfl, Nat.le_of_ble_eq_true rfl⟩ rfl ?_
            refine x_iinc (p2 := 121) (L2 := [(0, _), (1, _), (2, _), (3, _), (4, _), (5, _), (6, _)]) rfl dX10_weightOf_118 rfl ⟨by omega, by omega⟩ ⟨rfl, Nat.le_of_ble_eq_true rfl⟩ rfl ?_
            refine x_goto (t := 15) (by decide) dX10_weightOf_121 ?_
            refine x_pick (L2 := [(0, _), (1, _), (2, _), (3, _), (4, _)]) [0, 1, 2, 3, 4] rfl ?_
            have hw1 : wt1 hd v.2.1 v.2.2.1 pl c b k = 0 := by
              unfold wt1
              refine if_neg (fun z => z.elim (fun y => ?_) (fun y => ?_))
              · first
                  | exact absurd (hpb.2 y.1) (by omega)
                  | exact hc62 y.2
              · first
                  | exact absurd (hpt.2 y.2) (by omega)
                  | exact hc82 y.1
            rw [hw1] at hq
            exact ih _ _ (by omega) (by omega) (by omega) (by omega) hq
          · skip
            refine x_iconst (p2 := 86) rfl dX10_weightOf_85 ⟨by decide, by decide⟩ ?_
            refine x_goto (t := 90) (by decide) dX10_weightOf_86 ?_
            refine x_istore (p2 := 92) (i := 6) (L2 := [(0, _), (1, _), (2, _), (3, _), (4, _), (5, _), (6, _)]) rfl dX10_weightOf_90 ⟨rfl, Nat.le_of_ble_eq_true rfl⟩ rfl ?_
            refine x_iload_n (p2 := 93) rfl dX10_weightOf_92 rfl ?_
            refine x_iload (p2 := 95) rfl dX10_weightOf_93 rfl ?_
            refine x_if_eq (p2 := 98) (t := 115) (by decide) rfl dX10_weightOf_95 (fun hc => absurd hc (by decide)) (fun _ => ?_)
            refine x_aload_n (p2 := 99) rfl dX10_weightOf_98 rfl ?_
            refine x_getr (p2 := 102) (kz := 5) rfl dX10_weightOf_99 f_10_16 rfl rfl hD.sh hD.r5 ?_
            refine x_bipush (p2 := 104) rfl dX10_weightOf_102 ⟨by decide, ⟨by decide, by decide⟩⟩ ?_
            refine x_iconst (p2 := 105) rfl dX10_weightOf_104 ⟨by decide, by decide⟩ ?_
            refine x_iload_n (p2 := 106) rfl dX10_weightOf_105 rfl ?_
            refine x_imul (p2 := 107) rfl dX10_weightOf_106 ⟨by omega, by omega⟩ ?_
            refine x_iadd (p2 := 108) rfl dX10_weightOf_107 ⟨by omega, by omega⟩ ?_
            refine x_iload (p2 := 110) rfl dX10_weightOf_108 rfl ?_
            refine x_iadd (p2 := 111) rfl dX10_weightOf_110 ⟨by omega, by omega⟩ ?_
            refine x_iald (p2 := 112) rfl dX10_weightOf_111 hD.a5 (by omega) (by omega) ?_
            rw [hr.c hb1 hb2 h0 (by omega)]
            refine x_goto (t := 116) (by decide) dX10_weightOf_112 ?_
            refine x_iadd (p2 := 117) rfl dX10_weightOf_116 ⟨by omega, by omega⟩ ?_
            refine x_istore_n (p2 := 118) (i := 2) (L2 := [(0, _), (1, _), (2, _), (3, _), (4, _), (5, _), (6, _)]) rfl dX10_weightOf_117 rfl ⟨rfl, Nat.le_of_ble_eq_true rfl⟩ rfl ?_
            refine x_iinc (p2 := 121) (L2 := [(0, _), (1, _), (2, _), (3, _), (4, _), (5, _), (6, _)]) rfl dX10_weightOf_118 rfl ⟨by omega, by omega⟩ ⟨rfl, Nat.le_of_ble_eq_true rfl⟩ rfl ?_
            refine x_goto (t := 15) (by decide) dX10_weightOf_121 ?_
            refine x_pick (L2 := [(0, _), (1, _), (2, _), (3, _), (4, _)]) [0, 1, 2, 3, 4] rfl ?_
            have hw1 : wt1 hd v.2.1 v.2.2.1 pl c b k = v.2.2.1 (2 * b + k) := by
              unfold wt1
              refine if_pos ?_
              first
                | exact Or.inr ⟨hc82, hpt.1 hc72⟩
                | exact Or.inl ⟨hpb.1 hc51, hc62⟩
            rw [hw1] at hq
            exact ih _ _ (by omega) (by omega) (by omega) (by omega) hq
set_option maxHeartbeats 4000000 in
theorem t_wo2 {D : Nat} (hD : isMd σ ρ D) {n : Int} {v : vV} (hn : M D 2 = n) (hr : smr n v (M (D + 3))) (hG : wfG n v.1 v.2.1 v.2.2.1) {hd : Int → Int} {pl : Int → Bool} {c : Int} (hh : ∀ x, 0 ≤ x → x < n → M (D + 11) x = hd x) (hpl : ∀ x, 0 ≤ x → x < n → (M (D + 13) x ≠ 0 ↔ pl x = true)) : ∀ (m : Nat) (b s : Int), 0 ≤ b → b + m = n → 0 ≤ s → s ≤ 198 * b → Q (some (xI (s + sg (wtk hd v.1 v.2.1 v.2.2.1 pl c) b m))) (σ, ρ, M) → xX G mX10_weightOf 0 0 4 [(0, xP D), (1, xI c), (2, xI s), (3, xI b)] [] (σ, ρ, M) Q := by
  have h8 := hG.2.1
  have h1 := hG.1
  have hx2 : ∀ b, 0 ≤ b → b < n → v.1 b ≤ 2 := fun b a c => (hG.2.2 b a c).2.1
  intro m
  induction m with
  | zero =>
    intro b s h0 hm hs1 hs2 hq
    refine x_iload_n (p2 := 5) rfl dX10_weightOf_4 rfl ?_
    refine x_aload_n (p2 := 6) rfl dX10_weightOf_5 rfl ?_
    refine x_geti (p2 := 9) (kz := 2) rfl dX10_weightOf_6 f_10_53 rfl rfl hD.sh ?_
    rw [hn]
    refine x_ic_ge (p2 := 12) (t := 130) (by decide) rfl dX10_weightOf_9 (fun hc9 => ?_) (fun hc9 => absurd hc9 (by omega))
    refine x_iload_n (p2 := 131) rfl dX10_weightOf_130 rfl ?_
    refine x_iret dX10_weightOf_131 rfl ?_
    unfold sg at hq; rw [Int.add_zero] at hq; exact hq
  | succ m ih =>
    intro b s h0 hm hs1 hs2 hq
    have hwb := hG.2.2 b h0 (by omega)
    have hw0 := hwb.1
    have hkb := wtk_bd (hd := hd) (pl := pl) (c := c) hwb
    unfold sg at hq
    rw [← Int.add_assoc] at hq
    refine x_iload_n (p2 := 5) rfl dX10_weightOf_4 rfl ?_
    refine x_aload_n (p2 := 6) rfl dX10_weightOf_5 rfl ?_
    refine x_geti (p2 := 9) (kz := 2) rfl dX10_weightOf_6 f_10_53 rfl rfl hD.sh ?_
    rw [hn]
    refine x_ic_ge (p2 := 12) (t := 130) (by decide) rfl dX10_weightOf_9 (fun hc9 => ?_) (fun hc9 => ?_)
    · exact absurd hc9 (by omega)
    refine x_iconst (p2 := 13) rfl dX10_weightOf_12 ⟨by decide, by decide⟩ ?_
    refine x_istore (p2 := 15) (i := 4) (L2 := [(0, _), (1, _), (2, _), (3, _), (4, _)]) rfl dX10_weightOf_13 ⟨rfl, Nat.le_of_ble_eq_true rfl⟩ rfl ?_
    refine x_pick (L2 := [(0, _), (1, _), (2, _), (3, _), (4, _)]) [0, 1, 2, 3, 4] rfl ?_
    refine t_wo1 hD hn hr hG hh hpl h0 (by omega) (v.1 b).toNat 0 s (by omega) (by omega) (by omega) (by omega) ?_
    refine x_iinc (p2 := 127) (L2 := [(0, _), (1, _), (2, _), (3, _)]) rfl dX10_weightOf_124 rfl ⟨by omega, by omega⟩ ⟨rfl, Nat.le_of_ble_eq_true rfl⟩ rfl ?_
    refine x_goto (t := 4) (by decide) dX10_weightOf_127 ?_
    refine x_pick (L2 := [(0, _), (1, _), (2, _), (3, _)]) [0, 1, 2, 3] rfl ?_
    exact ih _ _ (by omega) (by omega) (by unfold wtk at hkb; omega) (by unfold wtk at hkb; omega) hq
set_option maxHeartbeats 4000000 in
theorem t_X10_weightOf {D : Nat} (hD : isMd σ ρ D) {n : Int} {v : vV} (hn : M D 2 = n) (hr : smr n v (M (D + 3))) (hG : wfG n v.1 v.2.1 v.2.2.1) {hd : Int → Int} {pl : Int → Bool} {c : Int} (hh : ∀ x, 0 ≤ x → x < n → M (D + 11) x = hd x) (hpl : ∀ x, 0 ≤ x → x < n → (M (D + 13) x ≠ 0 ↔ pl x = true)) (hq : Q (some (xI (wtf n hd v.1 v.2.1 v.2.2.1 pl c))) (σ, ρ, M)) : xX G mX10_weightOf 0 0 0 [(0, xP D), (1, xI c)] [] (σ, ρ, M) Q := by
  have h8 := hG.2.1
  have h1 := hG.1
  have hx2 : ∀ b, 0 ≤ b → b < n → v.1 b ≤ 2 := fun b a c => (hG.2.2 b a c).2.1
  refine x_iconst (p2 := 1) rfl dX10_weightOf_0 ⟨by decide, by decide⟩ ?_
  refine x_istore_n (p2 := 2) (i := 2) (L2 := [(0, _), (1, _), (2, _)]) rfl dX10_weightOf_1 rfl ⟨rfl, Nat.le_of_ble_eq_true rfl⟩ rfl ?_
  refine x_iconst (p2 := 3) rfl dX10_weightOf_2 ⟨by decide, by decide⟩ ?_
  refine x_istore_n (p2 := 4) (i := 3) (L2 := [(0, _), (1, _), (2, _), (3, _)]) rfl dX10_weightOf_3 rfl ⟨rfl, Nat.le_of_ble_eq_true rfl⟩ rfl ?_
  refine x_pick (L2 := [(0, _), (1, _), (2, _), (3, _)]) [0, 1, 2, 3] rfl ?_
  exact t_wo2 hD hn hr hG hh hpl n.toNat 0 0 (by omega) (by omega) (by omega) (by omega) (by rw [Int.zero_add]; exact hq)
end XMV
