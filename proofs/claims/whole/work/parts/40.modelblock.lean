section XMR
variable {G : xG} {σ : List (Nat × Nat)} {ρ : Nat → Int → Option Nat} {M : Nat → Int → Int} {Q : Option xV → xH → Prop}
set_option maxHeartbeats 4000000 in
theorem t_X10_readBlock {D : Nat} (hD : isMd σ ρ D) {tx : Int → Int} {ln p : Int} (hT : rtx M D tx ln) (hp : M D 13 = p ∧ 0 ≤ p ∧ p ≤ ln) {n b : Int} (hn : M D 14 = n ∧ 1 ≤ n ∧ n ≤ 8) (hb : 0 ≤ b ∧ b < 8) (k1 : (rdb tx ln n p).1 = true → ∀ M2, frR M M2 D → (∀ f, f ≠ 13 → M2 D f = M D f) → M2 D 13 = (rdb tx ln n p).2 → M2 (D + 9) = upf (M (D + 9)) b (tx p - 48) → M2 (D + 10) (10 + b) = tx (p + 1) - 48 → (∀ y, y ≠ 10 + b → y ≠ 18 + 2 * b → y ≠ 18 + 2 * b + 1 → y ≠ 34 + 2 * b → y ≠ 34 + 2 * b + 1 → M2 (D + 10) y = M (D + 10) y) → (∀ j, 0 ≤ j → j < tx (p + 1) - 48 → edR tx (M2 (D + 10)) b p j) → Q (some (xI 1)) (σ, ρ, M2)) (k0 : ¬ (rdb tx ln n p).1 = true → ∀ M2, frR M M2 D → M2 D 13 = (rdb tx ln n p).2 → Q (some (xI 0)) (σ, ρ, M2)) : xX G mX10_readBlock 0 0 0 [(0, xP D), (1, xI b)] [] (σ, ρ, M) Q := by
  obtain ⟨t1, t2, t3, t4⟩ := id hT
  obtain ⟨p1, p2, p3⟩ := id hp
  unfold rdb at k1 k0
  refine x_aload_n (p2 := 1) rfl dX10_readBlock_0 rfl ?_
  refine x_getr (p2 := 4) (kz := 16) rfl dX10_readBlock_1 f_10_35 rfl rfl hD.sh hD.r16 ?_
  refine x_iload_n (p2 := 5) rfl dX10_readBlock_4 rfl ?_
  refine x_aload_n (p2 := 6) rfl dX10_readBlock_5 rfl ?_
  refine x_iconst (p2 := 7) rfl dX10_readBlock_6 ⟨by decide, by decide⟩ ?_
  refine x_bipush (p2 := 9) rfl dX10_readBlock_7 ⟨by decide, ⟨by decide, by decide⟩⟩ ?_
  refine x_v2 (p2 := 12) rfl dX10_readBlock_9 l_10_73 ok_X10_figure rfl hD.sh rfl ?_
  refine t_X10_figure hD hT hp (by omega) (fun hb9 => ?_) (fun hb9 => ?_)
  · skip
    refine x_iast (p2 := 13) rfl dX10_readBlock_12 hD.a16 (by omega) (by omega) ?_
    generalize hM5 : xu (xu M D 13 (p + 1)) (D + 9) b (tx p - 48) = M5
    have hf5 : frR M M5 D := by rw [← hM5]; exact (frR.u (Or.inl rfl)).tr (frR.w (Or.inl rfl))
    have hT5 := hT.mv hf5
    have z1 := of_decide_eq_true hb9
    have e13 : M5 D 13 = p + 1 := by rw [← hM5, xu_c (by omega), xu_s]
    have e9 : M5 (D + 9) = upf (M (D + 9)) b (tx p - 48) := by rw [← hM5, xu_eq, xw_s, xu_c (by omega)]
    have e10 : M5 (D + 10) = M (D + 10) := by rw [← hM5, xu_c (by omega), xu_c (by omega)]
    have ef : ∀ f, f ≠ 13 → M5 D f = M D f := fun f z => by rw [← hM5, xu_c (by omega), xu_j z]
    have e14 : M5 D 14 = n := (ef 14 (by omega)).trans hn.1
    refine x_aload_n (p2 := 14) rfl dX10_readBlock_13 rfl ?_
    refine x_getr (p2 := 17) (kz := 16) rfl dX10_readBlock_14 f_10_35 rfl rfl hD.sh hD.r16 ?_
    refine x_iload_n (p2 := 18) rfl dX10_readBlock_17 rfl ?_
    refine x_iald (p2 := 19) rfl dX10_readBlock_18 hD.a16 (by omega) (by omega) ?_
    rw [e9, upf_s]
    refine x_bipush (p2 := 21) rfl dX10_readBlock_19 ⟨by decide, ⟨by decide, by decide⟩⟩ ?_
    refine x_ic_ne (p2 := 24) (t := 29) (by decide) rfl dX10_readBlock_21 (fun hc21 => ?_) (fun hc21 => absurd hc21 (by omega))
    refine x_aload_n (p2 := 30) rfl dX10_readBlock_29 rfl ?_
    refine x_iconst (p2 := 31) rfl dX10_readBlock_30 ⟨by decide, by decide⟩ ?_
    refine x_aload_n (p2 := 32) rfl dX10_readBlock_31 rfl ?_
    refine x_geti (p2 := 35) (kz := 14) rfl dX10_readBlock_32 f_10_77 rfl rfl hD.sh ?_
    rw [e14]
    refine x_iconst (p2 := 36) rfl dX10_readBlock_35 ⟨by decide, by decide⟩ ?_
    refine x_ic_ne (p2 := 39) (t := 43) (by decide) rfl dX10_readBlock_36 (fun hc36 => ?_) (fun hc36 => ?_)
    · skip
      refine x_iconst (p2 := 44) rfl dX10_readBlock_43 ⟨by decide, by decide⟩ ?_
      refine x_v2 (p2 := 47) rfl dX10_readBlock_44 l_10_73 ok_X10_figure rfl hD.sh rfl ?_
      refine t_X10_figure hD hT5 (p := p + 1) ⟨e13, by omega, by omega⟩ (by omega) (fun hb44 => ?_) (fun hb44 => ?_)
      · skip
        refine x_istore_n (p2 := 48) (i := 2) (L2 := [(0, _), (1, _), (2, _)]) rfl dX10_readBlock_47 rfl ⟨rfl, Nat.le_of_ble_eq_true rfl⟩ rfl ?_
        refine x_aload_n (p2 := 49) rfl dX10_readBlock_48 rfl ?_
        refine x_getr (p2 := 52) (kz := 17) rfl dX10_readBlock_49 f_10_38 rfl rfl hD.sh hD.r17 ?_
        refine x_bipush (p2 := 54) rfl dX10_readBlock_52 ⟨by decide, ⟨by decide, by decide⟩⟩ ?_
        refine x_iload_n (p2 := 55) rfl dX10_readBlock_54 rfl ?_
        refine x_iadd (p2 := 56) rfl dX10_readBlock_55 ⟨by omega, by omega⟩ ?_
        refine x_iload_n (p2 := 57) rfl dX10_readBlock_56 rfl ?_
        refine x_iast (p2 := 58) rfl dX10_readBlock_57 hD.a17 (by omega) (by omega) ?_
        refine x_iload_n (p2 := 59) rfl dX10_readBlock_58 rfl ?_
        refine x_bipush (p2 := 61) rfl dX10_readBlock_59 ⟨by decide, ⟨by decide, by decide⟩⟩ ?_
        refine x_ic_eq (p2 := 64) (t := 68) (by decide) rfl dX10_readBlock_61 (fun hc61 => ?_) (fun hc61 => ?_)
        · exact absurd hc61 (by have := of_decide_eq_true hb44; omega)
        refine x_iconst (p2 := 65) rfl dX10_readBlock_64 ⟨by decide, by decide⟩ ?_
        refine x_goto (t := 69) (by decide) dX10_readBlock_65 ?_
        refine x_istore_n (p2 := 70) (i := 3) (L2 := [(0, _), (1, _), (2, _), (3, _)]) rfl dX10_readBlock_69 rfl ⟨rfl, Nat.le_of_ble_eq_true rfl⟩ rfl ?_
        refine x_iconst (p2 := 71) rfl dX10_readBlock_70 ⟨by decide, by decide⟩ ?_
        refine x_istore (p2 := 73) (i := 4) (L2 := [(0, _), (1, _), (2, _), (3, _), (4, _)]) rfl dX10_readBlock_71 ⟨rfl, Nat.le_of_ble_eq_true rfl⟩ rfl ?_
        refine x_pick (L2 := [(0, _), (1, _), (2, _), (3, _), (4, _)]) [0, 1, 2, 3, 4] rfl ?_
        have hd2 : dgt tx ln (p + 1) 0 (if n < 2 then n else 2) = true := by
          first
            | (rw [if_pos (show n < 2 by omega), show n = 1 by omega]; exact hb44)
            | (rw [if_neg (show ¬ n < 2 by omega)]; exact hb44)
        have z2 := of_decide_eq_true hb44
        rw [if_pos hb9, if_pos hd2] at k1 k0
        generalize hM6 : xu (xu M5 D 13 (p + 1 + 1)) (D + 10) (10 + b) (tx (p + 1) - 48) = M6
        have hf6 : frR M5 M6 D := by rw [← hM6]; exact (frR.u (Or.inl rfl)).tr (frR.w (Or.inr rfl))
        have d13 : M6 D 13 = p + 2 := by rw [← hM6, xu_c (by omega), xu_s]; omega
        have d10 : M6 (D + 10) = upf (M (D + 10)) (10 + b) (tx (p + 1) - 48) := by rw [← hM6, xu_eq, xw_s, xu_c (by omega), e10]
        have d9 : M6 (D + 9) = M5 (D + 9) := by rw [← hM6, xu_c (by omega), xu_c (by omega)]
        have df : ∀ f, f ≠ 13 → M6 D f = M5 D f := fun f z => by rw [← hM6, xu_c (by omega), xu_j z]
        refine t_rbR (n := n) (p := p) (e := tx (p + 1) - 48) hD hb (by omega) (tx (p + 1) - 48).toNat 0 M6 (hT5.mv hf6) ⟨(df 14 (by omega)).trans e14, hn.2⟩ (by rw [d13]; omega) (by omega) (by omega) (by rw [d13]; omega) (fun j a c => by omega) (fun z M2 q1 q2 q3 q4 q5 q6 => ?_) (fun z M2 q1 q2 => ?_)
        · rw [d13] at z q4
          refine k1 z M2 ((hf5.tr hf6).tr q1) (fun f z => (q3 f z).trans ((df f z).trans (ef f z))) q4 ?_ ?_ (fun y y1 y2 y3 y4 y5 => ?_) q6
          · rw [q2 _ (by omega) (by omega), d9, e9]
          · rw [q5 _ (by omega) (by omega) (by omega) (by omega), d10, upf_s]
          · rw [q5 y y2 y3 y4 y5, d10, upf_n y1]
        · rw [d13] at z q2
          exact k0 z M2 ((hf5.tr hf6).tr q1) q2
      · skip
        refine x_istore_n (p2 := 48) (i := 2) (L2 := [(0, _), (1, _), (2, _)]) rfl dX10_readBlock_47 rfl ⟨rfl, Nat.le_of_ble_eq_true rfl⟩ rfl ?_
        refine x_aload_n (p2 := 49) rfl dX10_readBlock_48 rfl ?_
        refine x_getr (p2 := 52) (kz := 17) rfl dX10_readBlock_49 f_10_38 rfl rfl hD.sh hD.r17 ?_
        refine x_bipush (p2 := 54) rfl dX10_readBlock_52 ⟨by decide, ⟨by decide, by decide⟩⟩ ?_
        refine x_iload_n (p2 := 55) rfl dX10_readBlock_54 rfl ?_
        refine x_iadd (p2 := 56) rfl dX10_readBlock_55 ⟨by omega, by omega⟩ ?_
        refine x_iload_n (p2 := 57) rfl dX10_readBlock_56 rfl ?_
        refine x_iast (p2 := 58) rfl dX10_readBlock_57 hD.a17 (by omega) (by omega) ?_
        refine x_iload_n (p2 := 59) rfl dX10_readBlock_58 rfl ?_
        refine x_bipush (p2 := 61) rfl dX10_readBlock_59 ⟨by decide, ⟨by decide, by decide⟩⟩ ?_
        refine x_ic_eq (p2 := 64) (t := 68) (by decide) rfl dX10_readBlock_61 (fun _ => ?_) (fun hc => absurd hc (by decide))
        refine x_iconst (p2 := 69) rfl dX10_readBlock_68 ⟨by decide, by decide⟩ ?_
        refine x_istore_n (p2 := 70) (i := 3) (L2 := [(0, _), (1, _), (2, _), (3, _)]) rfl dX10_readBlock_69 rfl ⟨rfl, Nat.le_of_ble_eq_true rfl⟩ rfl ?_
        refine x_iconst (p2 := 71) rfl dX10_readBlock_70 ⟨by decide, by decide⟩ ?_
        refine x_istore (p2 := 73) (i := 4) (L2 := [(0, _), (1, _), (2, _), (3, _), (4, _)]) rfl dX10_readBlock_71 ⟨rfl, Nat.le_of_ble_eq_true rfl⟩ rfl ?_
        refine x_pick (L2 := [(0, _), (1, _), (2, _), (3, _), (4, _)]) [0, 1, 2, 3, 4] rfl ?_
        first
          | (rw [if_neg hb9] at k0
             exact t_rb0 hD (k0 (fun z => by cases z) _ ((frR.w (Or.inl rfl)).tr (frR.w (Or.inr rfl))) (by rw [xu_c (by omega), xu_c (by omega)]; exact p1))
            )
          | (have hd2 : ¬ dgt tx ln (p + 1) 0 (if n < 2 then n else 2) = true := by
               first
                 | (rw [if_pos (show n < 2 by omega), show n = 1 by omega]; exact hb44)
                 | (rw [if_neg (show ¬ n < 2 by omega)]; exact hb44)
             rw [if_pos hb9, if_neg hd2] at k0
             exact t_rb0 hD (k0 (fun z => by cases z) _ (hf5.tr (frR.w (Or.inr rfl))) (by rw [xu_c (by omega)]; exact e13)))
    · skip
      refine x_iconst (p2 := 40) rfl dX10_readBlock_39 ⟨by decide, by decide⟩ ?_
      refine x_goto (t := 44) (by decide) dX10_readBlock_40 ?_
      refine x_v2 (p2 := 47) rfl dX10_readBlock_44 l_10_73 ok_X10_figure rfl hD.sh rfl ?_
      refine t_X10_figure hD hT5 (p := p + 1) ⟨e13, by omega, by omega⟩ (by omega) (fun hb44 => ?_) (fun hb44 => ?_)
      · skip
        refine x_istore_n (p2 := 48) (i := 2) (L2 := [(0, _), (1, _), (2, _)]) rfl dX10_readBlock_47 rfl ⟨rfl, Nat.le_of_ble_eq_true rfl⟩ rfl ?_
        refine x_aload_n (p2 := 49) rfl dX10_readBlock_48 rfl ?_
        refine x_getr (p2 := 52) (kz := 17) rfl dX10_readBlock_49 f_10_38 rfl rfl hD.sh hD.r17 ?_
        refine x_bipush (p2 := 54) rfl dX10_readBlock_52 ⟨by decide, ⟨by decide, by decide⟩⟩ ?_
        refine x_iload_n (p2 := 55) rfl dX10_readBlock_54 rfl ?_
        refine x_iadd (p2 := 56) rfl dX10_readBlock_55 ⟨by omega, by omega⟩ ?_
        refine x_iload_n (p2 := 57) rfl dX10_readBlock_56 rfl ?_
        refine x_iast (p2 := 58) rfl dX10_readBlock_57 hD.a17 (by omega) (by omega) ?_
        refine x_iload_n (p2 := 59) rfl dX10_readBlock_58 rfl ?_
        refine x_bipush (p2 := 61) rfl dX10_readBlock_59 ⟨by decide, ⟨by decide, by decide⟩⟩ ?_
        refine x_ic_eq (p2 := 64) (t := 68) (by decide) rfl dX10_readBlock_61 (fun hc61 => ?_) (fun hc61 => ?_)
        · exact absurd hc61 (by have := of_decide_eq_true hb44; omega)
        refine x_iconst (p2 := 65) rfl dX10_readBlock_64 ⟨by decide, by decide⟩ ?_
        refine x_goto (t := 69) (by decide) dX10_readBlock_65 ?_
        refine x_istore_n (p2 := 70) (i := 3) (L2 := [(0, _), (1, _), (2, _), (3, _)]) rfl dX10_readBlock_69 rfl ⟨rfl, Nat.le_of_ble_eq_true rfl⟩ rfl ?_
        refine x_iconst (p2 := 71) rfl dX10_readBlock_70 ⟨by decide, by decide⟩ ?_
        refine x_istore (p2 := 73) (i := 4) (L2 := [(0, _), (1, _), (2, _), (3, _), (4, _)]) rfl dX10_readBlock_71 ⟨rfl, Nat.le_of_ble_eq_true rfl⟩ rfl ?_
        refine x_pick (L2 := [(0, _), (1, _), (2, _), (3, _), (4, _)]) [0, 1, 2, 3, 4] rfl ?_
        have hd2 : dgt tx ln (p + 1) 0 (if n < 2 then n else 2) = true := by
          first
            | (rw [if_pos (show n < 2 by omega), show n = 1 by omega]; exact hb44)
            | (rw [if_neg (show ¬ n < 2 by omega)]; exact hb44)
        have z2 := of_decide_eq_true hb44
        rw [if_pos hb9, if_pos hd2] at k1 k0
        generalize hM6 : xu (xu M5 D 13 (p + 1 + 1)) (D + 10) (10 + b) (tx (p + 1) - 48) = M6
        have hf6 : frR M5 M6 D := by rw [← hM6]; exact (frR.u (Or.inl rfl)).tr (frR.w (Or.inr rfl))
        have d13 : M6 D 13 = p + 2 := by rw [← hM6, xu_c (by omega), xu_s]; omega
        have d10 : M6 (D + 10) = upf (M (D + 10)) (10 + b) (tx (p + 1) - 48) := by rw [← hM6, xu_eq, xw_s, xu_c (by omega), e10]
        have d9 : M6 (D + 9) = M5 (D + 9) := by rw [← hM6, xu_c (by omega), xu_c (by omega)]
        have df : ∀ f, f ≠ 13 → M6 D f = M5 D f := fun f z => by rw [← hM6, xu_c (by omega), xu_j z]
        refine t_rbR (n := n) (p := p) (e := tx (p + 1) - 48) hD hb (by omega) (tx (p + 1) - 48).toNat 0 M6 (hT5.mv hf6) ⟨(df 14 (by omega)).trans e14, hn.2⟩ (by rw [d13]; omega) (by omega) (by omega) (by rw [d13]; omega) (fun j a c => by omega) (fun z M2 q1 q2 q3 q4 q5 q6 => ?_) (fun z M2 q1 q2 => ?_)
        · rw [d13] at z q4
          refine k1 z M2 ((hf5.tr hf6).tr q1) (fun f z => (q3 f z).trans ((df f z).trans (ef f z))) q4 ?_ ?_ (fun y y1 y2 y3 y4 y5 => ?_) q6
          · rw [q2 _ (by omega) (by omega), d9, e9]
          · rw [q5 _ (by omega) (by omega) (by omega) (by omega), d10, upf_s]
          · rw [q5 y y2 y3 y4 y5, d10, upf_n y1]
        · rw [d13] at z q2
          exact k0 z M2 ((hf5.tr hf6).tr q1) q2
      · skip
        refine x_istore_n (p2 := 48) (i := 2) (L2 := [(0, _), (1, _), (2, _)]) rfl dX10_readBlock_47 rfl ⟨rfl, Nat.le_of_ble_eq_true rfl⟩ rfl ?_
        refine x_aload_n (p2 := 49) rfl dX10_readBlock_48 rfl ?_
        refine x_getr (p2 := 52) (kz := 17) rfl dX10_readBlock_49 f_10_38 rfl rfl hD.sh hD.r17 ?_
        refine x_bipush (p2 := 54) rfl dX10_readBlock_52 ⟨by decide, ⟨by decide, by decide⟩⟩ ?_
        refine x_iload_n (p2 := 55) rfl dX10_readBlock_54 rfl ?_
        refine x_iadd (p2 := 56) rfl dX10_readBlock_55 ⟨by omega, by omega⟩ ?_
        refine x_iload_n (p2 := 57) rfl dX10_readBlock_56 rfl ?_
        refine x_iast (p2 := 58) rfl dX10_readBlock_57 hD.a17 (by omega) (by omega) ?_
        refine x_iload_n (p2 := 59) rfl dX10_readBlock_58 rfl ?_
        refine x_bipush (p2 := 61) rfl dX10_readBlock_59 ⟨by decide, ⟨by decide, by decide⟩⟩ ?_
        refine x_ic_eq (p2 := 64) (t := 68) (by decide) rfl dX10_readBlock_61 (fun _ => ?_) (fun hc => absurd hc (by decide))
        refine x_iconst (p2 := 69) rfl dX10_readBlock_68 ⟨by decide, by decide⟩ ?_
        refine x_istore_n (p2 := 70) (i := 3) (L2 := [(0, _), (1, _), (2, _), (3, _)]) rfl dX10_readBlock_69 rfl ⟨rfl, Nat.le_of_ble_eq_true rfl⟩ rfl ?_
        refine x_iconst (p2 := 71) rfl dX10_readBlock_70 ⟨by decide, by decide⟩ ?_
        refine x_istore (p2 := 73) (i := 4) (L2 := [(0, _), (1, _), (2, _), (3, _), (4, _)]) rfl dX10_readBlock_71 ⟨rfl, Nat.le_of_ble_eq_true rfl⟩ rfl ?_
        refine x_pick (L2 := [(0, _), (1, _), (2, _), (3, _), (4, _)]) [0, 1, 2, 3, 4] rfl ?_
        first
          | (rw [if_neg hb9] at k0
             exact t_rb0 hD (k0 (fun z => by cases z) _ ((frR.w (Or.inl rfl)).tr (frR.w (Or.inr rfl))) (by rw [xu_c (by omega), xu_c (by omega)]; exact p1))
            )
          | (have hd2 : ¬ dgt tx ln (p + 1) 0 (if n < 2 then n else 2) = true := by
               first
                 | (rw [if_pos (show n < 2 by omega), show n = 1 by omega]; exact hb44)
                 | (rw [if_neg (show ¬ n < 2 by omega)]; exact hb44)
             rw [if_pos hb9, if_neg hd2] at k0
             exact t_rb0 hD (k0 (fun z => by cases z) _ (hf5.tr (frR.w (Or.inr rfl))) (by rw [xu_c (by omega)]; exact e13)))
  · skip
    refine x_iast (p2 := 13) rfl dX10_readBlock_12 hD.a16 (by omega) (by omega) ?_
    refine x_aload_n (p2 := 14) rfl dX10_readBlock_13 rfl ?_
    refine x_getr (p2 := 17) (kz := 16) rfl dX10_readBlock_14 f_10_35 rfl rfl hD.sh hD.r16 ?_
    refine x_iload_n (p2 := 18) rfl dX10_readBlock_17 rfl ?_
    refine x_iald (p2 := 19) rfl dX10_readBlock_18 hD.a16 (by omega) (by omega) ?_
    rw [xu_s]
    refine x_bipush (p2 := 21) rfl dX10_readBlock_19 ⟨by decide, ⟨by decide, by decide⟩⟩ ?_
    refine x_ic_ne (p2 := 24) (t := 29) (by decide) rfl dX10_readBlock_21 (fun hc => absurd hc (by decide)) (fun _ => ?_)
    refine x_bipush (p2 := 26) rfl dX10_readBlock_24 ⟨by decide, ⟨by decide, by decide⟩⟩ ?_
    refine x_goto (t := 47) (by decide) dX10_readBlock_26 ?_
    refine x_istore_n (p2 := 48) (i := 2) (L2 := [(0, _), (1, _), (2, _)]) rfl dX10_readBlock_47 rfl ⟨rfl, Nat.le_of_ble_eq_true rfl⟩ rfl ?_
    refine x_aload_n (p2 := 49) rfl dX10_readBlock_48 rfl ?_
    refine x_getr (p2 := 52) (kz := 17) rfl dX10_readBlock_49 f_10_38 rfl rfl hD.sh hD.r17 ?_
    refine x_bipush (p2 := 54) rfl dX10_readBlock_52 ⟨by decide, ⟨by decide, by decide⟩⟩ ?_
    refine x_iload_n (p2 := 55) rfl dX10_readBlock_54 rfl ?_
    refine x_iadd (p2 := 56) rfl dX10_readBlock_55 ⟨by omega, by omega⟩ ?_
    refine x_iload_n (p2 := 57) rfl dX10_readBlock_56 rfl ?_
    refine x_iast (p2 := 58) rfl dX10_readBlock_57 hD.a17 (by omega) (by omega) ?_
    refine x_iload_n (p2 := 59) rfl dX10_readBlock_58 rfl ?_
    refine x_bipush (p2 := 61) rfl dX10_readBlock_59 ⟨by decide, ⟨by decide, by decide⟩⟩ ?_
    refine x_ic_eq (p2 := 64) (t := 68) (by decide) rfl dX10_readBlock_61 (fun _ => ?_) (fun hc => absurd hc (by decide))
    refine x_iconst (p2 := 69) rfl dX10_readBlock_68 ⟨by decide, by decide⟩ ?_
    refine x_istore_n (p2 := 70) (i := 3) (L2 := [(0, _), (1, _), (2, _), (3, _)]) rfl dX10_readBlock_69 rfl ⟨rfl, Nat.le_of_ble_eq_true rfl⟩ rfl ?_
    refine x_iconst (p2 := 71) rfl dX10_readBlock_70 ⟨by decide, by decide⟩ ?_
    refine x_istore (p2 := 73) (i := 4) (L2 := [(0, _), (1, _), (2, _), (3, _), (4, _)]) rfl dX10_readBlock_71 ⟨rfl, Nat.le_of_ble_eq_true rfl⟩ rfl ?_
    refine x_pick (L2 := [(0, _), (1, _), (2, _), (3, _), (4, _)]) [0, 1, 2, 3, 4] rfl ?_
    first
      | (rw [if_neg hb9] at k0
         exact t_rb0 hD (k0 (fun z => by cases z) _ ((frR.w (Or.inl rfl)).tr (frR.w (Or.inr rfl))) (by rw [xu_c (by omega), xu_c (by omega)]; exact p1))
        )
      | (have hd2 : ¬ dgt tx ln (p + 1) 0 (if n < 2 then n else 2) = true := by
           first
             | (rw [if_pos (show n < 2 by omega), show n = 1 by omega]; exact hb44)
             | (rw [if_neg (show ¬ n < 2 by omega)]; exact hb44)
         rw [if_pos hb9, if_neg hd2] at k0
         exact t_rb0 hD (k0 (fun z => by cases z) _ (hf5.tr (frR.w (Or.inr rfl))) (by rw [xu_c (by omega)]; exact e13)))
end XMR
