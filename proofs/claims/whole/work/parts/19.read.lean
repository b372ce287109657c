section XTR
variable {G : xG} {σ : List (Nat × Nat)} {ρ : Nat → Int → Option Nat} {M : Nat → Int → Int} {Q : Option xV → xH → Prop}
/-- block b as the text has it at p -/
def edg (tx tg ct : Int → Int) (b p k : Int) : Prop := tg (2 * b + k) = tx (p + 2 + 3 * k) - 48 ∧ ct (2 * b + k) = 10 * (tx (p + 3 + 3 * k) - 48) + (tx (p + 4 + 3 * k) - 48)
def cnt (tx byt ex tg ct : Int → Int) (b p : Int) : Prop := byt b = tx p - 48 ∧ ex b = tx (p + 1) - 48 ∧ ∀ k, 0 ≤ k → k < ex b → edg tx tg ct b p k
def bps (tx : Int → Int) : Nat → Int
  | 0 => 4
  | m + 1 => bps tx m + 2 + 3 * (tx (bps tx m + 1) - 48)
theorem rdl_t {tx : Int → Int} {ln n : Int} : ∀ (m : Nat) (k p : Int), (rdl tx ln n m k p).1 = true → (rdl tx ln n m k p).2 = p + 3 * m ∧ ∀ j : Nat, j < m → (rde tx ln n (k + j) (p + 3 * j)).1 = true
  | 0, k, p, _ => ⟨by unfold rdl; dsimp only; omega, fun j h => by omega⟩
  | m + 1, k, p, h => by
    unfold rdl at h ⊢
    by_cases h1 : (rde tx ln n k p).1 = true
    · rw [if_pos h1] at h ⊢
      have h2 := rde_t h1
      have ih := rdl_t (tx := tx) (ln := ln) (n := n) m (k + 1) _ h
      rw [h2.2.2.2.2] at ih ⊢
      refine ⟨by rw [ih.1]; omega, fun j hj => ?_⟩
      cases j with
      | zero => simpa using h1
      | succ j =>
        have := ih.2 j (by omega)
        rw [show k + ((j + 1 : Nat) : Int) = k + 1 + (j : Int) by omega, show p + 3 * ((j + 1 : Nat) : Int) = p + 3 + 3 * (j : Int) by omega]
        exact this
    · rw [if_neg h1] at h; cases h
theorem rdb_t {tx : Int → Int} {ln n p : Int} (h : (rdb tx ln n p).1 = true) : dgt tx ln p 0 9 = true ∧ dgt tx ln (p + 1) 0 (if n < 2 then n else 2) = true ∧ (rdb tx ln n p).2 = p + 2 + 3 * (tx (p + 1) - 48) ∧ ∀ j : Nat, (j : Int) < tx (p + 1) - 48 → (rde tx ln n j (p + 2 + 3 * j)).1 = true := by
  unfold rdb at h ⊢
  by_cases h1 : dgt tx ln p 0 9 = true
  · rw [if_pos h1] at h ⊢
    by_cases h2 : dgt tx ln (p + 1) 0 (if n < 2 then n else 2) = true
    · rw [if_pos h2] at h ⊢
      have a := of_decide_eq_true h2
      have h3 := rdl_t _ _ _ h
      refine ⟨h1, h2, by rw [h3.1]; omega, fun j hj => ?_⟩
      have := h3.2 j (by omega)
      rw [Int.zero_add] at this
      exact this
    · rw [if_neg h2] at h; cases h
  · rw [if_neg h1] at h; cases h
set_option maxHeartbeats 4000000 in
theorem t_rb_l {X : Nat} (hX : isTx σ ρ X) {b y e p : Int} (hb : 0 ≤ b ∧ b < 8) (he : e ≤ 2) : ∀ (m : Nat) (k : Int) (M1 : Nat → Int → Int), txI M1 X → (1 ≤ M1 (X + 1) 0 ∧ M1 (X + 1) 0 ≤ 8) → 0 ≤ k → k + m = e → M1 X 4 = p + 2 + 3 * k → (∀ j, 0 ≤ j → j < k → edg (M1 (X + 8)) (M1 (X + 5)) (M1 (X + 6)) b p j) → (((rdl (M1 (X + 8)) (M1 X 3) (M1 (X + 1) 0) m k (M1 X 4))).1 = true → ∀ M2, frT M1 M2 X → M2 X 4 = ((rdl (M1 (X + 8)) (M1 X 3) (M1 (X + 1) 0) m k (M1 X 4))).2 → (∀ c, c ≠ X → c ≠ X + 5 → c ≠ X + 6 → M2 c = M1 c) → (∀ j, j < 2 * b ∨ 2 * b + 1 < j → M2 (X + 5) j = M1 (X + 5) j ∧ M2 (X + 6) j = M1 (X + 6) j) → (∀ j, 0 ≤ j → j < e → edg (M1 (X + 8)) (M2 (X + 5)) (M2 (X + 6)) b p j) → Q (some (xI 1)) (σ, ρ, M2)) → (¬ ((rdl (M1 (X + 8)) (M1 X 3) (M1 (X + 1) 0) m k (M1 X 4))).1 = true → ∀ M2, frT M1 M2 X → M2 X 4 = ((rdl (M1 (X + 8)) (M1 X 3) (M1 (X + 1) 0) m k (M1 X 4))).2 → Q (some (xI 0)) (σ, ρ, M2)) → xX G mX6_readBlock 0 0 60 [(0, xP X), (1, xI b), (2, xI y), (3, xI e), (4, xI k)] [] (σ, ρ, M1) Q := by
  intro m
  induction m with
  | zero =>
    intro k M1 hI hn h0 hk h4 hE k1 k0
    refine x_iload (p2 := 62) rfl dX6_readBlock_60 rfl ?_
    refine x_iload_n (p2 := 63) rfl dX6_readBlock_62 rfl ?_
    refine x_ic_ge (p2 := 66) (t := 84) (by decide) rfl dX6_readBlock_63 (fun hc63 => ?_) (fun hc63 => absurd hc63 (by omega))
    refine x_iconst (p2 := 85) rfl dX6_readBlock_84 ⟨by decide, by decide⟩ ?_
    refine x_zret dX6_readBlock_85 rfl (by omega) ?_
    exact k1 rfl M1 frT.rf rfl (fun _ _ _ _ => rfl) (fun _ _ => ⟨rfl, rfl⟩) (fun j a c => hE j a (by omega))
  | succ m ih =>
    intro k M1 hI hn h0 hk h4 hE k1 k0
    obtain ⟨i1, i2, i3, i4, i5⟩ := id hI
    unfold rdl at k1 k0
    refine x_iload (p2 := 62) rfl dX6_readBlock_60 rfl ?_
    refine x_iload_n (p2 := 63) rfl dX6_readBlock_62 rfl ?_
    refine x_ic_ge (p2 := 66) (t := 84) (by decide) rfl dX6_readBlock_63 (fun hc63 => ?_) (fun hc63 => ?_)
    · exact absurd hc63 (by omega)
    refine x_aload_n (p2 := 67) rfl dX6_readBlock_66 rfl ?_
    refine x_iload_n (p2 := 68) rfl dX6_readBlock_67 rfl ?_
    refine x_iload (p2 := 70) rfl dX6_readBlock_68 rfl ?_
    refine x_v2 (p2 := 73) rfl dX6_readBlock_70 l_6_77 ok_X6_readEdge rfl hX.sh rfl ?_
    refine t_X6_readEdge hX hI (by omega) (by omega) hn (fun hk1 => by
      have := hE 0 (by omega) (by omega)
      rw [this.1, h4]
      congr 2; omega) (fun hb70 M5 hf5 ha5 hg5 ht5 hc5 => ?_) (fun hb70 M5 hf5 ha5 => ?_)
    · skip
      refine x_if_ne (p2 := 76) (t := 78) (by decide) rfl dX6_readBlock_73 (fun _ => ?_) (fun hc => absurd hc (by decide))
      refine x_iinc (p2 := 81) (L2 := [(0, _), (1, _), (2, _), (3, _), (4, _)]) rfl dX6_readBlock_78 rfl ⟨by omega, by omega⟩ ⟨rfl, Nat.le_of_ble_eq_true rfl⟩ rfl ?_
      refine x_goto (t := 60) (by decide) dX6_readBlock_81 ?_
      refine x_pick (L2 := [(0, _), (1, _), (2, _), (3, _), (4, _)]) [0, 1, 2, 3, 4] rfl ?_
      rw [if_pos hb70] at k1 k0
      have hr := rde_t hb70
      have hp := rde_p (tx := M1 (X + 8)) (n := M1 (X + 1) 0) (k := k) i5
      have e8 := hf5.1 (X + 8) (by omega)
      have e1 := hg5 (X + 1) (by omega) (by omega) (by omega)
      refine ih (k + 1) M5 (hI.mv hf5 (by rw [ha5]; omega) (by rw [ha5]; exact hp.2)) (by rw [e1]; exact hn) (by omega) (by omega) (by rw [ha5, hr.2.2.2.2]; omega) (fun j a c => ?_) (fun z M2 q1 q2 q3 q4 q5 => ?_) (fun z M2 q1 q2 => ?_)
      · rw [e8, ht5, hc5]
        by_cases hj : j = k
        · subst hj
          unfold edg
          rw [upf_s, upf_s, h4, show p + 2 + 3 * j + 1 = p + 3 + 3 * j by omega, show p + 2 + 3 * j + 2 = p + 4 + 3 * j by omega]
          exact ⟨rfl, rfl⟩
        · have := hE j a (by omega)
          unfold edg at this ⊢
          rw [upf_n (by omega), upf_n (by omega)]
          exact this
      · rw [e8, hf5.2, e1, ha5] at z q2
        rw [e8] at q5
        refine k1 z M2 (hf5.tr q1) q2 (fun c z1 z2 z3 => (q3 c z1 z2 z3).trans (hg5 c z1 z2 z3)) (fun j hj => ?_) q5
        rw [(q4 j hj).1, (q4 j hj).2, ht5, hc5, upf_n (by omega), upf_n (by omega)]
        exact ⟨rfl, rfl⟩
      · rw [e8, hf5.2, e1, ha5] at z q2
        exact k0 z M2 (hf5.tr q1) q2
    · skip
      refine x_if_ne (p2 := 76) (t := 78) (by decide) rfl dX6_readBlock_73 (fun hc => absurd hc (by decide)) (fun _ => ?_)
      refine x_iconst (p2 := 77) rfl dX6_readBlock_76 ⟨by decide, by decide⟩ ?_
      refine x_zret dX6_readBlock_77 rfl (by omega) ?_
      rw [if_neg hb70] at k1 k0
      exact k0 (fun z => by cases z) M5 hf5 ha5
set_option maxHeartbeats 4000000 in
theorem t_X6_readBlock {X : Nat} (hX : isTx σ ρ X) (hI : txI M X) {b : Int} (hb : 0 ≤ b ∧ b < 8) (hn : 1 ≤ M (X + 1) 0 ∧ M (X + 1) 0 ≤ 8) (k1 : ((rdb (M (X + 8)) (M X 3) (M (X + 1) 0) (M X 4))).1 = true → ∀ M2, frT M M2 X → M2 X 4 = ((rdb (M (X + 8)) (M X 3) (M (X + 1) 0) (M X 4))).2 → M2 (X + 1) = M (X + 1) → M2 (X + 3) = M (X + 3) → M2 (X + 7) = M (X + 7) → (∀ x, x ≠ b → M2 (X + 2) x = M (X + 2) x ∧ M2 (X + 4) x = M (X + 4) x) → (∀ j, j < 2 * b ∨ 2 * b + 1 < j → M2 (X + 5) j = M (X + 5) j ∧ M2 (X + 6) j = M (X + 6) j) → cnt (M (X + 8)) (M2 (X + 2)) (M2 (X + 4)) (M2 (X + 5)) (M2 (X + 6)) b (M X 4) → Q (some (xI 1)) (σ, ρ, M2)) (k0 : ¬ ((rdb (M (X + 8)) (M X 3) (M (X + 1) 0) (M X 4))).1 = true → ∀ M2, frT M M2 X → M2 X 4 = ((rdb (M (X + 8)) (M X 3) (M (X + 1) 0) (M X 4))).2 → Q (some (xI 0)) (σ, ρ, M2)) : xX G mX6_readBlock 0 0 0 [(0, xP X), (1, xI b)] [] (σ, ρ, M) Q := by
  obtain ⟨i1, i2, i3, i4, i5⟩ := id hI
  unfold rdb at k1 k0
  refine x_aload_n (p2 := 1) rfl dX6_readBlock_0 rfl ?_
  refine x_iconst (p2 := 2) rfl dX6_readBlock_1 ⟨by decide, by decide⟩ ?_
  refine x_bipush (p2 := 4) rfl dX6_readBlock_2 ⟨by decide, ⟨by decide, by decide⟩⟩ ?_
  refine x_v2 (p2 := 7) rfl dX6_readBlock_4 l_6_45 ok_X6_readDigit rfl hX.sh rfl ?_
  refine t_X6_readDigit hX hI (by omega) (fun hb4 => ?_) (fun hb4 => ?_)
  · skip
    refine x_istore_n (p2 := 8) (i := 2) (L2 := [(0, _), (1, _), (2, _)]) rfl dX6_readBlock_7 rfl ⟨rfl, Nat.le_of_ble_eq_true rfl⟩ rfl ?_
    refine x_iload_n (p2 := 9) rfl dX6_readBlock_8 rfl ?_
    refine x_if_ge (p2 := 12) (t := 14) (by decide) rfl dX6_readBlock_9 (fun hc9 => ?_) (fun hc9 => absurd hc9 (by have := of_decide_eq_true hb4; omega))
    have hb4' := of_decide_eq_true hb4
    refine x_aload_n (p2 := 15) rfl dX6_readBlock_14 rfl ?_
    refine x_getr (p2 := 18) (kz := 0) rfl dX6_readBlock_15 f_6_12 rfl rfl hX.sh hX.r0 ?_
    refine x_getr (p2 := 21) (kz := 2) rfl dX6_readBlock_18 f_6_66 rfl rfl hX.st.fr.sh hX.st.fr.r2 ?_
    refine x_iload_n (p2 := 22) rfl dX6_readBlock_21 rfl ?_
    refine x_iload_n (p2 := 23) rfl dX6_readBlock_22 rfl ?_
    refine x_iast (p2 := 24) rfl dX6_readBlock_23 hX.st.fr.a2 (by omega) (by omega) ?_
    rw [show X + 1 + 1 = X + 2 from rfl]
    generalize hM5 : xu (xu M X 4 (M X 4 + 1)) (X + 2) b (M (X + 8) (M X 4) - 48) = M5
    have hf5 : frT M M5 X := by rw [← hM5]; exact frT.at.tr (frT.cell (by omega))
    have e8 : M5 (X + 8) = M (X + 8) := hf5.1 _ (by omega)
    have e4 : M5 X 4 = M X 4 + 1 := by rw [← hM5, xu_c (by omega), xu_s]
    have e1 : M5 (X + 1) = M (X + 1) := by rw [← hM5, xu_c (by omega), xu_c (by omega)]
    have hI2 := hI.mv hf5 (by rw [e4]; omega) (by rw [e4]; omega)
    refine x_aload_n (p2 := 25) rfl dX6_readBlock_24 rfl ?_
    refine x_iconst (p2 := 26) rfl dX6_readBlock_25 ⟨by decide, by decide⟩ ?_
    refine x_iconst (p2 := 27) rfl dX6_readBlock_26 ⟨by decide, by decide⟩ ?_
    refine x_aload_n (p2 := 28) rfl dX6_readBlock_27 rfl ?_
    refine x_getr (p2 := 31) (kz := 0) rfl dX6_readBlock_28 f_6_12 rfl rfl hX.sh hX.r0 ?_
    refine x_geti (p2 := 34) (kz := 0) rfl dX6_readBlock_31 f_6_49 rfl rfl hX.st.fr.sh ?_
    refine x_min (p2 := 37) rfl dX6_readBlock_34 w_6_69 w_mn3 w_mn4 w_mn5 ⟨Nat.le_of_ble_eq_true rfl, Nat.le_of_ble_eq_true rfl⟩ (Nat.le_of_ble_eq_true rfl) ?_
    rw [e1]
    refine x_v2 (p2 := 40) rfl dX6_readBlock_37 l_6_45 ok_X6_readDigit rfl hX.sh rfl ?_
    refine t_X6_readDigit hX hI2 (by omega) (fun hb37 => ?_) (fun hb37 => ?_)
    · skip
      try rw [e8, hf5.2, e4] at hb37
      refine x_istore_n (p2 := 41) (i := 3) (L2 := [(0, _), (1, _), (2, _), (3, _)]) rfl dX6_readBlock_40 rfl ⟨rfl, Nat.le_of_ble_eq_true rfl⟩ rfl ?_
      refine x_iload_n (p2 := 42) rfl dX6_readBlock_41 rfl ?_
      refine x_if_ge (p2 := 45) (t := 47) (by decide) rfl dX6_readBlock_42 (fun hc42 => ?_) (fun hc42 => absurd hc42 (by
        have := of_decide_eq_true hb37
        rw [e8, e4]
        omega))
      have hb37' := of_decide_eq_true hb37
      rw [e8, e4]
      refine x_aload_n (p2 := 48) rfl dX6_readBlock_47 rfl ?_
      refine x_getr (p2 := 51) (kz := 1) rfl dX6_readBlock_48 f_6_23 rfl rfl hX.sh hX.r1 ?_
      refine x_getr (p2 := 54) (kz := 1) rfl dX6_readBlock_51 f_6_74 rfl rfl hX.st.sh hX.st.r1 ?_
      refine x_iload_n (p2 := 55) rfl dX6_readBlock_54 rfl ?_
      refine x_iload_n (p2 := 56) rfl dX6_readBlock_55 rfl ?_
      refine x_iast (p2 := 57) rfl dX6_readBlock_56 hX.st.a1 (by omega) (by omega) ?_
      rw [show X + 3 + 1 = X + 4 from rfl]
      generalize hM6 : xu (xu M5 X 4 (M X 4 + 1 + 1)) (X + 4) b (M (X + 8) (M X 4 + 1) - 48) = M6
      have hf6 : frT M5 M6 X := by rw [← hM6]; exact frT.at.tr (frT.cell (by omega))
      have e86 : M6 (X + 8) = M (X + 8) := (hf6.1 _ (by omega)).trans e8
      have e46 : M6 X 4 = M X 4 + 2 := by rw [← hM6, xu_c (by omega), xu_s]; omega
      have e16 : M6 (X + 1) = M (X + 1) := by rw [← hM6, xu_c (by omega), xu_c (by omega)]; exact e1
      have hI6 := hI2.mv hf6 (by rw [e46]; omega) (by rw [e46, hf5.2]; omega)
      have hf0 := hf5.tr hf6
      refine x_iconst (p2 := 58) rfl dX6_readBlock_57 ⟨by decide, by decide⟩ ?_
      refine x_istore (p2 := 60) (i := 4) (L2 := [(0, _), (1, _), (2, _), (3, _), (4, _)]) rfl dX6_readBlock_58 ⟨rfl, Nat.le_of_ble_eq_true rfl⟩ rfl ?_
      refine x_pick (L2 := [(0, _), (1, _), (2, _), (3, _), (4, _)]) [0, 1, 2, 3, 4] rfl ?_
      rw [if_pos hb4, if_pos hb37] at k1 k0
      refine t_rb_l (p := M X 4) (e := M (X + 8) (M X 4 + 1) - 48) hX hb (by split at hb37' <;> omega) (M (X + 8) (M X 4 + 1) - 48).toNat 0 M6 hI6 (by rw [e16]; exact hn) (by omega) (by omega) (by rw [e46]; omega) (fun j a c => by omega) (fun z M2 q1 q2 q3 q4 q5 => ?_) (fun z M2 q1 q2 => ?_)
      · rw [e86, hf0.2, e16, e46] at z q2
        rw [e86] at q5
        have g2 : M2 (X + 2) = upf (M (X + 2)) b (M (X + 8) (M X 4) - 48) := by
          rw [q3 _ (by omega) (by omega) (by omega), ← hM6, xu_c (by omega), xu_c (by omega), ← hM5, xu_eq, xw_s, xu_c (by omega)]
        have g4 : M2 (X + 4) = upf (M (X + 4)) b (M (X + 8) (M X 4 + 1) - 48) := by
          rw [q3 _ (by omega) (by omega) (by omega), ← hM6, xu_eq, xw_s, xu_c (by omega), ← hM5, xu_c (by omega), xu_c (by omega)]
        refine k1 z M2 (hf0.tr q1) q2 ?_ ?_ ?_ (fun x hx => ?_) (fun j hj => ?_) ⟨?_, ?_, ?_⟩
        · rw [q3 _ (by omega) (by omega) (by omega), e16]
        · rw [q3 _ (by omega) (by omega) (by omega), ← hM6, xu_c (by omega), xu_c (by omega), ← hM5, xu_c (by omega), xu_c (by omega)]
        · rw [q3 _ (by omega) (by omega) (by omega), ← hM6, xu_c (by omega), xu_c (by omega), ← hM5, xu_c (by omega), xu_c (by omega)]
        · rw [g2, g4, upf_n hx, upf_n hx]; exact ⟨rfl, rfl⟩
        · have := q4 j hj
          rw [this.1, this.2, ← hM6, xu_c (by omega), xu_c (by omega), xu_c (by omega), xu_c (by omega), ← hM5, xu_c (by omega), xu_c (by omega), xu_c (by omega), xu_c (by omega)]
          exact ⟨rfl, rfl⟩
        · rw [g2, upf_s]
        · rw [g4, upf_s]
        · rw [g4, upf_s]; exact q5
      · rw [e86, hf0.2, e16, e46] at z q2
        exact k0 z M2 (hf0.tr q1) q2
    · skip
      try rw [e8, hf5.2, e4] at hb37
      refine x_istore_n (p2 := 41) (i := 3) (L2 := [(0, _), (1, _), (2, _), (3, _)]) rfl dX6_readBlock_40 rfl ⟨rfl, Nat.le_of_ble_eq_true rfl⟩ rfl ?_
      refine x_iload_n (p2 := 42) rfl dX6_readBlock_41 rfl ?_
      refine x_if_ge (p2 := 45) (t := 47) (by decide) rfl dX6_readBlock_42 (fun hc => absurd hc (by decide)) (fun _ => ?_)
      refine x_iconst (p2 := 46) rfl dX6_readBlock_45 ⟨by decide, by decide⟩ ?_
      refine x_zret dX6_readBlock_46 rfl (by omega) ?_
      rw [if_pos hb4, if_neg hb37] at k1 k0
      exact k0 (fun z => by cases z) M5 hf5 e4
  · skip
    refine x_istore_n (p2 := 8) (i := 2) (L2 := [(0, _), (1, _), (2, _)]) rfl dX6_readBlock_7 rfl ⟨rfl, Nat.le_of_ble_eq_true rfl⟩ rfl ?_
    refine x_iload_n (p2 := 9) rfl dX6_readBlock_8 rfl ?_
    refine x_if_ge (p2 := 12) (t := 14) (by decide) rfl dX6_readBlock_9 (fun hc => absurd hc (by decide)) (fun _ => ?_)
    refine x_iconst (p2 := 13) rfl dX6_readBlock_12 ⟨by decide, by decide⟩ ?_
    refine x_zret dX6_readBlock_13 rfl (by omega) ?_
    rw [if_neg hb4] at k1 k0
    exact k0 (fun z => by cases z) M frT.rf rfl
set_option maxHeartbeats 4000000 in
theorem t_rk_l {X : Nat} (hX : isTx σ ρ X) : ∀ (m : Nat) (b : Int) (M1 : Nat → Int → Int), txI M1 X → (1 ≤ M1 (X + 1) 0 ∧ M1 (X + 1) 0 ≤ 8) → 0 ≤ b → b + m = M1 (X + 1) 0 → M1 X 4 = bps (M1 (X + 8)) b.toNat → (∀ x, 0 ≤ x → x < b → cnt (M1 (X + 8)) (M1 (X + 2)) (M1 (X + 4)) (M1 (X + 5)) (M1 (X + 6)) x (bps (M1 (X + 8)) x.toNat)) → (∀ x, 0 ≤ x → x < b → M1 (X + 4) x ≤ 2) → (((rdk (M1 (X + 8)) (M1 X 3) (M1 (X + 1) 0) m (M1 X 4))).1 = true → ∀ M2, frT M1 M2 X → M2 X 4 = ((rdk (M1 (X + 8)) (M1 X 3) (M1 (X + 1) 0) m (M1 X 4))).2 → M2 (X + 1) = M1 (X + 1) → M2 (X + 3) = M1 (X + 3) → M2 (X + 7) = M1 (X + 7) → (∀ x, 0 ≤ x → x < M1 (X + 1) 0 → cnt (M1 (X + 8)) (M2 (X + 2)) (M2 (X + 4)) (M2 (X + 5)) (M2 (X + 6)) x (bps (M1 (X + 8)) x.toNat)) → Q (some (xI 1)) (σ, ρ, M2)) → (¬ ((rdk (M1 (X + 8)) (M1 X 3) (M1 (X + 1) 0) m (M1 X 4))).1 = true → ∀ M2, frT M1 M2 X → M2 X 4 = ((rdk (M1 (X + 8)) (M1 X 3) (M1 (X + 1) 0) m (M1 X 4))).2 → Q (some (xI 0)) (σ, ρ, M2)) → xX G mX6_readBlocks 0 0 2 [(0, xP X), (1, xI b)] [] (σ, ρ, M1) Q := by
  intro m
  induction m with
  | zero =>
    intro b M1 hI hn h0 hk h4 hE hEx k1 k0
    refine x_iload_n (p2 := 3) rfl dX6_readBlocks_2 rfl ?_
    refine x_aload_n (p2 := 4) rfl dX6_readBlocks_3 rfl ?_
    refine x_getr (p2 := 7) (kz := 0) rfl dX6_readBlocks_4 f_6_12 rfl rfl hX.sh hX.r0 ?_
    refine x_geti (p2 := 10) (kz := 0) rfl dX6_readBlocks_7 f_6_49 rfl rfl hX.st.fr.sh ?_
    refine x_ic_ge (p2 := 13) (t := 29) (by decide) rfl dX6_readBlocks_10 (fun hc10 => ?_) (fun hc10 => absurd hc10 (by omega))
    refine x_iconst (p2 := 30) rfl dX6_readBlocks_29 ⟨by decide, by decide⟩ ?_
    refine x_zret dX6_readBlocks_30 rfl (by omega) ?_
    exact k1 rfl M1 frT.rf rfl rfl rfl rfl (fun x a c => hE x a (by omega))
  | succ m ih =>
    intro b M1 hI hn h0 hk h4 hE hEx k1 k0
    obtain ⟨i1, i2, i3, i4, i5⟩ := id hI
    unfold rdk at k1 k0
    refine x_iload_n (p2 := 3) rfl dX6_readBlocks_2 rfl ?_
    refine x_aload_n (p2 := 4) rfl dX6_readBlocks_3 rfl ?_
    refine x_getr (p2 := 7) (kz := 0) rfl dX6_readBlocks_4 f_6_12 rfl rfl hX.sh hX.r0 ?_
    refine x_geti (p2 := 10) (kz := 0) rfl dX6_readBlocks_7 f_6_49 rfl rfl hX.st.fr.sh ?_
    refine x_ic_ge (p2 := 13) (t := 29) (by decide) rfl dX6_readBlocks_10 (fun hc10 => ?_) (fun hc10 => ?_)
    · exact absurd hc10 (by omega)
    refine x_aload_n (p2 := 14) rfl dX6_readBlocks_13 rfl ?_
    refine x_iload_n (p2 := 15) rfl dX6_readBlocks_14 rfl ?_
    refine x_v1 (p2 := 18) rfl dX6_readBlocks_15 l_6_62 ok_X6_readBlock rfl hX.sh rfl ?_
    refine t_X6_readBlock hX hI (by omega) hn (fun hb15 M5 hf5 ha5 g1 g3 g7 gx gj gc => ?_) (fun hb15 M5 hf5 ha5 => ?_)
    · skip
      refine x_if_ne (p2 := 21) (t := 23) (by decide) rfl dX6_readBlocks_18 (fun _ => ?_) (fun hc => absurd hc (by decide))
      refine x_iinc (p2 := 26) (L2 := [(0, _), (1, _)]) rfl dX6_readBlocks_23 rfl ⟨by omega, by omega⟩ ⟨rfl, Nat.le_of_ble_eq_true rfl⟩ rfl ?_
      refine x_goto (t := 2) (by decide) dX6_readBlocks_26 ?_
      refine x_pick (L2 := [(0, _), (1, _)]) [0, 1] rfl ?_
      rw [if_pos hb15] at k1 k0
      have hr := rdb_t hb15
      have hp := rdb_p (tx := M1 (X + 8)) (n := M1 (X + 1) 0) i5
      have e8 := hf5.1 (X + 8) (by omega)
      have h4b : M5 X 4 = bps (M1 (X + 8)) (b + 1).toNat := by
        rw [ha5, hr.2.2.1, h4, show (b + 1).toNat = b.toNat + 1 by omega]
        rfl
      refine ih (b + 1) M5 (hI.mv hf5 (by rw [ha5]; omega) (by rw [ha5]; exact hp.2)) (by rw [g1]; exact hn) (by omega) (by rw [g1]; omega) (by rw [e8]; exact h4b) (fun x a c => ?_) (fun x a c => by
          by_cases hx : x = b
          · subst hx
            rw [gc.2.1]
            have := of_decide_eq_true hr.2.1
            rw [← h4] at *
            split at this <;> omega
          · rw [(gx x hx).2]; exact hEx x a (by omega)) (fun z M2 q1 q2 q3 q4 q5 q6 => ?_) (fun z M2 q1 q2 => ?_)
      · rw [e8]
        by_cases hx : x = b
        · subst hx; rw [← h4]; exact gc
        · have ho := hE x a (by omega)
          refine ⟨by rw [(gx x hx).1]; exact ho.1, by rw [(gx x hx).2]; exact ho.2.1, fun k k1 k2 => ?_⟩
          rw [(gx x hx).2] at k2
          have hx2 : k < 2 ∨ 2 ≤ k := by omega
          have hok := ho.2.2 k k1 k2
          unfold edg at hok ⊢
          have hex := hEx x a (by omega)
          rw [(gj (2 * x + k) (by omega)).1, (gj (2 * x + k) (by omega)).2]
          exact hok
      · rw [e8, hf5.2, g1, ha5] at z q2
        rw [g1, e8] at q6
        exact k1 z M2 (hf5.tr q1) q2 (q3.trans g1) (q4.trans g3) (q5.trans g7) q6
      · rw [e8, hf5.2, g1, ha5] at z q2
        exact k0 z M2 (hf5.tr q1) q2
    · skip
      refine x_if_ne (p2 := 21) (t := 23) (by decide) rfl dX6_readBlocks_18 (fun hc => absurd hc (by decide)) (fun _ => ?_)
      refine x_iconst (p2 := 22) rfl dX6_readBlocks_21 ⟨by decide, by decide⟩ ?_
      refine x_zret dX6_readBlocks_22 rfl (by omega) ?_
      rw [if_neg hb15] at k1 k0
      exact k0 (fun z => by cases z) M5 hf5 ha5
end XTR
