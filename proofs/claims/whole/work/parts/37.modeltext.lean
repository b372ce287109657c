section XMO
variable {G : xG} {σ : List (Nat × Nat)} {ρ : Nat → Int → Option Nat} {M : Nat → Int → Int} {Q : Option xV → xH → Prop}
/-- the reference's text is tx, ln signs long -/
def rtx (M : Nat → Int → Int) (D : Nat) (tx : Int → Int) (ln : Int) : Prop := M D 1 = ln ∧ 0 ≤ ln ∧ ln ≤ 99 ∧ ∀ j, 0 ≤ j → j < ln → M (D + 1) j = tx j ∧ 0 ≤ tx j ∧ tx j ≤ 255
/-- what reading leaves alone -/
def frR (M M2 : Nat → Int → Int) (D : Nat) : Prop := (∀ c, c ≠ D → c ≠ D + 9 → c ≠ D + 10 → M2 c = M c) ∧ (∀ f, f ≠ 13 → f ≠ 14 → f ≠ 15 → M2 D f = M D f)
theorem frR.rf {D : Nat} : frR M M D := ⟨fun _ _ _ _ => rfl, fun _ _ _ _ => rfl⟩
theorem frR.tr {M1 M2 M3 : Nat → Int → Int} {D : Nat} (h : frR M1 M2 D) (g : frR M2 M3 D) : frR M1 M3 D := ⟨fun c a b d => (g.1 c a b d).trans (h.1 c a b d), fun f a b d => (g.2 f a b d).trans (h.2 f a b d)⟩
theorem frR.u {D : Nat} {j x : Int} (h : j = 13 ∨ j = 14 ∨ j = 15) : frR M (xu M D j x) D := ⟨fun c a _ _ => xu_c a, fun f a b d => xu_j (by omega)⟩
theorem frR.w {D c : Nat} {j x : Int} (h : c = D + 9 ∨ c = D + 10) : frR M (xu M c j x) D := ⟨fun a _ b d => xu_c (by omega), fun f _ _ _ => by rw [xu_c (by omega)]⟩
theorem rtx.mv {M2 : Nat → Int → Int} {D : Nat} {tx : Int → Int} {ln : Int} (h : rtx M D tx ln) (g : frR M M2 D) : rtx M2 D tx ln := by
  obtain ⟨a, b, c, d⟩ := h
  refine ⟨by rw [g.2 1 (by omega) (by omega) (by omega)]; exact a, b, c, ?_⟩
  rw [g.1 (D + 1) (by omega) (by omega) (by omega)]; exact d
theorem frR.q {M2 : Nat → Int → Int} {D : Nat} (h : frR M M2 D) : rq M M2 D := ⟨fun c z => h.1 c (by omega) (by omega) (by omega), fun f z => h.2 f (by omega) (by omega) (by omega)⟩
set_option maxHeartbeats 4000000 in
theorem t_X10_figure {D : Nat} (hD : isMd σ ρ D) {tx : Int → Int} {ln p : Int} (hT : rtx M D tx ln) (hp : M D 13 = p ∧ 0 ≤ p ∧ p ≤ ln) {lo hi : Int} (h0 : 0 ≤ lo) (k1 : dgt tx ln p lo hi = true → Q (some (xI (tx p - 48))) (σ, ρ, xu M D 13 (p + 1))) (k0 : ¬ dgt tx ln p lo hi = true → Q (some (xI (-9))) (σ, ρ, M)) : xX G mX10_figure 0 0 0 [(0, xP D), (1, xI lo), (2, xI hi)] [] (σ, ρ, M) Q := by
  obtain ⟨t1, t2, t3, t4⟩ := id hT
  obtain ⟨p1, p2, p3⟩ := id hp
  refine x_aload_n (p2 := 1) rfl dX10_figure_0 rfl ?_
  refine x_geti (p2 := 4) (kz := 13) rfl dX10_figure_1 f_10_70 rfl rfl hD.sh ?_
  rw [p1]
  refine x_aload_n (p2 := 5) rfl dX10_figure_4 rfl ?_
  refine x_geti (p2 := 8) (kz := 1) rfl dX10_figure_5 f_10_67 rfl rfl hD.sh ?_
  rw [t1]
  refine x_ic_ge (p2 := 11) (t := 26) (by decide) rfl dX10_figure_8 (fun hc8 => ?_) (fun hc8 => ?_)
  · skip
    refine x_bipush (p2 := 28) rfl dX10_figure_26 ⟨by decide, ⟨by decide, by decide⟩⟩ ?_
    refine x_istore_n (p2 := 29) (i := 3) (L2 := [(0, _), (1, _), (2, _), (3, _)]) rfl dX10_figure_28 rfl ⟨rfl, Nat.le_of_ble_eq_true rfl⟩ rfl ?_
    refine x_iload_n (p2 := 30) rfl dX10_figure_29 rfl ?_
    refine x_i2l (p2 := 31) rfl dX10_figure_30 ?_
    refine x_iload_n (p2 := 32) rfl dX10_figure_31 rfl ?_
    refine x_i2l (p2 := 33) rfl dX10_figure_32 ?_
    refine x_iload_n (p2 := 34) rfl dX10_figure_33 rfl ?_
    refine x_i2l (p2 := 35) rfl dX10_figure_34 ?_
    refine x_s3 (p2 := 38) rfl dX10_figure_35 l_10_57 ok_X10_in rfl rfl ?_
    refine t_X10_in (fun hb35 => ?_) (fun hb35 => ?_)
    · skip
      refine x_if_ne (p2 := 41) (t := 44) (by decide) rfl dX10_figure_38 (fun _ => ?_) (fun hc => absurd hc (by decide))
      refine x_aload_n (p2 := 45) rfl dX10_figure_44 rfl ?_
      refine x_dup (p2 := 46) rfl dX10_figure_45 rfl ?_
      refine x_geti (p2 := 49) (kz := 13) rfl dX10_figure_46 f_10_70 rfl rfl hD.sh ?_
      rw [p1]
      refine x_iconst (p2 := 50) rfl dX10_figure_49 ⟨by decide, by decide⟩ ?_
      refine x_iadd (p2 := 51) rfl dX10_figure_50 ⟨by omega, by omega⟩ ?_
      refine x_puti (p2 := 54) (kz := 13) rfl dX10_figure_51 f_10_70 rfl rfl rfl hD.sh ?_
      refine x_iload_n (p2 := 55) rfl dX10_figure_54 rfl ?_
      refine x_iret dX10_figure_55 rfl ?_
      first
        | exact k1 (decide_eq_true (by omega))
        | exact absurd hb35 (by omega)
    · skip
      refine x_if_ne (p2 := 41) (t := 44) (by decide) rfl dX10_figure_38 (fun hc => absurd hc (by decide)) (fun _ => ?_)
      refine x_bipush (p2 := 43) rfl dX10_figure_41 ⟨by decide, ⟨by decide, by decide⟩⟩ ?_
      refine x_iret dX10_figure_43 rfl ?_
      exact k0 (fun z => by have := of_decide_eq_true z; omega)
  · skip
    have hz := t4 p p2 (by omega)
    refine x_aload_n (p2 := 12) rfl dX10_figure_11 rfl ?_
    refine x_getr (p2 := 15) (kz := 0) rfl dX10_figure_12 f_10_7 rfl rfl hD.sh hD.r0 ?_
    refine x_aload_n (p2 := 16) rfl dX10_figure_15 rfl ?_
    refine x_geti (p2 := 19) (kz := 13) rfl dX10_figure_16 f_10_70 rfl rfl hD.sh ?_
    rw [p1]
    refine x_iald (p2 := 20) rfl dX10_figure_19 hD.a0 (by omega) (by omega) ?_
    rw [hz.1]
    refine x_bipush (p2 := 22) rfl dX10_figure_20 ⟨by decide, ⟨by decide, by decide⟩⟩ ?_
    refine x_isub (p2 := 23) rfl dX10_figure_22 ⟨by omega, by omega⟩ ?_
    refine x_goto (t := 28) (by decide) dX10_figure_23 ?_
    refine x_istore_n (p2 := 29) (i := 3) (L2 := [(0, _), (1, _), (2, _), (3, _)]) rfl dX10_figure_28 rfl ⟨rfl, Nat.le_of_ble_eq_true rfl⟩ rfl ?_
    refine x_iload_n (p2 := 30) rfl dX10_figure_29 rfl ?_
    refine x_i2l (p2 := 31) rfl dX10_figure_30 ?_
    refine x_iload_n (p2 := 32) rfl dX10_figure_31 rfl ?_
    refine x_i2l (p2 := 33) rfl dX10_figure_32 ?_
    refine x_iload_n (p2 := 34) rfl dX10_figure_33 rfl ?_
    refine x_i2l (p2 := 35) rfl dX10_figure_34 ?_
    refine x_s3 (p2 := 38) rfl dX10_figure_35 l_10_57 ok_X10_in rfl rfl ?_
    refine t_X10_in (fun hb35 => ?_) (fun hb35 => ?_)
    · skip
      refine x_if_ne (p2 := 41) (t := 44) (by decide) rfl dX10_figure_38 (fun _ => ?_) (fun hc => absurd hc (by decide))
      refine x_aload_n (p2 := 45) rfl dX10_figure_44 rfl ?_
      refine x_dup (p2 := 46) rfl dX10_figure_45 rfl ?_
      refine x_geti (p2 := 49) (kz := 13) rfl dX10_figure_46 f_10_70 rfl rfl hD.sh ?_
      rw [p1]
      refine x_iconst (p2 := 50) rfl dX10_figure_49 ⟨by decide, by decide⟩ ?_
      refine x_iadd (p2 := 51) rfl dX10_figure_50 ⟨by omega, by omega⟩ ?_
      refine x_puti (p2 := 54) (kz := 13) rfl dX10_figure_51 f_10_70 rfl rfl rfl hD.sh ?_
      refine x_iload_n (p2 := 55) rfl dX10_figure_54 rfl ?_
      refine x_iret dX10_figure_55 rfl ?_
      first
        | exact k1 (decide_eq_true (by omega))
        | exact absurd hb35 (by omega)
    · skip
      refine x_if_ne (p2 := 41) (t := 44) (by decide) rfl dX10_figure_38 (fun hc => absurd hc (by decide)) (fun _ => ?_)
      refine x_bipush (p2 := 43) rfl dX10_figure_41 ⟨by decide, ⟨by decide, by decide⟩⟩ ?_
      refine x_iret dX10_figure_43 rfl ?_
      exact k0 (fun z => by have := of_decide_eq_true z; omega)
set_option maxHeartbeats 4000000 in
theorem t_X10_twoFigures {D : Nat} (hD : isMd σ ρ D) {tx : Int → Int} {ln p : Int} (hT : rtx M D tx ln) (hp : M D 13 = p ∧ 0 ≤ p ∧ p ≤ ln) (k1 : (rdc tx ln p).1 = true → ∀ M2, frR M M2 D → (∀ c, c ≠ D → M2 c = M c) → (∀ f, f ≠ 13 → M2 D f = M D f) → M2 D 13 = p + 2 → Q (some (xI (10 * (tx p - 48) + (tx (p + 1) - 48)))) (σ, ρ, M2)) (k0 : ¬ (rdc tx ln p).1 = true → ∀ M2, frR M M2 D → (∀ c, c ≠ D → M2 c = M c) → (∀ f, f ≠ 13 → M2 D f = M D f) → M2 D 13 = (rdc tx ln p).2 → Q (some (xI (-9))) (σ, ρ, M2)) : xX G mX10_twoFigures 0 0 0 [(0, xP D)] [] (σ, ρ, M) Q := by
  obtain ⟨t1, t2, t3, t4⟩ := id hT
  obtain ⟨p1, p2, p3⟩ := id hp
  unfold rdc at k1 k0
  refine x_aload_n (p2 := 1) rfl dX10_twoFigures_0 rfl ?_
  refine x_iconst (p2 := 2) rfl dX10_twoFigures_1 ⟨by decide, by decide⟩ ?_
  refine x_bipush (p2 := 4) rfl dX10_twoFigures_2 ⟨by decide, ⟨by decide, by decide⟩⟩ ?_
  refine x_v2 (p2 := 7) rfl dX10_twoFigures_4 l_10_73 ok_X10_figure rfl hD.sh rfl ?_
  refine t_X10_figure hD hT hp (by omega) (fun hb4 => ?_) (fun hb4 => ?_)
  · skip
    refine x_istore_n (p2 := 8) (i := 1) (L2 := [(0, _), (1, _)]) rfl dX10_twoFigures_7 rfl ⟨rfl, Nat.le_of_ble_eq_true rfl⟩ rfl ?_
    refine x_iload_n (p2 := 9) rfl dX10_twoFigures_8 rfl ?_
    refine x_bipush (p2 := 11) rfl dX10_twoFigures_9 ⟨by decide, ⟨by decide, by decide⟩⟩ ?_
    refine x_ic_ne (p2 := 14) (t := 19) (by decide) rfl dX10_twoFigures_11 (fun hc11 => ?_) (fun hc11 => absurd hc11 (by have := of_decide_eq_true hb4; omega))
    refine x_aload_n (p2 := 20) rfl dX10_twoFigures_19 rfl ?_
    refine x_iconst (p2 := 21) rfl dX10_twoFigures_20 ⟨by decide, by decide⟩ ?_
    refine x_bipush (p2 := 23) rfl dX10_twoFigures_21 ⟨by decide, ⟨by decide, by decide⟩⟩ ?_
    refine x_v2 (p2 := 26) rfl dX10_twoFigures_23 l_10_73 ok_X10_figure rfl hD.sh rfl ?_
    refine t_X10_figure hD (hT.mv (frR.u (Or.inl rfl))) (p := p + 1) ⟨xu_s, by omega, by have := of_decide_eq_true hb4; omega⟩ (by omega) (fun hb23 => ?_) (fun hb23 => ?_)
    · skip
      refine x_istore_n (p2 := 27) (i := 2) (L2 := [(0, _), (1, _), (2, _)]) rfl dX10_twoFigures_26 rfl ⟨rfl, Nat.le_of_ble_eq_true rfl⟩ rfl ?_
      refine x_iload_n (p2 := 28) rfl dX10_twoFigures_27 rfl ?_
      refine x_bipush (p2 := 30) rfl dX10_twoFigures_28 ⟨by decide, ⟨by decide, by decide⟩⟩ ?_
      refine x_ic_ne (p2 := 33) (t := 38) (by decide) rfl dX10_twoFigures_30 (fun hc30 => ?_) (fun hc30 => absurd hc30 (by have := of_decide_eq_true hb23; omega))
      have z1 := of_decide_eq_true hb4
      have z2 := of_decide_eq_true hb23
      refine x_bipush (p2 := 40) rfl dX10_twoFigures_38 ⟨by decide, ⟨by decide, by decide⟩⟩ ?_
      refine x_iload_n (p2 := 41) rfl dX10_twoFigures_40 rfl ?_
      refine x_imul (p2 := 42) rfl dX10_twoFigures_41 ⟨by omega, by omega⟩ ?_
      refine x_iload_n (p2 := 43) rfl dX10_twoFigures_42 rfl ?_
      refine x_iadd (p2 := 44) rfl dX10_twoFigures_43 ⟨by omega, by omega⟩ ?_
      refine x_iret dX10_twoFigures_44 rfl ?_
      rw [if_pos hb4, if_pos hb23] at k1
      refine k1 rfl _ ((frR.u (Or.inl rfl)).tr (frR.u (Or.inl rfl))) (fun c z => by rw [xu_c z, xu_c z]) (fun f z => by rw [xu_j z, xu_j z]) (by rw [xu_s]; omega)
    · skip
      refine x_istore_n (p2 := 27) (i := 2) (L2 := [(0, _), (1, _), (2, _)]) rfl dX10_twoFigures_26 rfl ⟨rfl, Nat.le_of_ble_eq_true rfl⟩ rfl ?_
      refine x_iload_n (p2 := 28) rfl dX10_twoFigures_27 rfl ?_
      refine x_bipush (p2 := 30) rfl dX10_twoFigures_28 ⟨by decide, ⟨by decide, by decide⟩⟩ ?_
      refine x_ic_ne (p2 := 33) (t := 38) (by decide) rfl dX10_twoFigures_30 (fun hc => absurd hc (by decide)) (fun _ => ?_)
      refine x_bipush (p2 := 35) rfl dX10_twoFigures_33 ⟨by decide, ⟨by decide, by decide⟩⟩ ?_
      refine x_goto (t := 44) (by decide) dX10_twoFigures_35 ?_
      refine x_iret dX10_twoFigures_44 rfl ?_
      first
        | (rw [if_neg hb4] at k0
           exact k0 (fun z => by cases z) M frR.rf (fun _ _ => rfl) (fun _ _ => rfl) p1)
        | (rw [if_pos hb4, if_neg hb23] at k0
           exact k0 (fun z => by cases z) _ (frR.u (Or.inl rfl)) (fun c z => xu_c z) (fun f z => xu_j z) xu_s)
  · skip
    refine x_istore_n (p2 := 8) (i := 1) (L2 := [(0, _), (1, _)]) rfl dX10_twoFigures_7 rfl ⟨rfl, Nat.le_of_ble_eq_true rfl⟩ rfl ?_
    refine x_iload_n (p2 := 9) rfl dX10_twoFigures_8 rfl ?_
    refine x_bipush (p2 := 11) rfl dX10_twoFigures_9 ⟨by decide, ⟨by decide, by decide⟩⟩ ?_
    refine x_ic_ne (p2 := 14) (t := 19) (by decide) rfl dX10_twoFigures_11 (fun hc => absurd hc (by decide)) (fun _ => ?_)
    refine x_bipush (p2 := 16) rfl dX10_twoFigures_14 ⟨by decide, ⟨by decide, by decide⟩⟩ ?_
    refine x_goto (t := 26) (by decide) dX10_twoFigures_16 ?_
    refine x_istore_n (p2 := 27) (i := 2) (L2 := [(0, _), (1, _), (2, _)]) rfl dX10_twoFigures_26 rfl ⟨rfl, Nat.le_of_ble_eq_true rfl⟩ rfl ?_
    refine x_iload_n (p2 := 28) rfl dX10_twoFigures_27 rfl ?_
    refine x_bipush (p2 := 30) rfl dX10_twoFigures_28 ⟨by decide, ⟨by decide, by decide⟩⟩ ?_
    refine x_ic_ne (p2 := 33) (t := 38) (by decide) rfl dX10_twoFigures_30 (fun hc => absurd hc (by decide)) (fun _ => ?_)
    refine x_bipush (p2 := 35) rfl dX10_twoFigures_33 ⟨by decide, ⟨by decide, by decide⟩⟩ ?_
    refine x_goto (t := 44) (by decide) dX10_twoFigures_35 ?_
    refine x_iret dX10_twoFigures_44 rfl ?_
    first
      | (rw [if_neg hb4] at k0
         exact k0 (fun z => by cases z) M frR.rf (fun _ _ => rfl) (fun _ _ => rfl) p1)
      | (rw [if_pos hb4, if_neg hb23] at k0
         exact k0 (fun z => by cases z) _ (frR.u (Or.inl rfl)) (fun c z => xu_c z) (fun f z => xu_j z) xu_s)
set_option maxHeartbeats 4000000 in
theorem t_X10_readSuccessor {D : Nat} (hD : isMd σ ρ D) {tx : Int → Int} {ln p : Int} (hT : rtx M D tx ln) (hp : M D 13 = p ∧ 0 ≤ p ∧ p ≤ ln) {n b k : Int} (hn : M D 14 = n ∧ 1 ≤ n ∧ n ≤ 8) (hb : 0 ≤ b ∧ b < 8) (hk : 0 ≤ k ∧ k < 2) (ht : k = 1 → M (D + 10) (18 + 2 * b) = tx (p - 3) - 48) (k1 : (rde tx ln n k p).1 = true → ∀ M2, frR M M2 D → (∀ c, c ≠ D → c ≠ D + 10 → M2 c = M c) → (∀ f, f ≠ 13 → M2 D f = M D f) → M2 D 13 = (rde tx ln n k p).2 → M2 (D + 10) = upf (upf (M (D + 10)) (18 + 2 * b + k) (tx p - 48)) (34 + 2 * b + k) (10 * (tx (p + 1) - 48) + (tx (p + 2) - 48)) → Q (some (xI 1)) (σ, ρ, M2)) (k0 : ¬ (rde tx ln n k p).1 = true → ∀ M2, frR M M2 D → M2 D 13 = (rde tx ln n k p).2 → Q (some (xI 0)) (σ, ρ, M2)) : xX G mX10_readSuccessor 0 0 0 [(0, xP D), (1, xI b), (2, xI k)] [] (σ, ρ, M) Q := by
  obtain ⟨t1, t2, t3, t4⟩ := id hT
  obtain ⟨p1, p2, p3⟩ := id hp
  obtain ⟨n1, n2, n3⟩ := id hn
  unfold rde at k1 k0
  refine x_iconst (p2 := 1) rfl dX10_readSuccessor_0 ⟨by decide, by decide⟩ ?_
  refine x_iload_n (p2 := 2) rfl dX10_readSuccessor_1 rfl ?_
  refine x_imul (p2 := 3) rfl dX10_readSuccessor_2 ⟨by omega, by omega⟩ ?_
  refine x_iload_n (p2 := 4) rfl dX10_readSuccessor_3 rfl ?_
  refine x_iadd (p2 := 5) rfl dX10_readSuccessor_4 ⟨by omega, by omega⟩ ?_
  refine x_istore_n (p2 := 6) (i := 3) (L2 := [(0, _), (1, _), (2, _), (3, _)]) rfl dX10_readSuccessor_5 rfl ⟨rfl, Nat.le_of_ble_eq_true rfl⟩ rfl ?_
  refine x_aload_n (p2 := 7) rfl dX10_readSuccessor_6 rfl ?_
  refine x_geti (p2 := 10) (kz := 13) rfl dX10_readSuccessor_7 f_10_70 rfl rfl hD.sh ?_
  rw [p1]
  refine x_aload_n (p2 := 11) rfl dX10_readSuccessor_10 rfl ?_
  refine x_geti (p2 := 14) (kz := 1) rfl dX10_readSuccessor_11 f_10_67 rfl rfl hD.sh ?_
  rw [t1]
  refine x_ic_ge (p2 := 17) (t := 32) (by decide) rfl dX10_readSuccessor_14 (fun hc14 => ?_) (fun hc14 => ?_)
  · skip
    refine x_bipush (p2 := 34) rfl dX10_readSuccessor_32 ⟨by decide, ⟨by decide, by decide⟩⟩ ?_
    refine x_istore (p2 := 36) (i := 4) (L2 := [(0, _), (1, _), (2, _), (3, _), (4, _)]) rfl dX10_readSuccessor_34 ⟨rfl, Nat.le_of_ble_eq_true rfl⟩ rfl ?_
    refine x_iload (p2 := 38) rfl dX10_readSuccessor_36 rfl ?_
    refine x_i2l (p2 := 39) rfl dX10_readSuccessor_38 ?_
    refine x_lconst (p2 := 40) (v := 0) rfl dX10_readSuccessor_39 ⟨by decide, ⟨by decide, by decide⟩⟩ ?_
    refine x_aload_n (p2 := 41) rfl dX10_readSuccessor_40 rfl ?_
    refine x_geti (p2 := 44) (kz := 14) rfl dX10_readSuccessor_41 f_10_77 rfl rfl hD.sh ?_
    rw [n1]
    refine x_iconst (p2 := 45) rfl dX10_readSuccessor_44 ⟨by decide, by decide⟩ ?_
    refine x_isub (p2 := 46) rfl dX10_readSuccessor_45 ⟨by omega, by omega⟩ ?_
    refine x_i2l (p2 := 47) rfl dX10_readSuccessor_46 ?_
    refine x_s3 (p2 := 50) rfl dX10_readSuccessor_47 l_10_57 ok_X10_in rfl rfl ?_
    refine t_X10_in (fun hb47 => ?_) (fun hb47 => ?_)
    · skip
      refine x_if_eq (p2 := 53) (t := 74) (by decide) rfl dX10_readSuccessor_50 (fun hc => absurd hc (by decide)) (fun _ => ?_)
      exact absurd hb47 (by omega)
    · skip
      refine x_if_eq (p2 := 53) (t := 74) (by decide) rfl dX10_readSuccessor_50 (fun _ => ?_) (fun hc => absurd hc (by decide))
      refine x_iconst (p2 := 75) rfl dX10_readSuccessor_74 ⟨by decide, by decide⟩ ?_
      refine x_zret dX10_readSuccessor_75 rfl (by omega) ?_
      have hcon : ¬ (dgt tx ln p 0 (n - 1) = true ∧ ¬ (k = 1 ∧ tx p = tx (p - 3))) := fun z => by
        have := of_decide_eq_true z.1
        have := z.2
        omega
      rw [if_neg hcon] at k0
      exact k0 (fun z => by cases z) M frR.rf p1
  · skip
    have hz := t4 p p2 (by omega)
    refine x_aload_n (p2 := 18) rfl dX10_readSuccessor_17 rfl ?_
    refine x_getr (p2 := 21) (kz := 0) rfl dX10_readSuccessor_18 f_10_7 rfl rfl hD.sh hD.r0 ?_
    refine x_aload_n (p2 := 22) rfl dX10_readSuccessor_21 rfl ?_
    refine x_geti (p2 := 25) (kz := 13) rfl dX10_readSuccessor_22 f_10_70 rfl rfl hD.sh ?_
    rw [p1]
    refine x_iald (p2 := 26) rfl dX10_readSuccessor_25 hD.a0 (by omega) (by omega) ?_
    rw [hz.1]
    refine x_bipush (p2 := 28) rfl dX10_readSuccessor_26 ⟨by decide, ⟨by decide, by decide⟩⟩ ?_
    refine x_isub (p2 := 29) rfl dX10_readSuccessor_28 ⟨by omega, by omega⟩ ?_
    refine x_goto (t := 34) (by decide) dX10_readSuccessor_29 ?_
    refine x_istore (p2 := 36) (i := 4) (L2 := [(0, _), (1, _), (2, _), (3, _), (4, _)]) rfl dX10_readSuccessor_34 ⟨rfl, Nat.le_of_ble_eq_true rfl⟩ rfl ?_
    refine x_iload (p2 := 38) rfl dX10_readSuccessor_36 rfl ?_
    refine x_i2l (p2 := 39) rfl dX10_readSuccessor_38 ?_
    refine x_lconst (p2 := 40) (v := 0) rfl dX10_readSuccessor_39 ⟨by decide, ⟨by decide, by decide⟩⟩ ?_
    refine x_aload_n (p2 := 41) rfl dX10_readSuccessor_40 rfl ?_
    refine x_geti (p2 := 44) (kz := 14) rfl dX10_readSuccessor_41 f_10_77 rfl rfl hD.sh ?_
    rw [n1]
    refine x_iconst (p2 := 45) rfl dX10_readSuccessor_44 ⟨by decide, by decide⟩ ?_
    refine x_isub (p2 := 46) rfl dX10_readSuccessor_45 ⟨by omega, by omega⟩ ?_
    refine x_i2l (p2 := 47) rfl dX10_readSuccessor_46 ?_
    refine x_s3 (p2 := 50) rfl dX10_readSuccessor_47 l_10_57 ok_X10_in rfl rfl ?_
    refine t_X10_in (fun hb47 => ?_) (fun hb47 => ?_)
    · skip
      refine x_if_eq (p2 := 53) (t := 74) (by decide) rfl dX10_readSuccessor_50 (fun hc => absurd hc (by decide)) (fun _ => ?_)
      refine x_iload_n (p2 := 54) rfl dX10_readSuccessor_53 rfl ?_
      refine x_iconst (p2 := 55) rfl dX10_readSuccessor_54 ⟨by decide, by decide⟩ ?_
      refine x_ic_ne (p2 := 58) (t := 76) (by decide) rfl dX10_readSuccessor_55 (fun hc55 => ?_) (fun hc55 => ?_)
      · skip
        refine x_aload_n (p2 := 77) rfl dX10_readSuccessor_76 rfl ?_
        refine x_dup (p2 := 78) rfl dX10_readSuccessor_77 rfl ?_
        refine x_geti (p2 := 81) (kz := 13) rfl dX10_readSuccessor_78 f_10_70 rfl rfl hD.sh ?_
        rw [p1]
        refine x_iconst (p2 := 82) rfl dX10_readSuccessor_81 ⟨by decide, by decide⟩ ?_
        refine x_iadd (p2 := 83) rfl dX10_readSuccessor_82 ⟨by omega, by omega⟩ ?_
        refine x_puti (p2 := 86) (kz := 13) rfl dX10_readSuccessor_83 f_10_70 rfl rfl rfl hD.sh ?_
        refine x_aload_n (p2 := 87) rfl dX10_readSuccessor_86 rfl ?_
        refine x_getr (p2 := 90) (kz := 17) rfl dX10_readSuccessor_87 f_10_38 rfl rfl hD.sh hD.r17 ?_
        refine x_bipush (p2 := 92) rfl dX10_readSuccessor_90 ⟨by decide, ⟨by decide, by decide⟩⟩ ?_
        refine x_iload_n (p2 := 93) rfl dX10_readSuccessor_92 rfl ?_
        refine x_iadd (p2 := 94) rfl dX10_readSuccessor_93 ⟨by omega, by omega⟩ ?_
        refine x_iload (p2 := 96) rfl dX10_readSuccessor_94 rfl ?_
        refine x_iast (p2 := 97) rfl dX10_readSuccessor_96 hD.a17 (by omega) (by omega) ?_
        rw [show 18 + (2 * b + k) = 18 + 2 * b + k by omega]
        generalize hM5 : xu (xu M D 13 (p + 1)) (D + 10) (18 + 2 * b + k) (tx p - 48) = M5
        have hf5 : frR M M5 D := by rw [← hM5]; exact (frR.u (Or.inl rfl)).tr (frR.w (Or.inr rfl))
        have hT5 := hT.mv hf5
        have e13 : M5 D 13 = p + 1 := by rw [← hM5, xu_c (by omega), xu_s]
        have e10 : M5 (D + 10) = upf (M (D + 10)) (18 + 2 * b + k) (tx p - 48) := by rw [← hM5, xu_eq, xw_s, xu_c (by omega)]
        have ec : ∀ c, c ≠ D → c ≠ D + 10 → M5 c = M c := fun c z1 z2 => by rw [← hM5, xu_c z2, xu_c z1]
        have ef : ∀ f, f ≠ 13 → M5 D f = M D f := fun f z => by rw [← hM5, xu_c (by omega), xu_j z]
        have hcon : dgt tx ln p 0 (n - 1) = true ∧ ¬ (k = 1 ∧ tx p = tx (p - 3)) := ⟨decide_eq_true (by omega), by omega⟩
        rw [if_pos hcon] at k1 k0
        refine x_aload_n (p2 := 98) rfl dX10_readSuccessor_97 rfl ?_
        refine x_getr (p2 := 101) (kz := 17) rfl dX10_readSuccessor_98 f_10_38 rfl rfl hD.sh hD.r17 ?_
        refine x_bipush (p2 := 103) rfl dX10_readSuccessor_101 ⟨by decide, ⟨by decide, by decide⟩⟩ ?_
        refine x_iload_n (p2 := 104) rfl dX10_readSuccessor_103 rfl ?_
        refine x_iadd (p2 := 105) rfl dX10_readSuccessor_104 ⟨by omega, by omega⟩ ?_
        refine x_aload_n (p2 := 106) rfl dX10_readSuccessor_105 rfl ?_
        refine x_v0 (p2 := 109) rfl dX10_readSuccessor_106 l_10_80 ok_X10_twoFigures rfl hD.sh rfl ?_
        refine t_X10_twoFigures hD hT5 (p := p + 1) ⟨e13, by omega, by omega⟩ (fun hb106 M6 hf6 hc6 hg6 h136 => ?_) (fun hb106 M6 hf6 hc6 hg6 h136 => ?_)
        · skip
          refine x_iast (p2 := 110) rfl dX10_readSuccessor_109 hD.a17 (by omega) (by omega) ?_
          rw [show 34 + (2 * b + k) = 34 + 2 * b + k by omega]
          refine x_aload_n (p2 := 111) rfl dX10_readSuccessor_110 rfl ?_
          refine x_getr (p2 := 114) (kz := 17) rfl dX10_readSuccessor_111 f_10_38 rfl rfl hD.sh hD.r17 ?_
          refine x_bipush (p2 := 116) rfl dX10_readSuccessor_114 ⟨by decide, ⟨by decide, by decide⟩⟩ ?_
          refine x_iload_n (p2 := 117) rfl dX10_readSuccessor_116 rfl ?_
          refine x_iadd (p2 := 118) rfl dX10_readSuccessor_117 ⟨by omega, by omega⟩ ?_
          refine x_iald (p2 := 119) rfl dX10_readSuccessor_118 hD.a17 (by omega) (by omega) ?_
          rw [show 34 + (2 * b + k) = 34 + 2 * b + k by omega, xu_s]
          refine x_bipush (p2 := 121) rfl dX10_readSuccessor_119 ⟨by decide, ⟨by decide, by decide⟩⟩ ?_
          refine x_ic_eq (p2 := 124) (t := 128) (by decide) rfl dX10_readSuccessor_121 (fun hc121 => ?_) (fun hc121 => ?_)
          · skip
            refine x_iconst (p2 := 129) rfl dX10_readSuccessor_128 ⟨by decide, by decide⟩ ?_
            refine x_zret dX10_readSuccessor_129 rfl (by omega) ?_
            first
              | (refine k0 hb106 _ ((hf5.tr hf6).tr (frR.w (Or.inr rfl))) ?_
                 rw [xu_c (by omega), h136])
              | exact absurd hc121 (by have := rdc_t hb106; have y1 := of_decide_eq_true this.1; have y2 := of_decide_eq_true this.2.1; omega)
          · skip
            refine x_iconst (p2 := 125) rfl dX10_readSuccessor_124 ⟨by decide, by decide⟩ ?_
            refine x_goto (t := 129) (by decide) dX10_readSuccessor_125 ?_
            refine x_zret dX10_readSuccessor_129 rfl (by omega) ?_
            first
              | exact absurd rfl hc121
              | (have hrd := rdc_t hb106
                 refine k1 hb106 _ ((hf5.tr hf6).tr (frR.w (Or.inr rfl))) (fun c z1 z2 => ?_) (fun f z => ?_) ?_ ?_
                 · rw [xu_c z2, hc6 c z1, ec c z1 z2]
                 · rw [xu_c (by omega), hg6 f z, ef f z]
                 · rw [xu_c (by omega), h136, hrd.2.2]
                 · rw [xu_eq, xw_s, hc6 _ (by omega), e10, show p + 1 + 1 = p + 2 by omega])
        · skip
          refine x_iast (p2 := 110) rfl dX10_readSuccessor_109 hD.a17 (by omega) (by omega) ?_
          rw [show 34 + (2 * b + k) = 34 + 2 * b + k by omega]
          refine x_aload_n (p2 := 111) rfl dX10_readSuccessor_110 rfl ?_
          refine x_getr (p2 := 114) (kz := 17) rfl dX10_readSuccessor_111 f_10_38 rfl rfl hD.sh hD.r17 ?_
          refine x_bipush (p2 := 116) rfl dX10_readSuccessor_114 ⟨by decide, ⟨by decide, by decide⟩⟩ ?_
          refine x_iload_n (p2 := 117) rfl dX10_readSuccessor_116 rfl ?_
          refine x_iadd (p2 := 118) rfl dX10_readSuccessor_117 ⟨by omega, by omega⟩ ?_
          refine x_iald (p2 := 119) rfl dX10_readSuccessor_118 hD.a17 (by omega) (by omega) ?_
          rw [show 34 + (2 * b + k) = 34 + 2 * b + k by omega, xu_s]
          refine x_bipush (p2 := 121) rfl dX10_readSuccessor_119 ⟨by decide, ⟨by decide, by decide⟩⟩ ?_
          refine x_ic_eq (p2 := 124) (t := 128) (by decide) rfl dX10_readSuccessor_121 (fun hc121 => ?_) (fun hc121 => ?_)
          · skip
            refine x_iconst (p2 := 129) rfl dX10_readSuccessor_128 ⟨by decide, by decide⟩ ?_
            refine x_zret dX10_readSuccessor_129 rfl (by omega) ?_
            first
              | (refine k0 hb106 _ ((hf5.tr hf6).tr (frR.w (Or.inr rfl))) ?_
                 rw [xu_c (by omega), h136])
              | exact absurd hc121 (by have := rdc_t hb106; have y1 := of_decide_eq_true this.1; have y2 := of_decide_eq_true this.2.1; omega)
          · skip
            refine x_iconst (p2 := 125) rfl dX10_readSuccessor_124 ⟨by decide, by decide⟩ ?_
            refine x_goto (t := 129) (by decide) dX10_readSuccessor_125 ?_
            refine x_zret dX10_readSuccessor_129 rfl (by omega) ?_
            first
              | exact absurd rfl hc121
              | (have hrd := rdc_t hb106
                 refine k1 hb106 _ ((hf5.tr hf6).tr (frR.w (Or.inr rfl))) (fun c z1 z2 => ?_) (fun f z => ?_) ?_ ?_
                 · rw [xu_c z2, hc6 c z1, ec c z1 z2]
                 · rw [xu_c (by omega), hg6 f z, ef f z]
                 · rw [xu_c (by omega), h136, hrd.2.2]
                 · rw [xu_eq, xw_s, hc6 _ (by omega), e10, show p + 1 + 1 = p + 2 by omega])
      · skip
        refine x_iload (p2 := 60) rfl dX10_readSuccessor_58 rfl ?_
        refine x_aload_n (p2 := 61) rfl dX10_readSuccessor_60 rfl ?_
        refine x_getr (p2 := 64) (kz := 17) rfl dX10_readSuccessor_61 f_10_38 rfl rfl hD.sh hD.r17 ?_
        refine x_bipush (p2 := 66) rfl dX10_readSuccessor_64 ⟨by decide, ⟨by decide, by decide⟩⟩ ?_
        refine x_iload_n (p2 := 67) rfl dX10_readSuccessor_66 rfl ?_
        refine x_iadd (p2 := 68) rfl dX10_readSuccessor_67 ⟨by omega, by omega⟩ ?_
        refine x_iconst (p2 := 69) rfl dX10_readSuccessor_68 ⟨by decide, by decide⟩ ?_
        refine x_isub (p2 := 70) rfl dX10_readSuccessor_69 ⟨by omega, by omega⟩ ?_
        refine x_iald (p2 := 71) rfl dX10_readSuccessor_70 hD.a17 (by omega) (by omega) ?_
        rw [show 18 + (2 * b + k) - 1 = 18 + 2 * b by omega, ht (by omega)]
        refine x_ic_ne (p2 := 74) (t := 76) (by decide) rfl dX10_readSuccessor_71 (fun hc71 => ?_) (fun hc71 => ?_)
        · skip
          refine x_aload_n (p2 := 77) rfl dX10_readSuccessor_76 rfl ?_
          refine x_dup (p2 := 78) rfl dX10_readSuccessor_77 rfl ?_
          refine x_geti (p2 := 81) (kz := 13) rfl dX10_readSuccessor_78 f_10_70 rfl rfl hD.sh ?_
          rw [p1]
          refine x_iconst (p2 := 82) rfl dX10_readSuccessor_81 ⟨by decide, by decide⟩ ?_
          refine x_iadd (p2 := 83) rfl dX10_readSuccessor_82 ⟨by omega, by omega⟩ ?_
          refine x_puti (p2 := 86) (kz := 13) rfl dX10_readSuccessor_83 f_10_70 rfl rfl rfl hD.sh ?_
          refine x_aload_n (p2 := 87) rfl dX10_readSuccessor_86 rfl ?_
          refine x_getr (p2 := 90) (kz := 17) rfl dX10_readSuccessor_87 f_10_38 rfl rfl hD.sh hD.r17 ?_
          refine x_bipush (p2 := 92) rfl dX10_readSuccessor_90 ⟨by decide, ⟨by decide, by decide⟩⟩ ?_
          refine x_iload_n (p2 := 93) rfl dX10_readSuccessor_92 rfl ?_
          refine x_iadd (p2 := 94) rfl dX10_readSuccessor_93 ⟨by omega, by omega⟩ ?_
          refine x_iload (p2 := 96) rfl dX10_readSuccessor_94 rfl ?_
          refine x_iast (p2 := 97) rfl dX10_readSuccessor_96 hD.a17 (by omega) (by omega) ?_
          rw [show 18 + (2 * b + k) = 18 + 2 * b + k by omega]
          generalize hM5 : xu (xu M D 13 (p + 1)) (D + 10) (18 + 2 * b + k) (tx p - 48) = M5
          have hf5 : frR M M5 D := by rw [← hM5]; exact (frR.u (Or.inl rfl)).tr (frR.w (Or.inr rfl))
          have hT5 := hT.mv hf5
          have e13 : M5 D 13 = p + 1 := by rw [← hM5, xu_c (by omega), xu_s]
          have e10 : M5 (D + 10) = upf (M (D + 10)) (18 + 2 * b + k) (tx p - 48) := by rw [← hM5, xu_eq, xw_s, xu_c (by omega)]
          have ec : ∀ c, c ≠ D → c ≠ D + 10 → M5 c = M c := fun c z1 z2 => by rw [← hM5, xu_c z2, xu_c z1]
          have ef : ∀ f, f ≠ 13 → M5 D f = M D f := fun f z => by rw [← hM5, xu_c (by omega), xu_j z]
          have hcon : dgt tx ln p 0 (n - 1) = true ∧ ¬ (k = 1 ∧ tx p = tx (p - 3)) := ⟨decide_eq_true (by omega), by omega⟩
          rw [if_pos hcon] at k1 k0
          refine x_aload_n (p2 := 98) rfl dX10_readSuccessor_97 rfl ?_
          refine x_getr (p2 := 101) (kz := 17) rfl dX10_readSuccessor_98 f_10_38 rfl rfl hD.sh hD.r17 ?_
          refine x_bipush (p2 := 103) rfl dX10_readSuccessor_101 ⟨by decide, ⟨by decide, by decide⟩⟩ ?_
          refine x_iload_n (p2 := 104) rfl dX10_readSuccessor_103 rfl ?_
          refine x_iadd (p2 := 105) rfl dX10_readSuccessor_104 ⟨by omega, by omega⟩ ?_
          refine x_aload_n (p2 := 106) rfl dX10_readSuccessor_105 rfl ?_
          refine x_v0 (p2 := 109) rfl dX10_readSuccessor_106 l_10_80 ok_X10_twoFigures rfl hD.sh rfl ?_
          refine t_X10_twoFigures hD hT5 (p := p + 1) ⟨e13, by omega, by omega⟩ (fun hb106 M6 hf6 hc6 hg6 h136 => ?_) (fun hb106 M6 hf6 hc6 hg6 h136 => ?_)
          · skip
            refine x_iast (p2 := 110) rfl dX10_readSuccessor_109 hD.a17 (by omega) (by omega) ?_
            rw [show 34 + (2 * b + k) = 34 + 2 * b + k by omega]
            refine x_aload_n (p2 := 111) rfl dX10_readSuccessor_110 rfl ?_
            refine x_getr (p2 := 114) (kz := 17) rfl dX10_readSuccessor_111 f_10_38 rfl rfl hD.sh hD.r17 ?_
            refine x_bipush (p2 := 116) rfl dX10_readSuccessor_114 ⟨by decide, ⟨by decide, by decide⟩⟩ ?_
            refine x_iload_n (p2 := 117) rfl dX10_readSuccessor_116 rfl ?_
            refine x_iadd (p2 := 118) rfl dX10_readSuccessor_117 ⟨by omega, by omega⟩ ?_
            refine x_iald (p2 := 119) rfl dX10_readSuccessor_118 hD.a17 (by omega) (by omega) ?_
            rw [show 34 + (2 * b + k) = 34 + 2 * b + k by omega, xu_s]
            refine x_bipush (p2 := 121) rfl dX10_readSuccessor_119 ⟨by decide, ⟨by decide, by decide⟩⟩ ?_
            refine x_ic_eq (p2 := 124) (t := 128) (by decide) rfl dX10_readSuccessor_121 (fun hc121 => ?_) (fun hc121 => ?_)
            · skip
              refine x_iconst (p2 := 129) rfl dX10_readSuccessor_128 ⟨by decide, by decide⟩ ?_
              refine x_zret dX10_readSuccessor_129 rfl (by omega) ?_
              first
                | (refine k0 hb106 _ ((hf5.tr hf6).tr (frR.w (Or.inr rfl))) ?_
                   rw [xu_c (by omega), h136])
                | exact absurd hc121 (by have := rdc_t hb106; have y1 := of_decide_eq_true this.1; have y2 := of_decide_eq_true this.2.1; omega)
            · skip
              refine x_iconst (p2 := 125) rfl dX10_readSuccessor_124 ⟨by decide, by decide⟩ ?_
              refine x_goto (t := 129) (by decide) dX10_readSuccessor_125 ?_
              refine x_zret dX10_readSuccessor_129 rfl (by omega) ?_
              first
                | exact absurd rfl hc121
                | (have hrd := rdc_t hb106
                   refine k1 hb106 _ ((hf5.tr hf6).tr (frR.w (Or.inr rfl))) (fun c z1 z2 => ?_) (fun f z => ?_) ?_ ?_
                   · rw [xu_c z2, hc6 c z1, ec c z1 z2]
                   · rw [xu_c (by omega), hg6 f z, ef f z]
                   · rw [xu_c (by omega), h136, hrd.2.2]
                   · rw [xu_eq, xw_s, hc6 _ (by omega), e10, show p + 1 + 1 = p + 2 by omega])
          · skip
            refine x_iast (p2 := 110) rfl dX10_readSuccessor_109 hD.a17 (by omega) (by omega) ?_
            rw [show 34 + (2 * b + k) = 34 + 2 * b + k by omega]
            refine x_aload_n (p2 := 111) rfl dX10_readSuccessor_110 rfl ?_
            refine x_getr (p2 := 114) (kz := 17) rfl dX10_readSuccessor_111 f_10_38 rfl rfl hD.sh hD.r17 ?_
            refine x_bipush (p2 := 116) rfl dX10_readSuccessor_114 ⟨by decide, ⟨by decide, by decide⟩⟩ ?_
            refine x_iload_n (p2 := 117) rfl dX10_readSuccessor_116 rfl ?_
            refine x_iadd (p2 := 118) rfl dX10_readSuccessor_117 ⟨by omega, by omega⟩ ?_
            refine x_iald (p2 := 119) rfl dX10_readSuccessor_118 hD.a17 (by omega) (by omega) ?_
            rw [show 34 + (2 * b + k) = 34 + 2 * b + k by omega, xu_s]
            refine x_bipush (p2 := 121) rfl dX10_readSuccessor_119 ⟨by decide, ⟨by decide, by decide⟩⟩ ?_
            refine x_ic_eq (p2 := 124) (t := 128) (by decide) rfl dX10_readSuccessor_121 (fun hc121 => ?_) (fun hc121 => ?_)
            · skip
              refine x_iconst (p2 := 129) rfl dX10_readSuccessor_128 ⟨by decide, by decide⟩ ?_
              refine x_zret dX10_readSuccessor_129 rfl (by omega) ?_
              first
                | (refine k0 hb106 _ ((hf5.tr hf6).tr (frR.w (Or.inr rfl))) ?_
                   rw [xu_c (by omega), h136])
                | exact absurd hc121 (by have := rdc_t hb106; have y1 := of_decide_eq_true this.1; have y2 := of_decide_eq_true this.2.1; omega)
            · skip
              refine x_iconst (p2 := 125) rfl dX10_readSuccessor_124 ⟨by decide, by decide⟩ ?_
              refine x_goto (t := 129) (by decide) dX10_readSuccessor_125 ?_
              refine x_zret dX10_readSuccessor_129 rfl (by omega) ?_
              first
                | exact absurd rfl hc121
                | (have hrd := rdc_t hb106
                   refine k1 hb106 _ ((hf5.tr hf6).tr (frR.w (Or.inr rfl))) (fun c z1 z2 => ?_) (fun f z => ?_) ?_ ?_
                   · rw [xu_c z2, hc6 c z1, ec c z1 z2]
                   · rw [xu_c (by omega), hg6 f z, ef f z]
                   · rw [xu_c (by omega), h136, hrd.2.2]
                   · rw [xu_eq, xw_s, hc6 _ (by omega), e10, show p + 1 + 1 = p + 2 by omega])
        · skip
          refine x_iconst (p2 := 75) rfl dX10_readSuccessor_74 ⟨by decide, by decide⟩ ?_
          refine x_zret dX10_readSuccessor_75 rfl (by omega) ?_
          have hcon : ¬ (dgt tx ln p 0 (n - 1) = true ∧ ¬ (k = 1 ∧ tx p = tx (p - 3))) := fun z => by
            have := of_decide_eq_true z.1
            have := z.2
            omega
          rw [if_neg hcon] at k0
          exact k0 (fun z => by cases z) M frR.rf p1
    · skip
      refine x_if_eq (p2 := 53) (t := 74) (by decide) rfl dX10_readSuccessor_50 (fun _ => ?_) (fun hc => absurd hc (by decide))
      refine x_iconst (p2 := 75) rfl dX10_readSuccessor_74 ⟨by decide, by decide⟩ ?_
      refine x_zret dX10_readSuccessor_75 rfl (by omega) ?_
      have hcon : ¬ (dgt tx ln p 0 (n - 1) = true ∧ ¬ (k = 1 ∧ tx p = tx (p - 3))) := fun z => by
        have := of_decide_eq_true z.1
        have := z.2
        omega
      rw [if_neg hcon] at k0
      exact k0 (fun z => by cases z) M frR.rf p1
end XMO
