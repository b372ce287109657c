section XMU
variable {G : xG} {σ : List (Nat × Nat)} {ρ : Nat → Int → Option Nat} {M : Nat → Int → Int} {Q : Option xV → xH → Prop}
set_option maxHeartbeats 4000000 in
theorem t_lo1 {D : Nat} (hD : isMd σ ρ D) {n : Int} (hn : M D 2 = n) (h8 : n ≤ 8) (hq : ∀ M2, (∀ c, c ≠ D + 2 → c ≠ D + 3 → M2 c = M c) → (∀ x, 0 ≤ x → x < n → M2 (D + 2) x = M (D + 9) x ∧ M2 (D + 3) (2 + x) = x) → (∀ y, y < 2 ∨ 10 ≤ y → M2 (D + 3) y = M (D + 3) y) → xX G mX10_load 0 0 93 [(0, xP D)] [] (σ, ρ, M2) Q) : ∀ (m : Nat) (b : Int) (M1 : Nat → Int → Int), 0 ≤ b → b + m = n → (∀ c, c ≠ D + 2 → c ≠ D + 3 → M1 c = M c) → (∀ x, 0 ≤ x → x < b → M1 (D + 2) x = M (D + 9) x ∧ M1 (D + 3) (2 + x) = x) → (∀ y, y < 2 ∨ 10 ≤ y → M1 (D + 3) y = M (D + 3) y) → xX G mX10_load 0 0 58 [(0, xP D), (1, xI b)] [] (σ, ρ, M1) Q := by
  intro m
  induction m with
  | zero =>
    intro b M1 h0 hm g1 g2 g3
    refine x_iload_n (p2 := 59) rfl dX10_load_58 rfl ?_
    refine x_aload_n (p2 := 60) rfl dX10_load_59 rfl ?_
    refine x_geti (p2 := 63) (kz := 2) rfl dX10_load_60 f_10_53 rfl rfl hD.sh ?_
    rw [g1 D (by omega) (by omega), hn]
    refine x_ic_ge (p2 := 66) (t := 93) (by decide) rfl dX10_load_63 (fun hc63 => ?_) (fun hc63 => absurd hc63 (by omega))
    refine x_pick (L2 := [(0, _)]) [0] rfl ?_
    exact hq M1 g1 (fun x a c => g2 x a (by omega)) g3
  | succ m ih =>
    intro b M1 h0 hm g1 g2 g3
    refine x_iload_n (p2 := 59) rfl dX10_load_58 rfl ?_
    refine x_aload_n (p2 := 60) rfl dX10_load_59 rfl ?_
    refine x_geti (p2 := 63) (kz := 2) rfl dX10_load_60 f_10_53 rfl rfl hD.sh ?_
    rw [g1 D (by omega) (by omega), hn]
    refine x_ic_ge (p2 := 66) (t := 93) (by decide) rfl dX10_load_63 (fun hc63 => ?_) (fun hc63 => ?_)
    · exact absurd hc63 (by omega)
    refine x_aload_n (p2 := 67) rfl dX10_load_66 rfl ?_
    refine x_getr (p2 := 70) (kz := 3) rfl dX10_load_67 f_10_13 rfl rfl hD.sh hD.r3 ?_
    refine x_iload_n (p2 := 71) rfl dX10_load_70 rfl ?_
    refine x_aload_n (p2 := 72) rfl dX10_load_71 rfl ?_
    refine x_getr (p2 := 75) (kz := 16) rfl dX10_load_72 f_10_35 rfl rfl hD.sh hD.r16 ?_
    refine x_iload_n (p2 := 76) rfl dX10_load_75 rfl ?_
    refine x_iald (p2 := 77) rfl dX10_load_76 hD.a16 (by omega) (by omega) ?_
    rw [g1 (D + 9) (by omega) (by omega)]
    refine x_iast (p2 := 78) rfl dX10_load_77 hD.a3 (by omega) (by omega) ?_
    refine x_aload_n (p2 := 79) rfl dX10_load_78 rfl ?_
    refine x_getr (p2 := 82) (kz := 5) rfl dX10_load_79 f_10_16 rfl rfl hD.sh hD.r5 ?_
    refine x_iconst (p2 := 83) rfl dX10_load_82 ⟨by decide, by decide⟩ ?_
    refine x_iload_n (p2 := 84) rfl dX10_load_83 rfl ?_
    refine x_iadd (p2 := 85) rfl dX10_load_84 ⟨by omega, by omega⟩ ?_
    refine x_iload_n (p2 := 86) rfl dX10_load_85 rfl ?_
    refine x_iast (p2 := 87) rfl dX10_load_86 hD.a5 (by omega) (by omega) ?_
    refine x_iinc (p2 := 90) (L2 := [(0, _), (1, _)]) rfl dX10_load_87 rfl ⟨by omega, by omega⟩ ⟨rfl, Nat.le_of_ble_eq_true rfl⟩ rfl ?_
    refine x_goto (t := 58) (by decide) dX10_load_90 ?_
    refine x_pick (L2 := [(0, _), (1, _)]) [0, 1] rfl ?_
    refine ih _ _ (by omega) (by omega) (fun c z1 z2 => by rw [xu_c z2, xu_c z1]; exact g1 c z1 z2) (fun x a c => ?_) (fun y z => ?_)
    · by_cases hx : x = b
      · subst hx
        exact ⟨by rw [xu_c (by omega), xu_s], by rw [xu_s]⟩
      · obtain ⟨c1, c2⟩ := g2 x a (by omega)
        exact ⟨by rw [xu_c (by omega), xu_j hx]; exact c1, by rw [xu_j (by omega), xu_c (by omega)]; exact c2⟩
    · rw [xu_j (by omega), xu_c (by omega)]; exact g3 y z
set_option maxHeartbeats 4000000 in
theorem t_X10_load {D : Nat} (hD : isMd σ ρ D) {tx : Int → Int} {ln : Int} (hT : rtx M D tx ln) (k3 : ¬ ((prs tx ln).1 = true ∧ (prs tx ln).2 = ln) → ∀ M2, frR M M2 D → Q (some (xI (-3))) (σ, ρ, M2)) (hq : (prs tx ln).1 = true ∧ (prs tx ln).2 = ln → ∀ M2, (∀ c, (c < D ∨ c = D + 1 ∨ c = D + 6 ∨ c = D + 7 ∨ D + 14 < c) → M2 c = M c) → M2 D 1 = M D 1 → M2 D 10 = M D 10 → M2 D 9 = 0 → M2 D 2 = tx 1 - 48 → M2 D 4 = 10 * (tx 2 - 48) + (tx 3 - 48) → (∀ j, 0 ≤ j → j < 2 → M2 (D + 8) j = 0) → M2 (D + 3) 0 = tx 1 - 48 → M2 (D + 3) 1 = 1 → (∀ x, 0 ≤ x → x < tx 1 - 48 → M2 (D + 3) (2 + x) = x ∧ cntR tx (M2 (D + 2)) (M2 (D + 3)) x (bps tx x.toNat)) → Q (some (xI (tx 1 - 48))) (σ, ρ, M2)) : xX G mX10_load 0 0 0 [(0, xP D)] [] (σ, ρ, M) Q := by
  have hpp := prs_p (tx := tx) hT.2.1
  refine x_aload_n (p2 := 1) rfl dX10_load_0 rfl ?_
  refine x_v0 (p2 := 4) rfl dX10_load_1 l_10_94 ok_X10_readText rfl hD.sh rfl ?_
  refine t_X10_readText hD hT (fun hb M2 hf q1 q2 q3 => ?_) (fun hb M2 hf => ?_)
  · skip
    refine x_bipush (p2 := 6) rfl dX10_load_4 ⟨by decide, ⟨by decide, by decide⟩⟩ ?_
    refine x_ic_eq (p2 := 9) (t := 12) (by decide) rfl dX10_load_6 (fun _ => ?_) (fun hc => absurd hc (by decide))
    have hpt := prs_t hb.1
    refine x_aload_n (p2 := 13) rfl dX10_load_12 rfl ?_
    refine x_aload_n (p2 := 14) rfl dX10_load_13 rfl ?_
    refine x_geti (p2 := 17) (kz := 14) rfl dX10_load_14 f_10_77 rfl rfl hD.sh ?_
    rw [q1]
    refine x_puti (p2 := 20) (kz := 2) rfl dX10_load_17 f_10_53 rfl rfl rfl hD.sh ?_
    refine x_aload_n (p2 := 21) rfl dX10_load_20 rfl ?_
    refine x_aload_n (p2 := 22) rfl dX10_load_21 rfl ?_
    refine x_geti (p2 := 25) (kz := 15) rfl dX10_load_22 f_10_88 rfl rfl hD.sh ?_
    rw [xu_j (by omega), q2]
    refine x_puti (p2 := 28) (kz := 4) rfl dX10_load_25 f_10_97 rfl rfl rfl hD.sh ?_
    refine x_aload_n (p2 := 29) rfl dX10_load_28 rfl ?_
    refine x_getr (p2 := 32) (kz := 17) rfl dX10_load_29 f_10_38 rfl rfl hD.sh hD.r17 ?_
    refine x_aload_n (p2 := 33) rfl dX10_load_32 rfl ?_
    refine x_getr (p2 := 36) (kz := 5) rfl dX10_load_33 f_10_16 rfl rfl hD.sh hD.r5 ?_
    refine x_s2 (p2 := 39) rfl dX10_load_36 l_10_100 ok_X10_copy rfl rfl ?_
    refine t_X10_copy hD.a17 hD.a5 (by omega) (fun M36 hs36 hv36 => ?_)
    refine x_aload_n (p2 := 40) rfl dX10_load_39 rfl ?_
    refine x_getr (p2 := 43) (kz := 5) rfl dX10_load_40 f_10_16 rfl rfl hD.sh hD.r5 ?_
    refine x_iconst (p2 := 44) rfl dX10_load_43 ⟨by decide, by decide⟩ ?_
    refine x_aload_n (p2 := 45) rfl dX10_load_44 rfl ?_
    refine x_geti (p2 := 48) (kz := 2) rfl dX10_load_45 f_10_53 rfl rfl hD.sh ?_
    rw [hs36 D (by omega), xu_j (by omega), xu_s]
    refine x_iast (p2 := 49) rfl dX10_load_48 hD.a5 (by omega) (by omega) ?_
    refine x_aload_n (p2 := 50) rfl dX10_load_49 rfl ?_
    refine x_getr (p2 := 53) (kz := 5) rfl dX10_load_50 f_10_16 rfl rfl hD.sh hD.r5 ?_
    refine x_iconst (p2 := 54) rfl dX10_load_53 ⟨by decide, by decide⟩ ?_
    refine x_iconst (p2 := 55) rfl dX10_load_54 ⟨by decide, by decide⟩ ?_
    refine x_iast (p2 := 56) rfl dX10_load_55 hD.a5 (by omega) (by omega) ?_
    refine x_iconst (p2 := 57) rfl dX10_load_56 ⟨by decide, by decide⟩ ?_
    refine x_istore_n (p2 := 58) (i := 1) (L2 := [(0, _), (1, _)]) rfl dX10_load_57 rfl ⟨rfl, Nat.le_of_ble_eq_true rfl⟩ rfl ?_
    refine x_pick (L2 := [(0, _), (1, _)]) [0, 1] rfl ?_
    generalize hM8 : xu (xu M36 (D + 3) 0 (tx 1 - 48)) (D + 3) 1 1 = M8
    have ec : ∀ c, c ≠ D → c ≠ D + 3 → M8 c = M2 c := fun c z1 z2 => by rw [← hM8, xu_c z2, xu_c z2, hs36 c z2, xu_c z1, xu_c z1]
    have e2 : M8 D 2 = tx 1 - 48 := by rw [← hM8, xu_c (by omega), xu_c (by omega), hs36 D (by omega), xu_j (by omega), xu_s]
    have e4 : M8 D 4 = 10 * (tx 2 - 48) + (tx 3 - 48) := by rw [← hM8, xu_c (by omega), xu_c (by omega), hs36 D (by omega), xu_s]
    have ef : ∀ f, f ≠ 2 → f ≠ 4 → M8 D f = M2 D f := fun f z1 z2 => by rw [← hM8, xu_c (by omega), xu_c (by omega), hs36 D (by omega), xu_j z2, xu_j z1]
    have r0 : M8 (D + 3) 0 = tx 1 - 48 := by rw [← hM8, xu_j (by omega), xu_s]
    have r1 : M8 (D + 3) 1 = 1 := by rw [← hM8, xu_s]
    have rr : ∀ y, 10 ≤ y → y < 50 → M8 (D + 3) y = M2 (D + 10) y := fun y z1 z2 => by rw [← hM8, xu_j (by omega), xu_j (by omega), hv36 y (by omega) z2, xu_c (by omega), xu_c (by omega)]
    refine t_lo1 hD e2 (by omega) (fun M9 g1 g2 g3 => ?_) (tx 1 - 48).toNat 0 M8 (by omega) (by omega) (fun _ _ _ => rfl) (fun x a c => by omega) (fun _ _ => rfl)
    refine x_aload_n (p2 := 94) rfl dX10_load_93 rfl ?_
    refine x_iconst (p2 := 95) rfl dX10_load_94 ⟨by decide, by decide⟩ ?_
    refine x_puti (p2 := 98) (kz := 9) rfl dX10_load_95 f_10_104 rfl rfl rfl hD.sh ?_
    refine x_aload_n (p2 := 99) rfl dX10_load_98 rfl ?_
    refine x_getr (p2 := 102) (kz := 12) rfl dX10_load_99 f_10_31 rfl rfl hD.sh hD.r12 ?_
    refine x_iconst (p2 := 103) rfl dX10_load_102 ⟨by decide, by decide⟩ ?_
    refine x_iconst (p2 := 104) rfl dX10_load_103 ⟨by decide, by decide⟩ ?_
    refine x_zast (p2 := 105) rfl dX10_load_104 hD.a12 (by omega) (by omega) (by omega) ?_
    refine x_aload_n (p2 := 106) rfl dX10_load_105 rfl ?_
    refine x_getr (p2 := 109) (kz := 12) rfl dX10_load_106 f_10_31 rfl rfl hD.sh hD.r12 ?_
    refine x_iconst (p2 := 110) rfl dX10_load_109 ⟨by decide, by decide⟩ ?_
    refine x_iconst (p2 := 111) rfl dX10_load_110 ⟨by decide, by decide⟩ ?_
    refine x_zast (p2 := 112) rfl dX10_load_111 hD.a12 (by omega) (by omega) (by omega) ?_
    refine x_aload_n (p2 := 113) rfl dX10_load_112 rfl ?_
    refine x_geti (p2 := 116) (kz := 2) rfl dX10_load_113 f_10_53 rfl rfl hD.sh ?_
    rw [xu_c (by omega), xu_c (by omega), xu_j (by omega), g1 D (by omega) (by omega), e2]
    refine x_iret dX10_load_116 rfl ?_
    refine hq hb _ (fun c z => ?_) ?_ ?_ ?_ ?_ ?_ (fun j a c => ?_) ?_ ?_ (fun x a c => ?_)
    · rw [xu_c (by omega), xu_c (by omega), xu_c (by omega), g1 c (by omega) (by omega), ec c (by omega) (by omega), hf.1 c (by omega) (by omega) (by omega)]
    · rw [xu_c (by omega), xu_c (by omega), xu_j (by omega), g1 D (by omega) (by omega), ef 1 (by omega) (by omega), hf.2 1 (by omega) (by omega) (by omega)]
    · rw [xu_c (by omega), xu_c (by omega), xu_j (by omega), g1 D (by omega) (by omega), ef 10 (by omega) (by omega), hf.2 10 (by omega) (by omega) (by omega)]
    · rw [xu_c (by omega), xu_c (by omega), xu_s]
    · rw [xu_c (by omega), xu_c (by omega), xu_j (by omega), g1 D (by omega) (by omega), e2]
    · rw [xu_c (by omega), xu_c (by omega), xu_j (by omega), g1 D (by omega) (by omega), e4]
    · rcases (by omega : j = 0 ∨ j = 1) with rfl | rfl
      · rw [xu_j (by omega), xu_s]
      · rw [xu_s]
    · rw [xu_c (by omega), xu_c (by omega), xu_c (by omega), g3 0 (by omega), r0]
    · rw [xu_c (by omega), xu_c (by omega), xu_c (by omega), g3 1 (by omega), r1]
    · rw [xu_c (show D + 3 ≠ D + 8 by omega), xu_c (show D + 3 ≠ D + 8 by omega), xu_c (show D + 3 ≠ D by omega), xu_c (show D + 2 ≠ D + 8 by omega), xu_c (show D + 2 ≠ D + 8 by omega), xu_c (show D + 2 ≠ D by omega)]
      obtain ⟨c1, c2, c3⟩ := q3 x a c
      have hx2 := (ld_x hpt.2.2.2 a c).2.1
      refine ⟨(g2 x a c).2, by rw [(g2 x a c).1, ec _ (by omega) (by omega)]; exact c1, by rw [g3 _ (by omega), rr _ (by omega) (by omega)]; exact c2, fun k k0 k1 => ?_⟩
      have := c3 k k0 k1
      unfold edR at this ⊢
      rw [g3 _ (by omega), rr _ (by omega) (by omega), g3 _ (by omega), rr _ (by omega) (by omega)]
      exact this
  · skip
    refine x_bipush (p2 := 6) rfl dX10_load_4 ⟨by decide, ⟨by decide, by decide⟩⟩ ?_
    refine x_ic_eq (p2 := 9) (t := 12) (by decide) rfl dX10_load_6 (fun hc6 => ?_) (fun hc6 => ?_)
    · exact absurd hc6 (by omega)
    refine x_bipush (p2 := 11) rfl dX10_load_9 ⟨by decide, ⟨by decide, by decide⟩⟩ ?_
    refine x_iret dX10_load_11 rfl ?_
    exact k3 hb M2 hf
end XMU
