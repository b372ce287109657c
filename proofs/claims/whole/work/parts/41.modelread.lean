section XMS
variable {G : xG} {σ : List (Nat × Nat)} {ρ : Nat → Int → Option Nat} {M : Nat → Int → Int} {Q : Option xV → xH → Prop}
/-- block x of the reference's reading, as the text has it at p -/
def cntR (tx yb r : Int → Int) (x p : Int) : Prop := yb x = tx p - 48 ∧ r (10 + x) = tx (p + 1) - 48 ∧ ∀ j, 0 ≤ j → j < tx (p + 1) - 48 → edR tx r x p j
set_option maxHeartbeats 4000000 in
theorem t_rt0 {D : Nat} (hD : isMd σ ρ D) (hq : ∀ M2, (∀ c, c ≠ D + 10 → M2 c = M c) → xX G mX10_readText 0 0 21 [(0, xP D)] [] (σ, ρ, M2) Q) : ∀ (m : Nat) (k : Int) (M1 : Nat → Int → Int), 0 ≤ k → k + m = 50 → (∀ c, c ≠ D + 10 → M1 c = M c) → xX G mX10_readText 0 0 2 [(0, xP D), (1, xI k)] [] (σ, ρ, M1) Q := by
  intro m
  induction m with
  | zero =>
    intro k M1 h0 hm g1
    refine x_iload_n (p2 := 3) rfl dX10_readText_2 rfl ?_
    refine x_bipush (p2 := 5) rfl dX10_readText_3 ⟨by decide, ⟨by decide, by decide⟩⟩ ?_
    refine x_ic_ge (p2 := 8) (t := 21) (by decide) rfl dX10_readText_5 (fun hc5 => ?_) (fun hc5 => absurd hc5 (by omega))
    refine x_pick (L2 := [(0, _)]) [0] rfl ?_
    exact hq M1 g1
  | succ m ih =>
    intro k M1 h0 hm g1
    refine x_iload_n (p2 := 3) rfl dX10_readText_2 rfl ?_
    refine x_bipush (p2 := 5) rfl dX10_readText_3 ⟨by decide, ⟨by decide, by decide⟩⟩ ?_
    refine x_ic_ge (p2 := 8) (t := 21) (by decide) rfl dX10_readText_5 (fun hc5 => ?_) (fun hc5 => ?_)
    · exact absurd hc5 (by omega)
    refine x_aload_n (p2 := 9) rfl dX10_readText_8 rfl ?_
    refine x_getr (p2 := 12) (kz := 17) rfl dX10_readText_9 f_10_38 rfl rfl hD.sh hD.r17 ?_
    refine x_iload_n (p2 := 13) rfl dX10_readText_12 rfl ?_
    refine x_iconst (p2 := 14) rfl dX10_readText_13 ⟨by decide, by decide⟩ ?_
    refine x_iast (p2 := 15) rfl dX10_readText_14 hD.a17 (by omega) (by omega) ?_
    refine x_iinc (p2 := 18) (L2 := [(0, _), (1, _)]) rfl dX10_readText_15 rfl ⟨by omega, by omega⟩ ⟨rfl, Nat.le_of_ble_eq_true rfl⟩ rfl ?_
    refine x_goto (t := 2) (by decide) dX10_readText_18 ?_
    refine x_pick (L2 := [(0, _), (1, _)]) [0, 1] rfl ?_
    exact ih _ _ (by omega) (by omega) (fun c z => by rw [xu_c z]; exact g1 c z)
set_option maxHeartbeats 4000000 in
theorem t_rt1 {D : Nat} (hD : isMd σ ρ D) {tx : Int → Int} {ln n : Int} : ∀ (m : Nat) (b : Int) (M1 : Nat → Int → Int), rtx M1 D tx ln → (M1 D 14 = n ∧ 1 ≤ n ∧ n ≤ 8) → 0 ≤ b → b + m = n → M1 D 13 = bps tx b.toNat → (0 ≤ bps tx b.toNat ∧ bps tx b.toNat ≤ ln) → (∀ x, 0 ≤ x → x < b → cntR tx (M1 (D + 9)) (M1 (D + 10)) x (bps tx x.toNat)) → (∀ x, 0 ≤ x → x < b → tx (bps tx x.toNat + 1) - 48 ≤ 2) → ((rdk tx ln n m (bps tx b.toNat)).1 = true → (rdk tx ln n m (bps tx b.toNat)).2 = ln → ∀ M2, frR M1 M2 D → (∀ f, f ≠ 13 → M2 D f = M1 D f) → (∀ x, 0 ≤ x → x < n → cntR tx (M2 (D + 9)) (M2 (D + 10)) x (bps tx x.toNat)) → Q (some (xI (-9))) (σ, ρ, M2)) → (¬ ((rdk tx ln n m (bps tx b.toNat)).1 = true ∧ (rdk tx ln n m (bps tx b.toNat)).2 = ln) → ∀ M2, frR M1 M2 D → Q (some (xI (rdk tx ln n m (bps tx b.toNat)).2)) (σ, ρ, M2)) → xX G mX10_readText 0 0 95 [(0, xP D), (1, xI b)] [] (σ, ρ, M1) Q := by
  intro m
  induction m with
  | zero =>
    intro b M1 hT hn h0 hm h4 hp hE hX k1 k0
    unfold rdk at k1 k0
    refine x_iload_n (p2 := 96) rfl dX10_readText_95 rfl ?_
    refine x_aload_n (p2 := 97) rfl dX10_readText_96 rfl ?_
    refine x_geti (p2 := 100) (kz := 14) rfl dX10_readText_97 f_10_77 rfl rfl hD.sh ?_
    rw [hn.1]
    refine x_ic_ge (p2 := 103) (t := 122) (by decide) rfl dX10_readText_100 (fun hc100 => ?_) (fun hc100 => absurd hc100 (by omega))
    refine x_aload_n (p2 := 123) rfl dX10_readText_122 rfl ?_
    refine x_geti (p2 := 126) (kz := 13) rfl dX10_readText_123 f_10_70 rfl rfl hD.sh ?_
    rw [h4]
    refine x_aload_n (p2 := 127) rfl dX10_readText_126 rfl ?_
    refine x_geti (p2 := 130) (kz := 1) rfl dX10_readText_127 f_10_67 rfl rfl hD.sh ?_
    rw [hT.1]
    refine x_ic_ge (p2 := 133) (t := 140) (by decide) rfl dX10_readText_130 (fun hc130 => ?_) (fun hc130 => ?_)
    · skip
      refine x_bipush (p2 := 142) rfl dX10_readText_140 ⟨by decide, ⟨by decide, by decide⟩⟩ ?_
      refine x_iret dX10_readText_142 rfl ?_
      exact k1 rfl (by dsimp only; omega) M1 frR.rf (fun _ _ => rfl) (fun x a c => hE x a (by omega))
    · skip
      refine x_aload_n (p2 := 134) rfl dX10_readText_133 rfl ?_
      refine x_geti (p2 := 137) (kz := 13) rfl dX10_readText_134 f_10_70 rfl rfl hD.sh ?_
      rw [h4]
      refine x_goto (t := 142) (by decide) dX10_readText_137 ?_
      refine x_iret dX10_readText_142 rfl ?_
      exact k0 (fun z => by have := z.2; dsimp only at this; omega) M1 frR.rf
  | succ m ih =>
    intro b M1 hT hn h0 hm h4 hp hE hX k1 k0
    unfold rdk at k1 k0
    refine x_iload_n (p2 := 96) rfl dX10_readText_95 rfl ?_
    refine x_aload_n (p2 := 97) rfl dX10_readText_96 rfl ?_
    refine x_geti (p2 := 100) (kz := 14) rfl dX10_readText_97 f_10_77 rfl rfl hD.sh ?_
    rw [hn.1]
    refine x_ic_ge (p2 := 103) (t := 122) (by decide) rfl dX10_readText_100 (fun hc100 => ?_) (fun hc100 => ?_)
    · exact absurd hc100 (by omega)
    refine x_aload_n (p2 := 104) rfl dX10_readText_103 rfl ?_
    refine x_iload_n (p2 := 105) rfl dX10_readText_104 rfl ?_
    refine x_v1 (p2 := 108) rfl dX10_readText_105 l_10_91 ok_X10_readBlock rfl hD.sh rfl ?_
    refine t_X10_readBlock hD hT (p := bps tx b.toNat) ⟨h4, hp.1, hp.2⟩ hn (by omega) (fun hs M5 hf5 hg5 ha5 q9 q10 qy qe => ?_) (fun hs M5 hf5 ha5 => ?_)
    · skip
      refine x_if_ne (p2 := 111) (t := 116) (by decide) rfl dX10_readText_108 (fun _ => ?_) (fun hc => absurd hc (by decide))
      refine x_iinc (p2 := 119) (L2 := [(0, _), (1, _)]) rfl dX10_readText_116 rfl ⟨by omega, by omega⟩ ⟨rfl, Nat.le_of_ble_eq_true rfl⟩ rfl ?_
      refine x_goto (t := 95) (by decide) dX10_readText_119 ?_
      refine x_pick (L2 := [(0, _), (1, _)]) [0, 1] rfl ?_
      rw [if_pos hs] at k1 k0
      have hr := rdb_t hs
      have hpp := rdb_p (tx := tx) (n := n) hp.2
      have hb2 : bps tx (b + 1).toNat = (rdb tx ln n (bps tx b.toNat)).2 := by
        rw [hr.2.2.1, show (b + 1).toNat = b.toNat + 1 by omega]; rfl
      rw [← hb2] at k1 k0 hpp ha5
      have hx2 : tx (bps tx b.toNat + 1) - 48 ≤ 2 := by
        have := (of_decide_eq_true hr.2.1).2.2
        split at this <;> omega
      refine ih (b + 1) M5 (hT.mv hf5) ⟨(hg5 14 (by omega)).trans hn.1, hn.2⟩ (by omega) (by omega) ha5 ⟨by omega, hpp.2⟩ (fun x a c => ?_) (fun x a c => ?_) (fun z1 z2 M2 q1 q2 q3 => ?_) (fun z M2 q1 => ?_)
      · by_cases hx : x = b
        · subst hx
          exact ⟨by rw [q9, upf_s], q10, qe⟩
        · obtain ⟨c1, c2, c3⟩ := hE x a (by omega)
          have hx3 := hX x a (by omega)
          refine ⟨by rw [q9, upf_n hx]; exact c1, by rw [qy _ (by omega) (by omega) (by omega) (by omega) (by omega)]; exact c2, fun j j0 j1 => ?_⟩
          have := c3 j j0 j1
          unfold edR at this ⊢
          rw [qy _ (by omega) (by omega) (by omega) (by omega) (by omega), qy _ (by omega) (by omega) (by omega) (by omega) (by omega)]
          exact this
      · by_cases hx : x = b
        · subst hx; exact hx2
        · exact hX x a (by omega)
      · exact k1 z1 z2 M2 (hf5.tr q1) (fun f z => (q2 f z).trans (hg5 f z)) q3
      · exact k0 z M2 (hf5.tr q1)
    · skip
      refine x_if_ne (p2 := 111) (t := 116) (by decide) rfl dX10_readText_108 (fun hc => absurd hc (by decide)) (fun _ => ?_)
      refine x_aload_n (p2 := 112) rfl dX10_readText_111 rfl ?_
      refine x_geti (p2 := 115) (kz := 13) rfl dX10_readText_112 f_10_70 rfl rfl hD.sh ?_
      rw [ha5]
      refine x_iret dX10_readText_115 rfl ?_
      rw [if_neg hs] at k0
      exact k0 (fun z => by cases z.1) M5 hf5
end XMS
