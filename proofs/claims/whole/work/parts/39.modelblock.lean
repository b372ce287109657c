section XMQ
variable {G : xG} {σ : List (Nat × Nat)} {ρ : Nat → Int → Option Nat} {M : Nat → Int → Int} {Q : Option xV → xH → Prop}
def edR (tx r : Int → Int) (b p k : Int) : Prop := r (18 + 2 * b + k) = tx (p + 2 + 3 * k) - 48 ∧ r (34 + 2 * b + k) = 10 * (tx (p + 3 + 3 * k) - 48) + (tx (p + 4 + 3 * k) - 48)
set_option maxHeartbeats 4000000 in
theorem t_rb0 {D : Nat} (hD : isMd σ ρ D) {b e k : Int} (hq : Q (some (xI 0)) (σ, ρ, M)) : xX G mX10_readBlock 0 0 73 [(0, xP D), (1, xI b), (2, xI e), (3, xI 0), (4, xI k)] [] (σ, ρ, M) Q := by
  refine x_iload (p2 := 75) rfl dX10_readBlock_73 rfl ?_
  refine x_iload_n (p2 := 76) rfl dX10_readBlock_75 rfl ?_
  refine x_ic_ge (p2 := 79) (t := 97) (by decide) rfl dX10_readBlock_76 (fun hc76 => ?_) (fun hc76 => ?_)
  · skip
    refine x_iload_n (p2 := 98) rfl dX10_readBlock_97 rfl ?_
    refine x_zret dX10_readBlock_98 rfl (by omega) ?_
    exact hq
  · skip
    refine x_iload_n (p2 := 80) rfl dX10_readBlock_79 rfl ?_
    refine x_if_eq (p2 := 83) (t := 97) (by decide) rfl dX10_readBlock_80 (fun _ => ?_) (fun hc => absurd hc (by decide))
    refine x_iload_n (p2 := 98) rfl dX10_readBlock_97 rfl ?_
    refine x_zret dX10_readBlock_98 rfl (by omega) ?_
    exact hq
set_option maxHeartbeats 4000000 in
theorem t_rbR {D : Nat} (hD : isMd σ ρ D) {tx : Int → Int} {ln n b e p : Int} (hb : 0 ≤ b ∧ b < 8) (he : e ≤ 2) : ∀ (m : Nat) (k : Int) (M1 : Nat → Int → Int), rtx M1 D tx ln → (M1 D 14 = n ∧ 1 ≤ n ∧ n ≤ 8) → (0 ≤ M1 D 13 ∧ M1 D 13 ≤ ln) → 0 ≤ k → k + m = e → M1 D 13 = p + 2 + 3 * k → (∀ j, 0 ≤ j → j < k → edR tx (M1 (D + 10)) b p j) → ((rdl tx ln n m k (M1 D 13)).1 = true → ∀ M2, frR M1 M2 D → (∀ c, c ≠ D → c ≠ D + 10 → M2 c = M1 c) → (∀ f, f ≠ 13 → M2 D f = M1 D f) → M2 D 13 = (rdl tx ln n m k (M1 D 13)).2 → (∀ y, y ≠ 18 + 2 * b → y ≠ 18 + 2 * b + 1 → y ≠ 34 + 2 * b → y ≠ 34 + 2 * b + 1 → M2 (D + 10) y = M1 (D + 10) y) → (∀ j, 0 ≤ j → j < e → edR tx (M2 (D + 10)) b p j) → Q (some (xI 1)) (σ, ρ, M2)) → (¬ (rdl tx ln n m k (M1 D 13)).1 = true → ∀ M2, frR M1 M2 D → M2 D 13 = (rdl tx ln n m k (M1 D 13)).2 → Q (some (xI 0)) (σ, ρ, M2)) → xX G mX10_readBlock 0 0 73 [(0, xP D), (1, xI b), (2, xI e), (3, xI 1), (4, xI k)] [] (σ, ρ, M1) Q := by
  intro m
  induction m with
  | zero =>
    intro k M1 hT hn hp h0 hk h4 hE k1 k0
    refine x_iload (p2 := 75) rfl dX10_readBlock_73 rfl ?_
    refine x_iload_n (p2 := 76) rfl dX10_readBlock_75 rfl ?_
    refine x_ic_ge (p2 := 79) (t := 97) (by decide) rfl dX10_readBlock_76 (fun hc76 => ?_) (fun hc76 => absurd hc76 (by omega))
    refine x_iload_n (p2 := 98) rfl dX10_readBlock_97 rfl ?_
    refine x_zret dX10_readBlock_98 rfl (by omega) ?_
    exact k1 rfl M1 frR.rf (fun _ _ _ => rfl) (fun _ _ => rfl) rfl (fun _ _ _ _ _ => rfl) (fun j a c => hE j a (by omega))
  | succ m ih =>
    intro k M1 hT hn hp h0 hk h4 hE k1 k0
    unfold rdl at k1 k0
    refine x_iload (p2 := 75) rfl dX10_readBlock_73 rfl ?_
    refine x_iload_n (p2 := 76) rfl dX10_readBlock_75 rfl ?_
    refine x_ic_ge (p2 := 79) (t := 97) (by decide) rfl dX10_readBlock_76 (fun hc76 => ?_) (fun hc76 => ?_)
    · exact absurd hc76 (by omega)
    refine x_iload_n (p2 := 80) rfl dX10_readBlock_79 rfl ?_
    refine x_if_eq (p2 := 83) (t := 97) (by decide) rfl dX10_readBlock_80 (fun hc => absurd hc (by decide)) (fun _ => ?_)
    refine x_aload_n (p2 := 84) rfl dX10_readBlock_83 rfl ?_
    refine x_iload_n (p2 := 85) rfl dX10_readBlock_84 rfl ?_
    refine x_iload (p2 := 87) rfl dX10_readBlock_85 rfl ?_
    refine x_v2 (p2 := 90) rfl dX10_readBlock_87 l_10_84 ok_X10_readSuccessor rfl hD.sh rfl ?_
    refine t_X10_readSuccessor hD hT (p := M1 D 13) ⟨rfl, hp.1, hp.2⟩ hn hb (by omega) (fun hk1 => by
      have := (hE 0 (by omega) (by omega)).1
      rw [show 18 + 2 * b + 0 = 18 + 2 * b by omega] at this
      rw [this, h4]
      congr 2; omega) (fun hs87 M5 hf5 hc5 hg5 ha5 hr5 => ?_) (fun hs87 M5 hf5 ha5 => ?_)
    · skip
      refine x_istore_n (p2 := 91) (i := 3) (L2 := [(0, _), (1, _), (2, _), (3, _), (4, _)]) rfl dX10_readBlock_90 rfl ⟨rfl, Nat.le_of_ble_eq_true rfl⟩ rfl ?_
      refine x_iinc (p2 := 94) (L2 := [(0, _), (1, _), (2, _), (3, _), (4, _)]) rfl dX10_readBlock_91 rfl ⟨by omega, by omega⟩ ⟨rfl, Nat.le_of_ble_eq_true rfl⟩ rfl ?_
      refine x_goto (t := 73) (by decide) dX10_readBlock_94 ?_
      refine x_pick (L2 := [(0, _), (1, _), (2, _), (3, _), (4, _)]) [0, 1, 2, 3, 4] rfl ?_
      rw [if_pos hs87] at k1 k0
      have hr := rde_t hs87
      have hpp := rde_p (tx := tx) (n := n) (k := k) hp.2
      refine ih (k + 1) M5 (hT.mv hf5) ⟨by rw [hg5 14 (by omega)]; exact hn.1, hn.2⟩ (by rw [ha5]; exact ⟨by omega, hpp.2⟩) (by omega) (by omega) (by rw [ha5, hr.2.2.2.2]; omega) (fun j a c => ?_) (fun z M2 q1 q2 q3 q4 q5 q6 => ?_) (fun z M2 q1 q2 => ?_)
      · rw [hr5]
        unfold edR
        by_cases hj : j = k
        · subst hj
          rw [upf_n (by omega), upf_s, upf_s, h4, show p + 2 + 3 * j + 1 = p + 3 + 3 * j by omega, show p + 2 + 3 * j + 2 = p + 4 + 3 * j by omega]
          exact ⟨rfl, rfl⟩
        · have := hE j a (by omega)
          unfold edR at this
          rw [upf_n (by omega), upf_n (by omega), upf_n (by omega), upf_n (by omega)]
          exact this
      · rw [ha5] at z q4
        refine k1 z M2 (hf5.tr q1) (fun c z1 z2 => (q2 c z1 z2).trans (hc5 c z1 z2)) (fun f z => (q3 f z).trans (hg5 f z)) q4 (fun y z1 z2 z3 z4 => ?_) q6
        rw [q5 y z1 z2 z3 z4, hr5, upf_n (by omega), upf_n (by omega)]
      · rw [ha5] at z q2
        exact k0 z M2 (hf5.tr q1) q2
    · skip
      refine x_istore_n (p2 := 91) (i := 3) (L2 := [(0, _), (1, _), (2, _), (3, _), (4, _)]) rfl dX10_readBlock_90 rfl ⟨rfl, Nat.le_of_ble_eq_true rfl⟩ rfl ?_
      refine x_iinc (p2 := 94) (L2 := [(0, _), (1, _), (2, _), (3, _), (4, _)]) rfl dX10_readBlock_91 rfl ⟨by omega, by omega⟩ ⟨rfl, Nat.le_of_ble_eq_true rfl⟩ rfl ?_
      refine x_goto (t := 73) (by decide) dX10_readBlock_94 ?_
      refine x_pick (L2 := [(0, _), (1, _), (2, _), (3, _), (4, _)]) [0, 1, 2, 3, 4] rfl ?_
      rw [if_neg hs87] at k0
      exact t_rb0 hD (k0 (fun z => by cases z) M5 hf5 ha5)
end XMQ
