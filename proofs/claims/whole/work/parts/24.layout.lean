section XBM
variable {G : xG} {σ : List (Nat × Nat)} {ρ : Nat → Int → Option Nat} {M : Nat → Int → Int} {Q : Option xV → xH → Prop}
def bv1 (a : Int) : Int := a - xiand (xiushr a 1) 1431655765
def bv2 (a : Int) : Int := xiand (bv1 a) 858993459 + xiand (xiushr (bv1 a) 2) 858993459
def bv3 (a : Int) : Int := xiand (bv2 a + xiushr (bv2 a) 4) 252645135
def bv4 (a : Int) : Int := bv3 a + xiushr (bv3 a) 8
def bv5 (a : Int) : Int := bv4 a + xiushr (bv4 a) 16
def bvr (a : Int) : Int := xiand (bv5 a) 63
theorem bv_tab : ∀ a, a < 17 → ((0 ≤ bv1 (a : Nat) ∧ bv1 (a : Nat) ≤ 1000) ∧ (0 ≤ bv2 (a : Nat) ∧ bv2 (a : Nat) ≤ 1000) ∧ (0 ≤ bv2 (a : Nat) + xiushr (bv2 (a : Nat)) 4 ∧ bv2 (a : Nat) + xiushr (bv2 (a : Nat)) 4 ≤ 1000) ∧ (0 ≤ bv4 (a : Nat) ∧ bv4 (a : Nat) ≤ 1000) ∧ (0 ≤ bv5 (a : Nat) ∧ bv5 (a : Nat) ≤ 1000)) ∧ (bvr (a : Nat) = 1 ↔ (a = 1 ∨ a = 2 ∨ a = 4 ∨ a = 8 ∨ a = 16)) := by decide +kernel
theorem rdk_t {tx : Int → Int} {ln n : Int} : ∀ (m b : Nat), (rdk tx ln n m (bps tx b)).1 = true → ∀ j, j < m → (rdb tx ln n (bps tx (b + j))).1 = true
  | 0, b, _, j, h => absurd h (Nat.not_lt_zero j)
  | m + 1, b, h, j, hj => by
    unfold rdk at h
    by_cases h1 : (rdb tx ln n (bps tx b)).1 = true
    · rw [if_pos h1, (rdb_t h1).2.2.1] at h
      cases j with
      | zero => exact h1
      | succ j =>
        rw [show b + (j + 1) = (b + 1) + j by omega]
        exact rdk_t m (b + 1) h j (by omega)
    · rw [if_neg h1] at h; cases h
theorem prs_t {tx : Int → Int} {ln : Int} (h : (prs tx ln).1 = true) : (1 ≤ tx 1 - 48 ∧ tx 1 - 48 ≤ 8) ∧ (0 ≤ tx 2 - 48 ∧ tx 2 - 48 ≤ 9) ∧ (0 ≤ tx 3 - 48 ∧ tx 3 - 48 ≤ 9) ∧ ∀ x : Nat, (x : Int) < tx 1 - 48 → (rdb tx ln (tx 1 - 48) (bps tx x)).1 = true := by
  unfold prs at h
  by_cases h1 : (rdh tx ln).1 = true
  · rw [if_pos h1] at h
    obtain ⟨a, b, c, d⟩ := rdh_t h1
    rw [d] at h
    have b := of_decide_eq_true b
    have c1 := of_decide_eq_true (rdc_t c).1
    have c2 := of_decide_eq_true (rdc_t c).2.1
    rw [show (2 : Int) + 1 = 3 by omega] at c2
    refine ⟨⟨by omega, by omega⟩, ⟨by omega, by omega⟩, ⟨by omega, by omega⟩, fun x hx => ?_⟩
    have := rdk_t (tx := tx) (ln := ln) (n := tx 1 - 48) _ 0 h x (by omega)
    rwa [Nat.zero_add] at this
  · rw [if_neg h1] at h; cases h
theorem ld_x {tx : Int → Int} {ln n : Int} (h : ∀ x : Nat, (x : Int) < n → (rdb tx ln n (bps tx x)).1 = true) {x : Int} (h0 : 0 ≤ x) (h1 : x < n) : 0 ≤ tx (bps tx x.toNat + 1) - 48 ∧ tx (bps tx x.toNat + 1) - 48 ≤ 2 ∧ tx (bps tx x.toNat + 1) - 48 ≤ n ∧ 0 ≤ tx (bps tx x.toNat) - 48 ∧ tx (bps tx x.toNat) - 48 ≤ 9 := by
  obtain ⟨a, b, c, d⟩ := rdb_t (h x.toNat (by omega))
  have a := of_decide_eq_true a
  have b := of_decide_eq_true b
  refine ⟨by omega, ?_, ?_, by omega, by omega⟩
  · have := b.2.2; split at this <;> omega
  · have := b.2.2; split at this <;> omega
theorem ld_wf {tx byt ex tg ct : Int → Int} {ln n : Int} (hn : 1 ≤ n ∧ n ≤ 8) (h : ∀ x : Nat, (x : Int) < n → (rdb tx ln n (bps tx x)).1 = true) (hc : ∀ x, 0 ≤ x → x < n → cnt tx byt ex tg ct x (bps tx x.toNat)) : wfG n ex tg ct := by
  refine ⟨hn.1, hn.2, fun b b0 b1 => ?_⟩
  obtain ⟨c1, c2, c3⟩ := hc b b0 b1
  have hx := ld_x h b0 b1
  obtain ⟨-, -, -, d⟩ := rdb_t (h b.toNat (by omega))
  rw [← c2] at hx d
  have ed : ∀ k, 0 ≤ k → k < ex b → (rde tx ln n k (bps tx b.toNat + 2 + 3 * k)).1 = true := fun k k0 k1 => by
    have := d k.toNat (by omega)
    rwa [show ((k.toNat : Nat) : Int) = k by omega] at this
  refine ⟨hx.1, hx.2.1, fun k k0 k1 => ?_, fun z => ?_⟩
  · obtain ⟨e1, e2, e3, e4, -⟩ := rde_t (ed k k0 k1)
    obtain ⟨f1, f2⟩ := c3 k k0 k1
    have e1 := of_decide_eq_true e1
    have e3 := of_decide_eq_true e3
    have e4 := of_decide_eq_true e4
    rw [show bps tx b.toNat + 2 + 3 * k + 1 = bps tx b.toNat + 3 + 3 * k by omega] at e3
    rw [show bps tx b.toNat + 2 + 3 * k + 2 = bps tx b.toNat + 4 + 3 * k by omega] at e4
    rw [f1, f2]
    omega
  · obtain ⟨-, e2, -, -, -⟩ := rde_t (ed 1 (by omega) (by omega))
    rw [(c3 0 (by omega) (by omega)).1, (c3 1 (by omega) (by omega)).1]
    rw [show bps tx b.toNat + 2 + 3 * 1 - 3 = bps tx b.toNat + 2 + 3 * 0 by omega] at e2
    intro y
    exact e2 ⟨rfl, by omega⟩
theorem wfO_id {n : Int} {od : Int → Int} (hn : 1 ≤ n ∧ n ≤ 8) (h : ∀ j, 0 ≤ j → j < 8 → od j = j) : wfO n od n := by
  refine ⟨fun i a b => ?_, fun i j a b c d e => ?_, h 0 (by omega) (by omega), hn.1, Int.le_refl _⟩
  · rw [h i a (by omega)]; exact ⟨a, b⟩
  · rw [h i a (by omega), h j c (by omega)] at e; exact e
set_option maxHeartbeats 4000000 in
theorem t_J6_bitCount {x : Int} (hx : 0 ≤ x ∧ x ≤ 16) (hq : Q (some (xI (bvr x))) (σ, ρ, M)) : xX G mJ6_bitCount_0f7a4 0 0 0 [(0, xI x)] [] (σ, ρ, M) Q := by
  obtain ⟨⟨z1, z2, z3, z4, z5⟩, -⟩ := bv_tab x.toNat (by omega)
  rw [show ((x.toNat : Nat) : Int) = x by omega] at z1 z2 z3 z4 z5
  refine x_iload_n (p2 := 1) rfl dJ6_bitCount_0f7a4_0 rfl ?_
  refine x_iload_n (p2 := 2) rfl dJ6_bitCount_0f7a4_1 rfl ?_
  refine x_iconst (p2 := 3) rfl dJ6_bitCount_0f7a4_2 ⟨by decide, by decide⟩ ?_
  refine x_iushr (p2 := 4) rfl dJ6_bitCount_0f7a4_3 ?_
  refine x_ldcw (p2 := 7) rfl dJ6_bitCount_0f7a4_4 q_12_265 ?_
  refine x_iand (p2 := 8) rfl dJ6_bitCount_0f7a4_7 ?_
  refine x_isub (p2 := 9) rfl dJ6_bitCount_0f7a4_8 ⟨by unfold bv1 at z1; omega, by unfold bv1 at z1; omega⟩ ?_
  rw [show x - xiand (xiushr x 1) 1431655765 = bv1 x from rfl]
  refine x_istore_n (p2 := 10) (i := 0) (L2 := [(0, _)]) rfl dJ6_bitCount_0f7a4_9 rfl ⟨rfl, Nat.le_of_ble_eq_true rfl⟩ rfl ?_
  refine x_iload_n (p2 := 11) rfl dJ6_bitCount_0f7a4_10 rfl ?_
  refine x_ldcw (p2 := 14) rfl dJ6_bitCount_0f7a4_11 q_12_266 ?_
  refine x_iand (p2 := 15) rfl dJ6_bitCount_0f7a4_14 ?_
  refine x_iload_n (p2 := 16) rfl dJ6_bitCount_0f7a4_15 rfl ?_
  refine x_iconst (p2 := 17) rfl dJ6_bitCount_0f7a4_16 ⟨by decide, by decide⟩ ?_
  refine x_iushr (p2 := 18) rfl dJ6_bitCount_0f7a4_17 ?_
  refine x_ldcw (p2 := 21) rfl dJ6_bitCount_0f7a4_18 q_12_266 ?_
  refine x_iand (p2 := 22) rfl dJ6_bitCount_0f7a4_21 ?_
  refine x_iadd (p2 := 23) rfl dJ6_bitCount_0f7a4_22 ⟨by unfold bv2 at z2; omega, by unfold bv2 at z2; omega⟩ ?_
  rw [show xiand (bv1 x) 858993459 + xiand (xiushr (bv1 x) 2) 858993459 = bv2 x from rfl]
  refine x_istore_n (p2 := 24) (i := 0) (L2 := [(0, _)]) rfl dJ6_bitCount_0f7a4_23 rfl ⟨rfl, Nat.le_of_ble_eq_true rfl⟩ rfl ?_
  refine x_iload_n (p2 := 25) rfl dJ6_bitCount_0f7a4_24 rfl ?_
  refine x_iload_n (p2 := 26) rfl dJ6_bitCount_0f7a4_25 rfl ?_
  refine x_iconst (p2 := 27) rfl dJ6_bitCount_0f7a4_26 ⟨by decide, by decide⟩ ?_
  refine x_iushr (p2 := 28) rfl dJ6_bitCount_0f7a4_27 ?_
  refine x_iadd (p2 := 29) rfl dJ6_bitCount_0f7a4_28 ⟨by omega, by omega⟩ ?_
  refine x_ldcw (p2 := 32) rfl dJ6_bitCount_0f7a4_29 q_12_267 ?_
  refine x_iand (p2 := 33) rfl dJ6_bitCount_0f7a4_32 ?_
  rw [show xiand (bv2 x + xiushr (bv2 x) 4) 252645135 = bv3 x from rfl]
  refine x_istore_n (p2 := 34) (i := 0) (L2 := [(0, _)]) rfl dJ6_bitCount_0f7a4_33 rfl ⟨rfl, Nat.le_of_ble_eq_true rfl⟩ rfl ?_
  refine x_iload_n (p2 := 35) rfl dJ6_bitCount_0f7a4_34 rfl ?_
  refine x_iload_n (p2 := 36) rfl dJ6_bitCount_0f7a4_35 rfl ?_
  refine x_bipush (p2 := 38) rfl dJ6_bitCount_0f7a4_36 ⟨by decide, ⟨by decide, by decide⟩⟩ ?_
  refine x_iushr (p2 := 39) rfl dJ6_bitCount_0f7a4_38 ?_
  refine x_iadd (p2 := 40) rfl dJ6_bitCount_0f7a4_39 ⟨by unfold bv4 at z4; omega, by unfold bv4 at z4; omega⟩ ?_
  rw [show bv3 x + xiushr (bv3 x) 8 = bv4 x from rfl]
  refine x_istore_n (p2 := 41) (i := 0) (L2 := [(0, _)]) rfl dJ6_bitCount_0f7a4_40 rfl ⟨rfl, Nat.le_of_ble_eq_true rfl⟩ rfl ?_
  refine x_iload_n (p2 := 42) rfl dJ6_bitCount_0f7a4_41 rfl ?_
  refine x_iload_n (p2 := 43) rfl dJ6_bitCount_0f7a4_42 rfl ?_
  refine x_bipush (p2 := 45) rfl dJ6_bitCount_0f7a4_43 ⟨by decide, ⟨by decide, by decide⟩⟩ ?_
  refine x_iushr (p2 := 46) rfl dJ6_bitCount_0f7a4_45 ?_
  refine x_iadd (p2 := 47) rfl dJ6_bitCount_0f7a4_46 ⟨by unfold bv5 at z5; omega, by unfold bv5 at z5; omega⟩ ?_
  rw [show bv4 x + xiushr (bv4 x) 16 = bv5 x from rfl]
  refine x_istore_n (p2 := 48) (i := 0) (L2 := [(0, _)]) rfl dJ6_bitCount_0f7a4_47 rfl ⟨rfl, Nat.le_of_ble_eq_true rfl⟩ rfl ?_
  refine x_iload_n (p2 := 49) rfl dJ6_bitCount_0f7a4_48 rfl ?_
  refine x_bipush (p2 := 51) rfl dJ6_bitCount_0f7a4_49 ⟨by decide, ⟨by decide, by decide⟩⟩ ?_
  refine x_iand (p2 := 52) rfl dJ6_bitCount_0f7a4_51 ?_
  refine x_iret dJ6_bitCount_0f7a4_52 rfl ?_
  exact hq
set_option maxHeartbeats 4000000 in
theorem t_X9_setAlignment {B F S T V Z H X C P : Nat} (hB : isBL σ ρ B F S T V Z H X C P) (hI : clI M F S V Z H X) {x : Int} (k2 : ¬ (x = 1 ∨ x = 2 ∨ x = 4 ∨ x = 8 ∨ x = 16) → Q (some (xI (-2))) (σ, ρ, M)) (hq : (x = 1 ∨ x = 2 ∨ x = 4 ∨ x = 8 ∨ x = 16) → ∀ M2, ca M M2 S H C P (M (S + 1), M (S + 2), M (S + 3), M (S + 4), M S 5, x) → Q (some (xI (M S 6))) (σ, ρ, M2)) : xX G mX9_setAlignment 0 0 0 [(0, xP B), (1, xI x)] [] (σ, ρ, M) Q := by
  have hl := hB.lt
  obtain ⟨hW, hho, hhh, hhs, hzs, htx⟩ := id hI
  have hG : wfG (M F 0) (M (S + 1)) (M (S + 2)) (M (S + 3)) := hW.1
  have hO : wfO (M F 0) (M (S + 4)) (M S 5) := hW.2.1
  have he := hW.2.2.2.1
  have h8 := hG.2.1
  have hrg : H + 2 ≤ rg H ((M H 1 + M H 2) % 14) ∧ rg H ((M H 1 + M H 2) % 14) + 4 ≤ H + 71 := by unfold rg; omega
  refine x_iload_n (p2 := 1) rfl dX9_setAlignment_0 rfl ?_
  refine x_iconst (p2 := 2) rfl dX9_setAlignment_1 ⟨by decide, by decide⟩ ?_
  refine x_ic_lt (p2 := 5) (t := 19) (by decide) rfl dX9_setAlignment_2 (fun hc2 => ?_) (fun hc2 => ?_)
  · skip
    refine x_bipush (p2 := 21) rfl dX9_setAlignment_19 ⟨by decide, ⟨by decide, by decide⟩⟩ ?_
    refine x_iret dX9_setAlignment_21 rfl ?_
    first
      | exact k2 (by omega)
      | (refine k2 (fun z => hc16 (hbc.2 ?_))
         omega)
  · skip
    refine x_iload_n (p2 := 6) rfl dX9_setAlignment_5 rfl ?_
    refine x_bipush (p2 := 8) rfl dX9_setAlignment_6 ⟨by decide, ⟨by decide, by decide⟩⟩ ?_
    refine x_ic_gt (p2 := 11) (t := 19) (by decide) rfl dX9_setAlignment_8 (fun hc8 => ?_) (fun hc8 => ?_)
    · skip
      refine x_bipush (p2 := 21) rfl dX9_setAlignment_19 ⟨by decide, ⟨by decide, by decide⟩⟩ ?_
      refine x_iret dX9_setAlignment_21 rfl ?_
      first
        | exact k2 (by omega)
        | (refine k2 (fun z => hc16 (hbc.2 ?_))
           omega)
    · skip
      refine x_iload_n (p2 := 12) rfl dX9_setAlignment_11 rfl ?_
      refine x_s1 (p2 := 15) rfl dX9_setAlignment_12 l_9_194 ok_J6_bitCount_0f7a4 rfl rfl ?_
      refine t_J6_bitCount (by omega) ?_
      have hbc := (bv_tab x.toNat (by omega)).2
      rw [show ((x.toNat : Nat) : Int) = x by omega] at hbc
      refine x_iconst (p2 := 16) rfl dX9_setAlignment_15 ⟨by decide, by decide⟩ ?_
      refine x_ic_eq (p2 := 19) (t := 22) (by decide) rfl dX9_setAlignment_16 (fun hc16 => ?_) (fun hc16 => ?_)
      · skip
        refine x_aload_n (p2 := 23) rfl dX9_setAlignment_22 rfl ?_
        refine x_getr (p2 := 26) (kz := 5) rfl dX9_setAlignment_23 f_9_39 rfl rfl hB.sh hB.r5 ?_
        refine x_aload_n (p2 := 27) rfl dX9_setAlignment_26 rfl ?_
        refine x_getr (p2 := 30) (kz := 1) rfl dX9_setAlignment_27 f_9_21 rfl rfl hB.sh hB.r1 ?_
        refine x_v1 (p2 := 33) rfl dX9_setAlignment_30 l_9_164 ok_X2_remember rfl hB.h.sh rfl ?_
        refine t_X2_remember hB.h hB.s (by omega) hho hhh (fun M30 hf30 hs30 h130 h230 => ?_)
        have hvs : vw M30 S = vw M S := vw_c (fun c z1 z2 => hf30 c (by omega) (by omega))
        have hF : M30 F = M F := hf30 F (by omega) (by omega)
        have hF1 : M30 (F + 1) = M (F + 1) := hf30 (F + 1) (by omega) (by omega)
        have e1 : M30 (S + 1) = M (S + 1) := hf30 _ (by omega) (by omega)
        have e2 : M30 (S + 2) = M (S + 2) := hf30 _ (by omega) (by omega)
        have e3 : M30 (S + 3) = M (S + 3) := hf30 _ (by omega) (by omega)
        have e4 : M30 (S + 4) = M (S + 4) := hf30 _ (by omega) (by omega)
        have e0 : M30 S = M S := hf30 _ (by omega) (by omega)
        refine x_aload_n (p2 := 34) rfl dX9_setAlignment_33 rfl ?_
        refine x_getr (p2 := 37) (kz := 1) rfl dX9_setAlignment_34 f_9_21 rfl rfl hB.sh hB.r1 ?_
        refine x_geti (p2 := 40) (kz := 6) rfl dX9_setAlignment_37 f_9_199 rfl rfl hB.s.sh ?_
        rw [e0]
        refine x_istore_n (p2 := 41) (i := 2) (L2 := [(0, _), (1, _), (2, _)]) rfl dX9_setAlignment_40 rfl ⟨rfl, Nat.le_of_ble_eq_true rfl⟩ rfl ?_
        refine x_aload_n (p2 := 42) rfl dX9_setAlignment_41 rfl ?_
        refine x_getr (p2 := 45) (kz := 1) rfl dX9_setAlignment_42 f_9_21 rfl rfl hB.sh hB.r1 ?_
        refine x_iload_n (p2 := 46) rfl dX9_setAlignment_45 rfl ?_
        refine x_puti (p2 := 49) (kz := 6) rfl dX9_setAlignment_46 f_9_199 rfl rfl rfl hB.s.sh ?_
        refine x_iload_n (p2 := 50) rfl dX9_setAlignment_49 rfl ?_
        refine x_iret dX9_setAlignment_50 rfl ?_
        refine hq (by have := hbc.1 hc16; omega) _ (ca.mk hf30 hs30 h130 h230 (by omega) (fun c z1 z2 => xu_c (by omega)) ?_)
        unfold vw
        rw [xu_c (show S + 1 ≠ S by omega), xu_c (show S + 2 ≠ S by omega), xu_c (show S + 3 ≠ S by omega), xu_c (show S + 4 ≠ S by omega), xu_s, xu_j (show (5 : Int) ≠ 6 by omega), e1, e2, e3, e4, e0]
      · skip
        refine x_bipush (p2 := 21) rfl dX9_setAlignment_19 ⟨by decide, ⟨by decide, by decide⟩⟩ ?_
        refine x_iret dX9_setAlignment_21 rfl ?_
        first
          | exact k2 (by omega)
          | (refine k2 (fun z => hc16 (hbc.2 ?_))
             omega)
set_option maxHeartbeats 4000000 in
theorem t_X9_undo {B F S T V Z H X C P : Nat} (hB : isBL σ ρ B F S T V Z H X C P) (hI : clI M F S V Z H X) (k3 : M H 2 = 0 → Q (some (xI (-3))) (σ, ρ, M)) (k0 : 0 < M H 2 → ∀ M2, (∀ c, c ≠ H → (c < S ∨ S + 4 < c) → M2 c = M c) → sq M2 S M (rg H ((M H 1 + M H 2 - 1) % 14)) → M2 H 1 = M H 1 → M2 H 2 = M H 2 - 1 → Q (some (xI (M H 2 - 1))) (σ, ρ, M2)) : xX G mX9_undo 0 0 0 [(0, xP B)] [] (σ, ρ, M) Q := by
  have hl := hB.lt
  obtain ⟨hW, hho, hhh, hhs, hzs, htx⟩ := id hI
  have hG : wfG (M F 0) (M (S + 1)) (M (S + 2)) (M (S + 3)) := hW.1
  have hO : wfO (M F 0) (M (S + 4)) (M S 5) := hW.2.1
  have he := hW.2.2.2.1
  have h8 := hG.2.1
  have hrg : H + 2 ≤ rg H ((M H 1 + M H 2) % 14) ∧ rg H ((M H 1 + M H 2) % 14) + 4 ≤ H + 71 := by unfold rg; omega
  refine x_aload_n (p2 := 1) rfl dX9_undo_0 rfl ?_
  refine x_getr (p2 := 4) (kz := 5) rfl dX9_undo_1 f_9_39 rfl rfl hB.sh hB.r5 ?_
  refine x_aload_n (p2 := 5) rfl dX9_undo_4 rfl ?_
  refine x_getr (p2 := 8) (kz := 1) rfl dX9_undo_5 f_9_21 rfl rfl hB.sh hB.r1 ?_
  refine x_v1 (p2 := 11) rfl dX9_undo_8 l_9_202 ok_X2_takeBack rfl hB.h.sh rfl ?_
  refine t_X2_takeBack hB.h hB.s (by omega) hho hhh (fun hb => ?_) (fun hb M2 q1 q2 q3 q4 => ?_)
  · skip
    refine x_iret dX9_undo_11 rfl ?_
    exact k3 hb
  · skip
    refine x_iret dX9_undo_11 rfl ?_
    exact k0 hb M2 q1 q2 q3 q4
theorem wfV_q {n en : Int} {byt : Int → Int} {M1 M2 : Nat → Int → Int} {S T : Nat} (h : sq M2 T M1 S) (hW : wfV n en byt (vw M1 S)) : wfV n en byt (vw M2 T) := by
  obtain ⟨a1, a2, a3, a4, a5, a6⟩ := h
  obtain ⟨⟨g1, g2, g3⟩, ⟨o1, o2, o3, o4, o5⟩, al, en, by1⟩ := hW
  dsimp only at g3 o1 o2 o3 o4 o5 al
  refine ⟨⟨g1, g2, fun b b0 b1 => ?_⟩, ⟨fun i i0 i1 => ?_, fun i j i0 i1 j0 j1 e => ?_, ?_, ?_, ?_⟩, ?_, en, by1⟩
  · obtain ⟨w1, w2, w3, w4⟩ := g3 b b0 b1
    unfold wfB
    dsimp only
    rw [a1 b b0 (by omega)]
    refine ⟨w1, w2, fun k k0 k1 => ?_, fun z => ?_⟩
    · rw [a2 (2 * b + k) (by omega) (by omega), a3 (2 * b + k) (by omega) (by omega)]; exact w3 k k0 k1
    · rw [a2 (2 * b + 0) (by omega) (by omega), a2 (2 * b + 1) (by omega) (by omega)]; exact w4 z
  · dsimp only; rw [a4 i i0 (by omega)]; exact o1 i i0 i1
  · dsimp only at e; rw [a4 i i0 (by omega), a4 j j0 (by omega)] at e; exact o2 i j i0 i1 j0 j1 e
  · dsimp only; rw [a4 0 (by omega) (by omega)]; exact o3
  · dsimp only; rw [a5]; exact o4
  · dsimp only; rw [a5]; exact o5
  · dsimp only; rw [a6]; exact al
set_option maxHeartbeats 4000000 in
theorem t_X9_runScript {B F S T V Z H X C P : Nat} (hB : isBL σ ρ B F S T V Z H X C P) (hI : clI M F S V Z H X) {k s : Int} (k2 : ¬ (1 ≤ k ∧ k ≤ 4 ∧ 0 ≤ s ∧ wdl k.toNat s = 0) → Q (some (xI (-2))) (σ, ρ, M)) (hq : (1 ≤ k ∧ k ≤ 4 ∧ 0 ≤ s ∧ wdl k.toNat s = 0) → ∀ M1 M2, sq M1 T M S → cq M M2 T X C P → Q (some (xI (ffl (M F 0) (M F 1) (M (F + 1)) k s k.toNat 0 (vw M1 T)))) (σ, ρ, M2)) : xX G mX9_runScript 0 0 0 [(0, xP B), (1, xI k), (2, xL s)] [] (σ, ρ, M) Q := by
  have hl := hB.lt
  obtain ⟨hW, hho, hhh, hhs, hzs, htx⟩ := id hI
  have hG : wfG (M F 0) (M (S + 1)) (M (S + 2)) (M (S + 3)) := hW.1
  have hO : wfO (M F 0) (M (S + 4)) (M S 5) := hW.2.1
  have he := hW.2.2.2.1
  have h8 := hG.2.1
  have hrg : H + 2 ≤ rg H ((M H 1 + M H 2) % 14) ∧ rg H ((M H 1 + M H 2) % 14) + 4 ≤ H + 71 := by unfold rg; omega
  refine x_iload_n (p2 := 1) rfl dX9_runScript_0 rfl ?_
  refine x_lload_n (p2 := 2) rfl dX9_runScript_1 rfl ?_
  refine x_s2 (p2 := 5) rfl dX9_runScript_2 l_9_205 ok_X5_isWellFormed rfl rfl ?_
  refine t_X5_isWellFormed (fun hb2 => ?_) (fun hb2 => ?_)
  · skip
    refine x_if_ne (p2 := 8) (t := 11) (by decide) rfl dX9_runScript_5 (fun _ => ?_) (fun hc => absurd hc (by decide))
    refine x_aload_n (p2 := 12) rfl dX9_runScript_11 rfl ?_
    refine x_getr (p2 := 15) (kz := 2) rfl dX9_runScript_12 f_9_25 rfl rfl hB.sh hB.r2 ?_
    refine x_aload_n (p2 := 16) rfl dX9_runScript_15 rfl ?_
    refine x_getr (p2 := 19) (kz := 1) rfl dX9_runScript_16 f_9_21 rfl rfl hB.sh hB.r1 ?_
    refine x_v1 (p2 := 22) rfl dX9_runScript_19 l_9_84 ok_X7_copyFrom rfl hB.t.sh rfl ?_
    refine t_X7_copyFrom hB.t hB.s (by omega) (fun M19 hM19 => ?_)
    refine x_aload_n (p2 := 23) rfl dX9_runScript_22 rfl ?_
    refine x_getr (p2 := 26) (kz := 2) rfl dX9_runScript_23 f_9_25 rfl rfl hB.sh hB.r2 ?_
    refine x_iload_n (p2 := 27) rfl dX9_runScript_26 rfl ?_
    refine x_lload_n (p2 := 28) rfl dX9_runScript_27 rfl ?_
    refine x_s3 (p2 := 31) rfl dX9_runScript_28 l_9_211 ok_X5_firstFailure rfl rfl ?_
    have hF : M19 F = M F := hM19.f F (by omega)
    have hF1 : M19 (F + 1) = M (F + 1) := hM19.f (F + 1) (by omega)
    refine t_X5_firstFailure hB.t (by rw [hF, hF1]; exact wfV_q hM19.sq hW) (by omega) (by omega) (fun M2 hs => ?_)
    refine x_iret dX9_runScript_31 rfl ?_
    rw [hF, hF1]
    exact hq hb2 M19 M2 hM19.sq ⟨fun c z1 z2 z3 z4 => (hs c z2).trans (hM19.f c z2), by rw [hs X (by omega), hM19.f X (by omega)]⟩
  · skip
    refine x_if_ne (p2 := 8) (t := 11) (by decide) rfl dX9_runScript_5 (fun hc => absurd hc (by decide)) (fun _ => ?_)
    refine x_bipush (p2 := 10) rfl dX9_runScript_8 ⟨by decide, ⟨by decide, by decide⟩⟩ ?_
    refine x_iret dX9_runScript_10 rfl ?_
    exact k2 hb2
set_option maxHeartbeats 4000000 in
theorem t_X9_execute {B F S T V Z H X C P : Nat} (hB : isBL σ ρ B F S T V Z H X C P) (hI : clI M F S V Z H X) {s k : Int} (k2 : ¬ (1 ≤ k ∧ k ≤ 99) → Q (some (xI (-2))) (σ, ρ, M)) (hq : (1 ≤ k ∧ k ≤ 99) → Q (some (xI (wlk (M F 0) (M (S + 1)) (M (S + 2)) (M (S + 3)) (M (S + 4)) (M S 5) k.toNat s 0 0))) (σ, ρ, M)) : xX G mX9_execute 0 0 0 [(0, xP B), (1, xL s), (3, xI k)] [] (σ, ρ, M) Q := by
  have hl := hB.lt
  obtain ⟨hW, hho, hhh, hhs, hzs, htx⟩ := id hI
  have hG : wfG (M F 0) (M (S + 1)) (M (S + 2)) (M (S + 3)) := hW.1
  have hO : wfO (M F 0) (M (S + 4)) (M S 5) := hW.2.1
  have he := hW.2.2.2.1
  have h8 := hG.2.1
  have hrg : H + 2 ≤ rg H ((M H 1 + M H 2) % 14) ∧ rg H ((M H 1 + M H 2) % 14) + 4 ≤ H + 71 := by unfold rg; omega
  refine x_iload_n (p2 := 1) rfl dX9_execute_0 rfl ?_
  refine x_iconst (p2 := 2) rfl dX9_execute_1 ⟨by decide, by decide⟩ ?_
  refine x_ic_lt (p2 := 5) (t := 11) (by decide) rfl dX9_execute_2 (fun hc2 => ?_) (fun hc2 => ?_)
  · skip
    refine x_bipush (p2 := 13) rfl dX9_execute_11 ⟨by decide, ⟨by decide, by decide⟩⟩ ?_
    refine x_iret dX9_execute_13 rfl ?_
    exact k2 (by omega)
  · skip
    refine x_iload_n (p2 := 6) rfl dX9_execute_5 rfl ?_
    refine x_bipush (p2 := 8) rfl dX9_execute_6 ⟨by decide, ⟨by decide, by decide⟩⟩ ?_
    refine x_ic_le (p2 := 11) (t := 14) (by decide) rfl dX9_execute_8 (fun hc8 => ?_) (fun hc8 => ?_)
    · skip
      refine x_aload_n (p2 := 15) rfl dX9_execute_14 rfl ?_
      refine x_getr (p2 := 18) (kz := 1) rfl dX9_execute_15 f_9_21 rfl rfl hB.sh hB.r1 ?_
      refine x_lload_n (p2 := 19) rfl dX9_execute_18 rfl ?_
      refine x_iload_n (p2 := 20) rfl dX9_execute_19 rfl ?_
      refine x_s3 (p2 := 23) rfl dX9_execute_20 l_9_215 ok_X8_costOf rfl rfl ?_
      refine t_X8_costOf hB.s hW (by omega) ?_
      refine x_iret dX9_execute_23 rfl ?_
      exact hq (by omega)
    · skip
      refine x_bipush (p2 := 13) rfl dX9_execute_11 ⟨by decide, ⟨by decide, by decide⟩⟩ ?_
      refine x_iret dX9_execute_13 rfl ?_
      exact k2 (by omega)
set_option maxHeartbeats 4000000 in
theorem t_X9_save {B F S T V Z H X C P : Nat} (hB : isBL σ ρ B F S T V Z H X C P) (hI : clI M F S V Z H X) {x : Int} (k1 : ¬ (0 ≤ x ∧ x < 2) → Q (some (xI (-1))) (σ, ρ, M)) (hq : (0 ≤ x ∧ x < 2) → ∀ M2, (∀ c, c ≠ Z → (c < (V + 1 + 5 * Int.toNat x) ∨ (V + 1 + 5 * Int.toNat x) + 4 < c) → M2 c = M c) → sq M2 (V + 1 + 5 * Int.toNat x) M S → M2 Z = upf (M Z) x 1 → Q (some (xI (M S 5))) (σ, ρ, M2)) : xX G mX9_save 0 0 0 [(0, xP B), (1, xI x)] [] (σ, ρ, M) Q := by
  have hl := hB.lt
  obtain ⟨hW, hho, hhh, hhs, hzs, htx⟩ := id hI
  have hG : wfG (M F 0) (M (S + 1)) (M (S + 2)) (M (S + 3)) := hW.1
  have hO : wfO (M F 0) (M (S + 4)) (M S 5) := hW.2.1
  have he := hW.2.2.2.1
  have h8 := hG.2.1
  have hrg : H + 2 ≤ rg H ((M H 1 + M H 2) % 14) ∧ rg H ((M H 1 + M H 2) % 14) + 4 ≤ H + 71 := by unfold rg; omega
  refine x_iload_n (p2 := 1) rfl dX9_save_0 rfl ?_
  refine x_if_lt (p2 := 4) (t := 9) (by decide) rfl dX9_save_1 (fun hc1 => ?_) (fun hc1 => ?_)
  · skip
    refine x_iconst (p2 := 10) rfl dX9_save_9 ⟨by decide, by decide⟩ ?_
    refine x_iret dX9_save_10 rfl ?_
    exact k1 (by omega)
  · skip
    refine x_iload_n (p2 := 5) rfl dX9_save_4 rfl ?_
    refine x_iconst (p2 := 6) rfl dX9_save_5 ⟨by decide, by decide⟩ ?_
    refine x_ic_lt (p2 := 9) (t := 11) (by decide) rfl dX9_save_6 (fun hc6 => ?_) (fun hc6 => ?_)
    · skip
      obtain ⟨hv1, hv2⟩ := hB.vs x (by omega) (by omega)
      refine x_aload_n (p2 := 12) rfl dX9_save_11 rfl ?_
      refine x_getr (p2 := 15) (kz := 3) rfl dX9_save_12 f_9_28 rfl rfl hB.sh hB.r3 ?_
      refine x_iload_n (p2 := 16) rfl dX9_save_15 rfl ?_
      refine x_aald (p2 := 17) rfl dX9_save_16 hB.va (by omega) (by omega) hv1 ?_
      refine x_aload_n (p2 := 18) rfl dX9_save_17 rfl ?_
      refine x_getr (p2 := 21) (kz := 1) rfl dX9_save_18 f_9_21 rfl rfl hB.sh hB.r1 ?_
      refine x_v1 (p2 := 24) rfl dX9_save_21 l_9_84 ok_X7_copyFrom rfl hv2.sh rfl ?_
      refine t_X7_copyFrom hv2 hB.s (by omega) (fun M21 hM21 => ?_)
      refine x_aload_n (p2 := 25) rfl dX9_save_24 rfl ?_
      refine x_getr (p2 := 28) (kz := 4) rfl dX9_save_25 f_9_32 rfl rfl hB.sh hB.r4 ?_
      refine x_iload_n (p2 := 29) rfl dX9_save_28 rfl ?_
      refine x_iconst (p2 := 30) rfl dX9_save_29 ⟨by decide, by decide⟩ ?_
      refine x_zast (p2 := 31) rfl dX9_save_30 hB.za (by omega) (by omega) (by omega) ?_
      refine x_aload_n (p2 := 32) rfl dX9_save_31 rfl ?_
      refine x_getr (p2 := 35) (kz := 1) rfl dX9_save_32 f_9_21 rfl rfl hB.sh hB.r1 ?_
      refine x_geti (p2 := 38) (kz := 5) rfl dX9_save_35 f_9_122 rfl rfl hB.s.sh ?_
      rw [xu_c (by omega), hM21.f S (by omega)]
      refine x_iret dX9_save_38 rfl ?_
      refine hq (by omega) _ (fun c z1 z2 => ?_) (hM21.sq.mv (fun c z1 z2 => xu_c (by omega)) (fun _ _ _ => rfl)) ?_
      · rw [xu_c z1, hM21.f c z2]
      · rw [xu_eq, xw_s, hM21.f Z (by omega)]
    · skip
      refine x_iconst (p2 := 10) rfl dX9_save_9 ⟨by decide, by decide⟩ ?_
      refine x_iret dX9_save_10 rfl ?_
      exact k1 (by omega)
set_option maxHeartbeats 4000000 in
theorem t_X9_restore {B F S T V Z H X C P : Nat} (hB : isBL σ ρ B F S T V Z H X C P) (hI : clI M F S V Z H X) {x : Int} (k1 : ¬ (0 ≤ x ∧ x < 2) → Q (some (xI (-1))) (σ, ρ, M)) (k3 : (0 ≤ x ∧ x < 2) → M Z x = 0 → Q (some (xI (-3))) (σ, ρ, M)) (hq : (0 ≤ x ∧ x < 2) → M Z x = 1 → ∀ M2, (∀ c, c ≠ H → (c < S ∨ S + 4 < c) → M2 c = M c) → M2 H 1 = M H 1 → M2 H 2 = 0 → sq M2 S M (V + 1 + 5 * Int.toNat x) → Q (some (xI (M (V + 1 + 5 * Int.toNat x) 5))) (σ, ρ, M2)) : xX G mX9_restore 0 0 0 [(0, xP B), (1, xI x)] [] (σ, ρ, M) Q := by
  have hl := hB.lt
  obtain ⟨hW, hho, hhh, hhs, hzs, htx⟩ := id hI
  have hG : wfG (M F 0) (M (S + 1)) (M (S + 2)) (M (S + 3)) := hW.1
  have hO : wfO (M F 0) (M (S + 4)) (M S 5) := hW.2.1
  have he := hW.2.2.2.1
  have h8 := hG.2.1
  have hrg : H + 2 ≤ rg H ((M H 1 + M H 2) % 14) ∧ rg H ((M H 1 + M H 2) % 14) + 4 ≤ H + 71 := by unfold rg; omega
  refine x_iload_n (p2 := 1) rfl dX9_restore_0 rfl ?_
  refine x_if_lt (p2 := 4) (t := 9) (by decide) rfl dX9_restore_1 (fun hc1 => ?_) (fun hc1 => ?_)
  · skip
    refine x_iconst (p2 := 10) rfl dX9_restore_9 ⟨by decide, by decide⟩ ?_
    refine x_iret dX9_restore_10 rfl ?_
    exact k1 (by omega)
  · skip
    refine x_iload_n (p2 := 5) rfl dX9_restore_4 rfl ?_
    refine x_iconst (p2 := 6) rfl dX9_restore_5 ⟨by decide, by decide⟩ ?_
    refine x_ic_lt (p2 := 9) (t := 11) (by decide) rfl dX9_restore_6 (fun hc6 => ?_) (fun hc6 => ?_)
    · skip
      obtain ⟨hv1, hv2⟩ := hB.vs x (by omega) (by omega)
      refine x_aload_n (p2 := 12) rfl dX9_restore_11 rfl ?_
      refine x_getr (p2 := 15) (kz := 4) rfl dX9_restore_12 f_9_32 rfl rfl hB.sh hB.r4 ?_
      refine x_iload_n (p2 := 16) rfl dX9_restore_15 rfl ?_
      refine x_zald (p2 := 17) rfl dX9_restore_16 hB.za (by omega) (by omega) ?_
      refine x_if_ne (p2 := 20) (t := 23) (by decide) rfl dX9_restore_17 (fun hc17 => ?_) (fun hc17 => ?_)
      · skip
        refine x_aload_n (p2 := 24) rfl dX9_restore_23 rfl ?_
        refine x_getr (p2 := 27) (kz := 1) rfl dX9_restore_24 f_9_21 rfl rfl hB.sh hB.r1 ?_
        refine x_aload_n (p2 := 28) rfl dX9_restore_27 rfl ?_
        refine x_getr (p2 := 31) (kz := 3) rfl dX9_restore_28 f_9_28 rfl rfl hB.sh hB.r3 ?_
        refine x_iload_n (p2 := 32) rfl dX9_restore_31 rfl ?_
        refine x_aald (p2 := 33) rfl dX9_restore_32 hB.va (by omega) (by omega) hv1 ?_
        refine x_v1 (p2 := 36) rfl dX9_restore_33 l_9_84 ok_X7_copyFrom rfl hB.s.sh rfl ?_
        refine t_X7_copyFrom hB.s hv2 (by omega) (fun M33 hM33 => ?_)
        refine x_aload_n (p2 := 37) rfl dX9_restore_36 rfl ?_
        refine x_getr (p2 := 40) (kz := 5) rfl dX9_restore_37 f_9_39 rfl rfl hB.sh hB.r5 ?_
        refine x_v0 (p2 := 43) rfl dX9_restore_40 l_9_87 ok_X2_forget rfl hB.h.sh rfl ?_
        refine t_X2_forget hB.h ?_
        refine x_aload_n (p2 := 44) rfl dX9_restore_43 rfl ?_
        refine x_getr (p2 := 47) (kz := 1) rfl dX9_restore_44 f_9_21 rfl rfl hB.sh hB.r1 ?_
        refine x_geti (p2 := 50) (kz := 5) rfl dX9_restore_47 f_9_122 rfl rfl hB.s.sh ?_
        rw [xu_c (by omega), hM33.2.2.2.2.1]
        refine x_iret dX9_restore_50 rfl ?_
        refine hq (by omega) (by have := hzs x (by omega) (by omega); omega) _ (fun c z1 z2 => ?_) ?_ ?_ (hM33.sq.mv (fun c z1 z2 => xu_c (by omega)) (fun _ _ _ => rfl))
        · rw [xu_c z1, hM33.f c z2]
        · rw [xu_j (by omega), hM33.f H (by omega)]
        · rw [xu_s]
      · skip
        refine x_bipush (p2 := 22) rfl dX9_restore_20 ⟨by decide, ⟨by decide, by decide⟩⟩ ?_
        refine x_iret dX9_restore_22 rfl ?_
        exact k3 (by omega) (by omega)
    · skip
      refine x_iconst (p2 := 10) rfl dX9_restore_9 ⟨by decide, by decide⟩ ?_
      refine x_iret dX9_restore_10 rfl ?_
      exact k1 (by omega)
set_option maxHeartbeats 4000000 in
theorem t_ld_l {B F S T V Z H X C P : Nat} (hB : isBL σ ρ B F S T V Z H X C P) {r : Int} : ∀ (n : Nat) (i : Int) (M1 : Nat → Int → Int), 0 ≤ i → i + n = 2 → (∀ j, 0 ≤ j → j < i → M1 Z j = 0) → M1 F 0 = r → (∀ M2, (∀ c, c ≠ Z → M2 c = M1 c) → (∀ j, 0 ≤ j → j < 2 → M2 Z j = 0) → Q (some (xI r)) (σ, ρ, M2)) → xX G mX9_load 0 0 52 [(0, xP B), (1, xI i)] [] (σ, ρ, M1) Q := by
  intro n
  have hl := hB.lt
  induction n with
  | zero =>
    intro i M1 h0 hm hz hr hq
    refine x_iload_n (p2 := 53) rfl dX9_load_52 rfl ?_
    refine x_iconst (p2 := 54) rfl dX9_load_53 ⟨by decide, by decide⟩ ?_
    refine x_ic_ge (p2 := 57) (t := 70) (by decide) rfl dX9_load_54 (fun hc54 => ?_) (fun hc54 => absurd hc54 (by omega))
    refine x_aload_n (p2 := 71) rfl dX9_load_70 rfl ?_
    refine x_getr (p2 := 74) (kz := 0) rfl dX9_load_71 f_9_12 rfl rfl hB.sh hB.r0 ?_
    refine x_geti (p2 := 77) (kz := 0) rfl dX9_load_74 f_9_90 rfl rfl hB.s.fr.sh ?_
    refine x_iret dX9_load_77 rfl ?_
    rw [hr]
    exact hq M1 (fun _ _ => rfl) (fun j a b => hz j a (by omega))
  | succ n ih =>
    intro i M1 h0 hm hz hr hq
    refine x_iload_n (p2 := 53) rfl dX9_load_52 rfl ?_
    refine x_iconst (p2 := 54) rfl dX9_load_53 ⟨by decide, by decide⟩ ?_
    refine x_ic_ge (p2 := 57) (t := 70) (by decide) rfl dX9_load_54 (fun hc54 => ?_) (fun hc54 => ?_)
    · exact absurd hc54 (by omega)
    refine x_aload_n (p2 := 58) rfl dX9_load_57 rfl ?_
    refine x_getr (p2 := 61) (kz := 4) rfl dX9_load_58 f_9_32 rfl rfl hB.sh hB.r4 ?_
    refine x_iload_n (p2 := 62) rfl dX9_load_61 rfl ?_
    refine x_iconst (p2 := 63) rfl dX9_load_62 ⟨by decide, by decide⟩ ?_
    refine x_zast (p2 := 64) rfl dX9_load_63 hB.za (by omega) (by omega) (by omega) ?_
    refine x_iinc (p2 := 67) (L2 := [(0, _), (1, _)]) rfl dX9_load_64 rfl ⟨by omega, by omega⟩ ⟨rfl, Nat.le_of_ble_eq_true rfl⟩ rfl ?_
    refine x_goto (t := 52) (by decide) dX9_load_67 ?_
    refine x_pick (L2 := [(0, _), (1, _)]) [0, 1] rfl ?_
    refine ih _ _ (by omega) (by omega) (fun j a b => ?_) (by rw [xu_c (by omega)]; exact hr) (fun M2 q1 q2 => hq M2 (fun c z => (q1 c z).trans (xu_c z)) q2)
    by_cases hj : j = i
    · rw [hj, xu_s]
    · rw [xu_j hj]; exact hz j a (by omega)
set_option maxHeartbeats 4000000 in
theorem t_X9_load {B F S T V Z H X C P : Nat} (hB : isBL σ ρ B F S T V Z H X C P) (hI : clI M F S V Z H X) (k3 : ¬ ((prs (M (X + 8)) (M X 3)).1 = true ∧ (prs (M (X + 8)) (M X 3)).2 = M X 3) → ∀ M2, cq M M2 T X C P → Q (some (xI (-3))) (σ, ρ, M2)) (hq : ((prs (M (X + 8)) (M X 3)).1 = true ∧ (prs (M (X + 8)) (M X 3)).2 = M X 3) → ∀ M2, (∀ c, c ≠ F → c ≠ F + 1 → c ≠ H → c ≠ Z → (c < S ∨ S + 4 < c) → (c < X ∨ X + 7 < c) → M2 c = M c) → M2 X 3 = M X 3 → M2 H 1 = M H 1 → M2 H 2 = 0 → (∀ j, 0 ≤ j → j < 2 → M2 Z j = 0) → M2 F 0 = (M (X + 8)) 1 - 48 → M2 F 1 = 10 * ((M (X + 8)) 2 - 48) + ((M (X + 8)) 3 - 48) → (∀ j, 0 ≤ j → j < 8 → M2 (S + 4) j = j) → M2 S 5 = (M (X + 8)) 1 - 48 → M2 S 6 = 1 → (∀ x, 0 ≤ x → x < (M (X + 8)) 1 - 48 → cnt (M (X + 8)) (M2 (F + 1)) (M2 (S + 1)) (M2 (S + 2)) (M2 (S + 3)) x (bps (M (X + 8)) x.toNat)) → Q (some (xI ((M (X + 8)) 1 - 48))) (σ, ρ, M2)) : xX G mX9_load 0 0 0 [(0, xP B)] [] (σ, ρ, M) Q := by
  have hl := hB.lt
  obtain ⟨hW, hho, hhh, hhs, hzs, htx⟩ := id hI
  have hG : wfG (M F 0) (M (S + 1)) (M (S + 2)) (M (S + 3)) := hW.1
  have hO : wfO (M F 0) (M (S + 4)) (M S 5) := hW.2.1
  have he := hW.2.2.2.1
  have h8 := hG.2.1
  have hrg : H + 2 ≤ rg H ((M H 1 + M H 2) % 14) ∧ rg H ((M H 1 + M H 2) % 14) + 4 ≤ H + 71 := by unfold rg; omega
  refine x_aload_n (p2 := 1) rfl dX9_load_0 rfl ?_
  refine x_getr (p2 := 4) (kz := 6) rfl dX9_load_1 f_9_46 rfl rfl hB.sh hB.r6 ?_
  refine x_v0 (p2 := 7) rfl dX9_load_4 l_9_72 ok_X6_read rfl hB.x.sh rfl ?_
  refine t_X6_read hB.x htx (fun hb M2 hf q1 q2 q3 q4 q5 q6 => ?_) (fun hb M2 hf => ?_)
  · skip
    refine x_bipush (p2 := 9) rfl dX9_load_7 ⟨by decide, ⟨by decide, by decide⟩⟩ ?_
    refine x_ic_eq (p2 := 12) (t := 15) (by decide) rfl dX9_load_9 (fun _ => ?_) (fun hc => absurd hc (by decide))
    refine x_aload_n (p2 := 16) rfl dX9_load_15 rfl ?_
    refine x_getr (p2 := 19) (kz := 0) rfl dX9_load_16 f_9_12 rfl rfl hB.sh hB.r0 ?_
    refine x_aload_n (p2 := 20) rfl dX9_load_19 rfl ?_
    refine x_getr (p2 := 23) (kz := 6) rfl dX9_load_20 f_9_46 rfl rfl hB.sh hB.r6 ?_
    refine x_getr (p2 := 26) (kz := 0) rfl dX9_load_23 f_9_75 rfl rfl hB.x.sh hB.x.r0 ?_
    refine x_v1 (p2 := 29) rfl dX9_load_26 l_9_78 ok_X1_copyFrom rfl hB.s.fr.sh rfl ?_
    refine t_X1_copyFrom hB.s.fr hB.x.st.fr (by omega) (fun M26 hM26 => ?_)
    refine x_aload_n (p2 := 30) rfl dX9_load_29 rfl ?_
    refine x_getr (p2 := 33) (kz := 1) rfl dX9_load_30 f_9_21 rfl rfl hB.sh hB.r1 ?_
    refine x_aload_n (p2 := 34) rfl dX9_load_33 rfl ?_
    refine x_getr (p2 := 37) (kz := 6) rfl dX9_load_34 f_9_46 rfl rfl hB.sh hB.r6 ?_
    refine x_getr (p2 := 40) (kz := 1) rfl dX9_load_37 f_9_81 rfl rfl hB.x.sh hB.x.r1 ?_
    refine x_v1 (p2 := 43) rfl dX9_load_40 l_9_84 ok_X7_copyFrom rfl hB.s.sh rfl ?_
    refine t_X7_copyFrom hB.s hB.x.st (by omega) (fun M40 hM40 => ?_)
    refine x_aload_n (p2 := 44) rfl dX9_load_43 rfl ?_
    refine x_getr (p2 := 47) (kz := 5) rfl dX9_load_44 f_9_39 rfl rfl hB.sh hB.r5 ?_
    refine x_v0 (p2 := 50) rfl dX9_load_47 l_9_87 ok_X2_forget rfl hB.h.sh rfl ?_
    refine t_X2_forget hB.h ?_
    refine x_iconst (p2 := 51) rfl dX9_load_50 ⟨by decide, by decide⟩ ?_
    refine x_istore_n (p2 := 52) (i := 1) (L2 := [(0, _), (1, _)]) rfl dX9_load_51 rfl ⟨rfl, Nat.le_of_ble_eq_true rfl⟩ rfl ?_
    refine x_pick (L2 := [(0, _), (1, _)]) [0, 1] rfl ?_
    have hd1 : 1 ≤ M (X + 8) 1 - 48 ∧ M (X + 8) 1 - 48 ≤ 8 := by
      have hz := hb.1
      unfold prs at hz
      by_cases hy : (rdh (M (X + 8)) (M X 3)).1 = true
      · have := of_decide_eq_true (rdh_t hy).2.1
        omega
      · rw [if_neg hy] at hz; cases hz
    have g1 : ∀ c, c ≠ H → (c < S ∨ S + 4 < c) → xu M40 H 2 0 c = M26 c := fun c z1 z2 => by rw [xu_c z1, hM40.f c z2]
    have g2 : ∀ c, (c < F ∨ F + 1 < c) → M26 c = M2 c := hM26.2.2.2
    have gx1 : M26 (X + 1) = M2 (X + 1) := g2 _ (by omega)
    have gF : xu M40 H 2 0 F 0 = M (X + 8) 1 - 48 := by rw [g1 F (by omega) (by omega), hM26.1, q1]
    refine t_ld_l hB 2 0 _ (by omega) (by omega) (fun j a b => by omega) gF (fun M3 w1 w2 => ?_)
    have gx : ∀ c, c ≠ Z → c ≠ H → (c < S ∨ S + 4 < c) → (c < F ∨ F + 1 < c) → M3 c = M2 c := fun c z1 z2 z3 z4 => (w1 c z1).trans ((g1 c z2 z3).trans (g2 c z4))
    have gs : ∀ c, S ≤ c → c ≤ S + 4 → M3 c = M40 c := fun c z1 z2 => (w1 c (by omega)).trans (xu_c (by omega))
    refine hq hb M3 (fun c z1 z2 z3 z4 z5 z6 => ?_) ?_ ?_ ?_ w2 ?_ ?_ ?_ ?_ ?_ ?_
    · rw [gx c z4 z3 z5 (by omega)]; exact hf.1 c z6
    · rw [gx X (by omega) (by omega) (by omega) (by omega)]; exact hf.2
    · rw [w1 H (by omega), xu_j (by omega), hM40.f H (by omega), g2 H (by omega), hf.1 H (by omega)]
    · rw [w1 H (by omega), xu_s]
    · rw [w1 F (by omega)]; exact gF
    · rw [w1 F (by omega), g1 F (by omega) (by omega), hM26.2.1, q2]
    · intro j a b
      rw [gs _ (by omega) (by omega), hM40.2.2.2.1 j a b, g2 _ (by omega)]
      exact q3 j a b
    · rw [gs _ (by omega) (by omega), hM40.2.2.2.2.1, g2 _ (by omega)]; exact q4
    · rw [gs _ (by omega) (by omega), hM40.2.2.2.2.2.1, g2 _ (by omega)]; exact q5
    · intro x a b
      obtain ⟨c1, c2, c3⟩ := q6 x a b
      have b8 : x < 8 := by omega
      refine ⟨?_, ?_, fun k k0 k1 => ?_⟩
      · rw [w1 (F + 1) (by omega), g1 _ (by omega) (by omega), hM26.2.2.1 x a b8]; exact c1
      · rw [gs _ (by omega) (by omega), hM40.1 x a b8, g2 _ (by omega)]; exact c2
      · rw [gs _ (by omega) (by omega), hM40.1 x a b8, g2 _ (by omega)] at k1
        have hx2 := (ld_x (prs_t hb.1).2.2.2 a b).2.1
        rw [← c2] at hx2
        have k1 : k < M2 (X + 4) x := k1
        have := c3 k k0 k1
        unfold edg at this ⊢
        rw [gs _ (by omega) (by omega), gs _ (by omega) (by omega), hM40.2.1 _ (by omega) (by omega), hM40.2.2.1 _ (by omega) (by omega), g2 _ (by omega), g2 _ (by omega)]
        exact this
  · skip
    refine x_bipush (p2 := 9) rfl dX9_load_7 ⟨by decide, ⟨by decide, by decide⟩⟩ ?_
    refine x_ic_eq (p2 := 12) (t := 15) (by decide) rfl dX9_load_9 (fun hc9 => ?_) (fun hc9 => ?_)
    · exact absurd hc9 (by have := prs_p (tx := M (X + 8)) htx.1; omega)
    refine x_bipush (p2 := 14) rfl dX9_load_12 ⟨by decide, ⟨by decide, by decide⟩⟩ ?_
    refine x_iret dX9_load_14 rfl ?_
    exact k3 hb M2 ⟨fun c z1 z2 z3 z4 => hf.1 c z3, hf.2⟩
end XBM
