section XME
variable {G : xG} {σ : List (Nat × Nat)} {ρ : Nat → Int → Option Nat} {M : Nat → Int → Int} {Q : Option xV → xH → Prop}
set_option maxHeartbeats 4000000 in
theorem t_eo1 {D R : Nat} (hD : isMd σ ρ D) (hR : σ[R]? = some (100, 50)) {n : Int} {v : vV} (hn : M D 2 = n) (hr : smr n v (M R)) (hG : wfG n v.1 v.2.1 v.2.2.1) {b f : Int} (hf : 0 ≤ f ∧ f < n) : ∀ (m : Nat) (k s : Int), 0 ≤ k → k + m = v.1 f → 0 ≤ s → s ≤ 99 + 198 * f + 99 * k → xX G mX10_executionsOf 0 0 81 [(0, xP D), (1, xP R), (2, xI b), (3, xI (s + sg (fun k => if v.2.1 (2 * f + k) = b then v.2.2.1 (2 * f + k) else 0) k m)), (4, xI f)] [] (σ, ρ, M) Q → xX G mX10_executionsOf 0 0 28 [(0, xP D), (1, xP R), (2, xI b), (3, xI s), (4, xI f), (5, xI k)] [] (σ, ρ, M) Q := by
  have h8 := hG.2.1
  have h1 := hG.1
  obtain ⟨w1, w2, w3, w4⟩ := hG.2.2 f hf.1 hf.2
  intro m
  induction m with
  | zero =>
    intro k s h0 hm hs1 hs2 hq
    refine x_iload (p2 := 30) rfl dX10_executionsOf_28 rfl ?_
    refine x_aload_n (p2 := 31) rfl dX10_executionsOf_30 rfl ?_
    refine x_bipush (p2 := 33) rfl dX10_executionsOf_31 ⟨by decide, ⟨by decide, by decide⟩⟩ ?_
    refine x_iload (p2 := 35) rfl dX10_executionsOf_33 rfl ?_
    refine x_iadd (p2 := 36) rfl dX10_executionsOf_35 ⟨by omega, by omega⟩ ?_
    refine x_iald (p2 := 37) rfl dX10_executionsOf_36 hR (by omega) (by omega) ?_
    rw [hr.x hf.1 hf.2]
    refine x_ic_ge (p2 := 40) (t := 81) (by decide) rfl dX10_executionsOf_37 (fun hc37 => ?_) (fun hc37 => absurd hc37 (by omega))
    refine x_pick (L2 := [(0, _), (1, _), (2, _), (3, _), (4, _)]) [0, 1, 2, 3, 4] rfl ?_
    unfold sg at hq; rw [Int.add_zero] at hq; exact hq
  | succ m ih =>
    intro k s h0 hm hs1 hs2 hq
    have wk := w3 k h0 (by omega)
    unfold sg at hq
    rw [← Int.add_assoc] at hq
    refine x_iload (p2 := 30) rfl dX10_executionsOf_28 rfl ?_
    refine x_aload_n (p2 := 31) rfl dX10_executionsOf_30 rfl ?_
    refine x_bipush (p2 := 33) rfl dX10_executionsOf_31 ⟨by decide, ⟨by decide, by decide⟩⟩ ?_
    refine x_iload (p2 := 35) rfl dX10_executionsOf_33 rfl ?_
    refine x_iadd (p2 := 36) rfl dX10_executionsOf_35 ⟨by omega, by omega⟩ ?_
    refine x_iald (p2 := 37) rfl dX10_executionsOf_36 hR (by omega) (by omega) ?_
    rw [hr.x hf.1 hf.2]
    refine x_ic_ge (p2 := 40) (t := 81) (by decide) rfl dX10_executionsOf_37 (fun hc37 => ?_) (fun hc37 => ?_)
    · exact absurd hc37 (by omega)
    refine x_iload_n (p2 := 41) rfl dX10_executionsOf_40 rfl ?_
    refine x_aload_n (p2 := 42) rfl dX10_executionsOf_41 rfl ?_
    refine x_bipush (p2 := 44) rfl dX10_executionsOf_42 ⟨by decide, ⟨by decide, by decide⟩⟩ ?_
    refine x_iconst (p2 := 45) rfl dX10_executionsOf_44 ⟨by decide, by decide⟩ ?_
    refine x_iload (p2 := 47) rfl dX10_executionsOf_45 rfl ?_
    refine x_imul (p2 := 48) rfl dX10_executionsOf_47 ⟨by omega, by omega⟩ ?_
    refine x_iadd (p2 := 49) rfl dX10_executionsOf_48 ⟨by omega, by omega⟩ ?_
    refine x_iload (p2 := 51) rfl dX10_executionsOf_49 rfl ?_
    refine x_iadd (p2 := 52) rfl dX10_executionsOf_51 ⟨by omega, by omega⟩ ?_
    refine x_iald (p2 := 53) rfl dX10_executionsOf_52 hR (by omega) (by omega) ?_
    rw [hr.t hf.1 hf.2 h0 (by omega)]
    refine x_iload_n (p2 := 54) rfl dX10_executionsOf_53 rfl ?_
    refine x_ic_ne (p2 := 57) (t := 72) (by decide) rfl dX10_executionsOf_54 (fun hc54 => ?_) (fun hc54 => ?_)
    · skip
      refine x_iconst (p2 := 73) rfl dX10_executionsOf_72 ⟨by decide, by decide⟩ ?_
      refine x_iadd (p2 := 74) rfl dX10_executionsOf_73 ⟨by omega, by omega⟩ ?_
      refine x_istore_n (p2 := 75) (i := 3) (L2 := [(0, _), (1, _), (2, _), (3, _), (4, _), (5, _)]) rfl dX10_executionsOf_74 rfl ⟨rfl, Nat.le_of_ble_eq_true rfl⟩ rfl ?_
      refine x_iinc (p2 := 78) (L2 := [(0, _), (1, _), (2, _), (3, _), (4, _), (5, _)]) rfl dX10_executionsOf_75 rfl ⟨by omega, by omega⟩ ⟨rfl, Nat.le_of_ble_eq_true rfl⟩ rfl ?_
      refine x_goto (t := 28) (by decide) dX10_executionsOf_78 ?_
      refine x_pick (L2 := [(0, _), (1, _), (2, _), (3, _), (4, _), (5, _)]) [0, 1, 2, 3, 4, 5] rfl ?_
      first
        | (rw [if_pos (show v.2.1 (2 * f + k) = b by omega)] at hq
           exact ih _ _ (by omega) (by omega) (by omega) (by omega) hq)
        | (rw [if_neg (show ¬ v.2.1 (2 * f + k) = b by omega)] at hq
           exact ih _ _ (by omega) (by omega) (by omega) (by omega) hq)
    · skip
      refine x_aload_n (p2 := 58) rfl dX10_executionsOf_57 rfl ?_
      refine x_bipush (p2 := 60) rfl dX10_executionsOf_58 ⟨by decide, ⟨by decide, by decide⟩⟩ ?_
      refine x_iconst (p2 := 61) rfl dX10_executionsOf_60 ⟨by decide, by decide⟩ ?_
      refine x_iload (p2 := 63) rfl dX10_executionsOf_61 rfl ?_
      refine x_imul (p2 := 64) rfl dX10_executionsOf_63 ⟨by omega, by omega⟩ ?_
      refine x_iadd (p2 := 65) rfl dX10_executionsOf_64 ⟨by omega, by omega⟩ ?_
      refine x_iload (p2 := 67) rfl dX10_executionsOf_65 rfl ?_
      refine x_iadd (p2 := 68) rfl dX10_executionsOf_67 ⟨by omega, by omega⟩ ?_
      refine x_iald (p2 := 69) rfl dX10_executionsOf_68 hR (by omega) (by omega) ?_
      rw [hr.c hf.1 hf.2 h0 (by omega)]
      refine x_goto (t := 73) (by decide) dX10_executionsOf_69 ?_
      refine x_iadd (p2 := 74) rfl dX10_executionsOf_73 ⟨by omega, by omega⟩ ?_
      refine x_istore_n (p2 := 75) (i := 3) (L2 := [(0, _), (1, _), (2, _), (3, _), (4, _), (5, _)]) rfl dX10_executionsOf_74 rfl ⟨rfl, Nat.le_of_ble_eq_true rfl⟩ rfl ?_
      refine x_iinc (p2 := 78) (L2 := [(0, _), (1, _), (2, _), (3, _), (4, _), (5, _)]) rfl dX10_executionsOf_75 rfl ⟨by omega, by omega⟩ ⟨rfl, Nat.le_of_ble_eq_true rfl⟩ rfl ?_
      refine x_goto (t := 28) (by decide) dX10_executionsOf_78 ?_
      refine x_pick (L2 := [(0, _), (1, _), (2, _), (3, _), (4, _), (5, _)]) [0, 1, 2, 3, 4, 5] rfl ?_
      first
        | (rw [if_pos (show v.2.1 (2 * f + k) = b by omega)] at hq
           exact ih _ _ (by omega) (by omega) (by omega) (by omega) hq)
        | (rw [if_neg (show ¬ v.2.1 (2 * f + k) = b by omega)] at hq
           exact ih _ _ (by omega) (by omega) (by omega) (by omega) hq)
set_option maxHeartbeats 4000000 in
theorem t_eo2 {D R : Nat} (hD : isMd σ ρ D) (hR : σ[R]? = some (100, 50)) {n : Int} {v : vV} (hn : M D 2 = n) (hr : smr n v (M R)) (hG : wfG n v.1 v.2.1 v.2.2.1) {b : Int} : ∀ (m : Nat) (f s : Int), 0 ≤ f → f + m = n → 0 ≤ s → s ≤ 99 + 198 * f → Q (some (xI (s + sg (rnf v.1 v.2.1 v.2.2.1 b) f m))) (σ, ρ, M) → xX G mX10_executionsOf 0 0 16 [(0, xP D), (1, xP R), (2, xI b), (3, xI s), (4, xI f)] [] (σ, ρ, M) Q := by
  have h8 := hG.2.1
  have h1 := hG.1
  intro m
  induction m with
  | zero =>
    intro f s h0 hm hs1 hs2 hq
    refine x_iload (p2 := 18) rfl dX10_executionsOf_16 rfl ?_
    refine x_aload_n (p2 := 19) rfl dX10_executionsOf_18 rfl ?_
    refine x_geti (p2 := 22) (kz := 2) rfl dX10_executionsOf_19 f_10_53 rfl rfl hD.sh ?_
    rw [hn]
    refine x_ic_ge (p2 := 25) (t := 87) (by decide) rfl dX10_executionsOf_22 (fun hc22 => ?_) (fun hc22 => absurd hc22 (by omega))
    refine x_iload_n (p2 := 88) rfl dX10_executionsOf_87 rfl ?_
    refine x_iret dX10_executionsOf_88 rfl ?_
    unfold sg at hq; rw [Int.add_zero] at hq; exact hq
  | succ m ih =>
    intro f s h0 hm hs1 hs2 hq
    have hw := hG.2.2 f h0 (by omega)
    have hw0 := hw.1
    have hrb := rnf_bd (b := b) hw
    unfold sg at hq
    rw [← Int.add_assoc] at hq
    refine x_iload (p2 := 18) rfl dX10_executionsOf_16 rfl ?_
    refine x_aload_n (p2 := 19) rfl dX10_executionsOf_18 rfl ?_
    refine x_geti (p2 := 22) (kz := 2) rfl dX10_executionsOf_19 f_10_53 rfl rfl hD.sh ?_
    rw [hn]
    refine x_ic_ge (p2 := 25) (t := 87) (by decide) rfl dX10_executionsOf_22 (fun hc22 => ?_) (fun hc22 => ?_)
    · exact absurd hc22 (by omega)
    refine x_iconst (p2 := 26) rfl dX10_executionsOf_25 ⟨by decide, by decide⟩ ?_
    refine x_istore (p2 := 28) (i := 5) (L2 := [(0, _), (1, _), (2, _), (3, _), (4, _), (5, _)]) rfl dX10_executionsOf_26 ⟨rfl, Nat.le_of_ble_eq_true rfl⟩ rfl ?_
    refine x_pick (L2 := [(0, _), (1, _), (2, _), (3, _), (4, _), (5, _)]) [0, 1, 2, 3, 4, 5] rfl ?_
    refine t_eo1 hD hR hn hr hG (by omega) (v.1 f).toNat 0 s (by omega) (by omega) (by omega) (by omega) ?_
    refine x_iinc (p2 := 84) (L2 := [(0, _), (1, _), (2, _), (3, _), (4, _)]) rfl dX10_executionsOf_81 rfl ⟨by omega, by omega⟩ ⟨rfl, Nat.le_of_ble_eq_true rfl⟩ rfl ?_
    refine x_goto (t := 16) (by decide) dX10_executionsOf_84 ?_
    refine x_pick (L2 := [(0, _), (1, _), (2, _), (3, _), (4, _)]) [0, 1, 2, 3, 4] rfl ?_
    exact ih _ _ (by omega) (by omega) (by unfold rnf at hrb; omega) (by unfold rnf at hrb; omega) hq
set_option maxHeartbeats 4000000 in
theorem t_X10_executionsOf {D R : Nat} (hD : isMd σ ρ D) (hR : σ[R]? = some (100, 50)) {n : Int} {v : vV} (hn : M D 2 = n) (hr : smr n v (M R)) (hG : wfG n v.1 v.2.1 v.2.2.1) {en b : Int} (he : M D 4 = en ∧ 0 ≤ en ∧ en ≤ 99) (hq : Q (some (xI (rns n en v.1 v.2.1 v.2.2.1 b))) (σ, ρ, M)) : xX G mX10_executionsOf 0 0 0 [(0, xP D), (1, xP R), (2, xI b)] [] (σ, ρ, M) Q := by
  have h8 := hG.2.1
  have h1 := hG.1
  unfold rns at hq
  refine x_iload_n (p2 := 1) rfl dX10_executionsOf_0 rfl ?_
  refine x_if_ne (p2 := 4) (t := 11) (by decide) rfl dX10_executionsOf_1 (fun hc1 => ?_) (fun hc1 => ?_)
  · skip
    refine x_iconst (p2 := 12) rfl dX10_executionsOf_11 ⟨by decide, by decide⟩ ?_
    refine x_istore_n (p2 := 13) (i := 3) (L2 := [(0, _), (1, _), (2, _), (3, _)]) rfl dX10_executionsOf_12 rfl ⟨rfl, Nat.le_of_ble_eq_true rfl⟩ rfl ?_
    refine x_iconst (p2 := 14) rfl dX10_executionsOf_13 ⟨by decide, by decide⟩ ?_
    refine x_istore (p2 := 16) (i := 4) (L2 := [(0, _), (1, _), (2, _), (3, _), (4, _)]) rfl dX10_executionsOf_14 ⟨rfl, Nat.le_of_ble_eq_true rfl⟩ rfl ?_
    refine x_pick (L2 := [(0, _), (1, _), (2, _), (3, _), (4, _)]) [0, 1, 2, 3, 4] rfl ?_
    first
      | (rw [if_pos (show b = 0 by omega)] at hq; exact t_eo2 hD hR hn hr hG n.toNat 0 _ (by omega) (by omega) (by omega) (by omega) hq)
      | (rw [if_neg (show ¬ b = 0 by omega)] at hq; exact t_eo2 hD hR hn hr hG n.toNat 0 _ (by omega) (by omega) (by omega) (by omega) hq)
  · skip
    refine x_aload_n (p2 := 5) rfl dX10_executionsOf_4 rfl ?_
    refine x_geti (p2 := 8) (kz := 4) rfl dX10_executionsOf_5 f_10_97 rfl rfl hD.sh ?_
    rw [he.1]
    refine x_goto (t := 12) (by decide) dX10_executionsOf_8 ?_
    refine x_istore_n (p2 := 13) (i := 3) (L2 := [(0, _), (1, _), (2, _), (3, _)]) rfl dX10_executionsOf_12 rfl ⟨rfl, Nat.le_of_ble_eq_true rfl⟩ rfl ?_
    refine x_iconst (p2 := 14) rfl dX10_executionsOf_13 ⟨by decide, by decide⟩ ?_
    refine x_istore (p2 := 16) (i := 4) (L2 := [(0, _), (1, _), (2, _), (3, _), (4, _)]) rfl dX10_executionsOf_14 ⟨rfl, Nat.le_of_ble_eq_true rfl⟩ rfl ?_
    refine x_pick (L2 := [(0, _), (1, _), (2, _), (3, _), (4, _)]) [0, 1, 2, 3, 4] rfl ?_
    first
      | (rw [if_pos (show b = 0 by omega)] at hq; exact t_eo2 hD hR hn hr hG n.toNat 0 _ (by omega) (by omega) (by omega) (by omega) hq)
      | (rw [if_neg (show ¬ b = 0 by omega)] at hq; exact t_eo2 hD hR hn hr hG n.toNat 0 _ (by omega) (by omega) (by omega) (by omega) hq)
def flf (tg : Int → Int) (b f : Int) : Nat → Int → Int → Int
  | 0, _, a => a
  | m + 1, k, a => flf tg b f m (k + 1) (if a ≠ 0 ∨ tg (2 * b + k) = f then 1 else 0)
theorem flf_b {n b f : Int} {ex tg ct : Int → Int} (h : wfB n ex tg ct b) : 2 * (if flf tg b f (ex b).toNat 0 0 = 0 then ex b else ex b - 1) = bbf ex tg b f := by
  obtain ⟨w1, w2, w3, w4⟩ := h
  unfold bbf
  rcases (by omega : ex b = 0 ∨ ex b = 1 ∨ ex b = 2) with e | e | e
  · rw [e]; rfl
  · rw [e, show (1 : Int).toNat = 1 from rfl]
    by_cases h1 : tg (2 * b + 0) = f
    · have e1 : flf tg b f 1 0 0 = 1 := by unfold flf; rw [if_pos (Or.inr h1)]; rfl
      rw [e1, sg, sg, if_pos h1]; rfl
    · have e1 : flf tg b f 1 0 0 = 0 := by
        unfold flf
        rw [if_neg (show ¬ ((0 : Int) ≠ 0 ∨ tg (2 * b + 0) = f) by omega)]; rfl
      rw [e1, sg, sg, if_neg h1]; rfl
  · have hd := w4 e
    rw [e, show (2 : Int).toNat = 2 from rfl]
    by_cases h1 : tg (2 * b + 0) = f
    · have h2 : ¬ tg (2 * b + (0 + 1)) = f := fun z => hd (h1.trans z.symm)
      have e1 : flf tg b f 2 0 0 = 1 := by unfold flf flf; rw [if_pos (Or.inr h1), if_pos (Or.inl (by decide))]; rfl
      rw [e1, sg, sg, sg, if_pos h1, if_neg h2]; rfl
    · by_cases h2 : tg (2 * b + (0 + 1)) = f
      · have e1 : flf tg b f 2 0 0 = 1 := by unfold flf flf; rw [if_pos (show _ ∨ tg (2 * b + (0 + 1)) = f from Or.inr h2)]; rfl
        rw [e1, sg, sg, sg, if_neg h1, if_pos h2]; rfl
      · have e1 : flf tg b f 2 0 0 = 0 := by
          unfold flf flf
          rw [if_neg (show ¬ ((0 : Int) ≠ 0 ∨ tg (2 * b + 0) = f) by omega), if_neg (show ¬ ((0 : Int) ≠ 0 ∨ tg (2 * b + (0 + 1)) = f) by omega)]; rfl
        rw [e1, sg, sg, sg, if_neg h1, if_neg h2]; rfl
set_option maxHeartbeats 4000000 in
theorem t_bb_l {D R : Nat} (hD : isMd σ ρ D) (hR : σ[R]? = some (100, 50)) {n : Int} {v : vV} (hn : M D 2 = n) (hr : smr n v (M R)) (hG : wfG n v.1 v.2.1 v.2.2.1) (hO : wfO n v.2.2.2.1 v.2.2.2.2.1) {b x : Int} (hb : 0 ≤ b ∧ b < n) (hx : x = v.1 b) : ∀ (m : Nat) (k a : Int), 0 ≤ k → k + m = x → (a = 0 ∨ a = 1) → Q (some (xI (2 * (if (flf v.2.1 b (fob n v.2.2.2.1 v.2.2.2.2.1 b) m k a) = 0 then x else x - 1)))) (σ, ρ, M) → xX G mX10_branchBytesOf 0 0 13 [(0, xP D), (1, xP R), (2, xI b), (3, xI x), (4, xI a), (5, xI k)] [] (σ, ρ, M) Q := by
  have h8 := hG.2.1
  have h1 := hG.1
  obtain ⟨w1, w2, w3, w4⟩ := hG.2.2 b hb.1 hb.2
  intro m
  induction m with
  | zero =>
    intro k a h0 hm ha hq
    unfold flf at hq
    refine x_iload (p2 := 15) rfl dX10_branchBytesOf_13 rfl ?_
    refine x_iload_n (p2 := 16) rfl dX10_branchBytesOf_15 rfl ?_
    refine x_ic_ge (p2 := 19) (t := 57) (by decide) rfl dX10_branchBytesOf_16 (fun hc16 => ?_) (fun hc16 => absurd hc16 (by omega))
    refine x_iconst (p2 := 58) rfl dX10_branchBytesOf_57 ⟨by decide, by decide⟩ ?_
    refine x_iload (p2 := 60) rfl dX10_branchBytesOf_58 rfl ?_
    refine x_if_eq (p2 := 63) (t := 69) (by decide) rfl dX10_branchBytesOf_60 (fun hc60 => ?_) (fun hc60 => ?_)
    · skip
      refine x_iload_n (p2 := 70) rfl dX10_branchBytesOf_69 rfl ?_
      refine x_imul (p2 := 71) rfl dX10_branchBytesOf_70 ⟨by omega, by omega⟩ ?_
      refine x_iret dX10_branchBytesOf_71 rfl ?_
      first
        | (rw [if_pos (show a = 0 by omega)] at hq; exact hq)
        | (rw [if_neg (show ¬ a = 0 by omega)] at hq; exact hq)
    · skip
      refine x_iload_n (p2 := 64) rfl dX10_branchBytesOf_63 rfl ?_
      refine x_iconst (p2 := 65) rfl dX10_branchBytesOf_64 ⟨by decide, by decide⟩ ?_
      refine x_isub (p2 := 66) rfl dX10_branchBytesOf_65 ⟨by omega, by omega⟩ ?_
      refine x_goto (t := 70) (by decide) dX10_branchBytesOf_66 ?_
      refine x_imul (p2 := 71) rfl dX10_branchBytesOf_70 ⟨by omega, by omega⟩ ?_
      refine x_iret dX10_branchBytesOf_71 rfl ?_
      first
        | (rw [if_pos (show a = 0 by omega)] at hq; exact hq)
        | (rw [if_neg (show ¬ a = 0 by omega)] at hq; exact hq)
  | succ m ih =>
    intro k a h0 hm ha hq
    have wk := w3 k h0 (by omega)
    have hff := rfo_eq (f := fob n v.2.2.2.1 v.2.2.2.2.1 b) wk.1
    unfold flf at hq
    refine x_iload (p2 := 15) rfl dX10_branchBytesOf_13 rfl ?_
    refine x_iload_n (p2 := 16) rfl dX10_branchBytesOf_15 rfl ?_
    refine x_ic_ge (p2 := 19) (t := 57) (by decide) rfl dX10_branchBytesOf_16 (fun hc16 => ?_) (fun hc16 => ?_)
    · exact absurd hc16 (by omega)
    refine x_iload (p2 := 21) rfl dX10_branchBytesOf_19 rfl ?_
    refine x_if_ne (p2 := 24) (t := 44) (by decide) rfl dX10_branchBytesOf_21 (fun hc21 => ?_) (fun hc21 => ?_)
    · skip
      refine x_iconst (p2 := 45) rfl dX10_branchBytesOf_44 ⟨by decide, by decide⟩ ?_
      refine x_goto (t := 49) (by decide) dX10_branchBytesOf_45 ?_
      refine x_istore (p2 := 51) (i := 4) (L2 := [(0, _), (1, _), (2, _), (3, _), (4, _), (5, _)]) rfl dX10_branchBytesOf_49 ⟨rfl, Nat.le_of_ble_eq_true rfl⟩ rfl ?_
      refine x_iinc (p2 := 54) (L2 := [(0, _), (1, _), (2, _), (3, _), (4, _), (5, _)]) rfl dX10_branchBytesOf_51 rfl ⟨by omega, by omega⟩ ⟨rfl, Nat.le_of_ble_eq_true rfl⟩ rfl ?_
      refine x_goto (t := 13) (by decide) dX10_branchBytesOf_54 ?_
      refine x_pick (L2 := [(0, _), (1, _), (2, _), (3, _), (4, _), (5, _)]) [0, 1, 2, 3, 4, 5] rfl ?_
      first
        | (rw [if_pos (Or.inl (show a ≠ 0 by omega))] at hq
           exact ih _ _ (by omega) (by omega) (by omega) hq)
        | (rw [if_pos (Or.inr (hff.1 hc41))] at hq
           exact ih _ _ (by omega) (by omega) (by omega) hq)
        | (rw [if_neg (show ¬ (a ≠ 0 ∨ v.2.1 (2 * b + k) = fob n v.2.2.2.1 v.2.2.2.2.1 b) from fun z => z.elim (fun y => y (by omega)) (fun y => hc41 (hff.2 y)))] at hq
           exact ih _ _ (by omega) (by omega) (by omega) hq)
    · skip
      refine x_aload_n (p2 := 25) rfl dX10_branchBytesOf_24 rfl ?_
      refine x_bipush (p2 := 27) rfl dX10_branchBytesOf_25 ⟨by decide, ⟨by decide, by decide⟩⟩ ?_
      refine x_iconst (p2 := 28) rfl dX10_branchBytesOf_27 ⟨by decide, by decide⟩ ?_
      refine x_iload_n (p2 := 29) rfl dX10_branchBytesOf_28 rfl ?_
      refine x_imul (p2 := 30) rfl dX10_branchBytesOf_29 ⟨by omega, by omega⟩ ?_
      refine x_iadd (p2 := 31) rfl dX10_branchBytesOf_30 ⟨by omega, by omega⟩ ?_
      refine x_iload (p2 := 33) rfl dX10_branchBytesOf_31 rfl ?_
      refine x_iadd (p2 := 34) rfl dX10_branchBytesOf_33 ⟨by omega, by omega⟩ ?_
      refine x_iald (p2 := 35) rfl dX10_branchBytesOf_34 hR (by omega) (by omega) ?_
      rw [hr.t hb.1 hb.2 h0 (by omega)]
      refine x_aload_n (p2 := 36) rfl dX10_branchBytesOf_35 rfl ?_
      refine x_aload_n (p2 := 37) rfl dX10_branchBytesOf_36 rfl ?_
      refine x_iload_n (p2 := 38) rfl dX10_branchBytesOf_37 rfl ?_
      refine x_v2 (p2 := 41) rfl dX10_branchBytesOf_38 l_10_117 ok_X10_followerOf rfl hD.sh rfl ?_
      refine t_X10_followerOf hD hR hn hr hG hO (by omega) ?_
      refine x_ic_ne (p2 := 44) (t := 48) (by decide) rfl dX10_branchBytesOf_41 (fun hc41 => ?_) (fun hc41 => ?_)
      · skip
        refine x_iconst (p2 := 49) rfl dX10_branchBytesOf_48 ⟨by decide, by decide⟩ ?_
        refine x_istore (p2 := 51) (i := 4) (L2 := [(0, _), (1, _), (2, _), (3, _), (4, _), (5, _)]) rfl dX10_branchBytesOf_49 ⟨rfl, Nat.le_of_ble_eq_true rfl⟩ rfl ?_
        refine x_iinc (p2 := 54) (L2 := [(0, _), (1, _), (2, _), (3, _), (4, _), (5, _)]) rfl dX10_branchBytesOf_51 rfl ⟨by omega, by omega⟩ ⟨rfl, Nat.le_of_ble_eq_true rfl⟩ rfl ?_
        refine x_goto (t := 13) (by decide) dX10_branchBytesOf_54 ?_
        refine x_pick (L2 := [(0, _), (1, _), (2, _), (3, _), (4, _), (5, _)]) [0, 1, 2, 3, 4, 5] rfl ?_
        first
          | (rw [if_pos (Or.inl (show a ≠ 0 by omega))] at hq
             exact ih _ _ (by omega) (by omega) (by omega) hq)
          | (rw [if_pos (Or.inr (hff.1 hc41))] at hq
             exact ih _ _ (by omega) (by omega) (by omega) hq)
          | (rw [if_neg (show ¬ (a ≠ 0 ∨ v.2.1 (2 * b + k) = fob n v.2.2.2.1 v.2.2.2.2.1 b) from fun z => z.elim (fun y => y (by omega)) (fun y => hc41 (hff.2 y)))] at hq
             exact ih _ _ (by omega) (by omega) (by omega) hq)
      · skip
        refine x_iconst (p2 := 45) rfl dX10_branchBytesOf_44 ⟨by decide, by decide⟩ ?_
        refine x_goto (t := 49) (by decide) dX10_branchBytesOf_45 ?_
        refine x_istore (p2 := 51) (i := 4) (L2 := [(0, _), (1, _), (2, _), (3, _), (4, _), (5, _)]) rfl dX10_branchBytesOf_49 ⟨rfl, Nat.le_of_ble_eq_true rfl⟩ rfl ?_
        refine x_iinc (p2 := 54) (L2 := [(0, _), (1, _), (2, _), (3, _), (4, _), (5, _)]) rfl dX10_branchBytesOf_51 rfl ⟨by omega, by omega⟩ ⟨rfl, Nat.le_of_ble_eq_true rfl⟩ rfl ?_
        refine x_goto (t := 13) (by decide) dX10_branchBytesOf_54 ?_
        refine x_pick (L2 := [(0, _), (1, _), (2, _), (3, _), (4, _), (5, _)]) [0, 1, 2, 3, 4, 5] rfl ?_
        first
          | (rw [if_pos (Or.inl (show a ≠ 0 by omega))] at hq
             exact ih _ _ (by omega) (by omega) (by omega) hq)
          | (rw [if_pos (Or.inr (hff.1 hc41))] at hq
             exact ih _ _ (by omega) (by omega) (by omega) hq)
          | (rw [if_neg (show ¬ (a ≠ 0 ∨ v.2.1 (2 * b + k) = fob n v.2.2.2.1 v.2.2.2.2.1 b) from fun z => z.elim (fun y => y (by omega)) (fun y => hc41 (hff.2 y)))] at hq
             exact ih _ _ (by omega) (by omega) (by omega) hq)
set_option maxHeartbeats 4000000 in
theorem t_X10_branchBytesOf {D R : Nat} (hD : isMd σ ρ D) (hR : σ[R]? = some (100, 50)) {n : Int} {v : vV} (hn : M D 2 = n) (hr : smr n v (M R)) (hG : wfG n v.1 v.2.1 v.2.2.1) (hO : wfO n v.2.2.2.1 v.2.2.2.2.1) {b : Int} (hb : 0 ≤ b ∧ b < n) (hq : Q (some (xI (bbf v.1 v.2.1 b (fob n v.2.2.2.1 v.2.2.2.2.1 b)))) (σ, ρ, M)) : xX G mX10_branchBytesOf 0 0 0 [(0, xP D), (1, xP R), (2, xI b)] [] (σ, ρ, M) Q := by
  have h8 := hG.2.1
  have h1 := hG.1
  have hw := hG.2.2 b hb.1 hb.2
  have hw0 := hw.1
  rw [← flf_b hw] at hq
  refine x_aload_n (p2 := 1) rfl dX10_branchBytesOf_0 rfl ?_
  refine x_bipush (p2 := 3) rfl dX10_branchBytesOf_1 ⟨by decide, ⟨by decide, by decide⟩⟩ ?_
  refine x_iload_n (p2 := 4) rfl dX10_branchBytesOf_3 rfl ?_
  refine x_iadd (p2 := 5) rfl dX10_branchBytesOf_4 ⟨by omega, by omega⟩ ?_
  refine x_iald (p2 := 6) rfl dX10_branchBytesOf_5 hR (by omega) (by omega) ?_
  rw [hr.x hb.1 hb.2]
  refine x_istore_n (p2 := 7) (i := 3) (L2 := [(0, _), (1, _), (2, _), (3, _)]) rfl dX10_branchBytesOf_6 rfl ⟨rfl, Nat.le_of_ble_eq_true rfl⟩ rfl ?_
  refine x_iconst (p2 := 8) rfl dX10_branchBytesOf_7 ⟨by decide, by decide⟩ ?_
  refine x_istore (p2 := 10) (i := 4) (L2 := [(0, _), (1, _), (2, _), (3, _), (4, _)]) rfl dX10_branchBytesOf_8 ⟨rfl, Nat.le_of_ble_eq_true rfl⟩ rfl ?_
  refine x_iconst (p2 := 11) rfl dX10_branchBytesOf_10 ⟨by decide, by decide⟩ ?_
  refine x_istore (p2 := 13) (i := 5) (L2 := [(0, _), (1, _), (2, _), (3, _), (4, _), (5, _)]) rfl dX10_branchBytesOf_11 ⟨rfl, Nat.le_of_ble_eq_true rfl⟩ rfl ?_
  refine x_pick (L2 := [(0, _), (1, _), (2, _), (3, _), (4, _), (5, _)]) [0, 1, 2, 3, 4, 5] rfl ?_
  exact t_bb_l hD hR hn hr hG hO hb rfl (v.1 b).toNat 0 0 (by omega) (by omega) (by omega) hq
set_option maxHeartbeats 4000000 in
theorem t_co1 {D R : Nat} (hD : isMd σ ρ D) (hR : σ[R]? = some (100, 50)) {n : Int} {v : vV} (hn : M D 2 = n) (hr : smr n v (M R)) (hG : wfG n v.1 v.2.1 v.2.2.1) (hO : wfO n v.2.2.2.1 v.2.2.2.2.1) {b : Int} (hb : 0 ≤ b ∧ b < n) : ∀ (m : Nat) (k s : Int), 0 ≤ k → k + m = v.1 b → 0 ≤ s → s ≤ 594 * b + 297 * k → xX G mX10_costOf 0 0 55 [(0, xP D), (1, xP R), (2, xI (s + sg (fun k => v.2.2.1 (2 * b + k) * pcst v.1 v.2.1 v.2.2.1 b k (fob n v.2.2.2.1 v.2.2.2.2.1 b)) k m)), (3, xI b)] [] (σ, ρ, M) Q → xX G mX10_costOf 0 0 15 [(0, xP D), (1, xP R), (2, xI s), (3, xI b), (4, xI k)] [] (σ, ρ, M) Q := by
  have h8 := hG.2.1
  have h1 := hG.1
  obtain ⟨w1, w2, w3, w4⟩ := hG.2.2 b hb.1 hb.2
  intro m
  induction m with
  | zero =>
    intro k s h0 hm hs1 hs2 hq
    refine x_iload (p2 := 17) rfl dX10_costOf_15 rfl ?_
    refine x_aload_n (p2 := 18) rfl dX10_costOf_17 rfl ?_
    refine x_bipush (p2 := 20) rfl dX10_costOf_18 ⟨by decide, ⟨by decide, by decide⟩⟩ ?_
    refine x_iload_n (p2 := 21) rfl dX10_costOf_20 rfl ?_
    refine x_iadd (p2 := 22) rfl dX10_costOf_21 ⟨by omega, by omega⟩ ?_
    refine x_iald (p2 := 23) rfl dX10_costOf_22 hR (by omega) (by omega) ?_
    rw [hr.x hb.1 hb.2]
    refine x_ic_ge (p2 := 26) (t := 55) (by decide) rfl dX10_costOf_23 (fun hc23 => ?_) (fun hc23 => absurd hc23 (by omega))
    refine x_pick (L2 := [(0, _), (1, _), (2, _), (3, _)]) [0, 1, 2, 3] rfl ?_
    unfold sg at hq; rw [Int.add_zero] at hq; exact hq
  | succ m ih =>
    intro k s h0 hm hs1 hs2 hq
    have wk := w3 k h0 (by omega)
    have hpb := pcst_bd (ex := v.1) (tg := v.2.1) (ct := v.2.2.1) (b := b) (k := k) (f := fob n v.2.2.2.1 v.2.2.2.2.1 b)
    have hmb := mul_bd wk.2.2.1 wk.2.2.2 hpb.1 hpb.2
    unfold sg at hq
    rw [← Int.add_assoc] at hq
    refine x_iload (p2 := 17) rfl dX10_costOf_15 rfl ?_
    refine x_aload_n (p2 := 18) rfl dX10_costOf_17 rfl ?_
    refine x_bipush (p2 := 20) rfl dX10_costOf_18 ⟨by decide, ⟨by decide, by decide⟩⟩ ?_
    refine x_iload_n (p2 := 21) rfl dX10_costOf_20 rfl ?_
    refine x_iadd (p2 := 22) rfl dX10_costOf_21 ⟨by omega, by omega⟩ ?_
    refine x_iald (p2 := 23) rfl dX10_costOf_22 hR (by omega) (by omega) ?_
    rw [hr.x hb.1 hb.2]
    refine x_ic_ge (p2 := 26) (t := 55) (by decide) rfl dX10_costOf_23 (fun hc23 => ?_) (fun hc23 => ?_)
    · exact absurd hc23 (by omega)
    refine x_iload_n (p2 := 27) rfl dX10_costOf_26 rfl ?_
    refine x_aload_n (p2 := 28) rfl dX10_costOf_27 rfl ?_
    refine x_bipush (p2 := 30) rfl dX10_costOf_28 ⟨by decide, ⟨by decide, by decide⟩⟩ ?_
    refine x_iconst (p2 := 31) rfl dX10_costOf_30 ⟨by decide, by decide⟩ ?_
    refine x_iload_n (p2 := 32) rfl dX10_costOf_31 rfl ?_
    refine x_imul (p2 := 33) rfl dX10_costOf_32 ⟨by omega, by omega⟩ ?_
    refine x_iadd (p2 := 34) rfl dX10_costOf_33 ⟨by omega, by omega⟩ ?_
    refine x_iload (p2 := 36) rfl dX10_costOf_34 rfl ?_
    refine x_iadd (p2 := 37) rfl dX10_costOf_36 ⟨by omega, by omega⟩ ?_
    refine x_iald (p2 := 38) rfl dX10_costOf_37 hR (by omega) (by omega) ?_
    rw [hr.c hb.1 hb.2 h0 (by omega)]
    refine x_aload_n (p2 := 39) rfl dX10_costOf_38 rfl ?_
    refine x_aload_n (p2 := 40) rfl dX10_costOf_39 rfl ?_
    refine x_iload_n (p2 := 41) rfl dX10_costOf_40 rfl ?_
    refine x_iload (p2 := 43) rfl dX10_costOf_41 rfl ?_
    refine x_v3 (p2 := 46) rfl dX10_costOf_43 l_10_120 ok_X10_edgeCostOf rfl hD.sh rfl ?_
    refine t_X10_edgeCostOf hD hR hn hr hG hO (by omega) (by omega) ?_
    refine x_imul (p2 := 47) rfl dX10_costOf_46 ⟨by omega, by omega⟩ ?_
    refine x_iadd (p2 := 48) rfl dX10_costOf_47 ⟨by omega, by omega⟩ ?_
    refine x_istore_n (p2 := 49) (i := 2) (L2 := [(0, _), (1, _), (2, _), (3, _), (4, _)]) rfl dX10_costOf_48 rfl ⟨rfl, Nat.le_of_ble_eq_true rfl⟩ rfl ?_
    refine x_iinc (p2 := 52) (L2 := [(0, _), (1, _), (2, _), (3, _), (4, _)]) rfl dX10_costOf_49 rfl ⟨by omega, by omega⟩ ⟨rfl, Nat.le_of_ble_eq_true rfl⟩ rfl ?_
    refine x_goto (t := 15) (by decide) dX10_costOf_52 ?_
    refine x_pick (L2 := [(0, _), (1, _), (2, _), (3, _), (4, _)]) [0, 1, 2, 3, 4] rfl ?_
    exact ih _ _ (by omega) (by omega) (by omega) (by omega) hq
set_option maxHeartbeats 4000000 in
theorem t_co2 {D R : Nat} (hD : isMd σ ρ D) (hR : σ[R]? = some (100, 50)) {n : Int} {v : vV} (hn : M D 2 = n) (hr : smr n v (M R)) (hG : wfG n v.1 v.2.1 v.2.2.1) (hO : wfO n v.2.2.2.1 v.2.2.2.2.1) : ∀ (m : Nat) (b s : Int), 0 ≤ b → b + m = n → 0 ≤ s → s ≤ 594 * b → Q (some (xI (s + sg (fun b => shr v.1 v.2.1 v.2.2.1 b (fob n v.2.2.2.1 v.2.2.2.2.1 b)) b m))) (σ, ρ, M) → xX G mX10_costOf 0 0 4 [(0, xP D), (1, xP R), (2, xI s), (3, xI b)] [] (σ, ρ, M) Q := by
  have h8 := hG.2.1
  have h1 := hG.1
  intro m
  induction m with
  | zero =>
    intro b s h0 hm hs1 hs2 hq
    refine x_iload_n (p2 := 5) rfl dX10_costOf_4 rfl ?_
    refine x_aload_n (p2 := 6) rfl dX10_costOf_5 rfl ?_
    refine x_geti (p2 := 9) (kz := 2) rfl dX10_costOf_6 f_10_53 rfl rfl hD.sh ?_
    rw [hn]
    refine x_ic_ge (p2 := 12) (t := 61) (by decide) rfl dX10_costOf_9 (fun hc9 => ?_) (fun hc9 => absurd hc9 (by omega))
    refine x_iload_n (p2 := 62) rfl dX10_costOf_61 rfl ?_
    refine x_iret dX10_costOf_62 rfl ?_
    unfold sg at hq; rw [Int.add_zero] at hq; exact hq
  | succ m ih =>
    intro b s h0 hm hs1 hs2 hq
    have hw := hG.2.2 b h0 (by omega)
    have hw0 := hw.1
    have hsb := shr_bd (f := fob n v.2.2.2.1 v.2.2.2.2.1 b) hw
    unfold sg at hq
    rw [← Int.add_assoc] at hq
    refine x_iload_n (p2 := 5) rfl dX10_costOf_4 rfl ?_
    refine x_aload_n (p2 := 6) rfl dX10_costOf_5 rfl ?_
    refine x_geti (p2 := 9) (kz := 2) rfl dX10_costOf_6 f_10_53 rfl rfl hD.sh ?_
    rw [hn]
    refine x_ic_ge (p2 := 12) (t := 61) (by decide) rfl dX10_costOf_9 (fun hc9 => ?_) (fun hc9 => ?_)
    · exact absurd hc9 (by omega)
    refine x_iconst (p2 := 13) rfl dX10_costOf_12 ⟨by decide, by decide⟩ ?_
    refine x_istore (p2 := 15) (i := 4) (L2 := [(0, _), (1, _), (2, _), (3, _), (4, _)]) rfl dX10_costOf_13 ⟨rfl, Nat.le_of_ble_eq_true rfl⟩ rfl ?_
    refine x_pick (L2 := [(0, _), (1, _), (2, _), (3, _), (4, _)]) [0, 1, 2, 3, 4] rfl ?_
    refine t_co1 hD hR hn hr hG hO (by omega) (v.1 b).toNat 0 s (by omega) (by omega) (by omega) (by omega) ?_
    refine x_iinc (p2 := 58) (L2 := [(0, _), (1, _), (2, _), (3, _)]) rfl dX10_costOf_55 rfl ⟨by omega, by omega⟩ ⟨rfl, Nat.le_of_ble_eq_true rfl⟩ rfl ?_
    refine x_goto (t := 4) (by decide) dX10_costOf_58 ?_
    refine x_pick (L2 := [(0, _), (1, _), (2, _), (3, _)]) [0, 1, 2, 3] rfl ?_
    exact ih _ _ (by omega) (by omega) (by unfold shr at hsb; omega) (by unfold shr at hsb; omega) hq
theorem fob_od {n hot i : Int} {od : Int → Int} (hO : wfO n od hot) (h0 : 0 ≤ i) (h1 : i < n) : fob n od hot (od i) = fa n od hot i := by
  unfold fob; rw [pos_un hO h0 h1]
theorem tcs_b {n hot : Int} {ex tg ct od : Int → Int} (hO : wfO n od hot) : tcs n ex tg ct od hot = sg (fun b => shr ex tg ct b (fob n od hot b)) 0 n.toNat := by
  unfold tcs
  rw [← sg_od (g := fun b => shr ex tg ct b (fob n od hot b)) hO]
  exact sg_cong n.toNat 0 (fun i a b => by rw [fob_od hO (by omega) (by omega)])
set_option maxHeartbeats 4000000 in
theorem t_X10_costOf {D R : Nat} (hD : isMd σ ρ D) (hR : σ[R]? = some (100, 50)) {n : Int} {v : vV} (hn : M D 2 = n) (hr : smr n v (M R)) (hG : wfG n v.1 v.2.1 v.2.2.1) (hO : wfO n v.2.2.2.1 v.2.2.2.2.1) (hq : Q (some (xI (tcs n v.1 v.2.1 v.2.2.1 v.2.2.2.1 v.2.2.2.2.1))) (σ, ρ, M)) : xX G mX10_costOf 0 0 0 [(0, xP D), (1, xP R)] [] (σ, ρ, M) Q := by
  have h8 := hG.2.1
  have h1 := hG.1
  rw [tcs_b hO] at hq
  refine x_iconst (p2 := 1) rfl dX10_costOf_0 ⟨by decide, by decide⟩ ?_
  refine x_istore_n (p2 := 2) (i := 2) (L2 := [(0, _), (1, _), (2, _)]) rfl dX10_costOf_1 rfl ⟨rfl, Nat.le_of_ble_eq_true rfl⟩ rfl ?_
  refine x_iconst (p2 := 3) rfl dX10_costOf_2 ⟨by decide, by decide⟩ ?_
  refine x_istore_n (p2 := 4) (i := 3) (L2 := [(0, _), (1, _), (2, _), (3, _)]) rfl dX10_costOf_3 rfl ⟨rfl, Nat.le_of_ble_eq_true rfl⟩ rfl ?_
  refine x_pick (L2 := [(0, _), (1, _), (2, _), (3, _)]) [0, 1, 2, 3] rfl ?_
  exact t_co2 hD hR hn hr hG hO n.toNat 0 0 (by omega) (by omega) (by omega) (by omega) (by rw [Int.zero_add]; exact hq)
end XME
