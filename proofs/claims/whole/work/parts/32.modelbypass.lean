section XMJ
variable {G : xG} {σ : List (Nat × Nat)} {ρ : Nat → Int → Option Nat} {M : Nat → Int → Int} {Q : Option xV → xH → Prop}
theorem smr_t {n b k x ht al : Int} {ex tg ct od : Int → Int} {r : Int → Int} (h : smr n (ex, tg, ct, od, ht, al) r) (h8 : n ≤ 8) (hx : ∀ b, 0 ≤ b → b < n → ex b ≤ 2) (hb : 0 ≤ b ∧ b < n ∧ 0 ≤ k ∧ k < ex b) : smr n (ex, upf tg (2 * b + k) x, ct, od, ht, al) (upf r (18 + 2 * b + k) x) := by
  have gb := hx b hb.1 hb.2.1
  refine ⟨fun c a d => ?_, fun c j a d e f => ?_, fun i a d => ?_, ?_, ?_⟩
  · rw [upf_n (by omega)]; exact h.x a d
  · have g := hx c a d
    have f : j < ex c := f
    refine ⟨?_, by rw [upf_n (by omega)]; exact h.c a d e f⟩
    by_cases hc : 2 * c + j = 2 * b + k
    · rw [show 18 + 2 * c + j = 18 + 2 * b + k by omega, upf_s]
      dsimp only
      rw [hc, upf_s]
    · rw [upf_n (by omega)]
      dsimp only
      rw [upf_n hc]; exact h.t a d e f
  · rw [upf_n (by omega)]; exact h.o a d
  · rw [upf_n (by omega)]; exact h.h
  · rw [upf_n (by omega)]; exact h.a
theorem smr_j {n f x ht al : Int} {ex tg ct od : Int → Int} {r r2 : Int → Int} (h : smr n (ex, tg, ct, od, ht, al) r) (h8 : n ≤ 8) (hx : ∀ b, 0 ≤ b → b < n → ex b ≤ 2) (hf : 0 ≤ f ∧ f < n ∧ ex f = 2) (h1 : r2 (10 + f) = 1) (h2 : r2 (34 + 2 * f) = x) (h3 : ∀ y, y ≠ 10 + f → y ≠ 34 + 2 * f → y ≠ 34 + 2 * f + 1 → y ≠ 18 + 2 * f + 1 → r2 y = r y) : smr n (upf ex f 1, tg, upf ct (2 * f + 0) x, od, ht, al) r2 := by
  refine ⟨fun c a d => ?_, fun c j a d e g => ?_, fun i a d => ?_, ?_, ?_⟩
  · dsimp only
    by_cases hc : c = f
    · rw [hc, upf_s]; exact h1
    · rw [upf_n hc, h3 _ (by omega) (by omega) (by omega) (by omega)]; exact h.x a d
  · dsimp only at g ⊢
    have gx := hx c a d
    by_cases hc : c = f
    · subst hc
      rw [upf_s] at g
      have hj : j = 0 := by omega
      subst hj
      rw [upf_s, show 18 + 2 * c + 0 = 18 + 2 * c by omega, show 34 + 2 * c + 0 = 34 + 2 * c by omega, h2, h3 _ (by omega) (by omega) (by omega) (by omega)]
      exact ⟨h.t0 a d (show 0 < ex c by omega), rfl⟩
    · rw [upf_n hc] at g
      rw [upf_n (by omega), h3 _ (by omega) (by omega) (by omega) (by omega), h3 _ (by omega) (by omega) (by omega) (by omega)]
      exact ⟨h.t a d e g, h.c a d e g⟩
  · rw [h3 _ (by omega) (by omega) (by omega) (by omega)]; exact h.o a d
  · rw [h3 _ (by omega) (by omega) (by omega) (by omega)]; exact h.h
  · rw [h3 _ (by omega) (by omega) (by omega) (by omega)]; exact h.a
set_option maxHeartbeats 4000000 in
theorem t_X10_bypassError {D R : Nat} (hD : isMd σ ρ D) (hR : σ[R]? = some (100, 50)) {n : Int} {v : vV} (hn : M D 2 = n) (hr : smr n v (M R)) (hG : wfG n v.1 v.2.1 v.2.2.1) {byt : Int → Int} (hyb : ∀ b, 0 ≤ b → b < n → M (D + 2) b = byt b) {b : Int} (k1 : ¬ (0 ≤ b ∧ b < n) → Q (some (xI (-1))) (σ, ρ, M)) (k3 : (0 ≤ b ∧ b < n) ∧ (b = 0 ∨ byt b ≠ 0 ∨ v.1 b ≠ 1 ∨ v.2.1 (2 * b + 0) = b) → Q (some (xI (-3))) (σ, ρ, M)) (k0 : (0 < b ∧ b < n ∧ byt b = 0 ∧ v.1 b = 1 ∧ v.2.1 (2 * b + 0) ≠ b) → Q (some (xI 0)) (σ, ρ, M)) : xX G mX10_bypassError 0 0 0 [(0, xP D), (1, xP R), (2, xI b)] [] (σ, ρ, M) Q := by
  have h8 := hG.2.1
  have h1 := hG.1
  refine x_aload_n (p2 := 1) rfl dX10_bypassError_0 rfl ?_
  refine x_iload_n (p2 := 2) rfl dX10_bypassError_1 rfl ?_
  refine x_v1 (p2 := 5) rfl dX10_bypassError_2 l_10_61 ok_X10_isBlock rfl hD.sh rfl ?_
  refine t_X10_isBlock hD (by rw [hn]; omega) (fun hb2 => ?_) (fun hb2 => ?_)
  all_goals rw [hn] at hb2
  · skip
    refine x_if_ne (p2 := 8) (t := 10) (by decide) rfl dX10_bypassError_5 (fun _ => ?_) (fun hc => absurd hc (by decide))
    refine x_iload_n (p2 := 11) rfl dX10_bypassError_10 rfl ?_
    refine x_if_eq (p2 := 14) (t := 45) (by decide) rfl dX10_bypassError_11 (fun hc11 => ?_) (fun hc11 => ?_)
    · skip
      refine x_bipush (p2 := 47) rfl dX10_bypassError_45 ⟨by decide, ⟨by decide, by decide⟩⟩ ?_
      refine x_goto (t := 51) (by decide) dX10_bypassError_47 ?_
      refine x_iret dX10_bypassError_51 rfl ?_
      exact k3 (by omega)
    · skip
      refine x_aload_n (p2 := 15) rfl dX10_bypassError_14 rfl ?_
      refine x_getr (p2 := 18) (kz := 3) rfl dX10_bypassError_15 f_10_13 rfl rfl hD.sh hD.r3 ?_
      refine x_iload_n (p2 := 19) rfl dX10_bypassError_18 rfl ?_
      refine x_iald (p2 := 20) rfl dX10_bypassError_19 hD.a3 (by omega) (by omega) ?_
      rw [hyb b hb2.1 hb2.2]
      refine x_if_ne (p2 := 23) (t := 45) (by decide) rfl dX10_bypassError_20 (fun hc20 => ?_) (fun hc20 => ?_)
      · skip
        refine x_bipush (p2 := 47) rfl dX10_bypassError_45 ⟨by decide, ⟨by decide, by decide⟩⟩ ?_
        refine x_goto (t := 51) (by decide) dX10_bypassError_47 ?_
        refine x_iret dX10_bypassError_51 rfl ?_
        exact k3 (by omega)
      · skip
        refine x_aload_n (p2 := 24) rfl dX10_bypassError_23 rfl ?_
        refine x_bipush (p2 := 26) rfl dX10_bypassError_24 ⟨by decide, ⟨by decide, by decide⟩⟩ ?_
        refine x_iload_n (p2 := 27) rfl dX10_bypassError_26 rfl ?_
        refine x_iadd (p2 := 28) rfl dX10_bypassError_27 ⟨by omega, by omega⟩ ?_
        refine x_iald (p2 := 29) rfl dX10_bypassError_28 hR (by omega) (by omega) ?_
        rw [hr.x hb2.1 hb2.2]
        refine x_iconst (p2 := 30) rfl dX10_bypassError_29 ⟨by decide, by decide⟩ ?_
        refine x_ic_ne (p2 := 33) (t := 45) (by decide) rfl dX10_bypassError_30 (fun hc30 => ?_) (fun hc30 => ?_)
        · skip
          refine x_bipush (p2 := 47) rfl dX10_bypassError_45 ⟨by decide, ⟨by decide, by decide⟩⟩ ?_
          refine x_goto (t := 51) (by decide) dX10_bypassError_47 ?_
          refine x_iret dX10_bypassError_51 rfl ?_
          exact k3 (by omega)
        · skip
          refine x_aload_n (p2 := 34) rfl dX10_bypassError_33 rfl ?_
          refine x_bipush (p2 := 36) rfl dX10_bypassError_34 ⟨by decide, ⟨by decide, by decide⟩⟩ ?_
          refine x_iconst (p2 := 37) rfl dX10_bypassError_36 ⟨by decide, by decide⟩ ?_
          refine x_iload_n (p2 := 38) rfl dX10_bypassError_37 rfl ?_
          refine x_imul (p2 := 39) rfl dX10_bypassError_38 ⟨by omega, by omega⟩ ?_
          refine x_iadd (p2 := 40) rfl dX10_bypassError_39 ⟨by omega, by omega⟩ ?_
          refine x_iald (p2 := 41) rfl dX10_bypassError_40 hR (by omega) (by omega) ?_
          rw [hr.t0 hb2.1 hb2.2 (by omega)]
          refine x_iload_n (p2 := 42) rfl dX10_bypassError_41 rfl ?_
          refine x_ic_ne (p2 := 45) (t := 50) (by decide) rfl dX10_bypassError_42 (fun hc42 => ?_) (fun hc42 => ?_)
          · skip
            refine x_iconst (p2 := 51) rfl dX10_bypassError_50 ⟨by decide, by decide⟩ ?_
            refine x_iret dX10_bypassError_51 rfl ?_
            exact k0 (by omega)
          · skip
            refine x_bipush (p2 := 47) rfl dX10_bypassError_45 ⟨by decide, ⟨by decide, by decide⟩⟩ ?_
            refine x_goto (t := 51) (by decide) dX10_bypassError_47 ?_
            refine x_iret dX10_bypassError_51 rfl ?_
            exact k3 (by omega)
  · skip
    refine x_if_ne (p2 := 8) (t := 10) (by decide) rfl dX10_bypassError_5 (fun hc => absurd hc (by decide)) (fun _ => ?_)
    refine x_iconst (p2 := 9) rfl dX10_bypassError_8 ⟨by decide, by decide⟩ ?_
    refine x_iret dX10_bypassError_9 rfl ?_
    exact k1 (by omega)
set_option maxHeartbeats 4000000 in
theorem t_bp1 {D R : Nat} (hD : isMd σ ρ D) (hR : σ[R]? = some (100, 50)) {n b to f : Int} {ex ct od : Int → Int} {ht al : Int} (h8 : n ≤ 8) (hf : 0 ≤ f ∧ f < n) (hx : ∀ b, 0 ≤ b → b < n → ex b ≤ 2) (hto : to ≠ b) : ∀ (m : Nat) (k c : Int) (tg : Int → Int) (M1 : Nat → Int → Int), 0 ≤ k → k + m = ex f → 0 ≤ c → c ≤ 2 * f + k → tg (2 * b + 0) = to → smr n (ex, tg, ct, od, ht, al) (M1 R) → (∀ a, a ≠ R → M1 a = M a) → (∀ M2, smr n (ex, (ga1 b f m k tg c).1, ct, od, ht, al) (M2 R) → (∀ a, a ≠ R → M2 a = M a) → xX G mX10_bypassIn 0 0 77 [(0, xP D), (1, xP R), (2, xI b), (3, xI to), (4, xI (ga1 b f m k tg c).2), (5, xI f)] [] (σ, ρ, M2) Q) → xX G mX10_bypassIn 0 0 27 [(0, xP D), (1, xP R), (2, xI b), (3, xI to), (4, xI c), (5, xI f), (6, xI k)] [] (σ, ρ, M1) Q := by
  have hxf := hx f hf.1 hf.2
  intro m
  induction m with
  | zero =>
    intro k c tg M1 h0 hm c0 c1 ht1 g1 g2 hq
    unfold ga1 at hq
    refine x_iload (p2 := 29) rfl dX10_bypassIn_27 rfl ?_
    refine x_aload_n (p2 := 30) rfl dX10_bypassIn_29 rfl ?_
    refine x_bipush (p2 := 32) rfl dX10_bypassIn_30 ⟨by decide, ⟨by decide, by decide⟩⟩ ?_
    refine x_iload (p2 := 34) rfl dX10_bypassIn_32 rfl ?_
    refine x_iadd (p2 := 35) rfl dX10_bypassIn_34 ⟨by omega, by omega⟩ ?_
    refine x_iald (p2 := 36) rfl dX10_bypassIn_35 hR (by omega) (by omega) ?_
    rw [g1.x hf.1 hf.2]
    change xX _ _ _ _ _ _ (xI (ex f) :: _) _ _
    refine x_ic_ge (p2 := 39) (t := 77) (by decide) rfl dX10_bypassIn_36 (fun hc36 => ?_) (fun hc36 => absurd hc36 (by omega))
    refine x_pick (L2 := [(0, _), (1, _), (2, _), (3, _), (4, _), (5, _)]) [0, 1, 2, 3, 4, 5] rfl ?_
    exact hq M1 g1 g2
  | succ m ih =>
    intro k c tg M1 h0 hm c0 c1 ht1 g1 g2 hq
    unfold ga1 at hq
    refine x_iload (p2 := 29) rfl dX10_bypassIn_27 rfl ?_
    refine x_aload_n (p2 := 30) rfl dX10_bypassIn_29 rfl ?_
    refine x_bipush (p2 := 32) rfl dX10_bypassIn_30 ⟨by decide, ⟨by decide, by decide⟩⟩ ?_
    refine x_iload (p2 := 34) rfl dX10_bypassIn_32 rfl ?_
    refine x_iadd (p2 := 35) rfl dX10_bypassIn_34 ⟨by omega, by omega⟩ ?_
    refine x_iald (p2 := 36) rfl dX10_bypassIn_35 hR (by omega) (by omega) ?_
    rw [g1.x hf.1 hf.2]
    change xX _ _ _ _ _ _ (xI (ex f) :: _) _ _
    refine x_ic_ge (p2 := 39) (t := 77) (by decide) rfl dX10_bypassIn_36 (fun hc36 => ?_) (fun hc36 => ?_)
    · exact absurd hc36 (by omega)
    refine x_aload_n (p2 := 40) rfl dX10_bypassIn_39 rfl ?_
    refine x_bipush (p2 := 42) rfl dX10_bypassIn_40 ⟨by decide, ⟨by decide, by decide⟩⟩ ?_
    refine x_iconst (p2 := 43) rfl dX10_bypassIn_42 ⟨by decide, by decide⟩ ?_
    refine x_iload (p2 := 45) rfl dX10_bypassIn_43 rfl ?_
    refine x_imul (p2 := 46) rfl dX10_bypassIn_45 ⟨by omega, by omega⟩ ?_
    refine x_iadd (p2 := 47) rfl dX10_bypassIn_46 ⟨by omega, by omega⟩ ?_
    refine x_iload (p2 := 49) rfl dX10_bypassIn_47 rfl ?_
    refine x_iadd (p2 := 50) rfl dX10_bypassIn_49 ⟨by omega, by omega⟩ ?_
    refine x_iald (p2 := 51) rfl dX10_bypassIn_50 hR (by omega) (by omega) ?_
    rw [g1.t hf.1 hf.2 h0 (show k < ex f by omega)]
    change xX _ _ _ _ _ _ (xI (tg (2 * f + k)) :: _) _ _
    refine x_iload_n (p2 := 52) rfl dX10_bypassIn_51 rfl ?_
    refine x_ic_ne (p2 := 55) (t := 71) (by decide) rfl dX10_bypassIn_52 (fun hc52 => ?_) (fun hc52 => ?_)
    · skip
      refine x_iinc (p2 := 74) (L2 := [(0, _), (1, _), (2, _), (3, _), (4, _), (5, _), (6, _)]) rfl dX10_bypassIn_71 rfl ⟨by omega, by omega⟩ ⟨rfl, Nat.le_of_ble_eq_true rfl⟩ rfl ?_
      refine x_goto (t := 27) (by decide) dX10_bypassIn_74 ?_
      refine x_pick (L2 := [(0, _), (1, _), (2, _), (3, _), (4, _), (5, _), (6, _)]) [0, 1, 2, 3, 4, 5, 6] rfl ?_
      first
        | (have hc : tg (2 * f + k) = b := hc52
           rw [if_pos hc] at hq
           have hne : 2 * b + 0 ≠ 2 * f + k := fun z => hto (by rw [← ht1, z]; exact hc)
           rw [ht1] at hq
           refine ih (k + 1) (c + 1) _ _ (by omega) (by omega) (by omega) (by omega) (by rw [upf_n hne]; exact ht1) ?_ (fun a z => by rw [xu_c z]; exact g2 a z) hq
           rw [xu_eq, xw_s]
           exact smr_t g1 h8 hx ⟨hf.1, hf.2, h0, by omega⟩)
        | (have hc : ¬ tg (2 * f + k) = b := hc52
           rw [if_neg hc] at hq
           exact ih (k + 1) c tg M1 (by omega) (by omega) (by omega) (by omega) ht1 g1 g2 hq)
    · skip
      refine x_aload_n (p2 := 56) rfl dX10_bypassIn_55 rfl ?_
      refine x_bipush (p2 := 58) rfl dX10_bypassIn_56 ⟨by decide, ⟨by decide, by decide⟩⟩ ?_
      refine x_iconst (p2 := 59) rfl dX10_bypassIn_58 ⟨by decide, by decide⟩ ?_
      refine x_iload (p2 := 61) rfl dX10_bypassIn_59 rfl ?_
      refine x_imul (p2 := 62) rfl dX10_bypassIn_61 ⟨by omega, by omega⟩ ?_
      refine x_iadd (p2 := 63) rfl dX10_bypassIn_62 ⟨by omega, by omega⟩ ?_
      refine x_iload (p2 := 65) rfl dX10_bypassIn_63 rfl ?_
      refine x_iadd (p2 := 66) rfl dX10_bypassIn_65 ⟨by omega, by omega⟩ ?_
      refine x_iload_n (p2 := 67) rfl dX10_bypassIn_66 rfl ?_
      refine x_iast (p2 := 68) rfl dX10_bypassIn_67 hR (by omega) (by omega) ?_
      refine x_iinc (p2 := 71) (L2 := [(0, _), (1, _), (2, _), (3, _), (4, _), (5, _), (6, _)]) rfl dX10_bypassIn_68 rfl ⟨by omega, by omega⟩ ⟨rfl, Nat.le_of_ble_eq_true rfl⟩ rfl ?_
      refine x_iinc (p2 := 74) (L2 := [(0, _), (1, _), (2, _), (3, _), (4, _), (5, _), (6, _)]) rfl dX10_bypassIn_71 rfl ⟨by omega, by omega⟩ ⟨rfl, Nat.le_of_ble_eq_true rfl⟩ rfl ?_
      refine x_goto (t := 27) (by decide) dX10_bypassIn_74 ?_
      refine x_pick (L2 := [(0, _), (1, _), (2, _), (3, _), (4, _), (5, _), (6, _)]) [0, 1, 2, 3, 4, 5, 6] rfl ?_
      first
        | (have hc : tg (2 * f + k) = b := hc52
           rw [if_pos hc] at hq
           have hne : 2 * b + 0 ≠ 2 * f + k := fun z => hto (by rw [← ht1, z]; exact hc)
           rw [ht1] at hq
           refine ih (k + 1) (c + 1) _ _ (by omega) (by omega) (by omega) (by omega) (by rw [upf_n hne]; exact ht1) ?_ (fun a z => by rw [xu_c z]; exact g2 a z) hq
           rw [xu_eq, xw_s]
           exact smr_t g1 h8 hx ⟨hf.1, hf.2, h0, by omega⟩)
        | (have hc : ¬ tg (2 * f + k) = b := hc52
           rw [if_neg hc] at hq
           exact ih (k + 1) c tg M1 (by omega) (by omega) (by omega) (by omega) ht1 g1 g2 hq)
set_option maxHeartbeats 4000000 in
theorem t_bp2 {D R : Nat} (hD : isMd σ ρ D) (hR : σ[R]? = some (100, 50)) {n b to f c : Int} {ex tg ct od : Int → Int} {ht al : Int} (hG1 : 1 ≤ n ∧ n ≤ 8) (hf : 0 ≤ f ∧ f < n) (hx : ∀ b, 0 ≤ b → b < n → ex b ≤ 2) (hct : ex f = 2 → (0 ≤ ct (2 * f + 0) ∧ ct (2 * f + 0) ≤ 99) ∧ (0 ≤ ct (2 * f + 1) ∧ ct (2 * f + 1) ≤ 99)) (g1 : smr n (ex, tg, ct, od, ht, al) (M R)) (hq : ∀ M2 L, smr n (jnE f ex tg, tg, jnC f ex tg ct, od, ht, al) (M2 R) → (∀ a, a ≠ R → M2 a = M a) → (L = [] ∨ ∃ z, L = [(6, xI z)]) → xX G mX10_bypassIn 0 0 189 ([(0, xP D), (1, xP R), (2, xI b), (3, xI to), (4, xI c), (5, xI f) ] ++ L) [] (σ, ρ, M2) Q) : xX G mX10_bypassIn 0 0 77 [(0, xP D), (1, xP R), (2, xI b), (3, xI to), (4, xI c), (5, xI f)] [] (σ, ρ, M) Q := by
  have hxf := hx f hf.1 hf.2
  unfold jnE jnC at hq
  refine x_aload_n (p2 := 78) rfl dX10_bypassIn_77 rfl ?_
  refine x_bipush (p2 := 80) rfl dX10_bypassIn_78 ⟨by decide, ⟨by decide, by decide⟩⟩ ?_
  refine x_iload (p2 := 82) rfl dX10_bypassIn_80 rfl ?_
  refine x_iadd (p2 := 83) rfl dX10_bypassIn_82 ⟨by omega, by omega⟩ ?_
  refine x_iald (p2 := 84) rfl dX10_bypassIn_83 hR (by omega) (by omega) ?_
  rw [g1.x hf.1 hf.2]
  change xX _ _ _ _ _ _ (xI (ex f) :: _) _ _
  refine x_iconst (p2 := 85) rfl dX10_bypassIn_84 ⟨by decide, by decide⟩ ?_
  refine x_ic_ne (p2 := 88) (t := 189) (by decide) rfl dX10_bypassIn_85 (fun hc85 => ?_) (fun hc85 => ?_)
  · skip
    have hj : ¬ (ex f = 2 ∧ tg (2 * f + 0) = tg (2 * f + 1)) := by
      first
        | exact fun z => hc85 z.1
        | exact fun z => hc108 z.2
    rw [if_neg hj, if_neg hj] at hq
    exact hq M [] g1 (fun _ _ => rfl) (Or.inl rfl)
  · skip
    have hx2 : ex f = 2 := hc85
    have hcc := hct hx2
    refine x_aload_n (p2 := 89) rfl dX10_bypassIn_88 rfl ?_
    refine x_bipush (p2 := 91) rfl dX10_bypassIn_89 ⟨by decide, ⟨by decide, by decide⟩⟩ ?_
    refine x_iconst (p2 := 92) rfl dX10_bypassIn_91 ⟨by decide, by decide⟩ ?_
    refine x_iload (p2 := 94) rfl dX10_bypassIn_92 rfl ?_
    refine x_imul (p2 := 95) rfl dX10_bypassIn_94 ⟨by omega, by omega⟩ ?_
    refine x_iadd (p2 := 96) rfl dX10_bypassIn_95 ⟨by omega, by omega⟩ ?_
    refine x_iald (p2 := 97) rfl dX10_bypassIn_96 hR (by omega) (by omega) ?_
    rw [g1.t0 hf.1 hf.2 (show 0 < ex f by omega)]
    refine x_aload_n (p2 := 98) rfl dX10_bypassIn_97 rfl ?_
    refine x_bipush (p2 := 100) rfl dX10_bypassIn_98 ⟨by decide, ⟨by decide, by decide⟩⟩ ?_
    refine x_iconst (p2 := 101) rfl dX10_bypassIn_100 ⟨by decide, by decide⟩ ?_
    refine x_iload (p2 := 103) rfl dX10_bypassIn_101 rfl ?_
    refine x_imul (p2 := 104) rfl dX10_bypassIn_103 ⟨by omega, by omega⟩ ?_
    refine x_iadd (p2 := 105) rfl dX10_bypassIn_104 ⟨by omega, by omega⟩ ?_
    refine x_iconst (p2 := 106) rfl dX10_bypassIn_105 ⟨by decide, by decide⟩ ?_
    refine x_iadd (p2 := 107) rfl dX10_bypassIn_106 ⟨by omega, by omega⟩ ?_
    refine x_iald (p2 := 108) rfl dX10_bypassIn_107 hR (by omega) (by omega) ?_
    rw [g1.t hf.1 hf.2 (by omega) (show 1 < ex f by omega)]
    change xX _ _ _ _ _ _ (xI (tg (2 * f + 1)) :: xI (tg (2 * f + 0)) :: _) _ _
    refine x_ic_ne (p2 := 111) (t := 189) (by decide) rfl dX10_bypassIn_108 (fun hc108 => ?_) (fun hc108 => ?_)
    · skip
      have hj : ¬ (ex f = 2 ∧ tg (2 * f + 0) = tg (2 * f + 1)) := by
        first
          | exact fun z => hc85 z.1
          | exact fun z => hc108 z.2
      rw [if_neg hj, if_neg hj] at hq
      exact hq M [] g1 (fun _ _ => rfl) (Or.inl rfl)
    · skip
      refine x_aload_n (p2 := 112) rfl dX10_bypassIn_111 rfl ?_
      refine x_bipush (p2 := 114) rfl dX10_bypassIn_112 ⟨by decide, ⟨by decide, by decide⟩⟩ ?_
      refine x_iconst (p2 := 115) rfl dX10_bypassIn_114 ⟨by decide, by decide⟩ ?_
      refine x_iload (p2 := 117) rfl dX10_bypassIn_115 rfl ?_
      refine x_imul (p2 := 118) rfl dX10_bypassIn_117 ⟨by omega, by omega⟩ ?_
      refine x_iadd (p2 := 119) rfl dX10_bypassIn_118 ⟨by omega, by omega⟩ ?_
      refine x_iald (p2 := 120) rfl dX10_bypassIn_119 hR (by omega) (by omega) ?_
      rw [g1.c0 hf.1 hf.2 (show 0 < ex f by omega)]
      refine x_aload_n (p2 := 121) rfl dX10_bypassIn_120 rfl ?_
      refine x_bipush (p2 := 123) rfl dX10_bypassIn_121 ⟨by decide, ⟨by decide, by decide⟩⟩ ?_
      refine x_iconst (p2 := 124) rfl dX10_bypassIn_123 ⟨by decide, by decide⟩ ?_
      refine x_iload (p2 := 126) rfl dX10_bypassIn_124 rfl ?_
      refine x_imul (p2 := 127) rfl dX10_bypassIn_126 ⟨by omega, by omega⟩ ?_
      refine x_iadd (p2 := 128) rfl dX10_bypassIn_127 ⟨by omega, by omega⟩ ?_
      refine x_iconst (p2 := 129) rfl dX10_bypassIn_128 ⟨by decide, by decide⟩ ?_
      refine x_iadd (p2 := 130) rfl dX10_bypassIn_129 ⟨by omega, by omega⟩ ?_
      refine x_iald (p2 := 131) rfl dX10_bypassIn_130 hR (by omega) (by omega) ?_
      rw [g1.c hf.1 hf.2 (by omega) (show 1 < ex f by omega)]
      change xX _ _ _ _ _ _ (xI (ct (2 * f + 1)) :: xI (ct (2 * f + 0)) :: _) _ _
      refine x_iadd (p2 := 132) rfl dX10_bypassIn_131 ⟨by omega, by omega⟩ ?_
      refine x_istore (p2 := 134) (i := 6) (L2 := [(0, _), (1, _), (2, _), (3, _), (4, _), (5, _), (6, _)]) rfl dX10_bypassIn_132 ⟨rfl, Nat.le_of_ble_eq_true rfl⟩ rfl ?_
      refine x_aload_n (p2 := 135) rfl dX10_bypassIn_134 rfl ?_
      refine x_bipush (p2 := 137) rfl dX10_bypassIn_135 ⟨by decide, ⟨by decide, by decide⟩⟩ ?_
      refine x_iconst (p2 := 138) rfl dX10_bypassIn_137 ⟨by decide, by decide⟩ ?_
      refine x_iload (p2 := 140) rfl dX10_bypassIn_138 rfl ?_
      refine x_imul (p2 := 141) rfl dX10_bypassIn_140 ⟨by omega, by omega⟩ ?_
      refine x_iadd (p2 := 142) rfl dX10_bypassIn_141 ⟨by omega, by omega⟩ ?_
      refine x_iload (p2 := 144) rfl dX10_bypassIn_142 rfl ?_
      refine x_bipush (p2 := 146) rfl dX10_bypassIn_144 ⟨by decide, ⟨by decide, by decide⟩⟩ ?_
      refine x_ic_le (p2 := 149) (t := 154) (by decide) rfl dX10_bypassIn_146 (fun hc146 => ?_) (fun hc146 => ?_)
      · skip
        refine x_iload (p2 := 156) rfl dX10_bypassIn_154 rfl ?_
        refine x_iast (p2 := 157) rfl dX10_bypassIn_156 hR (by omega) (by omega) ?_
        refine x_aload_n (p2 := 158) rfl dX10_bypassIn_157 rfl ?_
        refine x_bipush (p2 := 160) rfl dX10_bypassIn_158 ⟨by decide, ⟨by decide, by decide⟩⟩ ?_
        refine x_iconst (p2 := 161) rfl dX10_bypassIn_160 ⟨by decide, by decide⟩ ?_
        refine x_iload (p2 := 163) rfl dX10_bypassIn_161 rfl ?_
        refine x_imul (p2 := 164) rfl dX10_bypassIn_163 ⟨by omega, by omega⟩ ?_
        refine x_iadd (p2 := 165) rfl dX10_bypassIn_164 ⟨by omega, by omega⟩ ?_
        refine x_iconst (p2 := 166) rfl dX10_bypassIn_165 ⟨by decide, by decide⟩ ?_
        refine x_iadd (p2 := 167) rfl dX10_bypassIn_166 ⟨by omega, by omega⟩ ?_
        refine x_iconst (p2 := 168) rfl dX10_bypassIn_167 ⟨by decide, by decide⟩ ?_
        refine x_iast (p2 := 169) rfl dX10_bypassIn_168 hR (by omega) (by omega) ?_
        refine x_aload_n (p2 := 170) rfl dX10_bypassIn_169 rfl ?_
        refine x_bipush (p2 := 172) rfl dX10_bypassIn_170 ⟨by decide, ⟨by decide, by decide⟩⟩ ?_
        refine x_iconst (p2 := 173) rfl dX10_bypassIn_172 ⟨by decide, by decide⟩ ?_
        refine x_iload (p2 := 175) rfl dX10_bypassIn_173 rfl ?_
        refine x_imul (p2 := 176) rfl dX10_bypassIn_175 ⟨by omega, by omega⟩ ?_
        refine x_iadd (p2 := 177) rfl dX10_bypassIn_176 ⟨by omega, by omega⟩ ?_
        refine x_iconst (p2 := 178) rfl dX10_bypassIn_177 ⟨by decide, by decide⟩ ?_
        refine x_iadd (p2 := 179) rfl dX10_bypassIn_178 ⟨by omega, by omega⟩ ?_
        refine x_iconst (p2 := 180) rfl dX10_bypassIn_179 ⟨by decide, by decide⟩ ?_
        refine x_iast (p2 := 181) rfl dX10_bypassIn_180 hR (by omega) (by omega) ?_
        refine x_aload_n (p2 := 182) rfl dX10_bypassIn_181 rfl ?_
        refine x_bipush (p2 := 184) rfl dX10_bypassIn_182 ⟨by decide, ⟨by decide, by decide⟩⟩ ?_
        refine x_iload (p2 := 186) rfl dX10_bypassIn_184 rfl ?_
        refine x_iadd (p2 := 187) rfl dX10_bypassIn_186 ⟨by omega, by omega⟩ ?_
        refine x_iconst (p2 := 188) rfl dX10_bypassIn_187 ⟨by decide, by decide⟩ ?_
        refine x_iast (p2 := 189) rfl dX10_bypassIn_188 hR (by omega) (by omega) ?_
        have hj : ex f = 2 ∧ tg (2 * f + 0) = tg (2 * f + 1) := ⟨hx2, hc108⟩
        rw [if_pos hj, if_pos hj] at hq
        refine hq _ [(6, _)] (smr_j g1 hG1.2 hx ⟨hf.1, hf.2, hx2⟩ (by rw [xu_s]) ?_ (fun y z1 z2 z3 z4 => ?_)) (fun a z => by rw [xu_c z, xu_c z, xu_c z, xu_c z]) (Or.inr ⟨_, rfl⟩)
        · rw [xu_j (by omega), xu_j (by omega), xu_j (by omega), xu_s]
          split <;> omega
        · rw [xu_j z1, xu_j z4, xu_j z3, xu_j z2]
      · skip
        refine x_bipush (p2 := 151) rfl dX10_bypassIn_149 ⟨by decide, ⟨by decide, by decide⟩⟩ ?_
        refine x_goto (t := 156) (by decide) dX10_bypassIn_151 ?_
        refine x_iast (p2 := 157) rfl dX10_bypassIn_156 hR (by omega) (by omega) ?_
        refine x_aload_n (p2 := 158) rfl dX10_bypassIn_157 rfl ?_
        refine x_bipush (p2 := 160) rfl dX10_bypassIn_158 ⟨by decide, ⟨by decide, by decide⟩⟩ ?_
        refine x_iconst (p2 := 161) rfl dX10_bypassIn_160 ⟨by decide, by decide⟩ ?_
        refine x_iload (p2 := 163) rfl dX10_bypassIn_161 rfl ?_
        refine x_imul (p2 := 164) rfl dX10_bypassIn_163 ⟨by omega, by omega⟩ ?_
        refine x_iadd (p2 := 165) rfl dX10_bypassIn_164 ⟨by omega, by omega⟩ ?_
        refine x_iconst (p2 := 166) rfl dX10_bypassIn_165 ⟨by decide, by decide⟩ ?_
        refine x_iadd (p2 := 167) rfl dX10_bypassIn_166 ⟨by omega, by omega⟩ ?_
        refine x_iconst (p2 := 168) rfl dX10_bypassIn_167 ⟨by decide, by decide⟩ ?_
        refine x_iast (p2 := 169) rfl dX10_bypassIn_168 hR (by omega) (by omega) ?_
        refine x_aload_n (p2 := 170) rfl dX10_bypassIn_169 rfl ?_
        refine x_bipush (p2 := 172) rfl dX10_bypassIn_170 ⟨by decide, ⟨by decide, by decide⟩⟩ ?_
        refine x_iconst (p2 := 173) rfl dX10_bypassIn_172 ⟨by decide, by decide⟩ ?_
        refine x_iload (p2 := 175) rfl dX10_bypassIn_173 rfl ?_
        refine x_imul (p2 := 176) rfl dX10_bypassIn_175 ⟨by omega, by omega⟩ ?_
        refine x_iadd (p2 := 177) rfl dX10_bypassIn_176 ⟨by omega, by omega⟩ ?_
        refine x_iconst (p2 := 178) rfl dX10_bypassIn_177 ⟨by decide, by decide⟩ ?_
        refine x_iadd (p2 := 179) rfl dX10_bypassIn_178 ⟨by omega, by omega⟩ ?_
        refine x_iconst (p2 := 180) rfl dX10_bypassIn_179 ⟨by decide, by decide⟩ ?_
        refine x_iast (p2 := 181) rfl dX10_bypassIn_180 hR (by omega) (by omega) ?_
        refine x_aload_n (p2 := 182) rfl dX10_bypassIn_181 rfl ?_
        refine x_bipush (p2 := 184) rfl dX10_bypassIn_182 ⟨by decide, ⟨by decide, by decide⟩⟩ ?_
        refine x_iload (p2 := 186) rfl dX10_bypassIn_184 rfl ?_
        refine x_iadd (p2 := 187) rfl dX10_bypassIn_186 ⟨by omega, by omega⟩ ?_
        refine x_iconst (p2 := 188) rfl dX10_bypassIn_187 ⟨by decide, by decide⟩ ?_
        refine x_iast (p2 := 189) rfl dX10_bypassIn_188 hR (by omega) (by omega) ?_
        have hj : ex f = 2 ∧ tg (2 * f + 0) = tg (2 * f + 1) := ⟨hx2, hc108⟩
        rw [if_pos hj, if_pos hj] at hq
        refine hq _ [(6, _)] (smr_j g1 hG1.2 hx ⟨hf.1, hf.2, hx2⟩ (by rw [xu_s]) ?_ (fun y z1 z2 z3 z4 => ?_)) (fun a z => by rw [xu_c z, xu_c z, xu_c z, xu_c z]) (Or.inr ⟨_, rfl⟩)
        · rw [xu_j (by omega), xu_j (by omega), xu_j (by omega), xu_s]
          split <;> omega
        · rw [xu_j z1, xu_j z4, xu_j z3, xu_j z2]
end XMJ
