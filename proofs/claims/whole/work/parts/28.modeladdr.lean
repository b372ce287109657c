section XMF
variable {G : xG} {σ : List (Nat × Nat)} {ρ : Nat → Int → Option Nat} {M : Nat → Int → Int} {Q : Option xV → xH → Prop}
set_option maxHeartbeats 4000000 in
theorem t_lh1 {D R : Nat} (hD : isMd σ ρ D) (hR : σ[R]? = some (100, 50)) {n : Int} {v : vV} (hn : M D 2 = n) (hr : smr n v (M R)) (hG : wfG n v.1 v.2.1 v.2.2.1) {i j p : Int} (hi : 0 ≤ i ∧ i < n) (hp : 0 ≤ p ∧ p < n) : ∀ (m : Nat) (k a : Int), 0 ≤ k → k + m = v.1 p → (a = 0 ∨ a = 1) → (∀ c, (c = 0 ∨ c = 1) → (c = 1 ↔ a = 1 ∨ (∃ x, k ≤ x ∧ x < v.1 p ∧ v.2.1 (2 * p + x) = v.2.2.2.1 i)) → xX G mX10_isLoopHead 0 0 72 [(0, xP D), (1, xP R), (2, xI i), (3, xI c), (4, xI j)] [] (σ, ρ, M) Q) → xX G mX10_isLoopHead 0 0 24 [(0, xP D), (1, xP R), (2, xI i), (3, xI a), (4, xI j), (5, xI p), (6, xI k)] [] (σ, ρ, M) Q := by
  have h8 := hG.2.1
  have h1 := hG.1
  obtain ⟨w1, w2, w3, w4⟩ := hG.2.2 p hp.1 hp.2
  intro m
  induction m with
  | zero =>
    intro k a h0 hm ha hq
    refine x_iload (p2 := 26) rfl dX10_isLoopHead_24 rfl ?_
    refine x_aload_n (p2 := 27) rfl dX10_isLoopHead_26 rfl ?_
    refine x_bipush (p2 := 29) rfl dX10_isLoopHead_27 ⟨by decide, ⟨by decide, by decide⟩⟩ ?_
    refine x_iload (p2 := 31) rfl dX10_isLoopHead_29 rfl ?_
    refine x_iadd (p2 := 32) rfl dX10_isLoopHead_31 ⟨by omega, by omega⟩ ?_
    refine x_iald (p2 := 33) rfl dX10_isLoopHead_32 hR (by omega) (by omega) ?_
    rw [hr.x hp.1 hp.2]
    refine x_ic_ge (p2 := 36) (t := 72) (by decide) rfl dX10_isLoopHead_33 (fun hc33 => ?_) (fun hc33 => absurd hc33 (by omega))
    refine x_pick (L2 := [(0, _), (1, _), (2, _), (3, _), (4, _)]) [0, 1, 2, 3, 4] rfl ?_
    refine hq a ha ⟨fun z => Or.inl z, fun z => z.elim (fun y => y) ?_⟩
    intro ⟨x, x0, x1, _⟩
    omega
  | succ m ih =>
    intro k a h0 hm ha hq
    refine x_iload (p2 := 26) rfl dX10_isLoopHead_24 rfl ?_
    refine x_aload_n (p2 := 27) rfl dX10_isLoopHead_26 rfl ?_
    refine x_bipush (p2 := 29) rfl dX10_isLoopHead_27 ⟨by decide, ⟨by decide, by decide⟩⟩ ?_
    refine x_iload (p2 := 31) rfl dX10_isLoopHead_29 rfl ?_
    refine x_iadd (p2 := 32) rfl dX10_isLoopHead_31 ⟨by omega, by omega⟩ ?_
    refine x_iald (p2 := 33) rfl dX10_isLoopHead_32 hR (by omega) (by omega) ?_
    rw [hr.x hp.1 hp.2]
    refine x_ic_ge (p2 := 36) (t := 72) (by decide) rfl dX10_isLoopHead_33 (fun hc33 => ?_) (fun hc33 => ?_)
    · exact absurd hc33 (by omega)
    refine x_iload_n (p2 := 37) rfl dX10_isLoopHead_36 rfl ?_
    refine x_if_ne (p2 := 40) (t := 60) (by decide) rfl dX10_isLoopHead_37 (fun hc37 => ?_) (fun hc37 => ?_)
    · skip
      refine x_iconst (p2 := 61) rfl dX10_isLoopHead_60 ⟨by decide, by decide⟩ ?_
      refine x_goto (t := 65) (by decide) dX10_isLoopHead_61 ?_
      refine x_istore_n (p2 := 66) (i := 3) (L2 := [(0, _), (1, _), (2, _), (3, _), (4, _), (5, _), (6, _)]) rfl dX10_isLoopHead_65 rfl ⟨rfl, Nat.le_of_ble_eq_true rfl⟩ rfl ?_
      refine x_iinc (p2 := 69) (L2 := [(0, _), (1, _), (2, _), (3, _), (4, _), (5, _), (6, _)]) rfl dX10_isLoopHead_66 rfl ⟨by omega, by omega⟩ ⟨rfl, Nat.le_of_ble_eq_true rfl⟩ rfl ?_
      refine x_goto (t := 24) (by decide) dX10_isLoopHead_69 ?_
      refine x_pick (L2 := [(0, _), (1, _), (2, _), (3, _), (4, _), (5, _), (6, _)]) [0, 1, 2, 3, 4, 5, 6] rfl ?_
      refine ih _ _ (by omega) (by omega) (by omega) (fun c c0 c1 => hq c c0 (c1.trans ⟨fun z => ?_, fun z => ?_⟩))
      · first
          | exact Or.inl (ha.resolve_left hc37)
          | exact Or.inr ⟨k, by omega, by omega, hc57⟩
      · exact Or.inl rfl
    · skip
      refine x_aload_n (p2 := 41) rfl dX10_isLoopHead_40 rfl ?_
      refine x_bipush (p2 := 43) rfl dX10_isLoopHead_41 ⟨by decide, ⟨by decide, by decide⟩⟩ ?_
      refine x_iconst (p2 := 44) rfl dX10_isLoopHead_43 ⟨by decide, by decide⟩ ?_
      refine x_iload (p2 := 46) rfl dX10_isLoopHead_44 rfl ?_
      refine x_imul (p2 := 47) rfl dX10_isLoopHead_46 ⟨by omega, by omega⟩ ?_
      refine x_iadd (p2 := 48) rfl dX10_isLoopHead_47 ⟨by omega, by omega⟩ ?_
      refine x_iload (p2 := 50) rfl dX10_isLoopHead_48 rfl ?_
      refine x_iadd (p2 := 51) rfl dX10_isLoopHead_50 ⟨by omega, by omega⟩ ?_
      refine x_iald (p2 := 52) rfl dX10_isLoopHead_51 hR (by omega) (by omega) ?_
      rw [hr.t hp.1 hp.2 h0 (by omega)]
      refine x_aload_n (p2 := 53) rfl dX10_isLoopHead_52 rfl ?_
      refine x_iconst (p2 := 54) rfl dX10_isLoopHead_53 ⟨by decide, by decide⟩ ?_
      refine x_iload_n (p2 := 55) rfl dX10_isLoopHead_54 rfl ?_
      refine x_iadd (p2 := 56) rfl dX10_isLoopHead_55 ⟨by omega, by omega⟩ ?_
      refine x_iald (p2 := 57) rfl dX10_isLoopHead_56 hR (by omega) (by omega) ?_
      rw [hr.o hi.1 hi.2]
      refine x_ic_ne (p2 := 60) (t := 64) (by decide) rfl dX10_isLoopHead_57 (fun hc57 => ?_) (fun hc57 => ?_)
      · skip
        refine x_iconst (p2 := 65) rfl dX10_isLoopHead_64 ⟨by decide, by decide⟩ ?_
        refine x_istore_n (p2 := 66) (i := 3) (L2 := [(0, _), (1, _), (2, _), (3, _), (4, _), (5, _), (6, _)]) rfl dX10_isLoopHead_65 rfl ⟨rfl, Nat.le_of_ble_eq_true rfl⟩ rfl ?_
        refine x_iinc (p2 := 69) (L2 := [(0, _), (1, _), (2, _), (3, _), (4, _), (5, _), (6, _)]) rfl dX10_isLoopHead_66 rfl ⟨by omega, by omega⟩ ⟨rfl, Nat.le_of_ble_eq_true rfl⟩ rfl ?_
        refine x_goto (t := 24) (by decide) dX10_isLoopHead_69 ?_
        refine x_pick (L2 := [(0, _), (1, _), (2, _), (3, _), (4, _), (5, _), (6, _)]) [0, 1, 2, 3, 4, 5, 6] rfl ?_
        refine ih _ _ (by omega) (by omega) (by omega) (fun c c0 c1 => hq c c0 (c1.trans ⟨fun z => ?_, fun z => ?_⟩))
        · rcases z with z | ⟨x, x0, x1, x2⟩
          · omega
          · exact Or.inr ⟨x, by omega, x1, x2⟩
        · rcases z with z | ⟨x, x0, x1, x2⟩
          · omega
          · by_cases hx : x = k
            · subst hx; exact absurd x2 hc57
            · exact Or.inr ⟨x, by omega, x1, x2⟩
      · skip
        refine x_iconst (p2 := 61) rfl dX10_isLoopHead_60 ⟨by decide, by decide⟩ ?_
        refine x_goto (t := 65) (by decide) dX10_isLoopHead_61 ?_
        refine x_istore_n (p2 := 66) (i := 3) (L2 := [(0, _), (1, _), (2, _), (3, _), (4, _), (5, _), (6, _)]) rfl dX10_isLoopHead_65 rfl ⟨rfl, Nat.le_of_ble_eq_true rfl⟩ rfl ?_
        refine x_iinc (p2 := 69) (L2 := [(0, _), (1, _), (2, _), (3, _), (4, _), (5, _), (6, _)]) rfl dX10_isLoopHead_66 rfl ⟨by omega, by omega⟩ ⟨rfl, Nat.le_of_ble_eq_true rfl⟩ rfl ?_
        refine x_goto (t := 24) (by decide) dX10_isLoopHead_69 ?_
        refine x_pick (L2 := [(0, _), (1, _), (2, _), (3, _), (4, _), (5, _), (6, _)]) [0, 1, 2, 3, 4, 5, 6] rfl ?_
        refine ih _ _ (by omega) (by omega) (by omega) (fun c c0 c1 => hq c c0 (c1.trans ⟨fun z => ?_, fun z => ?_⟩))
        · first
            | exact Or.inl (ha.resolve_left hc37)
            | exact Or.inr ⟨k, by omega, by omega, hc57⟩
        · exact Or.inl rfl
set_option maxHeartbeats 4000000 in
theorem t_lh2 {D R : Nat} (hD : isMd σ ρ D) (hR : σ[R]? = some (100, 50)) {n : Int} {v : vV} (hn : M D 2 = n) (hr : smr n v (M R)) (hG : wfG n v.1 v.2.1 v.2.2.1) (hO : wfO n v.2.2.2.1 v.2.2.2.2.1) {i : Int} (hi : 0 ≤ i ∧ i < n) : ∀ (m : Nat) (j a : Int), 0 ≤ j → j + m = v.2.2.2.2.1 → (a = 0 ∨ a = 1) → (a = 1 ∨ lhf v.1 v.2.1 v.2.2.2.1 i m j = true → Q (some (xI 1)) (σ, ρ, M)) → (a = 0 → lhf v.1 v.2.1 v.2.2.2.1 i m j = false → Q (some (xI 0)) (σ, ρ, M)) → xX G mX10_isLoopHead 0 0 5 [(0, xP D), (1, xP R), (2, xI i), (3, xI a), (4, xI j)] [] (σ, ρ, M) Q := by
  have h8 := hG.2.1
  have h1 := hG.1
  have hO5 := hO.2.2.2.2
  intro m
  induction m with
  | zero =>
    intro j a h0 hm ha k1 k0
    refine x_iload (p2 := 7) rfl dX10_isLoopHead_5 rfl ?_
    refine x_aload_n (p2 := 8) rfl dX10_isLoopHead_7 rfl ?_
    refine x_iconst (p2 := 9) rfl dX10_isLoopHead_8 ⟨by decide, by decide⟩ ?_
    refine x_iald (p2 := 10) rfl dX10_isLoopHead_9 hR (by omega) (by omega) ?_
    rw [hr.h]
    refine x_ic_ge (p2 := 13) (t := 78) (by decide) rfl dX10_isLoopHead_10 (fun hc10 => ?_) (fun hc10 => absurd hc10 (by omega))
    refine x_iload_n (p2 := 79) rfl dX10_isLoopHead_78 rfl ?_
    refine x_zret dX10_isLoopHead_79 rfl (by omega) ?_
    rcases ha with rfl | rfl
    · exact k0 rfl rfl
    · exact k1 (Or.inl rfl)
  | succ m ih =>
    intro j a h0 hm ha k1 k0
    have ho := hO.1 j h0 (by omega)
    have hx := hG.2.2 _ ho.1 ho.2
    have hx0 := hx.1
    unfold lhf at k1 k0
    refine x_iload (p2 := 7) rfl dX10_isLoopHead_5 rfl ?_
    refine x_aload_n (p2 := 8) rfl dX10_isLoopHead_7 rfl ?_
    refine x_iconst (p2 := 9) rfl dX10_isLoopHead_8 ⟨by decide, by decide⟩ ?_
    refine x_iald (p2 := 10) rfl dX10_isLoopHead_9 hR (by omega) (by omega) ?_
    rw [hr.h]
    refine x_ic_ge (p2 := 13) (t := 78) (by decide) rfl dX10_isLoopHead_10 (fun hc10 => ?_) (fun hc10 => ?_)
    · exact absurd hc10 (by omega)
    refine x_aload_n (p2 := 14) rfl dX10_isLoopHead_13 rfl ?_
    refine x_iconst (p2 := 15) rfl dX10_isLoopHead_14 ⟨by decide, by decide⟩ ?_
    refine x_iload (p2 := 17) rfl dX10_isLoopHead_15 rfl ?_
    refine x_iadd (p2 := 18) rfl dX10_isLoopHead_17 ⟨by omega, by omega⟩ ?_
    refine x_iald (p2 := 19) rfl dX10_isLoopHead_18 hR (by omega) (by omega) ?_
    rw [hr.o h0 (by omega)]
    refine x_istore (p2 := 21) (i := 5) (L2 := [(0, _), (1, _), (2, _), (3, _), (4, _), (5, _)]) rfl dX10_isLoopHead_19 ⟨rfl, Nat.le_of_ble_eq_true rfl⟩ rfl ?_
    refine x_iconst (p2 := 22) rfl dX10_isLoopHead_21 ⟨by decide, by decide⟩ ?_
    refine x_istore (p2 := 24) (i := 6) (L2 := [(0, _), (1, _), (2, _), (3, _), (4, _), (5, _), (6, _)]) rfl dX10_isLoopHead_22 ⟨rfl, Nat.le_of_ble_eq_true rfl⟩ rfl ?_
    refine x_pick (L2 := [(0, _), (1, _), (2, _), (3, _), (4, _), (5, _), (6, _)]) [0, 1, 2, 3, 4, 5, 6] rfl ?_
    refine t_lh1 hD hR hn hr hG hi ho (v.1 (v.2.2.2.1 j)).toNat 0 a (by omega) (by omega) ha (fun c c0 c1 => ?_)
    refine x_iinc (p2 := 75) (L2 := [(0, _), (1, _), (2, _), (3, _), (4, _)]) rfl dX10_isLoopHead_72 rfl ⟨by omega, by omega⟩ ⟨rfl, Nat.le_of_ble_eq_true rfl⟩ rfl ?_
    refine x_goto (t := 5) (by decide) dX10_isLoopHead_75 ?_
    refine x_pick (L2 := [(0, _), (1, _), (2, _), (3, _), (4, _)]) [0, 1, 2, 3, 4] rfl ?_
    by_cases hl : ldb v.1 v.2.1 (v.2.2.2.1 j) (v.2.2.2.1 i) = true
    · rw [if_pos hl] at k1 k0
      have : c = 1 := c1.2 (Or.inr (by
        have := of_decide_eq_true hl
        rcases this with y | y
        · exact ⟨0, by omega, y.1, y.2⟩
        · exact ⟨1, by omega, y.1, y.2⟩))
      refine ih _ _ (by omega) (by omega) c0 (fun _ => k1 (Or.inr rfl)) (fun z => by omega)
    · rw [if_neg hl] at k1 k0
      have hca : c = 1 ↔ a = 1 := c1.trans ⟨fun z => z.elim (fun y => y) (fun ⟨x, x0, x1, x2⟩ => absurd (ldb_t hx.2.1 ⟨x, x0, x1, x2⟩) hl), fun z => Or.inl z⟩
      exact ih _ _ (by omega) (by omega) c0 (fun z => k1 (z.elim (fun y => Or.inl (hca.1 y)) Or.inr)) (fun z => k0 (by omega))
set_option maxHeartbeats 4000000 in
theorem t_X10_isLoopHead {D R : Nat} (hD : isMd σ ρ D) (hR : σ[R]? = some (100, 50)) {n : Int} {v : vV} (hn : M D 2 = n) (hr : smr n v (M R)) (hG : wfG n v.1 v.2.1 v.2.2.1) (hO : wfO n v.2.2.2.1 v.2.2.2.2.1) {i : Int} (hi : 0 ≤ i ∧ i < v.2.2.2.2.1) (k1 : lhd v.1 v.2.1 v.2.2.2.1 v.2.2.2.2.1 i = true → Q (some (xI 1)) (σ, ρ, M)) (k0 : lhd v.1 v.2.1 v.2.2.2.1 v.2.2.2.2.1 i = false → Q (some (xI 0)) (σ, ρ, M)) : xX G mX10_isLoopHead 0 0 0 [(0, xP D), (1, xP R), (2, xI i)] [] (σ, ρ, M) Q := by
  have h8 := hG.2.1
  have h1 := hG.1
  have hO5 := hO.2.2.2.2
  refine x_iconst (p2 := 1) rfl dX10_isLoopHead_0 ⟨by decide, by decide⟩ ?_
  refine x_istore_n (p2 := 2) (i := 3) (L2 := [(0, _), (1, _), (2, _), (3, _)]) rfl dX10_isLoopHead_1 rfl ⟨rfl, Nat.le_of_ble_eq_true rfl⟩ rfl ?_
  refine x_iload_n (p2 := 3) rfl dX10_isLoopHead_2 rfl ?_
  refine x_istore (p2 := 5) (i := 4) (L2 := [(0, _), (1, _), (2, _), (3, _), (4, _)]) rfl dX10_isLoopHead_3 ⟨rfl, Nat.le_of_ble_eq_true rfl⟩ rfl ?_
  refine x_pick (L2 := [(0, _), (1, _), (2, _), (3, _), (4, _)]) [0, 1, 2, 3, 4] rfl ?_
  exact t_lh2 hD hR hn hr hG hO (by omega) (v.2.2.2.2.1 - i).toNat i 0 hi.1 (by omega) (by omega) (fun z => k1 (z.elim (fun y => by omega) (fun y => y))) (fun _ z => k0 z)
set_option maxHeartbeats 4000000 in
theorem t_X10_up {e u : Int} (h0 : 0 ≤ e) (h1 : e < 320) (hu : u = 1 ∨ u = 2 ∨ u = 4 ∨ u = 8 ∨ u = 16) (hq : Q (some (xI (rup e u))) (σ, ρ, M)) : xX G mX10_up 0 0 0 [(0, xI e), (1, xI u)] [] (σ, ρ, M) Q := by
  have hb := rup_bd h0 hu
  unfold rup at hb hq
  refine x_iload_n (p2 := 1) rfl dX10_up_0 rfl ?_
  refine x_iload_n (p2 := 2) rfl dX10_up_1 rfl ?_
  refine x_iadd (p2 := 3) rfl dX10_up_2 ⟨by omega, by omega⟩ ?_
  refine x_iconst (p2 := 4) rfl dX10_up_3 ⟨by decide, by decide⟩ ?_
  refine x_isub (p2 := 5) rfl dX10_up_4 ⟨by omega, by omega⟩ ?_
  refine x_iload_n (p2 := 6) rfl dX10_up_5 rfl ?_
  refine x_idiv (p2 := 7) rfl dX10_up_6 (by omega) (by omega) ?_
  refine x_iload_n (p2 := 8) rfl dX10_up_7 rfl ?_
  refine x_imul (p2 := 9) rfl dX10_up_8 ⟨by omega, by omega⟩ ?_
  refine x_iret dX10_up_9 rfl ?_
  exact hq
set_option maxHeartbeats 4000000 in
theorem t_ad_t {D R : Nat} (hD : isMd σ ρ D) (hR : σ[R]? = some (100, 50)) {n : Int} {v : vV} (hn : M D 2 = n) (hr : smr n v (M R)) (hG : wfG n v.1 v.2.1 v.2.2.1) (hO : wfO n v.2.2.2.1 v.2.2.2.2.1) {byt : Int → Int} (hA : v.2.2.2.2.2 = 1 ∨ v.2.2.2.2.2 = 2 ∨ v.2.2.2.2.2 = 4 ∨ v.2.2.2.2.2 = 8 ∨ v.2.2.2.2.2 = 16) (hy : ∀ b, 0 ≤ b → b < n → M (D + 2) b = byt b ∧ 0 ≤ byt b ∧ byt b ≤ 9) {b f e i : Int} (h0 : 0 ≤ i ∧ i < n) (he : 0 ≤ e ∧ e ≤ 1000) (hk : ∀ f2, (v.2.2.2.1 i = b ∧ f2 = e) ∨ (¬ v.2.2.2.1 i = b ∧ f2 = f) → xX G mX10_addressOf 0 0 8 [(0, xP D), (1, xP R), (2, xI b), (3, xI f2), (4, xI (e + bya n v.1 v.2.1 v.2.2.2.1 byt v.2.2.2.2.1 i)), (5, xI (i + 1))] [] (σ, ρ, M) Q) : xX G mX10_addressOf 0 0 70 [(0, xP D), (1, xP R), (2, xI b), (3, xI f), (4, xI e), (5, xI i)] [] (σ, ρ, M) Q := by
  have h8 := hG.2.1
  have h1 := hG.1
  have ho := hO.1 i h0.1 h0.2
  have hx := hG.2.2 _ ho.1 ho.2
  have hbb := bbf_bd (tg := v.2.1) (f := fa n v.2.2.2.1 v.2.2.2.2.1 i) hx.1 hx.2.1
  have hyy := hy _ ho.1 ho.2
  unfold bya at hk
  replace h0 := h0
  refine x_aload_n (p2 := 71) rfl dX10_addressOf_70 rfl ?_
  refine x_iconst (p2 := 72) rfl dX10_addressOf_71 ⟨by decide, by decide⟩ ?_
  refine x_iload (p2 := 74) rfl dX10_addressOf_72 rfl ?_
  refine x_iadd (p2 := 75) rfl dX10_addressOf_74 ⟨by omega, by omega⟩ ?_
  refine x_iald (p2 := 76) rfl dX10_addressOf_75 hR (by omega) (by omega) ?_
  rw [hr.o h0.1 h0.2]
  refine x_istore (p2 := 78) (i := 6) (L2 := [(0, _), (1, _), (2, _), (3, _), (4, _), (5, _), (6, _)]) rfl dX10_addressOf_76 ⟨rfl, Nat.le_of_ble_eq_true rfl⟩ rfl ?_
  refine x_iload (p2 := 80) rfl dX10_addressOf_78 rfl ?_
  refine x_iload_n (p2 := 81) rfl dX10_addressOf_80 rfl ?_
  refine x_ic_ne (p2 := 84) (t := 89) (by decide) rfl dX10_addressOf_81 (fun hc81 => ?_) (fun hc81 => ?_)
  · skip
    refine x_iload_n (p2 := 90) rfl dX10_addressOf_89 rfl ?_
    refine x_istore_n (p2 := 91) (i := 3) (L2 := [(0, _), (1, _), (2, _), (3, _), (4, _), (5, _), (6, _)]) rfl dX10_addressOf_90 rfl ⟨rfl, Nat.le_of_ble_eq_true rfl⟩ rfl ?_
    refine x_iload (p2 := 93) rfl dX10_addressOf_91 rfl ?_
    refine x_aload_n (p2 := 94) rfl dX10_addressOf_93 rfl ?_
    refine x_getr (p2 := 97) (kz := 3) rfl dX10_addressOf_94 f_10_13 rfl rfl hD.sh hD.r3 ?_
    refine x_iload (p2 := 99) rfl dX10_addressOf_97 rfl ?_
    refine x_iald (p2 := 100) rfl dX10_addressOf_99 hD.a3 (by omega) (by omega) ?_
    rw [(hy _ ho.1 ho.2).1]
    refine x_aload_n (p2 := 101) rfl dX10_addressOf_100 rfl ?_
    refine x_aload_n (p2 := 102) rfl dX10_addressOf_101 rfl ?_
    refine x_iload (p2 := 104) rfl dX10_addressOf_102 rfl ?_
    refine x_v2 (p2 := 107) rfl dX10_addressOf_104 l_10_131 ok_X10_branchBytesOf rfl hD.sh rfl ?_
    refine t_X10_branchBytesOf hD hR hn hr hG hO (by omega) ?_
    rw [fob_od hO h0.1 h0.2]
    refine x_iadd (p2 := 108) rfl dX10_addressOf_107 ⟨by omega, by omega⟩ ?_
    refine x_iadd (p2 := 109) rfl dX10_addressOf_108 ⟨by omega, by omega⟩ ?_
    refine x_istore (p2 := 111) (i := 4) (L2 := [(0, _), (1, _), (2, _), (3, _), (4, _), (5, _), (6, _)]) rfl dX10_addressOf_109 ⟨rfl, Nat.le_of_ble_eq_true rfl⟩ rfl ?_
    refine x_iinc (p2 := 114) (L2 := [(0, _), (1, _), (2, _), (3, _), (4, _), (5, _), (6, _)]) rfl dX10_addressOf_111 rfl ⟨by omega, by omega⟩ ⟨rfl, Nat.le_of_ble_eq_true rfl⟩ rfl ?_
    refine x_goto (t := 8) (by decide) dX10_addressOf_114 ?_
    refine x_pick (L2 := [(0, _), (1, _), (2, _), (3, _), (4, _), (5, _)]) [0, 1, 2, 3, 4, 5] rfl ?_
    first
      | (have hc : v.2.2.2.1 i = b := by omega
         exact hk _ (Or.inl ⟨hc, rfl⟩))
      | (have hc : ¬ v.2.2.2.1 i = b := by omega
         exact hk _ (Or.inr ⟨hc, rfl⟩))
  · skip
    refine x_iload (p2 := 86) rfl dX10_addressOf_84 rfl ?_
    refine x_goto (t := 90) (by decide) dX10_addressOf_86 ?_
    refine x_istore_n (p2 := 91) (i := 3) (L2 := [(0, _), (1, _), (2, _), (3, _), (4, _), (5, _), (6, _)]) rfl dX10_addressOf_90 rfl ⟨rfl, Nat.le_of_ble_eq_true rfl⟩ rfl ?_
    refine x_iload (p2 := 93) rfl dX10_addressOf_91 rfl ?_
    refine x_aload_n (p2 := 94) rfl dX10_addressOf_93 rfl ?_
    refine x_getr (p2 := 97) (kz := 3) rfl dX10_addressOf_94 f_10_13 rfl rfl hD.sh hD.r3 ?_
    refine x_iload (p2 := 99) rfl dX10_addressOf_97 rfl ?_
    refine x_iald (p2 := 100) rfl dX10_addressOf_99 hD.a3 (by omega) (by omega) ?_
    rw [(hy _ ho.1 ho.2).1]
    refine x_aload_n (p2 := 101) rfl dX10_addressOf_100 rfl ?_
    refine x_aload_n (p2 := 102) rfl dX10_addressOf_101 rfl ?_
    refine x_iload (p2 := 104) rfl dX10_addressOf_102 rfl ?_
    refine x_v2 (p2 := 107) rfl dX10_addressOf_104 l_10_131 ok_X10_branchBytesOf rfl hD.sh rfl ?_
    refine t_X10_branchBytesOf hD hR hn hr hG hO (by omega) ?_
    rw [fob_od hO h0.1 h0.2]
    refine x_iadd (p2 := 108) rfl dX10_addressOf_107 ⟨by omega, by omega⟩ ?_
    refine x_iadd (p2 := 109) rfl dX10_addressOf_108 ⟨by omega, by omega⟩ ?_
    refine x_istore (p2 := 111) (i := 4) (L2 := [(0, _), (1, _), (2, _), (3, _), (4, _), (5, _), (6, _)]) rfl dX10_addressOf_109 ⟨rfl, Nat.le_of_ble_eq_true rfl⟩ rfl ?_
    refine x_iinc (p2 := 114) (L2 := [(0, _), (1, _), (2, _), (3, _), (4, _), (5, _), (6, _)]) rfl dX10_addressOf_111 rfl ⟨by omega, by omega⟩ ⟨rfl, Nat.le_of_ble_eq_true rfl⟩ rfl ?_
    refine x_goto (t := 8) (by decide) dX10_addressOf_114 ?_
    refine x_pick (L2 := [(0, _), (1, _), (2, _), (3, _), (4, _), (5, _)]) [0, 1, 2, 3, 4, 5] rfl ?_
    first
      | (have hc : v.2.2.2.1 i = b := by omega
         exact hk _ (Or.inl ⟨hc, rfl⟩))
      | (have hc : ¬ v.2.2.2.1 i = b := by omega
         exact hk _ (Or.inr ⟨hc, rfl⟩))
theorem lhd_c {ex tg od : Int → Int} {hot i : Int} (h : hot ≤ i) : lhd ex tg od hot i = false := by
  unfold lhd; rw [show (hot - i).toNat = 0 by omega]; rfl
set_option maxHeartbeats 4000000 in
theorem t_ad_l {D R : Nat} (hD : isMd σ ρ D) (hR : σ[R]? = some (100, 50)) {n : Int} {v : vV} (hn : M D 2 = n) (hr : smr n v (M R)) (hG : wfG n v.1 v.2.1 v.2.2.1) (hO : wfO n v.2.2.2.1 v.2.2.2.2.1) {byt : Int → Int} (hA : v.2.2.2.2.2 = 1 ∨ v.2.2.2.2.2 = 2 ∨ v.2.2.2.2.2 = 4 ∨ v.2.2.2.2.2 = 8 ∨ v.2.2.2.2.2 = 16) (hy : ∀ b, 0 ≤ b → b < n → M (D + 2) b = byt b ∧ 0 ≤ byt b ∧ byt b ≤ 9) {b : Int} {E T0 : Int} (hq : Q (some (xI T0)) (σ, ρ, xu M D 22 E)) : ∀ (m : Nat) (i e f : Int), 0 ≤ i → i + m = n → 0 ≤ e → e ≤ 28 * i → eoc n v.1 v.2.1 v.2.2.2.1 byt v.2.2.2.2.1 v.2.2.2.2.2 m i e = E → ((∃ j, 0 ≤ j ∧ j < i ∧ v.2.2.2.1 j = b) → f = T0) → ((∃ j, i ≤ j ∧ j < n ∧ v.2.2.2.1 j = b) → sof n v.1 v.2.1 v.2.2.2.1 byt v.2.2.2.2.1 v.2.2.2.2.2 b m i e = T0) → (∃ j, 0 ≤ j ∧ j < n ∧ v.2.2.2.1 j = b) → xX G mX10_addressOf 0 0 8 [(0, xP D), (1, xP R), (2, xI b), (3, xI f), (4, xI e), (5, xI i)] [] (σ, ρ, M) Q := by
  have h8 := hG.2.1
  have h1 := hG.1
  intro m
  induction m with
  | zero =>
    intro i e f h0 hm e0 e1 hE hf hs hb
    unfold eoc at hE
    refine x_iload (p2 := 10) rfl dX10_addressOf_8 rfl ?_
    refine x_aload_n (p2 := 11) rfl dX10_addressOf_10 rfl ?_
    refine x_geti (p2 := 14) (kz := 2) rfl dX10_addressOf_11 f_10_53 rfl rfl hD.sh ?_
    rw [hn]
    refine x_ic_ge (p2 := 17) (t := 117) (by decide) rfl dX10_addressOf_14 (fun hc14 => ?_) (fun hc14 => absurd hc14 (by omega))
    refine x_aload_n (p2 := 118) rfl dX10_addressOf_117 rfl ?_
    refine x_iload (p2 := 120) rfl dX10_addressOf_118 rfl ?_
    refine x_puti (p2 := 123) (kz := 22) rfl dX10_addressOf_120 f_10_134 rfl rfl rfl hD.sh ?_
    refine x_iload_n (p2 := 124) rfl dX10_addressOf_123 rfl ?_
    refine x_iret dX10_addressOf_124 rfl ?_
    rw [hf (by obtain ⟨j, a, b, c⟩ := hb; exact ⟨j, a, by omega, c⟩), hE]
    exact hq
  | succ m ih =>
    intro i e f h0 hm e0 e1 hE hf hs hb
    have hsb := sta_bd (ex := v.1) (tg := v.2.1) (od := v.2.2.2.1) (hot := v.2.2.2.2.1) (i := i) e0 hA
    have ho := hO.1 i h0 (by omega)
    have hx := hG.2.2 _ ho.1 ho.2
    have hbb := bbf_bd (tg := v.2.1) (f := fa n v.2.2.2.1 v.2.2.2.2.1 i) hx.1 hx.2.1
    have hyy := hy _ ho.1 ho.2
    unfold eoc at hE
    unfold sof at hs
    have key : xX G mX10_addressOf 0 0 70 [(0, xP D), (1, xP R), (2, xI b), (3, xI f), (4, xI (sta v.1 v.2.1 v.2.2.2.1 v.2.2.2.2.1 v.2.2.2.2.2 i e)), (5, xI i)] [] (σ, ρ, M) Q := by
      refine t_ad_t hD hR hn hr hG hO hA hy ⟨h0, by omega⟩ (by omega) (fun f2 h2 => ?_)
      refine ih _ _ _ (by omega) (by omega) (by unfold bya; omega) (by unfold bya; omega) hE ?_ ?_ hb
      · rintro ⟨j, j0, j1, j2⟩
        rcases h2 with ⟨hc, rfl⟩ | ⟨hc, rfl⟩
        · rw [if_pos hc] at hs
          exact hs ⟨i, by omega, by omega, hc⟩
        · refine hf ⟨j, j0, ?_, j2⟩
          have : j ≠ i := fun z => hc (by rw [← z]; exact j2)
          omega
      · rintro ⟨j, j0, j1, j2⟩
        rcases h2 with ⟨hc, rfl⟩ | ⟨hc, rfl⟩
        · have := hO.2.1 i j h0 (by omega) (by omega) j1 (hc.trans j2.symm)
          omega
        · rw [if_neg hc] at hs
          exact hs ⟨j, by omega, j1, j2⟩
    refine x_iload (p2 := 10) rfl dX10_addressOf_8 rfl ?_
    refine x_aload_n (p2 := 11) rfl dX10_addressOf_10 rfl ?_
    refine x_geti (p2 := 14) (kz := 2) rfl dX10_addressOf_11 f_10_53 rfl rfl hD.sh ?_
    rw [hn]
    refine x_ic_ge (p2 := 17) (t := 117) (by decide) rfl dX10_addressOf_14 (fun hc14 => ?_) (fun hc14 => ?_)
    · exact absurd hc14 (by omega)
    refine x_iload (p2 := 19) rfl dX10_addressOf_17 rfl ?_
    refine x_aload_n (p2 := 20) rfl dX10_addressOf_19 rfl ?_
    refine x_iconst (p2 := 21) rfl dX10_addressOf_20 ⟨by decide, by decide⟩ ?_
    refine x_iald (p2 := 22) rfl dX10_addressOf_21 hR (by omega) (by omega) ?_
    rw [hr.h]
    refine x_ic_ge (p2 := 25) (t := 53) (by decide) rfl dX10_addressOf_22 (fun hc22 => ?_) (fun hc22 => ?_)
    · skip
      refine x_iload (p2 := 55) rfl dX10_addressOf_53 rfl ?_
      refine x_aload_n (p2 := 56) rfl dX10_addressOf_55 rfl ?_
      refine x_iconst (p2 := 57) rfl dX10_addressOf_56 ⟨by decide, by decide⟩ ?_
      refine x_iald (p2 := 58) rfl dX10_addressOf_57 hR (by omega) (by omega) ?_
      rw [hr.h]
      refine x_ic_ne (p2 := 61) (t := 70) (by decide) rfl dX10_addressOf_58 (fun hc58 => ?_) (fun hc58 => ?_)
      · skip
        refine x_pick (L2 := [(0, _), (1, _), (2, _), (3, _), (4, _), (5, _)]) [0, 1, 2, 3, 4, 5] rfl ?_
        first
          | (have hs' : sta v.1 v.2.1 v.2.2.2.1 v.2.2.2.2.1 v.2.2.2.2.2 i e = rup e v.2.2.2.2.2 := by unfold sta; rw [if_neg (show ¬ i = v.2.2.2.2.1 by omega), if_pos hb29]
             rw [hs'] at key; exact key)
          | (have hs' : sta v.1 v.2.1 v.2.2.2.1 v.2.2.2.2.1 v.2.2.2.2.2 i e = e := by unfold sta; rw [if_neg (show ¬ i = v.2.2.2.2.1 by omega), if_neg (by rw [hb29]; decide)]
             rw [hs'] at key; exact key)
          | (have hs' : sta v.1 v.2.1 v.2.2.2.1 v.2.2.2.2.1 v.2.2.2.2.2 i e = e := by unfold sta; rw [if_neg (show ¬ i = v.2.2.2.2.1 by omega), lhd_c (by omega), if_neg (by decide)]
             rw [hs'] at key; exact key)
          | (have hs' : sta v.1 v.2.1 v.2.2.2.1 v.2.2.2.2.1 v.2.2.2.2.2 i e = rup e 16 := by unfold sta; rw [if_pos (show i = v.2.2.2.2.1 by omega)]
             rw [hs'] at key; exact key)
      · skip
        refine x_iload (p2 := 63) rfl dX10_addressOf_61 rfl ?_
        refine x_bipush (p2 := 65) rfl dX10_addressOf_63 ⟨by decide, ⟨by decide, by decide⟩⟩ ?_
        refine x_s2 (p2 := 68) rfl dX10_addressOf_65 l_10_128 ok_X10_up rfl rfl ?_
        refine t_X10_up (by omega) (by omega) (by omega) ?_
        refine x_istore (p2 := 70) (i := 4) (L2 := [(0, _), (1, _), (2, _), (3, _), (4, _), (5, _)]) rfl dX10_addressOf_68 ⟨rfl, Nat.le_of_ble_eq_true rfl⟩ rfl ?_
        refine x_pick (L2 := [(0, _), (1, _), (2, _), (3, _), (4, _), (5, _)]) [0, 1, 2, 3, 4, 5] rfl ?_
        first
          | (have hs' : sta v.1 v.2.1 v.2.2.2.1 v.2.2.2.2.1 v.2.2.2.2.2 i e = rup e v.2.2.2.2.2 := by unfold sta; rw [if_neg (show ¬ i = v.2.2.2.2.1 by omega), if_pos hb29]
             rw [hs'] at key; exact key)
          | (have hs' : sta v.1 v.2.1 v.2.2.2.1 v.2.2.2.2.1 v.2.2.2.2.2 i e = e := by unfold sta; rw [if_neg (show ¬ i = v.2.2.2.2.1 by omega), if_neg (by rw [hb29]; decide)]
             rw [hs'] at key; exact key)
          | (have hs' : sta v.1 v.2.1 v.2.2.2.1 v.2.2.2.2.1 v.2.2.2.2.2 i e = e := by unfold sta; rw [if_neg (show ¬ i = v.2.2.2.2.1 by omega), lhd_c (by omega), if_neg (by decide)]
             rw [hs'] at key; exact key)
          | (have hs' : sta v.1 v.2.1 v.2.2.2.1 v.2.2.2.2.1 v.2.2.2.2.2 i e = rup e 16 := by unfold sta; rw [if_pos (show i = v.2.2.2.2.1 by omega)]
             rw [hs'] at key; exact key)
    · skip
      refine x_aload_n (p2 := 26) rfl dX10_addressOf_25 rfl ?_
      refine x_aload_n (p2 := 27) rfl dX10_addressOf_26 rfl ?_
      refine x_iload (p2 := 29) rfl dX10_addressOf_27 rfl ?_
      refine x_v2 (p2 := 32) rfl dX10_addressOf_29 l_10_124 ok_X10_isLoopHead rfl hD.sh rfl ?_
      refine t_X10_isLoopHead hD hR hn hr hG hO (by omega) (fun hb29 => ?_) (fun hb29 => ?_)
      · skip
        refine x_if_eq (p2 := 35) (t := 46) (by decide) rfl dX10_addressOf_32 (fun hc => absurd hc (by decide)) (fun _ => ?_)
        refine x_iload (p2 := 37) rfl dX10_addressOf_35 rfl ?_
        refine x_aload_n (p2 := 38) rfl dX10_addressOf_37 rfl ?_
        refine x_iconst (p2 := 39) rfl dX10_addressOf_38 ⟨by decide, by decide⟩ ?_
        refine x_iald (p2 := 40) rfl dX10_addressOf_39 hR (by omega) (by omega) ?_
        rw [hr.a]
        refine x_s2 (p2 := 43) rfl dX10_addressOf_40 l_10_128 ok_X10_up rfl rfl ?_
        refine t_X10_up (by omega) (by omega) (by omega) ?_
        refine x_goto (t := 48) (by decide) dX10_addressOf_43 ?_
        refine x_istore (p2 := 50) (i := 4) (L2 := [(0, _), (1, _), (2, _), (3, _), (4, _), (5, _)]) rfl dX10_addressOf_48 ⟨rfl, Nat.le_of_ble_eq_true rfl⟩ rfl ?_
        refine x_goto (t := 70) (by decide) dX10_addressOf_50 ?_
        refine x_pick (L2 := [(0, _), (1, _), (2, _), (3, _), (4, _), (5, _)]) [0, 1, 2, 3, 4, 5] rfl ?_
        first
          | (have hs' : sta v.1 v.2.1 v.2.2.2.1 v.2.2.2.2.1 v.2.2.2.2.2 i e = rup e v.2.2.2.2.2 := by unfold sta; rw [if_neg (show ¬ i = v.2.2.2.2.1 by omega), if_pos hb29]
             rw [hs'] at key; exact key)
          | (have hs' : sta v.1 v.2.1 v.2.2.2.1 v.2.2.2.2.1 v.2.2.2.2.2 i e = e := by unfold sta; rw [if_neg (show ¬ i = v.2.2.2.2.1 by omega), if_neg (by rw [hb29]; decide)]
             rw [hs'] at key; exact key)
          | (have hs' : sta v.1 v.2.1 v.2.2.2.1 v.2.2.2.2.1 v.2.2.2.2.2 i e = e := by unfold sta; rw [if_neg (show ¬ i = v.2.2.2.2.1 by omega), lhd_c (by omega), if_neg (by decide)]
             rw [hs'] at key; exact key)
          | (have hs' : sta v.1 v.2.1 v.2.2.2.1 v.2.2.2.2.1 v.2.2.2.2.2 i e = rup e 16 := by unfold sta; rw [if_pos (show i = v.2.2.2.2.1 by omega)]
             rw [hs'] at key; exact key)
      · skip
        refine x_if_eq (p2 := 35) (t := 46) (by decide) rfl dX10_addressOf_32 (fun _ => ?_) (fun hc => absurd hc (by decide))
        refine x_iload (p2 := 48) rfl dX10_addressOf_46 rfl ?_
        refine x_istore (p2 := 50) (i := 4) (L2 := [(0, _), (1, _), (2, _), (3, _), (4, _), (5, _)]) rfl dX10_addressOf_48 ⟨rfl, Nat.le_of_ble_eq_true rfl⟩ rfl ?_
        refine x_goto (t := 70) (by decide) dX10_addressOf_50 ?_
        refine x_pick (L2 := [(0, _), (1, _), (2, _), (3, _), (4, _), (5, _)]) [0, 1, 2, 3, 4, 5] rfl ?_
        first
          | (have hs' : sta v.1 v.2.1 v.2.2.2.1 v.2.2.2.2.1 v.2.2.2.2.2 i e = rup e v.2.2.2.2.2 := by unfold sta; rw [if_neg (show ¬ i = v.2.2.2.2.1 by omega), if_pos hb29]
             rw [hs'] at key; exact key)
          | (have hs' : sta v.1 v.2.1 v.2.2.2.1 v.2.2.2.2.1 v.2.2.2.2.2 i e = e := by unfold sta; rw [if_neg (show ¬ i = v.2.2.2.2.1 by omega), if_neg (by rw [hb29]; decide)]
             rw [hs'] at key; exact key)
          | (have hs' : sta v.1 v.2.1 v.2.2.2.1 v.2.2.2.2.1 v.2.2.2.2.2 i e = e := by unfold sta; rw [if_neg (show ¬ i = v.2.2.2.2.1 by omega), lhd_c (by omega), if_neg (by decide)]
             rw [hs'] at key; exact key)
          | (have hs' : sta v.1 v.2.1 v.2.2.2.1 v.2.2.2.2.1 v.2.2.2.2.2 i e = rup e 16 := by unfold sta; rw [if_pos (show i = v.2.2.2.2.1 by omega)]
             rw [hs'] at key; exact key)
set_option maxHeartbeats 4000000 in
theorem t_X10_addressOf {D R : Nat} (hD : isMd σ ρ D) (hR : σ[R]? = some (100, 50)) {n : Int} {v : vV} (hn : M D 2 = n) (hr : smr n v (M R)) (hG : wfG n v.1 v.2.1 v.2.2.1) (hO : wfO n v.2.2.2.1 v.2.2.2.2.1) {byt : Int → Int} (hA : v.2.2.2.2.2 = 1 ∨ v.2.2.2.2.2 = 2 ∨ v.2.2.2.2.2 = 4 ∨ v.2.2.2.2.2 = 8 ∨ v.2.2.2.2.2 = 16) (hy : ∀ b, 0 ≤ b → b < n → M (D + 2) b = byt b ∧ 0 ≤ byt b ∧ byt b ≤ 9) {b : Int} (hb : 0 ≤ b ∧ b < n) (hq : Q (some (xI (sof n v.1 v.2.1 v.2.2.2.1 byt v.2.2.2.2.1 v.2.2.2.2.2 b n.toNat 0 0))) (σ, ρ, xu M D 22 (eoc n v.1 v.2.1 v.2.2.2.1 byt v.2.2.2.2.1 v.2.2.2.2.2 n.toNat 0 0))) : xX G mX10_addressOf 0 0 0 [(0, xP D), (1, xP R), (2, xI b)] [] (σ, ρ, M) Q := by
  have h8 := hG.2.1
  have h1 := hG.1
  have hp := pos_ok hO hb.1 hb.2
  refine x_iconst (p2 := 1) rfl dX10_addressOf_0 ⟨by decide, by decide⟩ ?_
  refine x_istore_n (p2 := 2) (i := 3) (L2 := [(0, _), (1, _), (2, _), (3, _)]) rfl dX10_addressOf_1 rfl ⟨rfl, Nat.le_of_ble_eq_true rfl⟩ rfl ?_
  refine x_iconst (p2 := 3) rfl dX10_addressOf_2 ⟨by decide, by decide⟩ ?_
  refine x_istore (p2 := 5) (i := 4) (L2 := [(0, _), (1, _), (2, _), (3, _), (4, _)]) rfl dX10_addressOf_3 ⟨rfl, Nat.le_of_ble_eq_true rfl⟩ rfl ?_
  refine x_iconst (p2 := 6) rfl dX10_addressOf_5 ⟨by decide, by decide⟩ ?_
  refine x_istore (p2 := 8) (i := 5) (L2 := [(0, _), (1, _), (2, _), (3, _), (4, _), (5, _)]) rfl dX10_addressOf_6 ⟨rfl, Nat.le_of_ble_eq_true rfl⟩ rfl ?_
  refine x_pick (L2 := [(0, _), (1, _), (2, _), (3, _), (4, _), (5, _)]) [0, 1, 2, 3, 4, 5] rfl ?_
  exact t_ad_l hD hR hn hr hG hO hA hy hq n.toNat 0 0 0 (by omega) (by omega) (by omega) (by omega) rfl (fun ⟨j, a, b, _⟩ => by omega) (fun _ => rfl) ⟨_, hp.1, hp.2.1, hp.2.2⟩
end XMF
