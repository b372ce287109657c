section XML
variable {G : xG} {σ : List (Nat × Nat)} {ρ : Nat → Int → Option Nat} {M : Nat → Int → Int} {Q : Option xV → xH → Prop}
def tth : Nat → Int
  | 0 => 1
  | k + 1 => tth k * 10000
theorem tth_bd {i : Int} (h0 : 0 ≤ i) (h1 : i ≤ 4) : 1 ≤ tth i.toNat ∧ tth i.toNat ≤ 10000000000000000 := by
  rcases (by omega : i = 0 ∨ i = 1 ∨ i = 2 ∨ i = 3 ∨ i = 4) with rfl | rfl | rfl | rfl | rfl <;> exact ⟨by decide, by decide⟩
theorem ga2_n {b : Int} : ∀ (m : Nat) (f : Int) (ex tg ct : Int → Int) (c : Int), 0 ≤ c → 0 ≤ (ga2 b m f ex tg ct c).2.2.2
  | 0, f, ex, tg, ct, c, h => by unfold ga2; exact h
  | m + 1, f, ex, tg, ct, c, h => by
    unfold ga2
    have := ga1_c (b := b) (f := f) (ex f).toNat 0 tg c
    exact ga2_n m _ _ _ _ _ (by omega)
theorem sof_0 {n hot al : Int} {ex tg od byt : Int → Int} (hn : 1 ≤ n) (hO : wfO n od hot) (hA : al = 1 ∨ al = 2 ∨ al = 4 ∨ al = 8 ∨ al = 16) : sof n ex tg od byt hot al 0 n.toNat 0 0 = 0 := by
  obtain ⟨k, hk⟩ : ∃ k, n.toNat = k + 1 := ⟨n.toNat - 1, by omega⟩
  rw [hk]
  unfold sof
  rw [if_pos hO.2.2.1]
  unfold sta rup
  have := hO.2.2.2.1
  rw [if_neg (by omega)]
  split
  · rcases hA with rfl | rfl | rfl | rfl | rfl <;> decide
  · rfl
/-- what a command on the trial row leaves alone -/
def rt (M M2 : Nat → Int → Int) (D : Nat) : Prop := (∀ c, c ≠ D → c ≠ D + 4 → c ≠ D + 14 → M2 c = M c) ∧ (∀ f, f ≠ 22 → M2 D f = M D f)
theorem rt.rf {D : Nat} : rt M M D := ⟨fun _ _ _ _ => rfl, fun _ _ => rfl⟩
theorem rt.tr {M1 M2 M3 : Nat → Int → Int} {D : Nat} (h : rt M1 M2 D) (g : rt M2 M3 D) : rt M1 M3 D := ⟨fun c a b d => (g.1 c a b d).trans (h.1 c a b d), fun f a => (g.2 f a).trans (h.2 f a)⟩
theorem rt.q {M2 : Nat → Int → Int} {D : Nat} (h : rt M M2 D) : rq M M2 D := ⟨fun c z => h.1 c (by omega) (by omega) (by omega), fun f z => h.2 f (by omega)⟩
set_option maxHeartbeats 4000000 in
theorem t_tt_l {k : Int} (hk : k ≤ 4) : ∀ (m : Nat) (i p : Int), 0 ≤ i → i + m = k → p = tth i.toNat → Q (some (xL (tth k.toNat))) (σ, ρ, M) → xX G mX10_tenThousands 0 0 4 [(0, xI k), (1, xL p), (3, xI i)] [] (σ, ρ, M) Q := by
  intro m
  induction m with
  | zero =>
    intro i p h0 hm hp hq
    refine x_iload_n (p2 := 5) rfl dX10_tenThousands_4 rfl ?_
    refine x_iload_n (p2 := 6) rfl dX10_tenThousands_5 rfl ?_
    refine x_ic_ge (p2 := 9) (t := 21) (by decide) rfl dX10_tenThousands_6 (fun hc6 => ?_) (fun hc6 => absurd hc6 (by omega))
    refine x_lload_n (p2 := 22) rfl dX10_tenThousands_21 rfl ?_
    refine x_lret dX10_tenThousands_22 rfl ?_
    rw [hp, show i = k by omega]; exact hq
  | succ m ih =>
    intro i p h0 hm hp hq
    have hb := tth_bd (i := i + 1) (by omega) (by omega)
    rw [show (i + 1).toNat = i.toNat + 1 by omega] at hb
    unfold tth at hb
    rw [← hp] at hb
    refine x_iload_n (p2 := 5) rfl dX10_tenThousands_4 rfl ?_
    refine x_iload_n (p2 := 6) rfl dX10_tenThousands_5 rfl ?_
    refine x_ic_ge (p2 := 9) (t := 21) (by decide) rfl dX10_tenThousands_6 (fun hc6 => ?_) (fun hc6 => ?_)
    · exact absurd hc6 (by omega)
    refine x_lload_n (p2 := 10) rfl dX10_tenThousands_9 rfl ?_
    refine x_ldc2 (p2 := 13) rfl dX10_tenThousands_10 q_10_195 ?_
    refine x_lmul (p2 := 14) rfl dX10_tenThousands_13 ?_
    rw [xlmul_eq ⟨by omega, by omega⟩]
    refine x_lstore_n (p2 := 15) (i := 1) (L2 := [(0, _), (1, _), (3, _)]) rfl dX10_tenThousands_14 rfl ⟨rfl, Nat.le_of_ble_eq_true rfl⟩ rfl ?_
    refine x_iinc (p2 := 18) (L2 := [(0, _), (1, _), (3, _)]) rfl dX10_tenThousands_15 rfl ⟨by omega, by omega⟩ ⟨rfl, Nat.le_of_ble_eq_true rfl⟩ rfl ?_
    refine x_goto (t := 4) (by decide) dX10_tenThousands_18 ?_
    refine x_pick (L2 := [(0, _), (1, _), (3, _)]) [0, 1, 3] rfl ?_
    refine ih _ _ (by omega) (by omega) ?_ hq
    rw [show (i + 1).toNat = i.toNat + 1 by omega, hp]; rfl
set_option maxHeartbeats 4000000 in
theorem t_X10_tenThousands {k : Int} (hk : 0 ≤ k ∧ k ≤ 4) (hq : Q (some (xL (tth k.toNat))) (σ, ρ, M)) : xX G mX10_tenThousands 0 0 0 [(0, xI k)] [] (σ, ρ, M) Q := by
  refine x_lconst (p2 := 1) (v := 1) rfl dX10_tenThousands_0 ⟨by decide, ⟨by decide, by decide⟩⟩ ?_
  refine x_lstore_n (p2 := 2) (i := 1) (L2 := [(0, _), (1, _)]) rfl dX10_tenThousands_1 rfl ⟨rfl, Nat.le_of_ble_eq_true rfl⟩ rfl ?_
  refine x_iconst (p2 := 3) rfl dX10_tenThousands_2 ⟨by decide, by decide⟩ ?_
  refine x_istore_n (p2 := 4) (i := 3) (L2 := [(0, _), (1, _), (3, _)]) rfl dX10_tenThousands_3 rfl ⟨rfl, Nat.le_of_ble_eq_true rfl⟩ rfl ?_
  refine x_pick (L2 := [(0, _), (1, _), (3, _)]) [0, 1, 3] rfl ?_
  exact t_tt_l hk.2 k.toNat 0 1 (by omega) (by omega) rfl hq
set_option maxHeartbeats 4000000 in
theorem t_swE {D : Nat} (hD : isMd σ ρ D) {n : Int} (hn : M D 2 = n) (h1 : 1 ≤ n) (h8 : n ≤ 8) {i j : Int} (k1 : ¬ (0 ≤ i ∧ i < n ∧ 0 ≤ j ∧ j < n) → Q (some (xI (-1))) (σ, ρ, M)) (k3 : (0 ≤ i ∧ i < n ∧ 0 ≤ j ∧ j < n) ∧ (i = 0 ∨ j = 0) → Q (some (xI (-3))) (σ, ρ, M)) (k0 : 0 < i ∧ i < n ∧ 0 < j ∧ j < n → Q (some (xI 0)) (σ, ρ, M)) : xX G mX10_swapError 0 0 0 [(0, xP D), (1, xI i), (2, xI j)] [] (σ, ρ, M) Q := by
  refine x_aload_n (p2 := 1) rfl dX10_swapError_0 rfl ?_
  refine x_iload_n (p2 := 2) rfl dX10_swapError_1 rfl ?_
  refine x_v1 (p2 := 5) rfl dX10_swapError_2 l_10_137 ok_X10_isPosition rfl hD.sh rfl ?_
  refine t_X10_isPosition hD (by rw [hn]; omega) (fun hb2 => ?_) (fun hb2 => ?_)
  all_goals rw [hn] at hb2
  · skip
    refine x_if_eq (p2 := 8) (t := 16) (by decide) rfl dX10_swapError_5 (fun hc => absurd hc (by decide)) (fun _ => ?_)
    refine x_aload_n (p2 := 9) rfl dX10_swapError_8 rfl ?_
    refine x_iload_n (p2 := 10) rfl dX10_swapError_9 rfl ?_
    refine x_v1 (p2 := 13) rfl dX10_swapError_10 l_10_137 ok_X10_isPosition rfl hD.sh rfl ?_
    refine t_X10_isPosition hD (by rw [hn]; omega) (fun hb10 => ?_) (fun hb10 => ?_)
    all_goals rw [hn] at hb10
    · skip
      refine x_if_ne (p2 := 16) (t := 18) (by decide) rfl dX10_swapError_13 (fun _ => ?_) (fun hc => absurd hc (by decide))
      refine x_iload_n (p2 := 19) rfl dX10_swapError_18 rfl ?_
      refine x_if_eq (p2 := 22) (t := 26) (by decide) rfl dX10_swapError_19 (fun hc19 => ?_) (fun hc19 => ?_)
      · skip
        refine x_bipush (p2 := 28) rfl dX10_swapError_26 ⟨by decide, ⟨by decide, by decide⟩⟩ ?_
        refine x_goto (t := 32) (by decide) dX10_swapError_28 ?_
        refine x_iret dX10_swapError_32 rfl ?_
        exact k3 (by omega)
      · skip
        refine x_iload_n (p2 := 23) rfl dX10_swapError_22 rfl ?_
        refine x_if_ne (p2 := 26) (t := 31) (by decide) rfl dX10_swapError_23 (fun hc23 => ?_) (fun hc23 => ?_)
        · skip
          refine x_iconst (p2 := 32) rfl dX10_swapError_31 ⟨by decide, by decide⟩ ?_
          refine x_iret dX10_swapError_32 rfl ?_
          exact k0 (by omega)
        · skip
          refine x_bipush (p2 := 28) rfl dX10_swapError_26 ⟨by decide, ⟨by decide, by decide⟩⟩ ?_
          refine x_goto (t := 32) (by decide) dX10_swapError_28 ?_
          refine x_iret dX10_swapError_32 rfl ?_
          exact k3 (by omega)
    · skip
      refine x_if_ne (p2 := 16) (t := 18) (by decide) rfl dX10_swapError_13 (fun hc => absurd hc (by decide)) (fun _ => ?_)
      refine x_iconst (p2 := 17) rfl dX10_swapError_16 ⟨by decide, by decide⟩ ?_
      refine x_iret dX10_swapError_17 rfl ?_
      exact k1 (by omega)
  · skip
    refine x_if_eq (p2 := 8) (t := 16) (by decide) rfl dX10_swapError_5 (fun _ => ?_) (fun hc => absurd hc (by decide))
    refine x_iconst (p2 := 17) rfl dX10_swapError_16 ⟨by decide, by decide⟩ ?_
    refine x_iret dX10_swapError_17 rfl ?_
    exact k1 (by omega)
set_option maxHeartbeats 4000000 in
theorem t_X10_command {D : Nat} (hD : isMd σ ρ D) {n en : Int} {byt : Int → Int} {v : vV} (hn : M D 2 = n) (hen : M D 4 = en) (hyb : ∀ b, 0 ≤ b → b < n → M (D + 2) b = byt b) (hr : smr n v (M (D + 4))) (hW : wfV n en byt v) {g : Int} (hg0 : 0 ≤ g ∧ g ≤ 9999) (k1 : sok n byt v g = true → ∀ M2, smr n (snw n en v g) (M2 (D + 4)) → rt M M2 D → Q (some (xI 1)) (σ, ρ, M2)) (k0 : sok n byt v g = false → ∀ M2, rt M M2 D → Q (some (xI 0)) (σ, ρ, M2)) : xX G mX10_command 0 0 0 [(0, xP D), (1, xI (g / 1000)), (2, xI (g / 100 % 10)), (3, xI (g / 10 % 10)), (4, xI (g % 10))] [] (σ, ρ, M) Q := by
  have hG := hW.1
  have hO := hW.2.1
  have hA := hW.2.2.1
  have he : M D 4 = en ∧ 0 ≤ en ∧ en ≤ 99 := ⟨hen, hW.2.2.2.1⟩
  have hy : ∀ b, 0 ≤ b → b < n → M (D + 2) b = byt b ∧ 0 ≤ byt b ∧ byt b ≤ 9 := fun b a c => ⟨hyb b a c, hW.2.2.2.2 b a c⟩
  have h8 := hG.2.1
  have h1 := hG.1
  have hx2 : ∀ b, 0 ≤ b → b < n → v.1 b ≤ 2 := fun b a c => (hG.2.2 b a c).2.1
  have hO5 := hO.2.2.2
  refine x_iload_n (p2 := 1) rfl dX10_command_0 rfl ?_
  rcases (by omega : g / 1000 = 0 ∨ g / 1000 = 1 ∨ g / 1000 = 2 ∨ g / 1000 = 3 ∨ g / 1000 = 4 ∨ g / 1000 = 5 ∨ g / 1000 = 6 ∨ g / 1000 = 7 ∨ g / 1000 = 8 ∨ g / 1000 = 9) with hg | hg | hg | hg | hg | hg | hg | hg | hg | hg
  · rw [hg]
    refine x_tsOut (t := 326) dX10_command_1 (by decide) (by decide) ?_
    refine x_iconst (p2 := 327) rfl dX10_command_326 ⟨by decide, by decide⟩ ?_
    refine x_zret dX10_command_327 rfl (by omega) ?_
    exact k0 (sok_0 (by omega)) _ rt.rf
  · rw [hg]
    refine x_tsIn (t := 48) dX10_command_1 (by decide) (by decide) rfl (by decide) ?_
    refine x_iload (p2 := 50) rfl dX10_command_48 rfl ?_
    refine x_if_ne (p2 := 53) (t := 62) (by decide) rfl dX10_command_50 (fun hc50 => ?_) (fun hc50 => ?_)
    · skip
      refine x_iconst (p2 := 63) rfl dX10_command_62 ⟨by decide, by decide⟩ ?_
      refine x_zret dX10_command_63 rfl (by omega) ?_
      first
        | exact k0 (by rw [sok_1 hg]; exact decide_eq_false (by omega)) _ rt.rf
        | exact k0 (by rw [sok_1 hg]; exact decide_eq_false (by omega)) _ ⟨fun c z1 z2 z3 => xu_c z1, fun f z => xu_j z⟩
    · skip
      refine x_aload_n (p2 := 54) rfl dX10_command_53 rfl ?_
      refine x_iload_n (p2 := 55) rfl dX10_command_54 rfl ?_
      refine x_iload_n (p2 := 56) rfl dX10_command_55 rfl ?_
      refine x_v2 (p2 := 59) rfl dX10_command_56 l_10_174 ok_X10_swapError rfl hD.sh rfl ?_
      refine t_swE hD hn h1 h8 (fun hb56 => ?_) (fun hb56 => ?_) (fun hb56 => ?_)
      · skip
        refine x_if_eq (p2 := 62) (t := 64) (by decide) rfl dX10_command_59 (fun hc => absurd hc (by decide)) (fun _ => ?_)
        refine x_iconst (p2 := 63) rfl dX10_command_62 ⟨by decide, by decide⟩ ?_
        refine x_zret dX10_command_63 rfl (by omega) ?_
        first
          | exact k0 (by rw [sok_1 hg]; exact decide_eq_false (by omega)) _ rt.rf
          | exact k0 (by rw [sok_1 hg]; exact decide_eq_false (by omega)) _ ⟨fun c z1 z2 z3 => xu_c z1, fun f z => xu_j z⟩
      · skip
        refine x_if_eq (p2 := 62) (t := 64) (by decide) rfl dX10_command_59 (fun hc => absurd hc (by decide)) (fun _ => ?_)
        refine x_iconst (p2 := 63) rfl dX10_command_62 ⟨by decide, by decide⟩ ?_
        refine x_zret dX10_command_63 rfl (by omega) ?_
        first
          | exact k0 (by rw [sok_1 hg]; exact decide_eq_false (by omega)) _ rt.rf
          | exact k0 (by rw [sok_1 hg]; exact decide_eq_false (by omega)) _ ⟨fun c z1 z2 z3 => xu_c z1, fun f z => xu_j z⟩
      · skip
        refine x_if_eq (p2 := 62) (t := 64) (by decide) rfl dX10_command_59 (fun _ => ?_) (fun hc => absurd hc (by decide))
        refine x_aload_n (p2 := 65) rfl dX10_command_64 rfl ?_
        refine x_getr (p2 := 68) (kz := 6) rfl dX10_command_65 f_10_19 rfl rfl hD.sh hD.r6 ?_
        refine x_iload_n (p2 := 69) rfl dX10_command_68 rfl ?_
        refine x_iload_n (p2 := 70) rfl dX10_command_69 rfl ?_
        refine x_s3 (p2 := 73) rfl dX10_command_70 l_10_177 ok_X10_swapIn rfl rfl ?_
        refine t_X10_swapIn hD.a6 h8 hr hx2 (by omega) (by omega) (fun M2 hs hv => ?_)
        refine x_iconst (p2 := 74) rfl dX10_command_73 ⟨by decide, by decide⟩ ?_
        refine x_zret dX10_command_74 rfl (by omega) ?_
        refine k1 (by rw [sok_1 hg]; exact decide_eq_true (by omega)) _ ?_ ⟨fun c z1 z2 z3 => hs c z2, fun f z => by rw [hs D (by omega)]⟩
        unfold snw
        rw [if_pos hg]
        exact hv
  · rw [hg]
    refine x_tsIn (t := 75) dX10_command_1 (by decide) (by decide) rfl (by decide) ?_
    refine x_iload (p2 := 77) rfl dX10_command_75 rfl ?_
    refine x_if_ne (p2 := 80) (t := 93) (by decide) rfl dX10_command_77 (fun hc77 => ?_) (fun hc77 => ?_)
    · skip
      refine x_iconst (p2 := 94) rfl dX10_command_93 ⟨by decide, by decide⟩ ?_
      refine x_zret dX10_command_94 rfl (by omega) ?_
      first
        | exact k0 (by rw [sok_2 hg]; exact decide_eq_false (by omega)) _ rt.rf
        | exact k0 (by rw [sok_2 hg]; exact decide_eq_false (by omega)) _ ⟨fun c z1 z2 z3 => xu_c z1, fun f z => xu_j z⟩
    · skip
      refine x_aload_n (p2 := 81) rfl dX10_command_80 rfl ?_
      refine x_aload_n (p2 := 82) rfl dX10_command_81 rfl ?_
      refine x_getr (p2 := 85) (kz := 6) rfl dX10_command_82 f_10_19 rfl rfl hD.sh hD.r6 ?_
      refine x_iload_n (p2 := 86) rfl dX10_command_85 rfl ?_
      refine x_iload_n (p2 := 87) rfl dX10_command_86 rfl ?_
      refine x_v3 (p2 := 90) rfl dX10_command_87 l_10_164 ok_X10_rangeError rfl hD.sh rfl ?_
      refine t_X10_rangeError hD hD.a6 hn hr hG (fun hb87 => ?_) (fun hb87 => ?_) (fun hb87 => ?_)
      · skip
        refine x_if_eq (p2 := 93) (t := 95) (by decide) rfl dX10_command_90 (fun hc => absurd hc (by decide)) (fun _ => ?_)
        refine x_iconst (p2 := 94) rfl dX10_command_93 ⟨by decide, by decide⟩ ?_
        refine x_zret dX10_command_94 rfl (by omega) ?_
        first
          | exact k0 (by rw [sok_2 hg]; exact decide_eq_false (by omega)) _ rt.rf
          | exact k0 (by rw [sok_2 hg]; exact decide_eq_false (by omega)) _ ⟨fun c z1 z2 z3 => xu_c z1, fun f z => xu_j z⟩
      · skip
        refine x_if_eq (p2 := 93) (t := 95) (by decide) rfl dX10_command_90 (fun hc => absurd hc (by decide)) (fun _ => ?_)
        refine x_iconst (p2 := 94) rfl dX10_command_93 ⟨by decide, by decide⟩ ?_
        refine x_zret dX10_command_94 rfl (by omega) ?_
        first
          | exact k0 (by rw [sok_2 hg]; exact decide_eq_false (by omega)) _ rt.rf
          | exact k0 (by rw [sok_2 hg]; exact decide_eq_false (by omega)) _ ⟨fun c z1 z2 z3 => xu_c z1, fun f z => xu_j z⟩
      · skip
        refine x_if_eq (p2 := 93) (t := 95) (by decide) rfl dX10_command_90 (fun _ => ?_) (fun hc => absurd hc (by decide))
        refine x_aload_n (p2 := 96) rfl dX10_command_95 rfl ?_
        refine x_getr (p2 := 99) (kz := 6) rfl dX10_command_96 f_10_19 rfl rfl hD.sh hD.r6 ?_
        refine x_iload_n (p2 := 100) rfl dX10_command_99 rfl ?_
        refine x_iload_n (p2 := 101) rfl dX10_command_100 rfl ?_
        refine x_s3 (p2 := 104) rfl dX10_command_101 l_10_181 ok_X10_rotateIn rfl rfl ?_
        refine t_X10_rotateIn hD.a6 h8 hr hx2 (by omega) (by omega) (fun M2 hs hv => ?_)
        refine x_iconst (p2 := 105) rfl dX10_command_104 ⟨by decide, by decide⟩ ?_
        refine x_zret dX10_command_105 rfl (by omega) ?_
        refine k1 (by rw [sok_2 hg]; exact decide_eq_true (by omega)) _ ?_ ⟨fun c z1 z2 z3 => hs c z2, fun f z => by rw [hs D (by omega)]⟩
        unfold snw
        rw [if_neg (show ¬ g / 1000 = 1 by omega)]
        rw [if_pos hg]
        exact hv
  · rw [hg]
    refine x_tsIn (t := 106) dX10_command_1 (by decide) (by decide) rfl (by decide) ?_
    refine x_iload_n (p2 := 107) rfl dX10_command_106 rfl ?_
    refine x_if_ne (p2 := 110) (t := 120) (by decide) rfl dX10_command_107 (fun hc107 => ?_) (fun hc107 => ?_)
    · skip
      refine x_iconst (p2 := 121) rfl dX10_command_120 ⟨by decide, by decide⟩ ?_
      refine x_zret dX10_command_121 rfl (by omega) ?_
      first
        | exact k0 (by rw [sok_3 hg]; exact decide_eq_false (by omega)) _ rt.rf
        | exact k0 (by rw [sok_3 hg]; exact decide_eq_false (by omega)) _ ⟨fun c z1 z2 z3 => xu_c z1, fun f z => xu_j z⟩
    · skip
      refine x_bipush (p2 := 112) rfl dX10_command_110 ⟨by decide, ⟨by decide, by decide⟩⟩ ?_
      refine x_iload_n (p2 := 113) rfl dX10_command_112 rfl ?_
      refine x_imul (p2 := 114) rfl dX10_command_113 ⟨by omega, by omega⟩ ?_
      refine x_iload (p2 := 116) rfl dX10_command_114 rfl ?_
      refine x_iadd (p2 := 117) rfl dX10_command_116 ⟨by omega, by omega⟩ ?_
      refine x_if_ne (p2 := 120) (t := 122) (by decide) rfl dX10_command_117 (fun hc117 => ?_) (fun hc117 => ?_)
      · skip
        refine x_aload_n (p2 := 123) rfl dX10_command_122 rfl ?_
        refine x_aload_n (p2 := 124) rfl dX10_command_123 rfl ?_
        refine x_getr (p2 := 127) (kz := 6) rfl dX10_command_124 f_10_19 rfl rfl hD.sh hD.r6 ?_
        refine x_bipush (p2 := 129) rfl dX10_command_127 ⟨by decide, ⟨by decide, by decide⟩⟩ ?_
        refine x_iload_n (p2 := 130) rfl dX10_command_129 rfl ?_
        refine x_imul (p2 := 131) rfl dX10_command_130 ⟨by omega, by omega⟩ ?_
        refine x_iload (p2 := 133) rfl dX10_command_131 rfl ?_
        refine x_iadd (p2 := 134) rfl dX10_command_133 ⟨by omega, by omega⟩ ?_
        refine x_v2 (p2 := 137) rfl dX10_command_134 l_10_186 ok_X10_splitIn rfl hD.sh rfl ?_
        refine t_X10_splitIn hD hD.a6 (by omega) hn he hr hG hO (fun M2 hs hv => ?_)
        have hdw := (wfV_dv (t := 10 * (g / 10 % 10) + g % 10) hW).2.1.2.2.2.1
        refine x_if_le (p2 := 140) (t := 144) (by decide) rfl dX10_command_137 (fun hc137 => ?_) (fun hc137 => ?_)
        · exact absurd hc137 (by omega)
        refine x_iconst (p2 := 141) rfl dX10_command_140 ⟨by decide, by decide⟩ ?_
        refine x_goto (t := 145) (by decide) dX10_command_141 ?_
        refine x_zret dX10_command_145 rfl (by omega) ?_
        refine k1 (by rw [sok_3 hg]; exact decide_eq_true (by omega)) _ ?_ ⟨fun c z1 z2 z3 => hs c z2 z3, fun f z => by rw [hs D (by omega) (by omega)]⟩
        unfold snw
        rw [if_neg (show ¬ g / 1000 = 1 by omega)]
        rw [if_neg (show ¬ g / 1000 = 2 by omega)]
        rw [if_pos hg]
        rw [show g % 100 = 10 * (g / 10 % 10) + g % 10 by omega]
        exact hv
      · skip
        refine x_iconst (p2 := 121) rfl dX10_command_120 ⟨by decide, by decide⟩ ?_
        refine x_zret dX10_command_121 rfl (by omega) ?_
        first
          | exact k0 (by rw [sok_3 hg]; exact decide_eq_false (by omega)) _ rt.rf
          | exact k0 (by rw [sok_3 hg]; exact decide_eq_false (by omega)) _ ⟨fun c z1 z2 z3 => xu_c z1, fun f z => xu_j z⟩
  · rw [hg]
    refine x_tsIn (t := 146) dX10_command_1 (by decide) (by decide) rfl (by decide) ?_
    refine x_aload_n (p2 := 147) rfl dX10_command_146 rfl ?_
    refine x_iload_n (p2 := 148) rfl dX10_command_147 rfl ?_
    refine x_v1 (p2 := 151) rfl dX10_command_148 l_10_61 ok_X10_isBlock rfl hD.sh rfl ?_
    refine t_X10_isBlock hD (by rw [hn]; omega) (fun hb148 => ?_) (fun hb148 => ?_)
    all_goals rw [hn] at hb148
    · skip
      refine x_if_eq (p2 := 154) (t := 177) (by decide) rfl dX10_command_151 (fun hc => absurd hc (by decide)) (fun _ => ?_)
      refine x_aload_n (p2 := 155) rfl dX10_command_154 rfl ?_
      refine x_aload_n (p2 := 156) rfl dX10_command_155 rfl ?_
      refine x_getr (p2 := 159) (kz := 6) rfl dX10_command_156 f_10_19 rfl rfl hD.sh hD.r6 ?_
      refine x_iload_n (p2 := 160) rfl dX10_command_159 rfl ?_
      refine x_v2 (p2 := 163) rfl dX10_command_160 l_10_144 ok_X10_addressOf rfl hD.sh rfl ?_
      refine t_X10_addressOf hD hD.a6 hn hr hG hO hA hy (by omega) ?_
      refine x_bipush (p2 := 165) rfl dX10_command_163 ⟨by decide, ⟨by decide, by decide⟩⟩ ?_
      refine x_iload_n (p2 := 166) rfl dX10_command_165 rfl ?_
      refine x_imul (p2 := 167) rfl dX10_command_166 ⟨by omega, by omega⟩ ?_
      refine x_iload (p2 := 169) rfl dX10_command_167 rfl ?_
      refine x_iadd (p2 := 170) rfl dX10_command_169 ⟨by omega, by omega⟩ ?_
      rw [show 10 * (g / 10 % 10) + g % 10 = g % 100 by omega]
      refine x_ic_ne (p2 := 173) (t := 177) (by decide) rfl dX10_command_170 (fun hc170 => ?_) (fun hc170 => ?_)
      · skip
        refine x_iconst (p2 := 178) rfl dX10_command_177 ⟨by decide, by decide⟩ ?_
        refine x_zret dX10_command_178 rfl (by omega) ?_
        first
          | exact k0 (by rw [sok_4 hg]; exact decide_eq_false (by omega)) _ rt.rf
          | exact k0 (by rw [sok_4 hg]; exact decide_eq_false (by omega)) _ ⟨fun c z1 z2 z3 => xu_c z1, fun f z => xu_j z⟩
      · skip
        refine x_iconst (p2 := 174) rfl dX10_command_173 ⟨by decide, by decide⟩ ?_
        refine x_goto (t := 178) (by decide) dX10_command_174 ?_
        refine x_zret dX10_command_178 rfl (by omega) ?_
        refine k1 (by rw [sok_4 hg]; exact decide_eq_true (by omega)) _ ?_ ⟨fun c z1 z2 z3 => xu_c z1, fun f z => xu_j z⟩
        rw [snw_0 (by omega), xu_c (by omega)]; exact hr
    · skip
      refine x_if_eq (p2 := 154) (t := 177) (by decide) rfl dX10_command_151 (fun _ => ?_) (fun hc => absurd hc (by decide))
      refine x_iconst (p2 := 178) rfl dX10_command_177 ⟨by decide, by decide⟩ ?_
      refine x_zret dX10_command_178 rfl (by omega) ?_
      first
        | exact k0 (by rw [sok_4 hg]; exact decide_eq_false (by omega)) _ rt.rf
        | exact k0 (by rw [sok_4 hg]; exact decide_eq_false (by omega)) _ ⟨fun c z1 z2 z3 => xu_c z1, fun f z => xu_j z⟩
  · rw [hg]
    refine x_tsIn (t := 179) dX10_command_1 (by decide) (by decide) rfl (by decide) ?_
    refine x_aload_n (p2 := 180) rfl dX10_command_179 rfl ?_
    refine x_aload_n (p2 := 181) rfl dX10_command_180 rfl ?_
    refine x_getr (p2 := 184) (kz := 6) rfl dX10_command_181 f_10_19 rfl rfl hD.sh hD.r6 ?_
    refine x_v1 (p2 := 187) rfl dX10_command_184 l_10_140 ok_X10_costOf rfl hD.sh rfl ?_
    refine t_X10_costOf hD hD.a6 hn hr hG hO ?_
    refine x_bipush (p2 := 189) rfl dX10_command_187 ⟨by decide, ⟨by decide, by decide⟩⟩ ?_
    refine x_iload_n (p2 := 190) rfl dX10_command_189 rfl ?_
    refine x_imul (p2 := 191) rfl dX10_command_190 ⟨by omega, by omega⟩ ?_
    refine x_bipush (p2 := 193) rfl dX10_command_191 ⟨by decide, ⟨by decide, by decide⟩⟩ ?_
    refine x_iload_n (p2 := 194) rfl dX10_command_193 rfl ?_
    refine x_imul (p2 := 195) rfl dX10_command_194 ⟨by omega, by omega⟩ ?_
    refine x_iadd (p2 := 196) rfl dX10_command_195 ⟨by omega, by omega⟩ ?_
    refine x_iload (p2 := 198) rfl dX10_command_196 rfl ?_
    refine x_iadd (p2 := 199) rfl dX10_command_198 ⟨by omega, by omega⟩ ?_
    rw [show 100 * (g / 100 % 10) + 10 * (g / 10 % 10) + g % 10 = g % 1000 by omega]
    refine x_ic_ne (p2 := 202) (t := 206) (by decide) rfl dX10_command_199 (fun hc199 => ?_) (fun hc199 => ?_)
    · skip
      refine x_iconst (p2 := 207) rfl dX10_command_206 ⟨by decide, by decide⟩ ?_
      refine x_zret dX10_command_207 rfl (by omega) ?_
      first
        | exact k0 (by rw [sok_5 hg]; exact decide_eq_false (by omega)) _ rt.rf
        | exact k0 (by rw [sok_5 hg]; exact decide_eq_false (by omega)) _ ⟨fun c z1 z2 z3 => xu_c z1, fun f z => xu_j z⟩
    · skip
      refine x_iconst (p2 := 203) rfl dX10_command_202 ⟨by decide, by decide⟩ ?_
      refine x_goto (t := 207) (by decide) dX10_command_203 ?_
      refine x_zret dX10_command_207 rfl (by omega) ?_
      refine k1 (by rw [sok_5 hg]; exact decide_eq_true (by omega)) _ ?_ rt.rf
      rw [snw_0 (by omega)]; exact hr
  · rw [hg]
    refine x_tsIn (t := 208) dX10_command_1 (by decide) (by decide) rfl (by decide) ?_
    refine x_aload_n (p2 := 209) rfl dX10_command_208 rfl ?_
    refine x_aload_n (p2 := 210) rfl dX10_command_209 rfl ?_
    refine x_getr (p2 := 213) (kz := 6) rfl dX10_command_210 f_10_19 rfl rfl hD.sh hD.r6 ?_
    refine x_iconst (p2 := 214) rfl dX10_command_213 ⟨by decide, by decide⟩ ?_
    refine x_v2 (p2 := 217) rfl dX10_command_214 l_10_144 ok_X10_addressOf rfl hD.sh rfl ?_
    refine t_X10_addressOf hD hD.a6 hn hr hG hO hA hy (by omega) ?_
    rw [sof_0 h1 hO hA]
    refine x_if_ne (p2 := 220) (t := 243) (by decide) rfl dX10_command_217 (fun hc217 => ?_) (fun hc217 => ?_)
    · exact absurd hc217 (by omega)
    refine x_aload_n (p2 := 221) rfl dX10_command_220 rfl ?_
    refine x_geti (p2 := 224) (kz := 22) rfl dX10_command_221 f_10_134 rfl rfl hD.sh ?_
    rw [xu_s]
    refine x_bipush (p2 := 226) rfl dX10_command_224 ⟨by decide, ⟨by decide, by decide⟩⟩ ?_
    refine x_iload_n (p2 := 227) rfl dX10_command_226 rfl ?_
    refine x_imul (p2 := 228) rfl dX10_command_227 ⟨by omega, by omega⟩ ?_
    refine x_bipush (p2 := 230) rfl dX10_command_228 ⟨by decide, ⟨by decide, by decide⟩⟩ ?_
    refine x_iload_n (p2 := 231) rfl dX10_command_230 rfl ?_
    refine x_imul (p2 := 232) rfl dX10_command_231 ⟨by omega, by omega⟩ ?_
    refine x_iadd (p2 := 233) rfl dX10_command_232 ⟨by omega, by omega⟩ ?_
    refine x_iload (p2 := 235) rfl dX10_command_233 rfl ?_
    refine x_iadd (p2 := 236) rfl dX10_command_235 ⟨by omega, by omega⟩ ?_
    rw [show 100 * (g / 100 % 10) + 10 * (g / 10 % 10) + g % 10 = g % 1000 by omega]
    refine x_ic_ne (p2 := 239) (t := 243) (by decide) rfl dX10_command_236 (fun hc236 => ?_) (fun hc236 => ?_)
    · skip
      refine x_iconst (p2 := 244) rfl dX10_command_243 ⟨by decide, by decide⟩ ?_
      refine x_zret dX10_command_244 rfl (by omega) ?_
      first
        | exact k0 (by rw [sok_6 hg]; exact decide_eq_false (by omega)) _ rt.rf
        | exact k0 (by rw [sok_6 hg]; exact decide_eq_false (by omega)) _ ⟨fun c z1 z2 z3 => xu_c z1, fun f z => xu_j z⟩
    · skip
      refine x_iconst (p2 := 240) rfl dX10_command_239 ⟨by decide, by decide⟩ ?_
      refine x_goto (t := 244) (by decide) dX10_command_240 ?_
      refine x_zret dX10_command_244 rfl (by omega) ?_
      refine k1 (by rw [sok_6 hg]; exact decide_eq_true (by omega)) _ ?_ ⟨fun c z1 z2 z3 => xu_c z1, fun f z => xu_j z⟩
      rw [snw_0 (by omega), xu_c (by omega)]; exact hr
  · rw [hg]
    refine x_tsIn (t := 245) dX10_command_1 (by decide) (by decide) rfl (by decide) ?_
    refine x_iload_n (p2 := 246) rfl dX10_command_245 rfl ?_
    refine x_if_ne (p2 := 249) (t := 266) (by decide) rfl dX10_command_246 (fun hc246 => ?_) (fun hc246 => ?_)
    · skip
      refine x_iconst (p2 := 267) rfl dX10_command_266 ⟨by decide, by decide⟩ ?_
      refine x_zret dX10_command_267 rfl (by omega) ?_
      first
        | exact k0 (by rw [sok_7 hg]; exact decide_eq_false (by omega)) _ rt.rf
        | exact k0 (by rw [sok_7 hg]; exact decide_eq_false (by omega)) _ ⟨fun c z1 z2 z3 => xu_c z1, fun f z => xu_j z⟩
    · skip
      refine x_iload (p2 := 251) rfl dX10_command_249 rfl ?_
      refine x_if_ne (p2 := 254) (t := 266) (by decide) rfl dX10_command_251 (fun hc251 => ?_) (fun hc251 => ?_)
      · skip
        refine x_iconst (p2 := 267) rfl dX10_command_266 ⟨by decide, by decide⟩ ?_
        refine x_zret dX10_command_267 rfl (by omega) ?_
        first
          | exact k0 (by rw [sok_7 hg]; exact decide_eq_false (by omega)) _ rt.rf
          | exact k0 (by rw [sok_7 hg]; exact decide_eq_false (by omega)) _ ⟨fun c z1 z2 z3 => xu_c z1, fun f z => xu_j z⟩
      · skip
        refine x_aload_n (p2 := 255) rfl dX10_command_254 rfl ?_
        refine x_aload_n (p2 := 256) rfl dX10_command_255 rfl ?_
        refine x_getr (p2 := 259) (kz := 6) rfl dX10_command_256 f_10_19 rfl rfl hD.sh hD.r6 ?_
        refine x_iload_n (p2 := 260) rfl dX10_command_259 rfl ?_
        refine x_v2 (p2 := 263) rfl dX10_command_260 l_10_189 ok_X10_bypassError rfl hD.sh rfl ?_
        refine t_X10_bypassError hD hD.a6 hn hr hG hyb (fun hb260 => ?_) (fun hb260 => ?_) (fun hb260 => ?_)
        · skip
          refine x_if_eq (p2 := 266) (t := 268) (by decide) rfl dX10_command_263 (fun hc => absurd hc (by decide)) (fun _ => ?_)
          refine x_iconst (p2 := 267) rfl dX10_command_266 ⟨by decide, by decide⟩ ?_
          refine x_zret dX10_command_267 rfl (by omega) ?_
          first
            | exact k0 (by rw [sok_7 hg]; exact decide_eq_false (by omega)) _ rt.rf
            | exact k0 (by rw [sok_7 hg]; exact decide_eq_false (by omega)) _ ⟨fun c z1 z2 z3 => xu_c z1, fun f z => xu_j z⟩
        · skip
          refine x_if_eq (p2 := 266) (t := 268) (by decide) rfl dX10_command_263 (fun hc => absurd hc (by decide)) (fun _ => ?_)
          refine x_iconst (p2 := 267) rfl dX10_command_266 ⟨by decide, by decide⟩ ?_
          refine x_zret dX10_command_267 rfl (by omega) ?_
          first
            | exact k0 (by rw [sok_7 hg]; exact decide_eq_false (by omega)) _ rt.rf
            | exact k0 (by rw [sok_7 hg]; exact decide_eq_false (by omega)) _ ⟨fun c z1 z2 z3 => xu_c z1, fun f z => xu_j z⟩
        · skip
          refine x_if_eq (p2 := 266) (t := 268) (by decide) rfl dX10_command_263 (fun _ => ?_) (fun hc => absurd hc (by decide))
          refine x_aload_n (p2 := 269) rfl dX10_command_268 rfl ?_
          refine x_aload_n (p2 := 270) rfl dX10_command_269 rfl ?_
          refine x_getr (p2 := 273) (kz := 6) rfl dX10_command_270 f_10_19 rfl rfl hD.sh hD.r6 ?_
          refine x_iload_n (p2 := 274) rfl dX10_command_273 rfl ?_
          refine x_v2 (p2 := 277) rfl dX10_command_274 l_10_192 ok_X10_bypassIn rfl hD.sh rfl ?_
          refine t_X10_bypassIn hD hD.a6 (by omega) hn hr hG (by omega) (by omega) (by omega) (fun M2 hv hs => ?_)
          have hgn : 0 ≤ vgc n (g / 100 % 10) v := ga2_n _ _ _ _ _ _ (Int.le_refl 0)
          refine x_if_lt (p2 := 280) (t := 284) (by decide) rfl dX10_command_277 (fun hc277 => ?_) (fun hc277 => ?_)
          · exact absurd hc277 (by omega)
          refine x_iconst (p2 := 281) rfl dX10_command_280 ⟨by decide, by decide⟩ ?_
          refine x_goto (t := 285) (by decide) dX10_command_281 ?_
          refine x_zret dX10_command_285 rfl (by omega) ?_
          refine k1 (by rw [sok_7 hg]; exact decide_eq_true (by omega)) _ ?_ ⟨fun c z1 z2 z3 => hs c z2, fun f z => by rw [hs D (by omega)]⟩
          unfold snw
          rw [if_neg (show ¬ g / 1000 = 1 by omega)]
          rw [if_neg (show ¬ g / 1000 = 2 by omega)]
          rw [if_neg (show ¬ g / 1000 = 3 by omega)]
          rw [if_pos hg]
          exact hv
  · rw [hg]
    refine x_tsIn (t := 286) dX10_command_1 (by decide) (by decide) rfl (by decide) ?_
    refine x_iload (p2 := 288) rfl dX10_command_286 rfl ?_
    refine x_if_ne (p2 := 291) (t := 324) (by decide) rfl dX10_command_288 (fun hc288 => ?_) (fun hc288 => ?_)
    · skip
      refine x_iconst (p2 := 325) rfl dX10_command_324 ⟨by decide, by decide⟩ ?_
      refine x_zret dX10_command_325 rfl (by omega) ?_
      first
        | exact k0 (by rw [sok_8 hg]; exact decide_eq_false (fun z => by have := hfo.2 z.2.2.2.symm; omega)) _ rt.rf
        | exact k0 (by rw [sok_8 hg]; exact decide_eq_false (by omega)) _ rt.rf
    · skip
      refine x_aload_n (p2 := 292) rfl dX10_command_291 rfl ?_
      refine x_iload_n (p2 := 293) rfl dX10_command_292 rfl ?_
      refine x_v1 (p2 := 296) rfl dX10_command_293 l_10_61 ok_X10_isBlock rfl hD.sh rfl ?_
      refine t_X10_isBlock hD (by rw [hn]; omega) (fun hb293 => ?_) (fun hb293 => ?_)
      all_goals rw [hn] at hb293
      · skip
        refine x_if_eq (p2 := 299) (t := 324) (by decide) rfl dX10_command_296 (fun hc => absurd hc (by decide)) (fun _ => ?_)
        refine x_aload_n (p2 := 300) rfl dX10_command_299 rfl ?_
        refine x_iload_n (p2 := 301) rfl dX10_command_300 rfl ?_
        refine x_v1 (p2 := 304) rfl dX10_command_301 l_10_61 ok_X10_isBlock rfl hD.sh rfl ?_
        refine t_X10_isBlock hD (by rw [hn]; omega) (fun hb301 => ?_) (fun hb301 => ?_)
        all_goals rw [hn] at hb301
        · skip
          refine x_if_eq (p2 := 307) (t := 324) (by decide) rfl dX10_command_304 (fun hc => absurd hc (by decide)) (fun _ => ?_)
          refine x_aload_n (p2 := 308) rfl dX10_command_307 rfl ?_
          refine x_aload_n (p2 := 309) rfl dX10_command_308 rfl ?_
          refine x_getr (p2 := 312) (kz := 6) rfl dX10_command_309 f_10_19 rfl rfl hD.sh hD.r6 ?_
          refine x_iload_n (p2 := 313) rfl dX10_command_312 rfl ?_
          refine x_v2 (p2 := 316) rfl dX10_command_313 l_10_117 ok_X10_followerOf rfl hD.sh rfl ?_
          refine t_X10_followerOf hD hD.a6 hn hr hG hO (by omega) ?_
          have hfo := rfo_eq (t := g / 10 % 10) (f := fob n v.2.2.2.1 v.2.2.2.2.1 (g / 100 % 10)) (by omega)
          refine x_iload_n (p2 := 317) rfl dX10_command_316 rfl ?_
          refine x_ic_ne (p2 := 320) (t := 324) (by decide) rfl dX10_command_317 (fun hc317 => ?_) (fun hc317 => ?_)
          · skip
            refine x_iconst (p2 := 325) rfl dX10_command_324 ⟨by decide, by decide⟩ ?_
            refine x_zret dX10_command_325 rfl (by omega) ?_
            first
              | exact k0 (by rw [sok_8 hg]; exact decide_eq_false (fun z => by have := hfo.2 z.2.2.2.symm; omega)) _ rt.rf
              | exact k0 (by rw [sok_8 hg]; exact decide_eq_false (by omega)) _ rt.rf
          · skip
            refine x_iconst (p2 := 321) rfl dX10_command_320 ⟨by decide, by decide⟩ ?_
            refine x_goto (t := 325) (by decide) dX10_command_321 ?_
            refine x_zret dX10_command_325 rfl (by omega) ?_
            refine k1 (by rw [sok_8 hg]; exact decide_eq_true (⟨by omega, by omega, by omega, (hfo.1 (by omega)).symm⟩)) _ ?_ rt.rf
            rw [snw_0 (by omega)]; exact hr
        · skip
          refine x_if_eq (p2 := 307) (t := 324) (by decide) rfl dX10_command_304 (fun _ => ?_) (fun hc => absurd hc (by decide))
          refine x_iconst (p2 := 325) rfl dX10_command_324 ⟨by decide, by decide⟩ ?_
          refine x_zret dX10_command_325 rfl (by omega) ?_
          first
            | exact k0 (by rw [sok_8 hg]; exact decide_eq_false (fun z => by have := hfo.2 z.2.2.2.symm; omega)) _ rt.rf
            | exact k0 (by rw [sok_8 hg]; exact decide_eq_false (by omega)) _ rt.rf
      · skip
        refine x_if_eq (p2 := 299) (t := 324) (by decide) rfl dX10_command_296 (fun _ => ?_) (fun hc => absurd hc (by decide))
        refine x_iconst (p2 := 325) rfl dX10_command_324 ⟨by decide, by decide⟩ ?_
        refine x_zret dX10_command_325 rfl (by omega) ?_
        first
          | exact k0 (by rw [sok_8 hg]; exact decide_eq_false (fun z => by have := hfo.2 z.2.2.2.symm; omega)) _ rt.rf
          | exact k0 (by rw [sok_8 hg]; exact decide_eq_false (by omega)) _ rt.rf
  · rw [hg]
    refine x_tsOut (t := 326) dX10_command_1 (by decide) (by decide) ?_
    refine x_iconst (p2 := 327) rfl dX10_command_326 ⟨by decide, by decide⟩ ?_
    refine x_zret dX10_command_327 rfl (by omega) ?_
    exact k0 (sok_0 (by omega)) _ rt.rf
end XML
