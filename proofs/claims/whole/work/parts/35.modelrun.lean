section XMM
variable {G : xG} {σ : List (Nat × Nat)} {ρ : Nat → Int → Option Nat} {M : Nat → Int → Int} {Q : Option xV → xH → Prop}
theorem wdl_lt {k s : Int} (h1 : 1 ≤ k) (h2 : k ≤ 4) (h0 : 0 ≤ s) : wdl k.toNat s = 0 ↔ s ≤ tth k.toNat - 1 := by
  rcases (by omega : k = 1 ∨ k = 2 ∨ k = 3 ∨ k = 4) with rfl | rfl | rfl | rfl
  · show s / 10000 = 0 ↔ s ≤ 10000 - 1; omega
  · show s / 10000 / 10000 = 0 ↔ s ≤ 100000000 - 1; omega
  · show s / 10000 / 10000 / 10000 = 0 ↔ s ≤ 1000000000000 - 1; omega
  · show s / 10000 / 10000 / 10000 / 10000 = 0 ↔ s ≤ 10000000000000000 - 1; omega
theorem wdl_div {k s : Int} (h1 : 0 ≤ k) (h2 : k ≤ 3) (h0 : 0 ≤ s) : s / tth k.toNat = wdl k.toNat s := by
  rcases (by omega : k = 0 ∨ k = 1 ∨ k = 2 ∨ k = 3) with rfl | rfl | rfl | rfl
  · show s / 1 = s; omega
  · show s / 10000 = s / 10000; rfl
  · show s / 100000000 = s / 10000 / 10000; omega
  · show s / 1000000000000 = s / 10000 / 10000 / 10000; omega
set_option maxHeartbeats 4000000 in
theorem t_rs2 {D : Nat} (hD : isMd σ ρ D) {n en : Int} {byt : Int → Int} {v : vV} (hM : mdI M D n en byt v) (hW : wfV n en byt v) {k s : Int} (hk : 1 ≤ k ∧ k ≤ 4) (hs0 : 0 ≤ s) : ∀ (m : Nat) (i : Int) (w : vV) (M1 : Nat → Int → Int), 0 ≤ i → i + m = k → rt M M1 D → smr n w (M1 (D + 4)) → wfV n en byt w → (∀ M2, rt M M2 D → Q (some (xI (ffl n en byt k s m i w))) (σ, ρ, M2)) → xX G mX10_runScript 0 0 43 [(0, xP D), (1, xI k), (2, xL s), (4, xI i)] [] (σ, ρ, M1) Q := by
  obtain ⟨hn, hen, hyb, hr⟩ := id hM
  have hG := hW.1
  have hO := hW.2.1
  have hA := hW.2.2.1
  have he : M D 4 = en ∧ 0 ≤ en ∧ en ≤ 99 := ⟨hen, hW.2.2.2.1⟩
  have hy : ∀ b, 0 ≤ b → b < n → M (D + 2) b = byt b ∧ 0 ≤ byt b ∧ byt b ≤ 9 := fun b a c => ⟨hyb b a c, hW.2.2.2.2 b a c⟩
  have h8 := hG.2.1
  have h1 := hG.1
  have hx2 : ∀ b, 0 ≤ b → b < n → v.1 b ≤ 2 := fun b a c => (hG.2.2 b a c).2.1
  have hO5 := hO.2.2.2
  intro m
  induction m with
  | zero =>
    intro i w M1 h0 hm hf hv hW1 hq
    refine x_iload (p2 := 45) rfl dX10_runScript_43 rfl ?_
    refine x_iload_n (p2 := 46) rfl dX10_runScript_45 rfl ?_
    refine x_ic_ge (p2 := 49) (t := 110) (by decide) rfl dX10_runScript_46 (fun hc46 => ?_) (fun hc46 => absurd hc46 (by omega))
    refine x_bipush (p2 := 112) rfl dX10_runScript_110 ⟨by decide, ⟨by decide, by decide⟩⟩ ?_
    refine x_iret dX10_runScript_112 rfl ?_
    exact hq M1 hf
  | succ m ih =>
    intro i w M1 h0 hm hf hv hW1 hq
    unfold ffl at hq
    refine x_iload (p2 := 45) rfl dX10_runScript_43 rfl ?_
    refine x_iload_n (p2 := 46) rfl dX10_runScript_45 rfl ?_
    refine x_ic_ge (p2 := 49) (t := 110) (by decide) rfl dX10_runScript_46 (fun hc46 => ?_) (fun hc46 => ?_)
    · exact absurd hc46 (by omega)
    refine x_lload_n (p2 := 50) rfl dX10_runScript_49 rfl ?_
    refine x_iload_n (p2 := 51) rfl dX10_runScript_50 rfl ?_
    refine x_iconst (p2 := 52) rfl dX10_runScript_51 ⟨by decide, by decide⟩ ?_
    refine x_isub (p2 := 53) rfl dX10_runScript_52 ⟨by omega, by omega⟩ ?_
    refine x_iload (p2 := 55) rfl dX10_runScript_53 rfl ?_
    refine x_isub (p2 := 56) rfl dX10_runScript_55 ⟨by omega, by omega⟩ ?_
    refine x_s1 (p2 := 59) rfl dX10_runScript_56 l_10_199 ok_X10_tenThousands rfl rfl ?_
    refine t_X10_tenThousands (by omega) ?_
    have htb := tth_bd (i := k - 1 - i) (by omega) (by omega)
    refine x_ldiv (p2 := 60) rfl dX10_runScript_59 (by omega) (by omega) ?_
    rw [wdl_div (by omega) (by omega) hs0]
    refine x_ldc2 (p2 := 63) rfl dX10_runScript_60 q_10_195 ?_
    have hz3 := wdl_bd (k - 1 - i).toNat s hs0
    refine x_lrem (p2 := 64) rfl dX10_runScript_63 (by omega) (by omega) ?_
    refine x_l2i (p2 := 65) rfl dX10_runScript_64 ⟨by omega, by omega⟩ ?_
    refine x_istore (p2 := 67) (i := 5) (L2 := [(0, _), (1, _), (2, _), (4, _), (5, _)]) rfl dX10_runScript_65 ⟨rfl, Nat.le_of_ble_eq_true rfl⟩ rfl ?_
    refine x_aload_n (p2 := 68) rfl dX10_runScript_67 rfl ?_
    refine x_iload (p2 := 70) rfl dX10_runScript_68 rfl ?_
    refine x_sipush (p2 := 73) rfl dX10_runScript_70 ⟨by decide, ⟨by decide, by decide⟩⟩ ?_
    refine x_idiv (p2 := 74) rfl dX10_runScript_73 (by omega) (by omega) ?_
    refine x_iload (p2 := 76) rfl dX10_runScript_74 rfl ?_
    refine x_bipush (p2 := 78) rfl dX10_runScript_76 ⟨by decide, ⟨by decide, by decide⟩⟩ ?_
    refine x_idiv (p2 := 79) rfl dX10_runScript_78 (by omega) (by omega) ?_
    refine x_bipush (p2 := 81) rfl dX10_runScript_79 ⟨by decide, ⟨by decide, by decide⟩⟩ ?_
    refine x_irem (p2 := 82) rfl dX10_runScript_81 (by omega) (by omega) ?_
    refine x_iload (p2 := 84) rfl dX10_runScript_82 rfl ?_
    refine x_bipush (p2 := 86) rfl dX10_runScript_84 ⟨by decide, ⟨by decide, by decide⟩⟩ ?_
    refine x_idiv (p2 := 87) rfl dX10_runScript_86 (by omega) (by omega) ?_
    refine x_bipush (p2 := 89) rfl dX10_runScript_87 ⟨by decide, ⟨by decide, by decide⟩⟩ ?_
    refine x_irem (p2 := 90) rfl dX10_runScript_89 (by omega) (by omega) ?_
    refine x_iload (p2 := 92) rfl dX10_runScript_90 rfl ?_
    refine x_bipush (p2 := 94) rfl dX10_runScript_92 ⟨by decide, ⟨by decide, by decide⟩⟩ ?_
    refine x_irem (p2 := 95) rfl dX10_runScript_94 (by omega) (by omega) ?_
    refine x_v4 (p2 := 98) rfl dX10_runScript_95 l_10_203 ok_X10_command rfl hD.sh rfl ?_
    have hz := wdl_bd (k - 1 - i).toNat s hs0
    refine t_X10_command hD (n := n) (en := en) (byt := byt) (v := w) (by rw [hf.2 2 (by omega)]; exact hn) (by rw [hf.2 4 (by omega)]; exact hen) (by rw [hf.1 (D + 2) (by omega) (by omega) (by omega)]; exact hyb) hv hW1 (by omega) (fun hb M2 hv2 hs2 => ?_) (fun hb M2 hs2 => ?_)
    · skip
      refine x_if_ne (p2 := 101) (t := 104) (by decide) rfl dX10_runScript_98 (fun _ => ?_) (fun hc => absurd hc (by decide))
      refine x_iinc (p2 := 107) (L2 := [(0, _), (1, _), (2, _), (4, _), (5, _)]) rfl dX10_runScript_104 rfl ⟨by omega, by omega⟩ ⟨rfl, Nat.le_of_ble_eq_true rfl⟩ rfl ?_
      refine x_goto (t := 43) (by decide) dX10_runScript_107 ?_
      refine x_pick (L2 := [(0, _), (1, _), (2, _), (4, _)]) [0, 1, 2, 4] rfl ?_
      rw [if_pos hb] at hq
      exact ih (i + 1) _ M2 (by omega) (by omega) (hf.tr hs2) hv2 (wfV_s hW1 hb) hq
    · skip
      refine x_if_ne (p2 := 101) (t := 104) (by decide) rfl dX10_runScript_98 (fun hc => absurd hc (by decide)) (fun _ => ?_)
      refine x_iload (p2 := 103) rfl dX10_runScript_101 rfl ?_
      refine x_iret dX10_runScript_103 rfl ?_
      rw [if_neg (by rw [hb]; decide)] at hq
      exact hq M2 (hf.tr hs2)
set_option maxHeartbeats 4000000 in
theorem t_X10_runScript {D : Nat} (hD : isMd σ ρ D) {n en : Int} {byt : Int → Int} {v : vV} (hM : mdI M D n en byt v) (hW : wfV n en byt v) {k s : Int} (k2 : ¬ (1 ≤ k ∧ k ≤ 4 ∧ 0 ≤ s ∧ wdl k.toNat s = 0) → Q (some (xI (-2))) (σ, ρ, M)) (hq : (1 ≤ k ∧ k ≤ 4 ∧ 0 ≤ s ∧ wdl k.toNat s = 0) → ∀ M2, rt M M2 D → Q (some (xI (ffl n en byt k s k.toNat 0 v))) (σ, ρ, M2)) : xX G mX10_runScript 0 0 0 [(0, xP D), (1, xI k), (2, xL s)] [] (σ, ρ, M) Q := by
  obtain ⟨hn, hen, hyb, hr⟩ := id hM
  have hG := hW.1
  have hO := hW.2.1
  have hA := hW.2.2.1
  have he : M D 4 = en ∧ 0 ≤ en ∧ en ≤ 99 := ⟨hen, hW.2.2.2.1⟩
  have hy : ∀ b, 0 ≤ b → b < n → M (D + 2) b = byt b ∧ 0 ≤ byt b ∧ byt b ≤ 9 := fun b a c => ⟨hyb b a c, hW.2.2.2.2 b a c⟩
  have h8 := hG.2.1
  have h1 := hG.1
  have hx2 : ∀ b, 0 ≤ b → b < n → v.1 b ≤ 2 := fun b a c => (hG.2.2 b a c).2.1
  have hO5 := hO.2.2.2
  refine x_iload_n (p2 := 1) rfl dX10_runScript_0 rfl ?_
  refine x_i2l (p2 := 2) rfl dX10_runScript_1 ?_
  refine x_lconst (p2 := 3) (v := 1) rfl dX10_runScript_2 ⟨by decide, ⟨by decide, by decide⟩⟩ ?_
  refine x_ldc2 (p2 := 6) rfl dX10_runScript_3 q_10_197 ?_
  refine x_s3 (p2 := 9) rfl dX10_runScript_6 l_10_57 ok_X10_in rfl rfl ?_
  refine t_X10_in (fun hb6 => ?_) (fun hb6 => ?_)
  · skip
    refine x_if_eq (p2 := 12) (t := 26) (by decide) rfl dX10_runScript_9 (fun hc => absurd hc (by decide)) (fun _ => ?_)
    refine x_lload_n (p2 := 13) rfl dX10_runScript_12 rfl ?_
    refine x_lconst (p2 := 14) (v := 0) rfl dX10_runScript_13 ⟨by decide, ⟨by decide, by decide⟩⟩ ?_
    refine x_iload_n (p2 := 15) rfl dX10_runScript_14 rfl ?_
    refine x_s1 (p2 := 18) rfl dX10_runScript_15 l_10_199 ok_X10_tenThousands rfl rfl ?_
    refine t_X10_tenThousands (by omega) ?_
    refine x_lconst (p2 := 19) (v := 1) rfl dX10_runScript_18 ⟨by decide, ⟨by decide, by decide⟩⟩ ?_
    have htb := tth_bd (i := k) (by omega) (by omega)
    refine x_lsub (p2 := 20) rfl dX10_runScript_19 ?_
    rw [xlsub_eq ⟨by omega, by omega⟩]
    refine x_s3 (p2 := 23) rfl dX10_runScript_20 l_10_57 ok_X10_in rfl rfl ?_
    refine t_X10_in (fun hb20 => ?_) (fun hb20 => ?_)
    · skip
      refine x_if_ne (p2 := 26) (t := 29) (by decide) rfl dX10_runScript_23 (fun _ => ?_) (fun hc => absurd hc (by decide))
      refine x_aload_n (p2 := 30) rfl dX10_runScript_29 rfl ?_
      refine x_getr (p2 := 33) (kz := 5) rfl dX10_runScript_30 f_10_16 rfl rfl hD.sh hD.r5 ?_
      refine x_aload_n (p2 := 34) rfl dX10_runScript_33 rfl ?_
      refine x_getr (p2 := 37) (kz := 6) rfl dX10_runScript_34 f_10_19 rfl rfl hD.sh hD.r6 ?_
      refine x_s2 (p2 := 40) rfl dX10_runScript_37 l_10_100 ok_X10_copy rfl rfl ?_
      refine t_X10_copy hD.a5 hD.a6 (by omega) (fun M37 hs37 hv37 => ?_)
      refine x_iconst (p2 := 41) rfl dX10_runScript_40 ⟨by decide, by decide⟩ ?_
      refine x_istore (p2 := 43) (i := 4) (L2 := [(0, _), (1, _), (2, _), (4, _)]) rfl dX10_runScript_41 ⟨rfl, Nat.le_of_ble_eq_true rfl⟩ rfl ?_
      refine x_pick (L2 := [(0, _), (1, _), (2, _), (4, _)]) [0, 1, 2, 4] rfl ?_
      have hc := (wdl_lt hb6.1 hb6.2 hb20.1).2 hb20.2
      have hrt : rt M M37 D := ⟨fun c z1 z2 z3 => hs37 c z2, fun f z => by rw [hs37 D (by omega)]⟩
      refine t_rs2 hD hM hW hb6 hb20.1 k.toNat 0 v M37 (by omega) (by omega) hrt (smr_cp hr h8 hx2 hv37) hW (fun M2 h2 => hq ⟨hb6.1, hb6.2, hb20.1, hc⟩ M2 h2)
    · skip
      refine x_if_ne (p2 := 26) (t := 29) (by decide) rfl dX10_runScript_23 (fun hc => absurd hc (by decide)) (fun _ => ?_)
      refine x_bipush (p2 := 28) rfl dX10_runScript_26 ⟨by decide, ⟨by decide, by decide⟩⟩ ?_
      refine x_iret dX10_runScript_28 rfl ?_
      first
        | exact k2 (by omega)
        | exact k2 (fun z => hb20 ⟨z.2.2.1, (wdl_lt z.1 z.2.1 z.2.2.1).1 z.2.2.2⟩)
  · skip
    refine x_if_eq (p2 := 12) (t := 26) (by decide) rfl dX10_runScript_9 (fun _ => ?_) (fun hc => absurd hc (by decide))
    refine x_bipush (p2 := 28) rfl dX10_runScript_26 ⟨by decide, ⟨by decide, by decide⟩⟩ ?_
    refine x_iret dX10_runScript_28 rfl ?_
    first
      | exact k2 (by omega)
      | exact k2 (fun z => hb20 ⟨z.2.2.1, (wdl_lt z.1 z.2.1 z.2.2.1).1 z.2.2.2⟩)
set_option maxHeartbeats 4000000 in
theorem t_ex_l {D : Nat} (hD : isMd σ ρ D) {n en : Int} {byt : Int → Int} {v : vV} (hM : mdI M D n en byt v) (hW : wfV n en byt v) {s k : Int} : ∀ (m : Nat) (i x b u : Int), 0 ≤ i → i + m = k → k ≤ 99 → 0 ≤ b → b < n → 0 ≤ u → u ≤ 3 * i → Q (some (xI (wlk n v.1 v.2.1 v.2.2.1 v.2.2.2.1 v.2.2.2.2.1 m x b u))) (σ, ρ, M) → xX G mX10_execute 0 0 27 [(0, xP D), (1, xL s), (3, xI k), (4, xL x), (6, xI b), (7, xI u), (8, xI i)] [] (σ, ρ, M) Q := by
  obtain ⟨hn, hen, hyb, hr⟩ := id hM
  have hG := hW.1
  have hO := hW.2.1
  have hA := hW.2.2.1
  have he : M D 4 = en ∧ 0 ≤ en ∧ en ≤ 99 := ⟨hen, hW.2.2.2.1⟩
  have hy : ∀ b, 0 ≤ b → b < n → M (D + 2) b = byt b ∧ 0 ≤ byt b ∧ byt b ≤ 9 := fun b a c => ⟨hyb b a c, hW.2.2.2.2 b a c⟩
  have h8 := hG.2.1
  have h1 := hG.1
  have hx2 : ∀ b, 0 ≤ b → b < n → v.1 b ≤ 2 := fun b a c => (hG.2.2 b a c).2.1
  have hO5 := hO.2.2.2
  intro m
  induction m with
  | zero =>
    intro i x b u h0 hk hm hb1 hb2 hs1 hs2 hq
    refine x_iload (p2 := 29) rfl dX10_execute_27 rfl ?_
    refine x_iload_n (p2 := 30) rfl dX10_execute_29 rfl ?_
    refine x_ic_ge (p2 := 33) (t := 181) (by decide) rfl dX10_execute_30 (fun hc30 => ?_) (fun hc30 => absurd hc30 (by omega))
    refine x_iload (p2 := 183) rfl dX10_execute_181 rfl ?_
    refine x_iret dX10_execute_183 rfl ?_
    exact hq
  | succ m ih =>
    intro i x b u h0 hk hm hb1 hb2 hs1 hs2 hq
    unfold wlk at hq
    refine x_iload (p2 := 29) rfl dX10_execute_27 rfl ?_
    refine x_iload_n (p2 := 30) rfl dX10_execute_29 rfl ?_
    refine x_ic_ge (p2 := 33) (t := 181) (by decide) rfl dX10_execute_30 (fun hc30 => ?_) (fun hc30 => ?_)
    · exact absurd hc30 (by omega)
    obtain ⟨w1, w2, w3, w4⟩ := hG.2.2 b hb1 hb2
    have hvv := xlushr_bd (nxt x)
    have hxin : xin (xlushr (nxt x) 33) := ⟨Int.le_trans (by decide) hvv.1, Int.le_trans hvv.2 (by decide)⟩
    refine x_lload (p2 := 35) rfl dX10_execute_33 rfl ?_
    refine x_ldc2 (p2 := 38) rfl dX10_execute_35 q_10_207 ?_
    refine x_lmul (p2 := 39) rfl dX10_execute_38 ?_
    refine x_ldc2 (p2 := 42) rfl dX10_execute_39 q_10_209 ?_
    refine x_ladd (p2 := 43) rfl dX10_execute_42 ?_
    refine x_lstore (p2 := 45) (i := 4) (L2 := [(0, _), (1, _), (3, _), (4, _), (6, _), (7, _), (8, _)]) rfl dX10_execute_43 ⟨rfl, Nat.le_of_ble_eq_true rfl⟩ rfl ?_
    refine x_lload (p2 := 47) rfl dX10_execute_45 rfl ?_
    refine x_bipush (p2 := 49) rfl dX10_execute_47 ⟨by decide, ⟨by decide, by decide⟩⟩ ?_
    refine x_lushr (p2 := 50) rfl dX10_execute_49 ?_
    show xX G mX10_execute 0 0 50 _ (xL (xlushr (nxt x) 33) :: _) _ _
    refine x_l2i (p2 := 51) rfl dX10_execute_50 hxin ?_
    refine x_istore (p2 := 53) (i := 9) (L2 := [(0, _), (1, _), (3, _), (4, _), (6, _), (7, _), (8, _), (9, _)]) rfl dX10_execute_51 ⟨rfl, Nat.le_of_ble_eq_true rfl⟩ rfl ?_
    refine x_aload_n (p2 := 54) rfl dX10_execute_53 rfl ?_
    refine x_getr (p2 := 57) (kz := 5) rfl dX10_execute_54 f_10_16 rfl rfl hD.sh hD.r5 ?_
    refine x_bipush (p2 := 59) rfl dX10_execute_57 ⟨by decide, ⟨by decide, by decide⟩⟩ ?_
    refine x_iload (p2 := 61) rfl dX10_execute_59 rfl ?_
    refine x_iadd (p2 := 62) rfl dX10_execute_61 ⟨by omega, by omega⟩ ?_
    refine x_iald (p2 := 63) rfl dX10_execute_62 hD.a5 (by omega) (by omega) ?_
    rw [hr.x hb1 hb2]
    refine x_istore (p2 := 65) (i := 10) (L2 := [(0, _), (1, _), (3, _), (4, _), (6, _), (7, _), (8, _), (9, _), (10, _)]) rfl dX10_execute_63 ⟨rfl, Nat.le_of_ble_eq_true rfl⟩ rfl ?_
    refine x_iload (p2 := 67) rfl dX10_execute_65 rfl ?_
    refine x_if_ne (p2 := 70) (t := 76) (by decide) rfl dX10_execute_67 (fun hc67 => ?_) (fun hc67 => ?_)
    · skip
      have z0 := w3 0 (by omega) (by omega)
      refine x_aload_n (p2 := 77) rfl dX10_execute_76 rfl ?_
      refine x_getr (p2 := 80) (kz := 5) rfl dX10_execute_77 f_10_16 rfl rfl hD.sh hD.r5 ?_
      refine x_bipush (p2 := 82) rfl dX10_execute_80 ⟨by decide, ⟨by decide, by decide⟩⟩ ?_
      refine x_iconst (p2 := 83) rfl dX10_execute_82 ⟨by decide, by decide⟩ ?_
      refine x_iload (p2 := 85) rfl dX10_execute_83 rfl ?_
      refine x_imul (p2 := 86) rfl dX10_execute_85 ⟨by omega, by omega⟩ ?_
      refine x_iadd (p2 := 87) rfl dX10_execute_86 ⟨by omega, by omega⟩ ?_
      refine x_iald (p2 := 88) rfl dX10_execute_87 hD.a5 (by omega) (by omega) ?_
      rw [hr.c0 hb1 hb2 (by omega)]
      refine x_istore (p2 := 90) (i := 11) (L2 := [(0, _), (1, _), (3, _), (4, _), (6, _), (7, _), (8, _), (9, _), (10, _), (11, _)]) rfl dX10_execute_88 ⟨rfl, Nat.le_of_ble_eq_true rfl⟩ rfl ?_
      refine x_iload (p2 := 92) rfl dX10_execute_90 rfl ?_
      refine x_iconst (p2 := 93) rfl dX10_execute_92 ⟨by decide, by decide⟩ ?_
      refine x_ic_ne (p2 := 96) (t := 100) (by decide) rfl dX10_execute_93 (fun hc93 => ?_) (fun hc93 => ?_)
      · skip
        have hx2b : v.1 b = 2 := by omega
        have z1 := w3 1 (by omega) (by omega)
        refine x_iload (p2 := 102) rfl dX10_execute_100 rfl ?_
        refine x_aload_n (p2 := 103) rfl dX10_execute_102 rfl ?_
        refine x_getr (p2 := 106) (kz := 5) rfl dX10_execute_103 f_10_16 rfl rfl hD.sh hD.r5 ?_
        refine x_bipush (p2 := 108) rfl dX10_execute_106 ⟨by decide, ⟨by decide, by decide⟩⟩ ?_
        refine x_iconst (p2 := 109) rfl dX10_execute_108 ⟨by decide, by decide⟩ ?_
        refine x_iload (p2 := 111) rfl dX10_execute_109 rfl ?_
        refine x_imul (p2 := 112) rfl dX10_execute_111 ⟨by omega, by omega⟩ ?_
        refine x_iadd (p2 := 113) rfl dX10_execute_112 ⟨by omega, by omega⟩ ?_
        refine x_iconst (p2 := 114) rfl dX10_execute_113 ⟨by decide, by decide⟩ ?_
        refine x_iadd (p2 := 115) rfl dX10_execute_114 ⟨by omega, by omega⟩ ?_
        refine x_iald (p2 := 116) rfl dX10_execute_115 hD.a5 (by omega) (by omega) ?_
        rw [hr.c hb1 hb2 (by omega) (by omega)]
        refine x_iadd (p2 := 117) rfl dX10_execute_116 ⟨by omega, by omega⟩ ?_
        refine x_istore (p2 := 119) (i := 12) (L2 := [(0, _), (1, _), (3, _), (4, _), (6, _), (7, _), (8, _), (9, _), (10, _), (11, _), (12, _)]) rfl dX10_execute_117 ⟨rfl, Nat.le_of_ble_eq_true rfl⟩ rfl ?_
        refine x_iload (p2 := 121) rfl dX10_execute_119 rfl ?_
        refine x_if_eq (p2 := 124) (t := 134) (by decide) rfl dX10_execute_121 (fun hc121 => ?_) (fun hc121 => ?_)
        · skip
          refine x_iconst (p2 := 135) rfl dX10_execute_134 ⟨by decide, by decide⟩ ?_
          refine x_goto (t := 139) (by decide) dX10_execute_135 ?_
          refine x_istore (p2 := 141) (i := 13) (L2 := [(0, _), (1, _), (3, _), (4, _), (6, _), (7, _), (8, _), (9, _), (10, _), (11, _), (12, _), (13, _)]) rfl dX10_execute_139 ⟨rfl, Nat.le_of_ble_eq_true rfl⟩ rfl ?_
          refine x_iload (p2 := 143) rfl dX10_execute_141 rfl ?_
          refine x_aload_n (p2 := 144) rfl dX10_execute_143 rfl ?_
          refine x_aload_n (p2 := 145) rfl dX10_execute_144 rfl ?_
          refine x_getr (p2 := 148) (kz := 5) rfl dX10_execute_145 f_10_16 rfl rfl hD.sh hD.r5 ?_
          refine x_iload (p2 := 150) rfl dX10_execute_148 rfl ?_
          refine x_iload (p2 := 152) rfl dX10_execute_150 rfl ?_
          refine x_v3 (p2 := 155) rfl dX10_execute_152 l_10_120 ok_X10_edgeCostOf rfl hD.sh rfl ?_
          have hp0 := pcst_bd (ex := v.1) (tg := v.2.1) (ct := v.2.2.1) (b := b) (k := 0) (f := fob n v.2.2.2.1 v.2.2.2.2.1 b)
          have hp1 := pcst_bd (ex := v.1) (tg := v.2.1) (ct := v.2.2.1) (b := b) (k := 1) (f := fob n v.2.2.2.1 v.2.2.2.2.1 b)
          refine t_X10_edgeCostOf hD hD.a5 hn hr hG hO ⟨hb1, hb2⟩ (by omega) ?_
          refine x_iadd (p2 := 156) rfl dX10_execute_155 ⟨by omega, by omega⟩ ?_
          refine x_istore (p2 := 158) (i := 7) (L2 := [(0, _), (1, _), (3, _), (4, _), (6, _), (7, _), (8, _), (9, _), (10, _), (11, _), (12, _), (13, _)]) rfl dX10_execute_156 ⟨rfl, Nat.le_of_ble_eq_true rfl⟩ rfl ?_
          refine x_aload_n (p2 := 159) rfl dX10_execute_158 rfl ?_
          refine x_getr (p2 := 162) (kz := 5) rfl dX10_execute_159 f_10_16 rfl rfl hD.sh hD.r5 ?_
          refine x_bipush (p2 := 164) rfl dX10_execute_162 ⟨by decide, ⟨by decide, by decide⟩⟩ ?_
          refine x_iconst (p2 := 165) rfl dX10_execute_164 ⟨by decide, by decide⟩ ?_
          refine x_iload (p2 := 167) rfl dX10_execute_165 rfl ?_
          refine x_imul (p2 := 168) rfl dX10_execute_167 ⟨by omega, by omega⟩ ?_
          refine x_iadd (p2 := 169) rfl dX10_execute_168 ⟨by omega, by omega⟩ ?_
          refine x_iload (p2 := 171) rfl dX10_execute_169 rfl ?_
          refine x_iadd (p2 := 172) rfl dX10_execute_171 ⟨by omega, by omega⟩ ?_
          refine x_iald (p2 := 173) rfl dX10_execute_172 hD.a5 (by omega) (by omega) ?_
          rw [hr.t hb1 hb2 (by omega) (by omega)]
          refine x_istore (p2 := 175) (i := 6) (L2 := [(0, _), (1, _), (3, _), (4, _), (6, _), (7, _), (8, _), (9, _), (10, _), (11, _), (12, _), (13, _)]) rfl dX10_execute_173 ⟨rfl, Nat.le_of_ble_eq_true rfl⟩ rfl ?_
          refine x_iinc (p2 := 178) (L2 := [(0, _), (1, _), (3, _), (4, _), (6, _), (7, _), (8, _), (9, _), (10, _), (11, _), (12, _), (13, _)]) rfl dX10_execute_175 rfl ⟨by omega, by omega⟩ ⟨rfl, Nat.le_of_ble_eq_true rfl⟩ rfl ?_
          refine x_goto (t := 27) (by decide) dX10_execute_178 ?_
          refine x_pick (L2 := [(0, _), (1, _), (3, _), (4, _), (6, _), (7, _), (8, _)]) [0, 1, 3, 4, 6, 7, 8] rfl ?_
          rw [if_neg (show ¬ v.1 b = 0 by omega)] at hq
          have hsl : slt v.1 v.2.2.1 b (xlushr (nxt x) 33) = 0 := by
            unfold slt
            first
              | rw [if_pos (show v.1 b = 1 by omega)]
              | (rw [if_neg (show ¬ v.1 b = 1 by omega)]
                 first
                   | exact if_pos (Or.inl hc121)
                   | exact if_pos (Or.inr hc131)
                   | exact if_pos (Or.inr (Int.not_le.1 hc131)))
          rw [hsl] at hq
          have zk := w3 0 (by omega) (by omega)
          have hpk := pcst_bd (ex := v.1) (tg := v.2.1) (ct := v.2.2.1) (b := b) (k := 0) (f := fob n v.2.2.2.1 v.2.2.2.2.1 b)
          exact ih _ _ _ _ (by omega) (by omega) (by omega) (by omega) (by omega) (by omega) (by omega) hq
        · skip
          refine x_iload (p2 := 126) rfl dX10_execute_124 rfl ?_
          refine x_iload (p2 := 128) rfl dX10_execute_126 rfl ?_
          refine x_irem (p2 := 129) rfl dX10_execute_128 hvv.1 (by clear hvv hxin; omega) ?_
          refine x_iload (p2 := 131) rfl dX10_execute_129 rfl ?_
          refine x_ic_ge (p2 := 134) (t := 138) (by decide) rfl dX10_execute_131 (fun hc131 => ?_) (fun hc131 => ?_)
          · skip
            refine x_iconst (p2 := 139) rfl dX10_execute_138 ⟨by decide, by decide⟩ ?_
            refine x_istore (p2 := 141) (i := 13) (L2 := [(0, _), (1, _), (3, _), (4, _), (6, _), (7, _), (8, _), (9, _), (10, _), (11, _), (12, _), (13, _)]) rfl dX10_execute_139 ⟨rfl, Nat.le_of_ble_eq_true rfl⟩ rfl ?_
            refine x_iload (p2 := 143) rfl dX10_execute_141 rfl ?_
            refine x_aload_n (p2 := 144) rfl dX10_execute_143 rfl ?_
            refine x_aload_n (p2 := 145) rfl dX10_execute_144 rfl ?_
            refine x_getr (p2 := 148) (kz := 5) rfl dX10_execute_145 f_10_16 rfl rfl hD.sh hD.r5 ?_
            refine x_iload (p2 := 150) rfl dX10_execute_148 rfl ?_
            refine x_iload (p2 := 152) rfl dX10_execute_150 rfl ?_
            refine x_v3 (p2 := 155) rfl dX10_execute_152 l_10_120 ok_X10_edgeCostOf rfl hD.sh rfl ?_
            have hp0 := pcst_bd (ex := v.1) (tg := v.2.1) (ct := v.2.2.1) (b := b) (k := 0) (f := fob n v.2.2.2.1 v.2.2.2.2.1 b)
            have hp1 := pcst_bd (ex := v.1) (tg := v.2.1) (ct := v.2.2.1) (b := b) (k := 1) (f := fob n v.2.2.2.1 v.2.2.2.2.1 b)
            refine t_X10_edgeCostOf hD hD.a5 hn hr hG hO ⟨hb1, hb2⟩ (by omega) ?_
            refine x_iadd (p2 := 156) rfl dX10_execute_155 ⟨by omega, by omega⟩ ?_
            refine x_istore (p2 := 158) (i := 7) (L2 := [(0, _), (1, _), (3, _), (4, _), (6, _), (7, _), (8, _), (9, _), (10, _), (11, _), (12, _), (13, _)]) rfl dX10_execute_156 ⟨rfl, Nat.le_of_ble_eq_true rfl⟩ rfl ?_
            refine x_aload_n (p2 := 159) rfl dX10_execute_158 rfl ?_
            refine x_getr (p2 := 162) (kz := 5) rfl dX10_execute_159 f_10_16 rfl rfl hD.sh hD.r5 ?_
            refine x_bipush (p2 := 164) rfl dX10_execute_162 ⟨by decide, ⟨by decide, by decide⟩⟩ ?_
            refine x_iconst (p2 := 165) rfl dX10_execute_164 ⟨by decide, by decide⟩ ?_
            refine x_iload (p2 := 167) rfl dX10_execute_165 rfl ?_
            refine x_imul (p2 := 168) rfl dX10_execute_167 ⟨by omega, by omega⟩ ?_
            refine x_iadd (p2 := 169) rfl dX10_execute_168 ⟨by omega, by omega⟩ ?_
            refine x_iload (p2 := 171) rfl dX10_execute_169 rfl ?_
            refine x_iadd (p2 := 172) rfl dX10_execute_171 ⟨by omega, by omega⟩ ?_
            refine x_iald (p2 := 173) rfl dX10_execute_172 hD.a5 (by omega) (by omega) ?_
            rw [hr.t hb1 hb2 (by omega) (by omega)]
            refine x_istore (p2 := 175) (i := 6) (L2 := [(0, _), (1, _), (3, _), (4, _), (6, _), (7, _), (8, _), (9, _), (10, _), (11, _), (12, _), (13, _)]) rfl dX10_execute_173 ⟨rfl, Nat.le_of_ble_eq_true rfl⟩ rfl ?_
            refine x_iinc (p2 := 178) (L2 := [(0, _), (1, _), (3, _), (4, _), (6, _), (7, _), (8, _), (9, _), (10, _), (11, _), (12, _), (13, _)]) rfl dX10_execute_175 rfl ⟨by omega, by omega⟩ ⟨rfl, Nat.le_of_ble_eq_true rfl⟩ rfl ?_
            refine x_goto (t := 27) (by decide) dX10_execute_178 ?_
            refine x_pick (L2 := [(0, _), (1, _), (3, _), (4, _), (6, _), (7, _), (8, _)]) [0, 1, 3, 4, 6, 7, 8] rfl ?_
            rw [if_neg (show ¬ v.1 b = 0 by omega)] at hq
            have hsl : slt v.1 v.2.2.1 b (xlushr (nxt x) 33) = 1 := by
              unfold slt
              first
                | rw [if_pos (show v.1 b = 1 by omega)]
                | (rw [if_neg (show ¬ v.1 b = 1 by omega)]
                   exact if_neg (fun z => z.elim (fun y => hc121 y) (fun y => absurd y (Int.not_lt.2 hc131))))
            rw [hsl] at hq
            have zk := w3 1 (by omega) (by omega)
            have hpk := pcst_bd (ex := v.1) (tg := v.2.1) (ct := v.2.2.1) (b := b) (k := 1) (f := fob n v.2.2.2.1 v.2.2.2.2.1 b)
            exact ih _ _ _ _ (by omega) (by omega) (by omega) (by omega) (by omega) (by omega) (by omega) hq
          · skip
            refine x_iconst (p2 := 135) rfl dX10_execute_134 ⟨by decide, by decide⟩ ?_
            refine x_goto (t := 139) (by decide) dX10_execute_135 ?_
            refine x_istore (p2 := 141) (i := 13) (L2 := [(0, _), (1, _), (3, _), (4, _), (6, _), (7, _), (8, _), (9, _), (10, _), (11, _), (12, _), (13, _)]) rfl dX10_execute_139 ⟨rfl, Nat.le_of_ble_eq_true rfl⟩ rfl ?_
            refine x_iload (p2 := 143) rfl dX10_execute_141 rfl ?_
            refine x_aload_n (p2 := 144) rfl dX10_execute_143 rfl ?_
            refine x_aload_n (p2 := 145) rfl dX10_execute_144 rfl ?_
            refine x_getr (p2 := 148) (kz := 5) rfl dX10_execute_145 f_10_16 rfl rfl hD.sh hD.r5 ?_
            refine x_iload (p2 := 150) rfl dX10_execute_148 rfl ?_
            refine x_iload (p2 := 152) rfl dX10_execute_150 rfl ?_
            refine x_v3 (p2 := 155) rfl dX10_execute_152 l_10_120 ok_X10_edgeCostOf rfl hD.sh rfl ?_
            have hp0 := pcst_bd (ex := v.1) (tg := v.2.1) (ct := v.2.2.1) (b := b) (k := 0) (f := fob n v.2.2.2.1 v.2.2.2.2.1 b)
            have hp1 := pcst_bd (ex := v.1) (tg := v.2.1) (ct := v.2.2.1) (b := b) (k := 1) (f := fob n v.2.2.2.1 v.2.2.2.2.1 b)
            refine t_X10_edgeCostOf hD hD.a5 hn hr hG hO ⟨hb1, hb2⟩ (by omega) ?_
            refine x_iadd (p2 := 156) rfl dX10_execute_155 ⟨by omega, by omega⟩ ?_
            refine x_istore (p2 := 158) (i := 7) (L2 := [(0, _), (1, _), (3, _), (4, _), (6, _), (7, _), (8, _), (9, _), (10, _), (11, _), (12, _), (13, _)]) rfl dX10_execute_156 ⟨rfl, Nat.le_of_ble_eq_true rfl⟩ rfl ?_
            refine x_aload_n (p2 := 159) rfl dX10_execute_158 rfl ?_
            refine x_getr (p2 := 162) (kz := 5) rfl dX10_execute_159 f_10_16 rfl rfl hD.sh hD.r5 ?_
            refine x_bipush (p2 := 164) rfl dX10_execute_162 ⟨by decide, ⟨by decide, by decide⟩⟩ ?_
            refine x_iconst (p2 := 165) rfl dX10_execute_164 ⟨by decide, by decide⟩ ?_
            refine x_iload (p2 := 167) rfl dX10_execute_165 rfl ?_
            refine x_imul (p2 := 168) rfl dX10_execute_167 ⟨by omega, by omega⟩ ?_
            refine x_iadd (p2 := 169) rfl dX10_execute_168 ⟨by omega, by omega⟩ ?_
            refine x_iload (p2 := 171) rfl dX10_execute_169 rfl ?_
            refine x_iadd (p2 := 172) rfl dX10_execute_171 ⟨by omega, by omega⟩ ?_
            refine x_iald (p2 := 173) rfl dX10_execute_172 hD.a5 (by omega) (by omega) ?_
            rw [hr.t hb1 hb2 (by omega) (by omega)]
            refine x_istore (p2 := 175) (i := 6) (L2 := [(0, _), (1, _), (3, _), (4, _), (6, _), (7, _), (8, _), (9, _), (10, _), (11, _), (12, _), (13, _)]) rfl dX10_execute_173 ⟨rfl, Nat.le_of_ble_eq_true rfl⟩ rfl ?_
            refine x_iinc (p2 := 178) (L2 := [(0, _), (1, _), (3, _), (4, _), (6, _), (7, _), (8, _), (9, _), (10, _), (11, _), (12, _), (13, _)]) rfl dX10_execute_175 rfl ⟨by omega, by omega⟩ ⟨rfl, Nat.le_of_ble_eq_true rfl⟩ rfl ?_
            refine x_goto (t := 27) (by decide) dX10_execute_178 ?_
            refine x_pick (L2 := [(0, _), (1, _), (3, _), (4, _), (6, _), (7, _), (8, _)]) [0, 1, 3, 4, 6, 7, 8] rfl ?_
            rw [if_neg (show ¬ v.1 b = 0 by omega)] at hq
            have hsl : slt v.1 v.2.2.1 b (xlushr (nxt x) 33) = 0 := by
              unfold slt
              first
                | rw [if_pos (show v.1 b = 1 by omega)]
                | (rw [if_neg (show ¬ v.1 b = 1 by omega)]
                   first
                     | exact if_pos (Or.inl hc121)
                     | exact if_pos (Or.inr hc131)
                     | exact if_pos (Or.inr (Int.not_le.1 hc131)))
            rw [hsl] at hq
            have zk := w3 0 (by omega) (by omega)
            have hpk := pcst_bd (ex := v.1) (tg := v.2.1) (ct := v.2.2.1) (b := b) (k := 0) (f := fob n v.2.2.2.1 v.2.2.2.2.1 b)
            exact ih _ _ _ _ (by omega) (by omega) (by omega) (by omega) (by omega) (by omega) (by omega) hq
      · skip
        refine x_iconst (p2 := 97) rfl dX10_execute_96 ⟨by decide, by decide⟩ ?_
        refine x_goto (t := 117) (by decide) dX10_execute_97 ?_
        refine x_istore (p2 := 119) (i := 12) (L2 := [(0, _), (1, _), (3, _), (4, _), (6, _), (7, _), (8, _), (9, _), (10, _), (11, _), (12, _)]) rfl dX10_execute_117 ⟨rfl, Nat.le_of_ble_eq_true rfl⟩ rfl ?_
        refine x_iload (p2 := 121) rfl dX10_execute_119 rfl ?_
        refine x_if_eq (p2 := 124) (t := 134) (by decide) rfl dX10_execute_121 (fun _ => ?_) (fun hc => absurd hc (by decide))
        refine x_iconst (p2 := 135) rfl dX10_execute_134 ⟨by decide, by decide⟩ ?_
        refine x_goto (t := 139) (by decide) dX10_execute_135 ?_
        refine x_istore (p2 := 141) (i := 13) (L2 := [(0, _), (1, _), (3, _), (4, _), (6, _), (7, _), (8, _), (9, _), (10, _), (11, _), (12, _), (13, _)]) rfl dX10_execute_139 ⟨rfl, Nat.le_of_ble_eq_true rfl⟩ rfl ?_
        refine x_iload (p2 := 143) rfl dX10_execute_141 rfl ?_
        refine x_aload_n (p2 := 144) rfl dX10_execute_143 rfl ?_
        refine x_aload_n (p2 := 145) rfl dX10_execute_144 rfl ?_
        refine x_getr (p2 := 148) (kz := 5) rfl dX10_execute_145 f_10_16 rfl rfl hD.sh hD.r5 ?_
        refine x_iload (p2 := 150) rfl dX10_execute_148 rfl ?_
        refine x_iload (p2 := 152) rfl dX10_execute_150 rfl ?_
        refine x_v3 (p2 := 155) rfl dX10_execute_152 l_10_120 ok_X10_edgeCostOf rfl hD.sh rfl ?_
        have hp0 := pcst_bd (ex := v.1) (tg := v.2.1) (ct := v.2.2.1) (b := b) (k := 0) (f := fob n v.2.2.2.1 v.2.2.2.2.1 b)
        have hp1 := pcst_bd (ex := v.1) (tg := v.2.1) (ct := v.2.2.1) (b := b) (k := 1) (f := fob n v.2.2.2.1 v.2.2.2.2.1 b)
        refine t_X10_edgeCostOf hD hD.a5 hn hr hG hO ⟨hb1, hb2⟩ (by omega) ?_
        refine x_iadd (p2 := 156) rfl dX10_execute_155 ⟨by omega, by omega⟩ ?_
        refine x_istore (p2 := 158) (i := 7) (L2 := [(0, _), (1, _), (3, _), (4, _), (6, _), (7, _), (8, _), (9, _), (10, _), (11, _), (12, _), (13, _)]) rfl dX10_execute_156 ⟨rfl, Nat.le_of_ble_eq_true rfl⟩ rfl ?_
        refine x_aload_n (p2 := 159) rfl dX10_execute_158 rfl ?_
        refine x_getr (p2 := 162) (kz := 5) rfl dX10_execute_159 f_10_16 rfl rfl hD.sh hD.r5 ?_
        refine x_bipush (p2 := 164) rfl dX10_execute_162 ⟨by decide, ⟨by decide, by decide⟩⟩ ?_
        refine x_iconst (p2 := 165) rfl dX10_execute_164 ⟨by decide, by decide⟩ ?_
        refine x_iload (p2 := 167) rfl dX10_execute_165 rfl ?_
        refine x_imul (p2 := 168) rfl dX10_execute_167 ⟨by omega, by omega⟩ ?_
        refine x_iadd (p2 := 169) rfl dX10_execute_168 ⟨by omega, by omega⟩ ?_
        refine x_iload (p2 := 171) rfl dX10_execute_169 rfl ?_
        refine x_iadd (p2 := 172) rfl dX10_execute_171 ⟨by omega, by omega⟩ ?_
        refine x_iald (p2 := 173) rfl dX10_execute_172 hD.a5 (by omega) (by omega) ?_
        rw [hr.t hb1 hb2 (by omega) (by omega)]
        refine x_istore (p2 := 175) (i := 6) (L2 := [(0, _), (1, _), (3, _), (4, _), (6, _), (7, _), (8, _), (9, _), (10, _), (11, _), (12, _), (13, _)]) rfl dX10_execute_173 ⟨rfl, Nat.le_of_ble_eq_true rfl⟩ rfl ?_
        refine x_iinc (p2 := 178) (L2 := [(0, _), (1, _), (3, _), (4, _), (6, _), (7, _), (8, _), (9, _), (10, _), (11, _), (12, _), (13, _)]) rfl dX10_execute_175 rfl ⟨by omega, by omega⟩ ⟨rfl, Nat.le_of_ble_eq_true rfl⟩ rfl ?_
        refine x_goto (t := 27) (by decide) dX10_execute_178 ?_
        refine x_pick (L2 := [(0, _), (1, _), (3, _), (4, _), (6, _), (7, _), (8, _)]) [0, 1, 3, 4, 6, 7, 8] rfl ?_
        rw [if_neg (show ¬ v.1 b = 0 by omega)] at hq
        have hsl : slt v.1 v.2.2.1 b (xlushr (nxt x) 33) = 0 := by
          unfold slt
          first
            | rw [if_pos (show v.1 b = 1 by omega)]
            | (rw [if_neg (show ¬ v.1 b = 1 by omega)]
               first
                 | exact if_pos (Or.inl hc121)
                 | exact if_pos (Or.inr hc131)
                 | exact if_pos (Or.inr (Int.not_le.1 hc131)))
        rw [hsl] at hq
        have zk := w3 0 (by omega) (by omega)
        have hpk := pcst_bd (ex := v.1) (tg := v.2.1) (ct := v.2.2.1) (b := b) (k := 0) (f := fob n v.2.2.2.1 v.2.2.2.2.1 b)
        exact ih _ _ _ _ (by omega) (by omega) (by omega) (by omega) (by omega) (by omega) (by omega) hq
    · skip
      refine x_iconst (p2 := 71) rfl dX10_execute_70 ⟨by decide, by decide⟩ ?_
      refine x_istore (p2 := 73) (i := 6) (L2 := [(0, _), (1, _), (3, _), (4, _), (6, _), (7, _), (8, _), (9, _), (10, _)]) rfl dX10_execute_71 ⟨rfl, Nat.le_of_ble_eq_true rfl⟩ rfl ?_
      refine x_goto (t := 175) (by decide) dX10_execute_73 ?_
      refine x_iinc (p2 := 178) (L2 := [(0, _), (1, _), (3, _), (4, _), (6, _), (7, _), (8, _), (9, _), (10, _)]) rfl dX10_execute_175 rfl ⟨by omega, by omega⟩ ⟨rfl, Nat.le_of_ble_eq_true rfl⟩ rfl ?_
      refine x_goto (t := 27) (by decide) dX10_execute_178 ?_
      refine x_pick (L2 := [(0, _), (1, _), (3, _), (4, _), (6, _), (7, _), (8, _)]) [0, 1, 3, 4, 6, 7, 8] rfl ?_
      rw [if_pos (show v.1 b = 0 by omega)] at hq
      exact ih _ _ _ _ (by omega) (by omega) (by omega) (by omega) (by omega) (by omega) (by omega) hq
set_option maxHeartbeats 4000000 in
theorem t_X10_execute {D : Nat} (hD : isMd σ ρ D) {n en : Int} {byt : Int → Int} {v : vV} (hM : mdI M D n en byt v) (hW : wfV n en byt v) {s k : Int} (k2 : ¬ (1 ≤ k ∧ k ≤ 99) → Q (some (xI (-2))) (σ, ρ, M)) (hq : (1 ≤ k ∧ k ≤ 99) → Q (some (xI (wlk n v.1 v.2.1 v.2.2.1 v.2.2.2.1 v.2.2.2.2.1 k.toNat s 0 0))) (σ, ρ, M)) : xX G mX10_execute 0 0 0 [(0, xP D), (1, xL s), (3, xI k)] [] (σ, ρ, M) Q := by
  obtain ⟨hn, hen, hyb, hr⟩ := id hM
  have hG := hW.1
  have hO := hW.2.1
  have hA := hW.2.2.1
  have he : M D 4 = en ∧ 0 ≤ en ∧ en ≤ 99 := ⟨hen, hW.2.2.2.1⟩
  have hy : ∀ b, 0 ≤ b → b < n → M (D + 2) b = byt b ∧ 0 ≤ byt b ∧ byt b ≤ 9 := fun b a c => ⟨hyb b a c, hW.2.2.2.2 b a c⟩
  have h8 := hG.2.1
  have h1 := hG.1
  have hx2 : ∀ b, 0 ≤ b → b < n → v.1 b ≤ 2 := fun b a c => (hG.2.2 b a c).2.1
  have hO5 := hO.2.2.2
  refine x_iload_n (p2 := 1) rfl dX10_execute_0 rfl ?_
  refine x_i2l (p2 := 2) rfl dX10_execute_1 ?_
  refine x_lconst (p2 := 3) (v := 1) rfl dX10_execute_2 ⟨by decide, ⟨by decide, by decide⟩⟩ ?_
  refine x_ldc2 (p2 := 6) rfl dX10_execute_3 q_10_184 ?_
  refine x_s3 (p2 := 9) rfl dX10_execute_6 l_10_57 ok_X10_in rfl rfl ?_
  refine t_X10_in (fun hb6 => ?_) (fun hb6 => ?_)
  · skip
    refine x_if_ne (p2 := 12) (t := 15) (by decide) rfl dX10_execute_9 (fun _ => ?_) (fun hc => absurd hc (by decide))
    refine x_lload_n (p2 := 16) rfl dX10_execute_15 rfl ?_
    refine x_lstore (p2 := 18) (i := 4) (L2 := [(0, _), (1, _), (3, _), (4, _)]) rfl dX10_execute_16 ⟨rfl, Nat.le_of_ble_eq_true rfl⟩ rfl ?_
    refine x_iconst (p2 := 19) rfl dX10_execute_18 ⟨by decide, by decide⟩ ?_
    refine x_istore (p2 := 21) (i := 6) (L2 := [(0, _), (1, _), (3, _), (4, _), (6, _)]) rfl dX10_execute_19 ⟨rfl, Nat.le_of_ble_eq_true rfl⟩ rfl ?_
    refine x_iconst (p2 := 22) rfl dX10_execute_21 ⟨by decide, by decide⟩ ?_
    refine x_istore (p2 := 24) (i := 7) (L2 := [(0, _), (1, _), (3, _), (4, _), (6, _), (7, _)]) rfl dX10_execute_22 ⟨rfl, Nat.le_of_ble_eq_true rfl⟩ rfl ?_
    refine x_iconst (p2 := 25) rfl dX10_execute_24 ⟨by decide, by decide⟩ ?_
    refine x_istore (p2 := 27) (i := 8) (L2 := [(0, _), (1, _), (3, _), (4, _), (6, _), (7, _), (8, _)]) rfl dX10_execute_25 ⟨rfl, Nat.le_of_ble_eq_true rfl⟩ rfl ?_
    refine x_pick (L2 := [(0, _), (1, _), (3, _), (4, _), (6, _), (7, _), (8, _)]) [0, 1, 3, 4, 6, 7, 8] rfl ?_
    exact t_ex_l hD hM hW k.toNat 0 s 0 0 (by omega) (by omega) (by omega) (by omega) (by omega) (by omega) (by omega) (hq (by omega))
  · skip
    refine x_if_ne (p2 := 12) (t := 15) (by decide) rfl dX10_execute_9 (fun hc => absurd hc (by decide)) (fun _ => ?_)
    refine x_bipush (p2 := 14) rfl dX10_execute_12 ⟨by decide, ⟨by decide, by decide⟩⟩ ?_
    refine x_iret dX10_execute_14 rfl ?_
    exact k2 (by omega)
end XMM
