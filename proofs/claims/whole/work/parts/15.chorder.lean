section XCO
variable {G : xG} {σ : List (Nat × Nat)} {ρ : Nat → Int → Option Nat} {M : Nat → Int → Int} {Q : Option xV → xH → Prop}
def btb (ps b : Int) : Bool := decide (xiand (xishr ps b) 1 ≠ 0)
def adb (ps b : Int) : Int := xior ps (xishl 1 b)
theorem bit_tab : ∀ p, p < 256 → ∀ b, b < 8 → (0 ≤ adb (p : Nat) (b : Nat) ∧ adb (p : Nat) (b : Nat) < 256) ∧ ∀ c, c < 8 → btb (adb (p : Nat) (b : Nat)) (c : Nat) = (decide (c = b) || btb (p : Nat) (c : Nat)) := by decide +kernel
theorem adb_bd {p b : Int} (h0 : 0 ≤ p) (h1 : p < 256) (h2 : 0 ≤ b) (h3 : b < 8) : 0 ≤ adb p b ∧ adb p b < 256 := by
  have := (bit_tab p.toNat (by omega) b.toNat (by omega)).1
  rw [Int.toNat_of_nonneg h0, Int.toNat_of_nonneg h2] at this
  exact this
theorem btb_adb {p b c : Int} (h0 : 0 ≤ p) (h1 : p < 256) (h2 : 0 ≤ b) (h3 : b < 8) (h4 : 0 ≤ c) (h5 : c < 8) : btb (adb p b) c = (decide (c = b) || btb p c) := by
  have := (bit_tab p.toNat (by omega) b.toNat (by omega)).2 c.toNat (by omega)
  rw [Int.toNat_of_nonneg h0, Int.toNat_of_nonneg h2, Int.toNat_of_nonneg h4] at this
  rw [this]
  congr 1
  exact decide_eq_decide.mpr (by omega)
theorem btb_0 : ∀ c, c < 8 → btb 0 (c : Nat) = false := by decide +kernel
def wt1 (hd tg ct : Int → Int) (pl : Int → Bool) (c b k : Int) : Int := if (pl b = true ∧ hd (tg (2 * b + k)) = c) ∨ (hd b = c ∧ pl (tg (2 * b + k)) = true) then ct (2 * b + k) else 0
def wtk (hd ex tg ct : Int → Int) (pl : Int → Bool) (c b : Int) : Int := sg (wt1 hd tg ct pl c b) 0 (ex b).toNat
def wtf (n : Int) (hd ex tg ct : Int → Int) (pl : Int → Bool) (c : Int) : Int := sg (wtk hd ex tg ct pl c) 0 n.toNat
def hhf (hd wt : Int → Int) (pl : Int → Bool) : Nat → Int → Int → Int → Int
  | 0, _, h, _ => h
  | k + 1, b, h, g => if hd b = b ∧ ¬ pl b = true ∧ g < wt b then hhf hd wt pl k (b + 1) b (wt b) else hhf hd wt pl k (b + 1) h g
def pcf (nx : Int → Int) : Nat → Int → Int → (Int → Int) → Int → (Int → Int) × Int × Int
  | 0, i, _, od, ps => (od, ps, i)
  | k + 1, i, b, od, ps => if b = -1 then (od, ps, i) else pcf nx k (i + 1) (nx b) (upf od i b) (adb ps b)
theorem wtk_bd {n : Int} {hd ex tg ct : Int → Int} {pl : Int → Bool} {c b : Int} (h : wfB n ex tg ct b) : 0 ≤ wtk hd ex tg ct pl c b ∧ wtk hd ex tg ct pl c b ≤ 198 := by
  obtain ⟨h0, h1, h2, -⟩ := h
  have := sg_bd (f := wt1 hd tg ct pl c b) (c := 99) (ex b).toNat 0 (fun j a d => by
    have h3 := h2 j a (by omega)
    unfold wt1
    split <;> omega)
  unfold wtk
  omega
theorem wtf_bd {n : Int} {hd ex tg ct : Int → Int} {pl : Int → Bool} {c : Int} (h : wfG n ex tg ct) : 0 ≤ wtf n hd ex tg ct pl c ∧ wtf n hd ex tg ct pl c ≤ 1584 := by
  have h1 := h.1
  have h8 := h.2.1
  have := sg_bd (f := wtk hd ex tg ct pl c) (c := 198) n.toNat 0 (fun j a d => wtk_bd (h.2.2 j a (by omega)))
  unfold wtf
  omega
set_option maxHeartbeats 4000000 in
theorem t_X0_isPlaced {C : Nat} {b : Int} (hC : isCh σ ρ C) (k1 : btb (M C 4) b = true → Q (some (xI 1)) (σ, ρ, M)) (k0 : ¬ btb (M C 4) b = true → Q (some (xI 0)) (σ, ρ, M)) : xX G mX0_isPlaced 0 0 0 [(0, xP C), (1, xI b)] [] (σ, ρ, M) Q := by
  refine x_aload_n (p2 := 1) rfl dX0_isPlaced_0 rfl ?_
  refine x_geti (p2 := 4) (kz := 4) rfl dX0_isPlaced_1 f_0_25 rfl rfl hC.sh ?_
  refine x_iload_n (p2 := 5) rfl dX0_isPlaced_4 rfl ?_
  refine x_ishr (p2 := 6) rfl dX0_isPlaced_5 ?_
  refine x_iconst (p2 := 7) rfl dX0_isPlaced_6 ⟨by decide, by decide⟩ ?_
  refine x_iand (p2 := 8) rfl dX0_isPlaced_7 ?_
  refine x_if_eq (p2 := 11) (t := 15) (by decide) rfl dX0_isPlaced_8 (fun hc8 => ?_) (fun hc8 => ?_)
  · skip
    refine x_iconst (p2 := 16) rfl dX0_isPlaced_15 ⟨by decide, by decide⟩ ?_
    refine x_zret dX0_isPlaced_16 rfl (by omega) ?_
    exact k0 (fun z => absurd hc8 (of_decide_eq_true z))
  · skip
    refine x_iconst (p2 := 12) rfl dX0_isPlaced_11 ⟨by decide, by decide⟩ ?_
    refine x_goto (t := 16) (by decide) dX0_isPlaced_12 ?_
    refine x_zret dX0_isPlaced_16 rfl (by omega) ?_
    exact k1 (decide_eq_true hc8)
set_option maxHeartbeats 4000000 in
theorem t_wo_l1 {C S F : Nat} {c b n0 : Int} (hC : isCh σ ρ C) (hS : isSt σ ρ S F) (hb : 0 ≤ b ∧ b < 8) (hn : n0 ≤ 8) (hx : wfB n0 (M (S + 1)) (M (S + 2)) (M (S + 3)) b) : ∀ (n : Nat) (k s : Int), 0 ≤ k → k + n = M (S + 1) b → 0 ≤ s → s ≤ 198 * b + 99 * k → xX G mX0_weightOf 0 0 123 [(0, xP C), (1, xP S), (2, xI c), (3, xI (s + sg (wt1 (M (C + 1)) (M (S + 2)) (M (S + 3)) (btb (M C 4)) c b) k n)), (4, xI b)] [] (σ, ρ, M) Q → xX G mX0_weightOf 0 0 20 [(0, xP C), (1, xP S), (2, xI c), (3, xI s), (4, xI b), (5, xI k)] [] (σ, ρ, M) Q := by
  have hx2 := hx.2.1
  intro n
  induction n with
  | zero =>
    intro k s h0 hk hs1 hs2 hq
    rw [show sg (wt1 (M (C + 1)) (M (S + 2)) (M (S + 3)) (btb (M C 4)) c b) k 0 = 0 from rfl, Int.add_zero] at hq
    refine x_iload (p2 := 22) rfl dX0_weightOf_20 rfl ?_
    refine x_aload_n (p2 := 23) rfl dX0_weightOf_22 rfl ?_
    refine x_getr (p2 := 26) (kz := 1) rfl dX0_weightOf_23 f_0_50 rfl rfl hS.sh hS.r1 ?_
    refine x_iload (p2 := 28) rfl dX0_weightOf_26 rfl ?_
    refine x_iald (p2 := 29) rfl dX0_weightOf_28 hS.a1 (by omega) (by omega) ?_
    refine x_ic_ge (p2 := 32) (t := 123) (by decide) rfl dX0_weightOf_29 (fun hc29 => ?_) (fun hc29 => absurd hc29 (by omega))
    refine x_pick (L2 := [(0, _), (1, _), (2, _), (3, _), (4, _)]) [0, 1, 2, 3, 4] rfl ?_
    exact hq
  | succ n ih =>
    intro k s h0 hk hs1 hs2 hq
    unfold sg at hq
    refine x_iload (p2 := 22) rfl dX0_weightOf_20 rfl ?_
    refine x_aload_n (p2 := 23) rfl dX0_weightOf_22 rfl ?_
    refine x_getr (p2 := 26) (kz := 1) rfl dX0_weightOf_23 f_0_50 rfl rfl hS.sh hS.r1 ?_
    refine x_iload (p2 := 28) rfl dX0_weightOf_26 rfl ?_
    refine x_iald (p2 := 29) rfl dX0_weightOf_28 hS.a1 (by omega) (by omega) ?_
    refine x_ic_ge (p2 := 32) (t := 123) (by decide) rfl dX0_weightOf_29 (fun hc29 => ?_) (fun hc29 => ?_)
    · exact absurd hc29 (by omega)
    have hw := hx.2.2.1 k h0 (by omega)
    refine x_aload_n (p2 := 33) rfl dX0_weightOf_32 rfl ?_
    refine x_iload (p2 := 35) rfl dX0_weightOf_33 rfl ?_
    refine x_iload (p2 := 37) rfl dX0_weightOf_35 rfl ?_
    refine x_v2 (p2 := 40) rfl dX0_weightOf_37 l_0_86 ok_X7_target rfl hS.sh rfl ?_
    refine t_X7_target hS (by omega) (by omega) (by omega) (by omega) ?_
    refine x_istore (p2 := 42) (i := 6) (L2 := [(0, _), (1, _), (2, _), (3, _), (4, _), (5, _), (6, _)]) rfl dX0_weightOf_40 ⟨rfl, Nat.le_of_ble_eq_true rfl⟩ rfl ?_
    refine x_aload_n (p2 := 43) rfl dX0_weightOf_42 rfl ?_
    refine x_iload (p2 := 45) rfl dX0_weightOf_43 rfl ?_
    refine x_v1 (p2 := 48) rfl dX0_weightOf_45 l_0_78 ok_X0_isPlaced rfl hC.sh rfl ?_
    refine t_X0_isPlaced hC (fun hb45 => ?_) (fun hb45 => ?_)
    · skip
      refine x_if_eq (p2 := 51) (t := 66) (by decide) rfl dX0_weightOf_48 (fun hc => absurd hc (by decide)) (fun _ => ?_)
      refine x_aload_n (p2 := 52) rfl dX0_weightOf_51 rfl ?_
      refine x_getr (p2 := 55) (kz := 0) rfl dX0_weightOf_52 f_0_9 rfl rfl hC.sh hC.r0 ?_
      refine x_iload (p2 := 57) rfl dX0_weightOf_55 rfl ?_
      refine x_iald (p2 := 58) rfl dX0_weightOf_57 hC.a0 (by omega) (by omega) ?_
      refine x_iload_n (p2 := 59) rfl dX0_weightOf_58 rfl ?_
      refine x_ic_ne (p2 := 62) (t := 66) (by decide) rfl dX0_weightOf_59 (fun hc59 => ?_) (fun hc59 => ?_)
      · skip
        refine x_iconst (p2 := 67) rfl dX0_weightOf_66 ⟨by decide, by decide⟩ ?_
        refine x_istore (p2 := 69) (i := 7) (L2 := [(0, _), (1, _), (2, _), (3, _), (4, _), (5, _), (6, _), (7, _)]) rfl dX0_weightOf_67 ⟨rfl, Nat.le_of_ble_eq_true rfl⟩ rfl ?_
        refine x_aload_n (p2 := 70) rfl dX0_weightOf_69 rfl ?_
        refine x_getr (p2 := 73) (kz := 0) rfl dX0_weightOf_70 f_0_9 rfl rfl hC.sh hC.r0 ?_
        refine x_iload (p2 := 75) rfl dX0_weightOf_73 rfl ?_
        refine x_iald (p2 := 76) rfl dX0_weightOf_75 hC.a0 (by omega) (by omega) ?_
        refine x_iload_n (p2 := 77) rfl dX0_weightOf_76 rfl ?_
        refine x_ic_ne (p2 := 80) (t := 93) (by decide) rfl dX0_weightOf_77 (fun hc77 => ?_) (fun hc77 => ?_)
        · skip
          refine x_iconst (p2 := 94) rfl dX0_weightOf_93 ⟨by decide, by decide⟩ ?_
          refine x_istore (p2 := 96) (i := 8) (L2 := [(0, _), (1, _), (2, _), (3, _), (4, _), (5, _), (6, _), (7, _), (8, _)]) rfl dX0_weightOf_94 ⟨rfl, Nat.le_of_ble_eq_true rfl⟩ rfl ?_
          refine x_iload (p2 := 98) rfl dX0_weightOf_96 rfl ?_
          refine x_if_ne (p2 := 101) (t := 106) (by decide) rfl dX0_weightOf_98 (fun hc => absurd hc (by decide)) (fun _ => ?_)
          refine x_iload (p2 := 103) rfl dX0_weightOf_101 rfl ?_
          refine x_if_eq (p2 := 106) (t := 117) (by decide) rfl dX0_weightOf_103 (fun _ => ?_) (fun hc => absurd hc (by decide))
          refine x_iinc (p2 := 120) (L2 := [(0, _), (1, _), (2, _), (3, _), (4, _), (5, _), (6, _), (7, _), (8, _)]) rfl dX0_weightOf_117 rfl ⟨by omega, by omega⟩ ⟨rfl, Nat.le_of_ble_eq_true rfl⟩ rfl ?_
          refine x_goto (t := 20) (by decide) dX0_weightOf_120 ?_
          refine x_pick (L2 := [(0, _), (1, _), (2, _), (3, _), (4, _), (5, _)]) [0, 1, 2, 3, 4, 5] rfl ?_
          first
            | (have e : wt1 (M (C + 1)) (M (S + 2)) (M (S + 3)) (btb (M C 4)) c b k = 0 := if_neg (fun z => by rcases z with ⟨z1, z2⟩ | ⟨z1, z2⟩ <;> first | exact hb45 z1 | exact hc59 z2 | exact hc77 z1 | exact hb83 z2)
               rw [e, Int.zero_add] at hq
               exact ih _ _ (by omega) (by omega) (by omega) (by omega) hq)
            | (have e : wt1 (M (C + 1)) (M (S + 2)) (M (S + 3)) (btb (M C 4)) c b k = M (S + 3) (2 * b + k) := if_pos (by first | exact Or.inl ⟨hb45, hc59⟩ | exact Or.inr ⟨hc77, hb83⟩)
               rw [e, ← Int.add_assoc] at hq
               exact ih _ _ (by omega) (by omega) (by omega) (by omega) hq)
        · skip
          refine x_aload_n (p2 := 81) rfl dX0_weightOf_80 rfl ?_
          refine x_iload (p2 := 83) rfl dX0_weightOf_81 rfl ?_
          refine x_v1 (p2 := 86) rfl dX0_weightOf_83 l_0_78 ok_X0_isPlaced rfl hC.sh rfl ?_
          refine t_X0_isPlaced hC (fun hb83 => ?_) (fun hb83 => ?_)
          · skip
            refine x_if_eq (p2 := 89) (t := 93) (by decide) rfl dX0_weightOf_86 (fun hc => absurd hc (by decide)) (fun _ => ?_)
            refine x_iconst (p2 := 90) rfl dX0_weightOf_89 ⟨by decide, by decide⟩ ?_
            refine x_goto (t := 94) (by decide) dX0_weightOf_90 ?_
            refine x_istore (p2 := 96) (i := 8) (L2 := [(0, _), (1, _), (2, _), (3, _), (4, _), (5, _), (6, _), (7, _), (8, _)]) rfl dX0_weightOf_94 ⟨rfl, Nat.le_of_ble_eq_true rfl⟩ rfl ?_
            refine x_iload (p2 := 98) rfl dX0_weightOf_96 rfl ?_
            refine x_if_ne (p2 := 101) (t := 106) (by decide) rfl dX0_weightOf_98 (fun hc => absurd hc (by decide)) (fun _ => ?_)
            refine x_iload (p2 := 103) rfl dX0_weightOf_101 rfl ?_
            refine x_if_eq (p2 := 106) (t := 117) (by decide) rfl dX0_weightOf_103 (fun hc => absurd hc (by decide)) (fun _ => ?_)
            refine x_iload_n (p2 := 107) rfl dX0_weightOf_106 rfl ?_
            refine x_aload_n (p2 := 108) rfl dX0_weightOf_107 rfl ?_
            refine x_iload (p2 := 110) rfl dX0_weightOf_108 rfl ?_
            refine x_iload (p2 := 112) rfl dX0_weightOf_110 rfl ?_
            refine x_v2 (p2 := 115) rfl dX0_weightOf_112 l_0_53 ok_X7_count rfl hS.sh rfl ?_
            refine t_X7_count hS (by omega) (by omega) (by omega) (by omega) ?_
            refine x_iadd (p2 := 116) rfl dX0_weightOf_115 ⟨by omega, by omega⟩ ?_
            refine x_istore_n (p2 := 117) (i := 3) (L2 := [(0, _), (1, _), (2, _), (3, _), (4, _), (5, _), (6, _), (7, _), (8, _)]) rfl dX0_weightOf_116 rfl ⟨rfl, Nat.le_of_ble_eq_true rfl⟩ rfl ?_
            refine x_iinc (p2 := 120) (L2 := [(0, _), (1, _), (2, _), (3, _), (4, _), (5, _), (6, _), (7, _), (8, _)]) rfl dX0_weightOf_117 rfl ⟨by omega, by omega⟩ ⟨rfl, Nat.le_of_ble_eq_true rfl⟩ rfl ?_
            refine x_goto (t := 20) (by decide) dX0_weightOf_120 ?_
            refine x_pick (L2 := [(0, _), (1, _), (2, _), (3, _), (4, _), (5, _)]) [0, 1, 2, 3, 4, 5] rfl ?_
            first
              | (have e : wt1 (M (C + 1)) (M (S + 2)) (M (S + 3)) (btb (M C 4)) c b k = 0 := if_neg (fun z => by rcases z with ⟨z1, z2⟩ | ⟨z1, z2⟩ <;> first | exact hb45 z1 | exact hc59 z2 | exact hc77 z1 | exact hb83 z2)
                 rw [e, Int.zero_add] at hq
                 exact ih _ _ (by omega) (by omega) (by omega) (by omega) hq)
              | (have e : wt1 (M (C + 1)) (M (S + 2)) (M (S + 3)) (btb (M C 4)) c b k = M (S + 3) (2 * b + k) := if_pos (by first | exact Or.inl ⟨hb45, hc59⟩ | exact Or.inr ⟨hc77, hb83⟩)
                 rw [e, ← Int.add_assoc] at hq
                 exact ih _ _ (by omega) (by omega) (by omega) (by omega) hq)
          · skip
            refine x_if_eq (p2 := 89) (t := 93) (by decide) rfl dX0_weightOf_86 (fun _ => ?_) (fun hc => absurd hc (by decide))
            refine x_iconst (p2 := 94) rfl dX0_weightOf_93 ⟨by decide, by decide⟩ ?_
            refine x_istore (p2 := 96) (i := 8) (L2 := [(0, _), (1, _), (2, _), (3, _), (4, _), (5, _), (6, _), (7, _), (8, _)]) rfl dX0_weightOf_94 ⟨rfl, Nat.le_of_ble_eq_true rfl⟩ rfl ?_
            refine x_iload (p2 := 98) rfl dX0_weightOf_96 rfl ?_
            refine x_if_ne (p2 := 101) (t := 106) (by decide) rfl dX0_weightOf_98 (fun hc => absurd hc (by decide)) (fun _ => ?_)
            refine x_iload (p2 := 103) rfl dX0_weightOf_101 rfl ?_
            refine x_if_eq (p2 := 106) (t := 117) (by decide) rfl dX0_weightOf_103 (fun _ => ?_) (fun hc => absurd hc (by decide))
            refine x_iinc (p2 := 120) (L2 := [(0, _), (1, _), (2, _), (3, _), (4, _), (5, _), (6, _), (7, _), (8, _)]) rfl dX0_weightOf_117 rfl ⟨by omega, by omega⟩ ⟨rfl, Nat.le_of_ble_eq_true rfl⟩ rfl ?_
            refine x_goto (t := 20) (by decide) dX0_weightOf_120 ?_
            refine x_pick (L2 := [(0, _), (1, _), (2, _), (3, _), (4, _), (5, _)]) [0, 1, 2, 3, 4, 5] rfl ?_
            first
              | (have e : wt1 (M (C + 1)) (M (S + 2)) (M (S + 3)) (btb (M C 4)) c b k = 0 := if_neg (fun z => by rcases z with ⟨z1, z2⟩ | ⟨z1, z2⟩ <;> first | exact hb45 z1 | exact hc59 z2 | exact hc77 z1 | exact hb83 z2)
                 rw [e, Int.zero_add] at hq
                 exact ih _ _ (by omega) (by omega) (by omega) (by omega) hq)
              | (have e : wt1 (M (C + 1)) (M (S + 2)) (M (S + 3)) (btb (M C 4)) c b k = M (S + 3) (2 * b + k) := if_pos (by first | exact Or.inl ⟨hb45, hc59⟩ | exact Or.inr ⟨hc77, hb83⟩)
                 rw [e, ← Int.add_assoc] at hq
                 exact ih _ _ (by omega) (by omega) (by omega) (by omega) hq)
      · skip
        refine x_iconst (p2 := 63) rfl dX0_weightOf_62 ⟨by decide, by decide⟩ ?_
        refine x_goto (t := 67) (by decide) dX0_weightOf_63 ?_
        refine x_istore (p2 := 69) (i := 7) (L2 := [(0, _), (1, _), (2, _), (3, _), (4, _), (5, _), (6, _), (7, _)]) rfl dX0_weightOf_67 ⟨rfl, Nat.le_of_ble_eq_true rfl⟩ rfl ?_
        refine x_aload_n (p2 := 70) rfl dX0_weightOf_69 rfl ?_
        refine x_getr (p2 := 73) (kz := 0) rfl dX0_weightOf_70 f_0_9 rfl rfl hC.sh hC.r0 ?_
        refine x_iload (p2 := 75) rfl dX0_weightOf_73 rfl ?_
        refine x_iald (p2 := 76) rfl dX0_weightOf_75 hC.a0 (by omega) (by omega) ?_
        refine x_iload_n (p2 := 77) rfl dX0_weightOf_76 rfl ?_
        refine x_ic_ne (p2 := 80) (t := 93) (by decide) rfl dX0_weightOf_77 (fun hc77 => ?_) (fun hc77 => ?_)
        · skip
          refine x_iconst (p2 := 94) rfl dX0_weightOf_93 ⟨by decide, by decide⟩ ?_
          refine x_istore (p2 := 96) (i := 8) (L2 := [(0, _), (1, _), (2, _), (3, _), (4, _), (5, _), (6, _), (7, _), (8, _)]) rfl dX0_weightOf_94 ⟨rfl, Nat.le_of_ble_eq_true rfl⟩ rfl ?_
          refine x_iload (p2 := 98) rfl dX0_weightOf_96 rfl ?_
          refine x_if_ne (p2 := 101) (t := 106) (by decide) rfl dX0_weightOf_98 (fun _ => ?_) (fun hc => absurd hc (by decide))
          refine x_iload_n (p2 := 107) rfl dX0_weightOf_106 rfl ?_
          refine x_aload_n (p2 := 108) rfl dX0_weightOf_107 rfl ?_
          refine x_iload (p2 := 110) rfl dX0_weightOf_108 rfl ?_
          refine x_iload (p2 := 112) rfl dX0_weightOf_110 rfl ?_
          refine x_v2 (p2 := 115) rfl dX0_weightOf_112 l_0_53 ok_X7_count rfl hS.sh rfl ?_
          refine t_X7_count hS (by omega) (by omega) (by omega) (by omega) ?_
          refine x_iadd (p2 := 116) rfl dX0_weightOf_115 ⟨by omega, by omega⟩ ?_
          refine x_istore_n (p2 := 117) (i := 3) (L2 := [(0, _), (1, _), (2, _), (3, _), (4, _), (5, _), (6, _), (7, _), (8, _)]) rfl dX0_weightOf_116 rfl ⟨rfl, Nat.le_of_ble_eq_true rfl⟩ rfl ?_
          refine x_iinc (p2 := 120) (L2 := [(0, _), (1, _), (2, _), (3, _), (4, _), (5, _), (6, _), (7, _), (8, _)]) rfl dX0_weightOf_117 rfl ⟨by omega, by omega⟩ ⟨rfl, Nat.le_of_ble_eq_true rfl⟩ rfl ?_
          refine x_goto (t := 20) (by decide) dX0_weightOf_120 ?_
          refine x_pick (L2 := [(0, _), (1, _), (2, _), (3, _), (4, _), (5, _)]) [0, 1, 2, 3, 4, 5] rfl ?_
          first
            | (have e : wt1 (M (C + 1)) (M (S + 2)) (M (S + 3)) (btb (M C 4)) c b k = 0 := if_neg (fun z => by rcases z with ⟨z1, z2⟩ | ⟨z1, z2⟩ <;> first | exact hb45 z1 | exact hc59 z2 | exact hc77 z1 | exact hb83 z2)
               rw [e, Int.zero_add] at hq
               exact ih _ _ (by omega) (by omega) (by omega) (by omega) hq)
            | (have e : wt1 (M (C + 1)) (M (S + 2)) (M (S + 3)) (btb (M C 4)) c b k = M (S + 3) (2 * b + k) := if_pos (by first | exact Or.inl ⟨hb45, hc59⟩ | exact Or.inr ⟨hc77, hb83⟩)
               rw [e, ← Int.add_assoc] at hq
               exact ih _ _ (by omega) (by omega) (by omega) (by omega) hq)
        · skip
          refine x_aload_n (p2 := 81) rfl dX0_weightOf_80 rfl ?_
          refine x_iload (p2 := 83) rfl dX0_weightOf_81 rfl ?_
          refine x_v1 (p2 := 86) rfl dX0_weightOf_83 l_0_78 ok_X0_isPlaced rfl hC.sh rfl ?_
          refine t_X0_isPlaced hC (fun hb83 => ?_) (fun hb83 => ?_)
          · skip
            refine x_if_eq (p2 := 89) (t := 93) (by decide) rfl dX0_weightOf_86 (fun hc => absurd hc (by decide)) (fun _ => ?_)
            refine x_iconst (p2 := 90) rfl dX0_weightOf_89 ⟨by decide, by decide⟩ ?_
            refine x_goto (t := 94) (by decide) dX0_weightOf_90 ?_
            refine x_istore (p2 := 96) (i := 8) (L2 := [(0, _), (1, _), (2, _), (3, _), (4, _), (5, _), (6, _), (7, _), (8, _)]) rfl dX0_weightOf_94 ⟨rfl, Nat.le_of_ble_eq_true rfl⟩ rfl ?_
            refine x_iload (p2 := 98) rfl dX0_weightOf_96 rfl ?_
            refine x_if_ne (p2 := 101) (t := 106) (by decide) rfl dX0_weightOf_98 (fun _ => ?_) (fun hc => absurd hc (by decide))
            refine x_iload_n (p2 := 107) rfl dX0_weightOf_106 rfl ?_
            refine x_aload_n (p2 := 108) rfl dX0_weightOf_107 rfl ?_
            refine x_iload (p2 := 110) rfl dX0_weightOf_108 rfl ?_
            refine x_iload (p2 := 112) rfl dX0_weightOf_110 rfl ?_
            refine x_v2 (p2 := 115) rfl dX0_weightOf_112 l_0_53 ok_X7_count rfl hS.sh rfl ?_
            refine t_X7_count hS (by omega) (by omega) (by omega) (by omega) ?_
            refine x_iadd (p2 := 116) rfl dX0_weightOf_115 ⟨by omega, by omega⟩ ?_
            refine x_istore_n (p2 := 117) (i := 3) (L2 := [(0, _), (1, _), (2, _), (3, _), (4, _), (5, _), (6, _), (7, _), (8, _)]) rfl dX0_weightOf_116 rfl ⟨rfl, Nat.le_of_ble_eq_true rfl⟩ rfl ?_
            refine x_iinc (p2 := 120) (L2 := [(0, _), (1, _), (2, _), (3, _), (4, _), (5, _), (6, _), (7, _), (8, _)]) rfl dX0_weightOf_117 rfl ⟨by omega, by omega⟩ ⟨rfl, Nat.le_of_ble_eq_true rfl⟩ rfl ?_
            refine x_goto (t := 20) (by decide) dX0_weightOf_120 ?_
            refine x_pick (L2 := [(0, _), (1, _), (2, _), (3, _), (4, _), (5, _)]) [0, 1, 2, 3, 4, 5] rfl ?_
            first
              | (have e : wt1 (M (C + 1)) (M (S + 2)) (M (S + 3)) (btb (M C 4)) c b k = 0 := if_neg (fun z => by rcases z with ⟨z1, z2⟩ | ⟨z1, z2⟩ <;> first | exact hb45 z1 | exact hc59 z2 | exact hc77 z1 | exact hb83 z2)
                 rw [e, Int.zero_add] at hq
                 exact ih _ _ (by omega) (by omega) (by omega) (by omega) hq)
              | (have e : wt1 (M (C + 1)) (M (S + 2)) (M (S + 3)) (btb (M C 4)) c b k = M (S + 3) (2 * b + k) := if_pos (by first | exact Or.inl ⟨hb45, hc59⟩ | exact Or.inr ⟨hc77, hb83⟩)
                 rw [e, ← Int.add_assoc] at hq
                 exact ih _ _ (by omega) (by omega) (by omega) (by omega) hq)
          · skip
            refine x_if_eq (p2 := 89) (t := 93) (by decide) rfl dX0_weightOf_86 (fun _ => ?_) (fun hc => absurd hc (by decide))
            refine x_iconst (p2 := 94) rfl dX0_weightOf_93 ⟨by decide, by decide⟩ ?_
            refine x_istore (p2 := 96) (i := 8) (L2 := [(0, _), (1, _), (2, _), (3, _), (4, _), (5, _), (6, _), (7, _), (8, _)]) rfl dX0_weightOf_94 ⟨rfl, Nat.le_of_ble_eq_true rfl⟩ rfl ?_
            refine x_iload (p2 := 98) rfl dX0_weightOf_96 rfl ?_
            refine x_if_ne (p2 := 101) (t := 106) (by decide) rfl dX0_weightOf_98 (fun _ => ?_) (fun hc => absurd hc (by decide))
            refine x_iload_n (p2 := 107) rfl dX0_weightOf_106 rfl ?_
            refine x_aload_n (p2 := 108) rfl dX0_weightOf_107 rfl ?_
            refine x_iload (p2 := 110) rfl dX0_weightOf_108 rfl ?_
            refine x_iload (p2 := 112) rfl dX0_weightOf_110 rfl ?_
            refine x_v2 (p2 := 115) rfl dX0_weightOf_112 l_0_53 ok_X7_count rfl hS.sh rfl ?_
            refine t_X7_count hS (by omega) (by omega) (by omega) (by omega) ?_
            refine x_iadd (p2 := 116) rfl dX0_weightOf_115 ⟨by omega, by omega⟩ ?_
            refine x_istore_n (p2 := 117) (i := 3) (L2 := [(0, _), (1, _), (2, _), (3, _), (4, _), (5, _), (6, _), (7, _), (8, _)]) rfl dX0_weightOf_116 rfl ⟨rfl, Nat.le_of_ble_eq_true rfl⟩ rfl ?_
            refine x_iinc (p2 := 120) (L2 := [(0, _), (1, _), (2, _), (3, _), (4, _), (5, _), (6, _), (7, _), (8, _)]) rfl dX0_weightOf_117 rfl ⟨by omega, by omega⟩ ⟨rfl, Nat.le_of_ble_eq_true rfl⟩ rfl ?_
            refine x_goto (t := 20) (by decide) dX0_weightOf_120 ?_
            refine x_pick (L2 := [(0, _), (1, _), (2, _), (3, _), (4, _), (5, _)]) [0, 1, 2, 3, 4, 5] rfl ?_
            first
              | (have e : wt1 (M (C + 1)) (M (S + 2)) (M (S + 3)) (btb (M C 4)) c b k = 0 := if_neg (fun z => by rcases z with ⟨z1, z2⟩ | ⟨z1, z2⟩ <;> first | exact hb45 z1 | exact hc59 z2 | exact hc77 z1 | exact hb83 z2)
                 rw [e, Int.zero_add] at hq
                 exact ih _ _ (by omega) (by omega) (by omega) (by omega) hq)
              | (have e : wt1 (M (C + 1)) (M (S + 2)) (M (S + 3)) (btb (M C 4)) c b k = M (S + 3) (2 * b + k) := if_pos (by first | exact Or.inl ⟨hb45, hc59⟩ | exact Or.inr ⟨hc77, hb83⟩)
                 rw [e, ← Int.add_assoc] at hq
                 exact ih _ _ (by omega) (by omega) (by omega) (by omega) hq)
    · skip
      refine x_if_eq (p2 := 51) (t := 66) (by decide) rfl dX0_weightOf_48 (fun _ => ?_) (fun hc => absurd hc (by decide))
      refine x_iconst (p2 := 67) rfl dX0_weightOf_66 ⟨by decide, by decide⟩ ?_
      refine x_istore (p2 := 69) (i := 7) (L2 := [(0, _), (1, _), (2, _), (3, _), (4, _), (5, _), (6, _), (7, _)]) rfl dX0_weightOf_67 ⟨rfl, Nat.le_of_ble_eq_true rfl⟩ rfl ?_
      refine x_aload_n (p2 := 70) rfl dX0_weightOf_69 rfl ?_
      refine x_getr (p2 := 73) (kz := 0) rfl dX0_weightOf_70 f_0_9 rfl rfl hC.sh hC.r0 ?_
      refine x_iload (p2 := 75) rfl dX0_weightOf_73 rfl ?_
      refine x_iald (p2 := 76) rfl dX0_weightOf_75 hC.a0 (by omega) (by omega) ?_
      refine x_iload_n (p2 := 77) rfl dX0_weightOf_76 rfl ?_
      refine x_ic_ne (p2 := 80) (t := 93) (by decide) rfl dX0_weightOf_77 (fun hc77 => ?_) (fun hc77 => ?_)
      · skip
        refine x_iconst (p2 := 94) rfl dX0_weightOf_93 ⟨by decide, by decide⟩ ?_
        refine x_istore (p2 := 96) (i := 8) (L2 := [(0, _), (1, _), (2, _), (3, _), (4, _), (5, _), (6, _), (7, _), (8, _)]) rfl dX0_weightOf_94 ⟨rfl, Nat.le_of_ble_eq_true rfl⟩ rfl ?_
        refine x_iload (p2 := 98) rfl dX0_weightOf_96 rfl ?_
        refine x_if_ne (p2 := 101) (t := 106) (by decide) rfl dX0_weightOf_98 (fun hc => absurd hc (by decide)) (fun _ => ?_)
        refine x_iload (p2 := 103) rfl dX0_weightOf_101 rfl ?_
        refine x_if_eq (p2 := 106) (t := 117) (by decide) rfl dX0_weightOf_103 (fun _ => ?_) (fun hc => absurd hc (by decide))
        refine x_iinc (p2 := 120) (L2 := [(0, _), (1, _), (2, _), (3, _), (4, _), (5, _), (6, _), (7, _), (8, _)]) rfl dX0_weightOf_117 rfl ⟨by omega, by omega⟩ ⟨rfl, Nat.le_of_ble_eq_true rfl⟩ rfl ?_
        refine x_goto (t := 20) (by decide) dX0_weightOf_120 ?_
        refine x_pick (L2 := [(0, _), (1, _), (2, _), (3, _), (4, _), (5, _)]) [0, 1, 2, 3, 4, 5] rfl ?_
        first
          | (have e : wt1 (M (C + 1)) (M (S + 2)) (M (S + 3)) (btb (M C 4)) c b k = 0 := if_neg (fun z => by rcases z with ⟨z1, z2⟩ | ⟨z1, z2⟩ <;> first | exact hb45 z1 | exact hc59 z2 | exact hc77 z1 | exact hb83 z2)
             rw [e, Int.zero_add] at hq
             exact ih _ _ (by omega) (by omega) (by omega) (by omega) hq)
          | (have e : wt1 (M (C + 1)) (M (S + 2)) (M (S + 3)) (btb (M C 4)) c b k = M (S + 3) (2 * b + k) := if_pos (by first | exact Or.inl ⟨hb45, hc59⟩ | exact Or.inr ⟨hc77, hb83⟩)
             rw [e, ← Int.add_assoc] at hq
             exact ih _ _ (by omega) (by omega) (by omega) (by omega) hq)
      · skip
        refine x_aload_n (p2 := 81) rfl dX0_weightOf_80 rfl ?_
        refine x_iload (p2 := 83) rfl dX0_weightOf_81 rfl ?_
        refine x_v1 (p2 := 86) rfl dX0_weightOf_83 l_0_78 ok_X0_isPlaced rfl hC.sh rfl ?_
        refine t_X0_isPlaced hC (fun hb83 => ?_) (fun hb83 => ?_)
        · skip
          refine x_if_eq (p2 := 89) (t := 93) (by decide) rfl dX0_weightOf_86 (fun hc => absurd hc (by decide)) (fun _ => ?_)
          refine x_iconst (p2 := 90) rfl dX0_weightOf_89 ⟨by decide, by decide⟩ ?_
          refine x_goto (t := 94) (by decide) dX0_weightOf_90 ?_
          refine x_istore (p2 := 96) (i := 8) (L2 := [(0, _), (1, _), (2, _), (3, _), (4, _), (5, _), (6, _), (7, _), (8, _)]) rfl dX0_weightOf_94 ⟨rfl, Nat.le_of_ble_eq_true rfl⟩ rfl ?_
          refine x_iload (p2 := 98) rfl dX0_weightOf_96 rfl ?_
          refine x_if_ne (p2 := 101) (t := 106) (by decide) rfl dX0_weightOf_98 (fun hc => absurd hc (by decide)) (fun _ => ?_)
          refine x_iload (p2 := 103) rfl dX0_weightOf_101 rfl ?_
          refine x_if_eq (p2 := 106) (t := 117) (by decide) rfl dX0_weightOf_103 (fun hc => absurd hc (by decide)) (fun _ => ?_)
          refine x_iload_n (p2 := 107) rfl dX0_weightOf_106 rfl ?_
          refine x_aload_n (p2 := 108) rfl dX0_weightOf_107 rfl ?_
          refine x_iload (p2 := 110) rfl dX0_weightOf_108 rfl ?_
          refine x_iload (p2 := 112) rfl dX0_weightOf_110 rfl ?_
          refine x_v2 (p2 := 115) rfl dX0_weightOf_112 l_0_53 ok_X7_count rfl hS.sh rfl ?_
          refine t_X7_count hS (by omega) (by omega) (by omega) (by omega) ?_
          refine x_iadd (p2 := 116) rfl dX0_weightOf_115 ⟨by omega, by omega⟩ ?_
          refine x_istore_n (p2 := 117) (i := 3) (L2 := [(0, _), (1, _), (2, _), (3, _), (4, _), (5, _), (6, _), (7, _), (8, _)]) rfl dX0_weightOf_116 rfl ⟨rfl, Nat.le_of_ble_eq_true rfl⟩ rfl ?_
          refine x_iinc (p2 := 120) (L2 := [(0, _), (1, _), (2, _), (3, _), (4, _), (5, _), (6, _), (7, _), (8, _)]) rfl dX0_weightOf_117 rfl ⟨by omega, by omega⟩ ⟨rfl, Nat.le_of_ble_eq_true rfl⟩ rfl ?_
          refine x_goto (t := 20) (by decide) dX0_weightOf_120 ?_
          refine x_pick (L2 := [(0, _), (1, _), (2, _), (3, _), (4, _), (5, _)]) [0, 1, 2, 3, 4, 5] rfl ?_
          first
            | (have e : wt1 (M (C + 1)) (M (S + 2)) (M (S + 3)) (btb (M C 4)) c b k = 0 := if_neg (fun z => by rcases z with ⟨z1, z2⟩ | ⟨z1, z2⟩ <;> first | exact hb45 z1 | exact hc59 z2 | exact hc77 z1 | exact hb83 z2)
               rw [e, Int.zero_add] at hq
               exact ih _ _ (by omega) (by omega) (by omega) (by omega) hq)
            | (have e : wt1 (M (C + 1)) (M (S + 2)) (M (S + 3)) (btb (M C 4)) c b k = M (S + 3) (2 * b + k) := if_pos (by first | exact Or.inl ⟨hb45, hc59⟩ | exact Or.inr ⟨hc77, hb83⟩)
               rw [e, ← Int.add_assoc] at hq
               exact ih _ _ (by omega) (by omega) (by omega) (by omega) hq)
        · skip
          refine x_if_eq (p2 := 89) (t := 93) (by decide) rfl dX0_weightOf_86 (fun _ => ?_) (fun hc => absurd hc (by decide))
          refine x_iconst (p2 := 94) rfl dX0_weightOf_93 ⟨by decide, by decide⟩ ?_
          refine x_istore (p2 := 96) (i := 8) (L2 := [(0, _), (1, _), (2, _), (3, _), (4, _), (5, _), (6, _), (7, _), (8, _)]) rfl dX0_weightOf_94 ⟨rfl, Nat.le_of_ble_eq_true rfl⟩ rfl ?_
          refine x_iload (p2 := 98) rfl dX0_weightOf_96 rfl ?_
          refine x_if_ne (p2 := 101) (t := 106) (by decide) rfl dX0_weightOf_98 (fun hc => absurd hc (by decide)) (fun _ => ?_)
          refine x_iload (p2 := 103) rfl dX0_weightOf_101 rfl ?_
          refine x_if_eq (p2 := 106) (t := 117) (by decide) rfl dX0_weightOf_103 (fun _ => ?_) (fun hc => absurd hc (by decide))
          refine x_iinc (p2 := 120) (L2 := [(0, _), (1, _), (2, _), (3, _), (4, _), (5, _), (6, _), (7, _), (8, _)]) rfl dX0_weightOf_117 rfl ⟨by omega, by omega⟩ ⟨rfl, Nat.le_of_ble_eq_true rfl⟩ rfl ?_
          refine x_goto (t := 20) (by decide) dX0_weightOf_120 ?_
          refine x_pick (L2 := [(0, _), (1, _), (2, _), (3, _), (4, _), (5, _)]) [0, 1, 2, 3, 4, 5] rfl ?_
          first
            | (have e : wt1 (M (C + 1)) (M (S + 2)) (M (S + 3)) (btb (M C 4)) c b k = 0 := if_neg (fun z => by rcases z with ⟨z1, z2⟩ | ⟨z1, z2⟩ <;> first | exact hb45 z1 | exact hc59 z2 | exact hc77 z1 | exact hb83 z2)
               rw [e, Int.zero_add] at hq
               exact ih _ _ (by omega) (by omega) (by omega) (by omega) hq)
            | (have e : wt1 (M (C + 1)) (M (S + 2)) (M (S + 3)) (btb (M C 4)) c b k = M (S + 3) (2 * b + k) := if_pos (by first | exact Or.inl ⟨hb45, hc59⟩ | exact Or.inr ⟨hc77, hb83⟩)
               rw [e, ← Int.add_assoc] at hq
               exact ih _ _ (by omega) (by omega) (by omega) (by omega) hq)
set_option maxHeartbeats 4000000 in
theorem t_wo_l2 {C S F : Nat} {c : Int} (hC : isCh σ ρ C) (hS : isSt σ ρ S F) (hG : wfG (M F 0) (M (S + 1)) (M (S + 2)) (M (S + 3))) : ∀ (n : Nat) (b s : Int), 0 ≤ b → b + n = M F 0 → 0 ≤ s → s ≤ 198 * b → Q (some (xI (s + sg (wtk (M (C + 1)) (M (S + 1)) (M (S + 2)) (M (S + 3)) (btb (M C 4)) c) b n))) (σ, ρ, M) → xX G mX0_weightOf 0 0 5 [(0, xP C), (1, xP S), (2, xI c), (3, xI s), (4, xI b)] [] (σ, ρ, M) Q := by
  have hn1 := hG.1
  have hn8 := hG.2.1
  intro n
  induction n with
  | zero =>
    intro b s h0 hk hs1 hs2 hq
    rw [show sg (wtk (M (C + 1)) (M (S + 1)) (M (S + 2)) (M (S + 3)) (btb (M C 4)) c) b 0 = 0 from rfl, Int.add_zero] at hq
    refine x_iload (p2 := 7) rfl dX0_weightOf_5 rfl ?_
    refine x_aload_n (p2 := 8) rfl dX0_weightOf_7 rfl ?_
    refine x_getr (p2 := 11) (kz := 0) rfl dX0_weightOf_8 f_0_28 rfl rfl hS.sh hS.r0 ?_
    refine x_geti (p2 := 14) (kz := 0) rfl dX0_weightOf_11 f_0_34 rfl rfl hS.fr.sh ?_
    refine x_ic_ge (p2 := 17) (t := 129) (by decide) rfl dX0_weightOf_14 (fun hc14 => ?_) (fun hc14 => absurd hc14 (by omega))
    refine x_iload_n (p2 := 130) rfl dX0_weightOf_129 rfl ?_
    refine x_iret dX0_weightOf_130 rfl ?_
    exact hq
  | succ n ih =>
    intro b s h0 hk hs1 hs2 hq
    refine x_iload (p2 := 7) rfl dX0_weightOf_5 rfl ?_
    refine x_aload_n (p2 := 8) rfl dX0_weightOf_7 rfl ?_
    refine x_getr (p2 := 11) (kz := 0) rfl dX0_weightOf_8 f_0_28 rfl rfl hS.sh hS.r0 ?_
    refine x_geti (p2 := 14) (kz := 0) rfl dX0_weightOf_11 f_0_34 rfl rfl hS.fr.sh ?_
    refine x_ic_ge (p2 := 17) (t := 129) (by decide) rfl dX0_weightOf_14 (fun hc14 => ?_) (fun hc14 => ?_)
    · exact absurd hc14 (by omega)
    have hw := hG.2.2 b h0 (by omega)
    have hw0 := hw.1
    have hr := wtk_bd (hd := M (C + 1)) (pl := btb (M C 4)) (c := c) hw
    refine x_iconst (p2 := 18) rfl dX0_weightOf_17 ⟨by decide, by decide⟩ ?_
    refine x_istore (p2 := 20) (i := 5) (L2 := [(0, _), (1, _), (2, _), (3, _), (4, _), (5, _)]) rfl dX0_weightOf_18 ⟨rfl, Nat.le_of_ble_eq_true rfl⟩ rfl ?_
    refine x_pick (L2 := [(0, _), (1, _), (2, _), (3, _), (4, _), (5, _)]) [0, 1, 2, 3, 4, 5] rfl ?_
    refine t_wo_l1 hC hS (by omega) hn8 hw (M (S + 1) b).toNat 0 s (by omega) (by omega) (by omega) (by omega) ?_
    refine x_iinc (p2 := 126) (L2 := [(0, _), (1, _), (2, _), (3, _), (4, _)]) rfl dX0_weightOf_123 rfl ⟨by omega, by omega⟩ ⟨rfl, Nat.le_of_ble_eq_true rfl⟩ rfl ?_
    refine x_goto (t := 5) (by decide) dX0_weightOf_126 ?_
    refine x_pick (L2 := [(0, _), (1, _), (2, _), (3, _), (4, _)]) [0, 1, 2, 3, 4] rfl ?_
    refine ih _ _ (by omega) (by omega) (by unfold wtk at hr; omega) (by unfold wtk at hr; omega) ?_
    unfold sg at hq
    rw [← Int.add_assoc] at hq
    exact hq
set_option maxHeartbeats 4000000 in
theorem t_X0_weightOf {C S F : Nat} {c : Int} (hC : isCh σ ρ C) (hS : isSt σ ρ S F) (hG : wfG (M F 0) (M (S + 1)) (M (S + 2)) (M (S + 3))) (hq : Q (some (xI (wtf (M F 0) (M (C + 1)) (M (S + 1)) (M (S + 2)) (M (S + 3)) (btb (M C 4)) c))) (σ, ρ, M)) : xX G mX0_weightOf 0 0 0 [(0, xP C), (1, xP S), (2, xI c)] [] (σ, ρ, M) Q := by
  have hn1 := hG.1
  refine x_iconst (p2 := 1) rfl dX0_weightOf_0 ⟨by decide, by decide⟩ ?_
  refine x_istore_n (p2 := 2) (i := 3) (L2 := [(0, _), (1, _), (2, _), (3, _)]) rfl dX0_weightOf_1 rfl ⟨rfl, Nat.le_of_ble_eq_true rfl⟩ rfl ?_
  refine x_iconst (p2 := 3) rfl dX0_weightOf_2 ⟨by decide, by decide⟩ ?_
  refine x_istore (p2 := 5) (i := 4) (L2 := [(0, _), (1, _), (2, _), (3, _), (4, _)]) rfl dX0_weightOf_3 ⟨rfl, Nat.le_of_ble_eq_true rfl⟩ rfl ?_
  refine x_pick (L2 := [(0, _), (1, _), (2, _), (3, _), (4, _)]) [0, 1, 2, 3, 4] rfl ?_
  refine t_wo_l2 hC hS hG (M F 0).toNat 0 0 (by omega) (by omega) (by omega) (by omega) ?_
  rw [Int.zero_add]; exact hq
set_option maxHeartbeats 4000000 in
theorem t_hh_l {C S F : Nat} (hC : isCh σ ρ C) (hS : isSt σ ρ S F) (hG : wfG (M F 0) (M (S + 1)) (M (S + 2)) (M (S + 3))) : ∀ (n : Nat) (b h g : Int), 0 ≤ b → b + n = M F 0 → -1 ≤ g → g ≤ 1584 → Q (some (xI (hhf (M (C + 1)) (wtf (M F 0) (M (C + 1)) (M (S + 1)) (M (S + 2)) (M (S + 3)) (btb (M C 4))) (btb (M C 4)) n b h g))) (σ, ρ, M) → xX G mX0_heaviestHead 0 0 7 [(0, xP C), (1, xP S), (2, xI h), (3, xI g), (4, xI b)] [] (σ, ρ, M) Q := by
  have hn1 := hG.1
  have hn8 := hG.2.1
  intro n
  induction n with
  | zero =>
    intro b h g h0 hk hg1 hg2 hq
    refine x_iload (p2 := 9) rfl dX0_heaviestHead_7 rfl ?_
    refine x_aload_n (p2 := 10) rfl dX0_heaviestHead_9 rfl ?_
    refine x_getr (p2 := 13) (kz := 0) rfl dX0_heaviestHead_10 f_0_28 rfl rfl hS.sh hS.r0 ?_
    refine x_geti (p2 := 16) (kz := 0) rfl dX0_heaviestHead_13 f_0_34 rfl rfl hS.fr.sh ?_
    refine x_ic_ge (p2 := 19) (t := 67) (by decide) rfl dX0_heaviestHead_16 (fun hc16 => ?_) (fun hc16 => absurd hc16 (by omega))
    refine x_iload_n (p2 := 68) rfl dX0_heaviestHead_67 rfl ?_
    refine x_iret dX0_heaviestHead_68 rfl ?_
    exact hq
  | succ n ih =>
    intro b h g h0 hk hg1 hg2 hq
    unfold hhf at hq
    refine x_iload (p2 := 9) rfl dX0_heaviestHead_7 rfl ?_
    refine x_aload_n (p2 := 10) rfl dX0_heaviestHead_9 rfl ?_
    refine x_getr (p2 := 13) (kz := 0) rfl dX0_heaviestHead_10 f_0_28 rfl rfl hS.sh hS.r0 ?_
    refine x_geti (p2 := 16) (kz := 0) rfl dX0_heaviestHead_13 f_0_34 rfl rfl hS.fr.sh ?_
    refine x_ic_ge (p2 := 19) (t := 67) (by decide) rfl dX0_heaviestHead_16 (fun hc16 => ?_) (fun hc16 => ?_)
    · exact absurd hc16 (by omega)
    have hwt := wtf_bd (hd := M (C + 1)) (pl := btb (M C 4)) (c := b) hG
    refine x_aload_n (p2 := 20) rfl dX0_heaviestHead_19 rfl ?_
    refine x_getr (p2 := 23) (kz := 0) rfl dX0_heaviestHead_20 f_0_9 rfl rfl hC.sh hC.r0 ?_
    refine x_iload (p2 := 25) rfl dX0_heaviestHead_23 rfl ?_
    refine x_iald (p2 := 26) rfl dX0_heaviestHead_25 hC.a0 (by omega) (by omega) ?_
    refine x_iload (p2 := 28) rfl dX0_heaviestHead_26 rfl ?_
    refine x_ic_ne (p2 := 31) (t := 61) (by decide) rfl dX0_heaviestHead_28 (fun hc28 => ?_) (fun hc28 => ?_)
    · skip
      refine x_iinc (p2 := 64) (L2 := [(0, _), (1, _), (2, _), (3, _), (4, _)]) rfl dX0_heaviestHead_61 rfl ⟨by omega, by omega⟩ ⟨rfl, Nat.le_of_ble_eq_true rfl⟩ rfl ?_
      refine x_goto (t := 7) (by decide) dX0_heaviestHead_64 ?_
      refine x_pick (L2 := [(0, _), (1, _), (2, _), (3, _), (4, _)]) [0, 1, 2, 3, 4] rfl ?_
      first
        | (rw [if_neg (fun z => by first | exact hc28 z.1 | exact z.2.1 hb34 | (have := z.2.2; omega))] at hq
           exact ih _ _ _ (by omega) (by omega) (by omega) (by omega) hq)
        | (rw [if_pos ⟨hc28, hb34, by omega⟩] at hq
           exact ih _ _ _ (by omega) (by omega) (by omega) (by omega) hq)
    · skip
      refine x_aload_n (p2 := 32) rfl dX0_heaviestHead_31 rfl ?_
      refine x_iload (p2 := 34) rfl dX0_heaviestHead_32 rfl ?_
      refine x_v1 (p2 := 37) rfl dX0_heaviestHead_34 l_0_78 ok_X0_isPlaced rfl hC.sh rfl ?_
      refine t_X0_isPlaced hC (fun hb34 => ?_) (fun hb34 => ?_)
      · skip
        refine x_if_ne (p2 := 40) (t := 61) (by decide) rfl dX0_heaviestHead_37 (fun _ => ?_) (fun hc => absurd hc (by decide))
        refine x_iinc (p2 := 64) (L2 := [(0, _), (1, _), (2, _), (3, _), (4, _)]) rfl dX0_heaviestHead_61 rfl ⟨by omega, by omega⟩ ⟨rfl, Nat.le_of_ble_eq_true rfl⟩ rfl ?_
        refine x_goto (t := 7) (by decide) dX0_heaviestHead_64 ?_
        refine x_pick (L2 := [(0, _), (1, _), (2, _), (3, _), (4, _)]) [0, 1, 2, 3, 4] rfl ?_
        first
          | (rw [if_neg (fun z => by first | exact hc28 z.1 | exact z.2.1 hb34 | (have := z.2.2; omega))] at hq
             exact ih _ _ _ (by omega) (by omega) (by omega) (by omega) hq)
          | (rw [if_pos ⟨hc28, hb34, by omega⟩] at hq
             exact ih _ _ _ (by omega) (by omega) (by omega) (by omega) hq)
      · skip
        refine x_if_ne (p2 := 40) (t := 61) (by decide) rfl dX0_heaviestHead_37 (fun hc => absurd hc (by decide)) (fun _ => ?_)
        refine x_aload_n (p2 := 41) rfl dX0_heaviestHead_40 rfl ?_
        refine x_aload_n (p2 := 42) rfl dX0_heaviestHead_41 rfl ?_
        refine x_iload (p2 := 44) rfl dX0_heaviestHead_42 rfl ?_
        refine x_v2 (p2 := 47) rfl dX0_heaviestHead_44 l_0_82 ok_X0_weightOf rfl hC.sh rfl ?_
        refine t_X0_weightOf hC hS hG ?_
        refine x_istore (p2 := 49) (i := 5) (L2 := [(0, _), (1, _), (2, _), (3, _), (4, _), (5, _)]) rfl dX0_heaviestHead_47 ⟨rfl, Nat.le_of_ble_eq_true rfl⟩ rfl ?_
        refine x_iload (p2 := 51) rfl dX0_heaviestHead_49 rfl ?_
        refine x_iload_n (p2 := 52) rfl dX0_heaviestHead_51 rfl ?_
        refine x_ic_le (p2 := 55) (t := 61) (by decide) rfl dX0_heaviestHead_52 (fun hc52 => ?_) (fun hc52 => ?_)
        · skip
          refine x_iinc (p2 := 64) (L2 := [(0, _), (1, _), (2, _), (3, _), (4, _), (5, _)]) rfl dX0_heaviestHead_61 rfl ⟨by omega, by omega⟩ ⟨rfl, Nat.le_of_ble_eq_true rfl⟩ rfl ?_
          refine x_goto (t := 7) (by decide) dX0_heaviestHead_64 ?_
          refine x_pick (L2 := [(0, _), (1, _), (2, _), (3, _), (4, _)]) [0, 1, 2, 3, 4] rfl ?_
          first
            | (rw [if_neg (fun z => by first | exact hc28 z.1 | exact z.2.1 hb34 | (have := z.2.2; omega))] at hq
               exact ih _ _ _ (by omega) (by omega) (by omega) (by omega) hq)
            | (rw [if_pos ⟨hc28, hb34, by omega⟩] at hq
               exact ih _ _ _ (by omega) (by omega) (by omega) (by omega) hq)
        · skip
          refine x_iload (p2 := 57) rfl dX0_heaviestHead_55 rfl ?_
          refine x_istore_n (p2 := 58) (i := 2) (L2 := [(0, _), (1, _), (2, _), (3, _), (4, _), (5, _)]) rfl dX0_heaviestHead_57 rfl ⟨rfl, Nat.le_of_ble_eq_true rfl⟩ rfl ?_
          refine x_iload (p2 := 60) rfl dX0_heaviestHead_58 rfl ?_
          refine x_istore_n (p2 := 61) (i := 3) (L2 := [(0, _), (1, _), (2, _), (3, _), (4, _), (5, _)]) rfl dX0_heaviestHead_60 rfl ⟨rfl, Nat.le_of_ble_eq_true rfl⟩ rfl ?_
          refine x_iinc (p2 := 64) (L2 := [(0, _), (1, _), (2, _), (3, _), (4, _), (5, _)]) rfl dX0_heaviestHead_61 rfl ⟨by omega, by omega⟩ ⟨rfl, Nat.le_of_ble_eq_true rfl⟩ rfl ?_
          refine x_goto (t := 7) (by decide) dX0_heaviestHead_64 ?_
          refine x_pick (L2 := [(0, _), (1, _), (2, _), (3, _), (4, _)]) [0, 1, 2, 3, 4] rfl ?_
          first
            | (rw [if_neg (fun z => by first | exact hc28 z.1 | exact z.2.1 hb34 | (have := z.2.2; omega))] at hq
               exact ih _ _ _ (by omega) (by omega) (by omega) (by omega) hq)
            | (rw [if_pos ⟨hc28, hb34, by omega⟩] at hq
               exact ih _ _ _ (by omega) (by omega) (by omega) (by omega) hq)
set_option maxHeartbeats 4000000 in
theorem t_X0_heaviestHead {C S F : Nat} (hC : isCh σ ρ C) (hS : isSt σ ρ S F) (hG : wfG (M F 0) (M (S + 1)) (M (S + 2)) (M (S + 3))) (hq : Q (some (xI (hhf (M (C + 1)) (wtf (M F 0) (M (C + 1)) (M (S + 1)) (M (S + 2)) (M (S + 3)) (btb (M C 4))) (btb (M C 4)) (M F 0).toNat 0 (-1) (-1)))) (σ, ρ, M)) : xX G mX0_heaviestHead 0 0 0 [(0, xP C), (1, xP S)] [] (σ, ρ, M) Q := by
  have hn1 := hG.1
  refine x_iconst (p2 := 1) rfl dX0_heaviestHead_0 ⟨by decide, by decide⟩ ?_
  refine x_istore_n (p2 := 2) (i := 2) (L2 := [(0, _), (1, _), (2, _)]) rfl dX0_heaviestHead_1 rfl ⟨rfl, Nat.le_of_ble_eq_true rfl⟩ rfl ?_
  refine x_iconst (p2 := 3) rfl dX0_heaviestHead_2 ⟨by decide, by decide⟩ ?_
  refine x_istore_n (p2 := 4) (i := 3) (L2 := [(0, _), (1, _), (2, _), (3, _)]) rfl dX0_heaviestHead_3 rfl ⟨rfl, Nat.le_of_ble_eq_true rfl⟩ rfl ?_
  refine x_iconst (p2 := 5) rfl dX0_heaviestHead_4 ⟨by decide, by decide⟩ ?_
  refine x_istore (p2 := 7) (i := 4) (L2 := [(0, _), (1, _), (2, _), (3, _), (4, _)]) rfl dX0_heaviestHead_5 ⟨rfl, Nat.le_of_ble_eq_true rfl⟩ rfl ?_
  refine x_pick (L2 := [(0, _), (1, _), (2, _), (3, _), (4, _)]) [0, 1, 2, 3, 4] rfl ?_
  exact t_hh_l hC hS hG _ _ _ _ (by omega) (by omega) (by omega) (by omega) hq
set_option maxHeartbeats 4000000 in
theorem t_pc_l {C S F : Nat} {f0 p0 : Int} (hC : isCh σ ρ C) (hS : isSt σ ρ S F) (hd : S + 4 < C) : ∀ (n : Nat) (i b : Int) (M1 : Nat → Int → Int), M1 F 0 ≤ 8 → 0 ≤ i → i + n = max i (M1 F 0) → -1 ≤ b → b < M1 F 0 → (∀ x, 0 ≤ x → x < M1 F 0 → -1 ≤ M1 (C + 2) x ∧ M1 (C + 2) x < M1 F 0) → 0 ≤ M1 C 4 → M1 C 4 < 256 → (∀ M2, (∀ c, c ≠ C → c ≠ S + 4 → M2 c = M1 c) → M2 C 3 = M1 C 3 → M2 (S + 4) = (pcf (M1 (C + 2)) n i b (M1 (S + 4)) (M1 C 4)).1 → M2 C 4 = (pcf (M1 (C + 2)) n i b (M1 (S + 4)) (M1 C 4)).2.1 → 0 ≤ M2 C 4 → M2 C 4 < 256 → Q (some (xI (pcf (M1 (C + 2)) n i b (M1 (S + 4)) (M1 C 4)).2.2)) (σ, ρ, M2)) → xX G mX0_placeChain 0 0 6 [(0, xP C), (1, xP S), (2, xI f0), (3, xI p0), (4, xI i), (5, xI b)] [] (σ, ρ, M1) Q := by
  have hlt := hS.lt
  intro n
  induction n with
  | zero =>
    intro i b M1 h8 h0 hk hb1 hb2 hN hp1 hp2 hq
    have done := hq M1 (fun _ _ _ => rfl) rfl rfl rfl hp1 hp2
    refine x_iload (p2 := 8) rfl dX0_placeChain_6 rfl ?_
    refine x_iconst (p2 := 9) rfl dX0_placeChain_8 ⟨by decide, by decide⟩ ?_
    refine x_ic_eq (p2 := 12) (t := 61) (by decide) rfl dX0_placeChain_9 (fun hc9 => ?_) (fun hc9 => ?_)
    · skip
      refine x_iload (p2 := 63) rfl dX0_placeChain_61 rfl ?_
      refine x_iret dX0_placeChain_63 rfl ?_
      exact done
    · skip
      refine x_iload (p2 := 14) rfl dX0_placeChain_12 rfl ?_
      refine x_aload_n (p2 := 15) rfl dX0_placeChain_14 rfl ?_
      refine x_getr (p2 := 18) (kz := 0) rfl dX0_placeChain_15 f_0_28 rfl rfl hS.sh hS.r0 ?_
      refine x_geti (p2 := 21) (kz := 0) rfl dX0_placeChain_18 f_0_34 rfl rfl hS.fr.sh ?_
      refine x_ic_ge (p2 := 24) (t := 61) (by decide) rfl dX0_placeChain_21 (fun hc21 => ?_) (fun hc21 => absurd hc21 (by omega))
      refine x_iload (p2 := 63) rfl dX0_placeChain_61 rfl ?_
      refine x_iret dX0_placeChain_63 rfl ?_
      exact done
  | succ n ih =>
    intro i b M1 h8 h0 hk hb1 hb2 hN hp1 hp2 hq
    unfold pcf at hq
    refine x_iload (p2 := 8) rfl dX0_placeChain_6 rfl ?_
    refine x_iconst (p2 := 9) rfl dX0_placeChain_8 ⟨by decide, by decide⟩ ?_
    refine x_ic_eq (p2 := 12) (t := 61) (by decide) rfl dX0_placeChain_9 (fun hc9 => ?_) (fun hc9 => ?_)
    · skip
      refine x_iload (p2 := 63) rfl dX0_placeChain_61 rfl ?_
      refine x_iret dX0_placeChain_63 rfl ?_
      rw [if_pos hc9] at hq
      exact hq M1 (fun _ _ _ => rfl) rfl rfl rfl hp1 hp2
    · skip
      refine x_iload (p2 := 14) rfl dX0_placeChain_12 rfl ?_
      refine x_aload_n (p2 := 15) rfl dX0_placeChain_14 rfl ?_
      refine x_getr (p2 := 18) (kz := 0) rfl dX0_placeChain_15 f_0_28 rfl rfl hS.sh hS.r0 ?_
      refine x_geti (p2 := 21) (kz := 0) rfl dX0_placeChain_18 f_0_34 rfl rfl hS.fr.sh ?_
      refine x_ic_ge (p2 := 24) (t := 61) (by decide) rfl dX0_placeChain_21 (fun hc21 => ?_) (fun hc21 => ?_)
      · exact absurd hc21 (by omega)
      have hNb := hN b (by omega) (by omega)
      have had := adb_bd hp1 hp2 (show 0 ≤ b by omega) (show b < 8 by omega)
      refine x_aload_n (p2 := 25) rfl dX0_placeChain_24 rfl ?_
      refine x_getr (p2 := 28) (kz := 4) rfl dX0_placeChain_25 f_0_75 rfl rfl hS.sh hS.r4 ?_
      refine x_iload (p2 := 30) rfl dX0_placeChain_28 rfl ?_
      refine x_iload (p2 := 32) rfl dX0_placeChain_30 rfl ?_
      refine x_iast (p2 := 33) rfl dX0_placeChain_32 hS.a4 (by omega) (by omega) ?_
      refine x_aload_n (p2 := 34) rfl dX0_placeChain_33 rfl ?_
      refine x_dup (p2 := 35) rfl dX0_placeChain_34 rfl ?_
      refine x_geti (p2 := 38) (kz := 4) rfl dX0_placeChain_35 f_0_25 rfl rfl hC.sh ?_
      rw [xu_c (show C ≠ S + 4 by omega)]
      refine x_iconst (p2 := 39) rfl dX0_placeChain_38 ⟨by decide, by decide⟩ ?_
      refine x_iload (p2 := 41) rfl dX0_placeChain_39 rfl ?_
      refine x_ishl (p2 := 42) rfl dX0_placeChain_41 ?_
      refine x_ior (p2 := 43) rfl dX0_placeChain_42 ?_
      refine x_puti (p2 := 46) (kz := 4) rfl dX0_placeChain_43 f_0_25 rfl rfl rfl hC.sh ?_
      rw [show xior (M1 C 4) (xishl 1 b) = adb (M1 C 4) b from rfl]
      generalize hM5 : xu (xu M1 (S + 4) i b) C 4 (adb (M1 C 4) b) = M5
      have hf5 : ∀ c, c ≠ C → c ≠ S + 4 → M5 c = M1 c := fun c z1 z2 => by rw [← hM5, xu_c z1, xu_c z2]
      have h53 : M5 C 3 = M1 C 3 := by rw [← hM5, xu_j (by omega), xu_c (by omega)]
      have h54 : M5 C 4 = adb (M1 C 4) b := by rw [← hM5, xu_s]
      have h5o : M5 (S + 4) = upf (M1 (S + 4)) i b := by rw [← hM5, xu_c (by omega), xu_eq, xw_s]
      have eF := hf5 F (by omega) (by omega)
      have e2 := hf5 (C + 2) (by omega) (by omega)
      refine x_iinc (p2 := 49) (L2 := [(0, _), (1, _), (2, _), (3, _), (4, _), (5, _)]) rfl dX0_placeChain_46 rfl ⟨by omega, by omega⟩ ⟨rfl, Nat.le_of_ble_eq_true rfl⟩ rfl ?_
      refine x_aload_n (p2 := 50) rfl dX0_placeChain_49 rfl ?_
      refine x_getr (p2 := 53) (kz := 1) rfl dX0_placeChain_50 f_0_15 rfl rfl hC.sh hC.r1 ?_
      refine x_iload (p2 := 55) rfl dX0_placeChain_53 rfl ?_
      refine x_iald (p2 := 56) rfl dX0_placeChain_55 hC.a1 (by omega) (by omega) ?_
      rw [e2]
      refine x_istore (p2 := 58) (i := 5) (L2 := [(0, _), (1, _), (2, _), (3, _), (4, _), (5, _)]) rfl dX0_placeChain_56 ⟨rfl, Nat.le_of_ble_eq_true rfl⟩ rfl ?_
      refine x_goto (t := 6) (by decide) dX0_placeChain_58 ?_
      refine x_pick (L2 := [(0, _), (1, _), (2, _), (3, _), (4, _), (5, _)]) [0, 1, 2, 3, 4, 5] rfl ?_
      rw [if_neg hc9] at hq
      refine ih (i + 1) _ M5 (by rw [eF]; exact h8) (by omega) (by rw [eF]; omega) hNb.1 (by rw [eF]; exact hNb.2) (by rw [eF, e2]; exact hN) (by rw [h54]; exact had.1) (by rw [h54]; exact had.2) (fun M2 a1 a2 a3 a4 a5 a6 => ?_)
      rw [e2, h54, h5o] at a3 a4
      rw [e2, h54, h5o]
      exact hq M2 (fun c z1 z2 => (a1 c z1 z2).trans (hf5 c z1 z2)) (a2.trans h53) a3 a4 a5 a6
set_option maxHeartbeats 4000000 in
theorem t_X0_placeChain {C S F : Nat} {f0 p0 : Int} (hC : isCh σ ρ C) (hS : isSt σ ρ S F) (hd : S + 4 < C) (h8 : M F 0 ≤ 8) (hp : 0 ≤ p0) (hb : -1 ≤ f0 ∧ f0 < M F 0) (hN : ∀ x, 0 ≤ x → x < M F 0 → -1 ≤ M (C + 2) x ∧ M (C + 2) x < M F 0) (hs : 0 ≤ M C 4 ∧ M C 4 < 256) (hq : ∀ M2, (∀ c, c ≠ C → c ≠ S + 4 → M2 c = M c) → M2 C 3 = M C 3 → M2 (S + 4) = (pcf (M (C + 2)) (M F 0 - p0).toNat p0 f0 (M (S + 4)) (M C 4)).1 → M2 C 4 = (pcf (M (C + 2)) (M F 0 - p0).toNat p0 f0 (M (S + 4)) (M C 4)).2.1 → 0 ≤ M2 C 4 → M2 C 4 < 256 → Q (some (xI (pcf (M (C + 2)) (M F 0 - p0).toNat p0 f0 (M (S + 4)) (M C 4)).2.2)) (σ, ρ, M2)) : xX G mX0_placeChain 0 0 0 [(0, xP C), (1, xP S), (2, xI f0), (3, xI p0)] [] (σ, ρ, M) Q := by
  refine x_iload_n (p2 := 1) rfl dX0_placeChain_0 rfl ?_
  refine x_istore (p2 := 3) (i := 4) (L2 := [(0, _), (1, _), (2, _), (3, _), (4, _)]) rfl dX0_placeChain_1 ⟨rfl, Nat.le_of_ble_eq_true rfl⟩ rfl ?_
  refine x_iload_n (p2 := 4) rfl dX0_placeChain_3 rfl ?_
  refine x_istore (p2 := 6) (i := 5) (L2 := [(0, _), (1, _), (2, _), (3, _), (4, _), (5, _)]) rfl dX0_placeChain_4 ⟨rfl, Nat.le_of_ble_eq_true rfl⟩ rfl ?_
  refine x_pick (L2 := [(0, _), (1, _), (2, _), (3, _), (4, _), (5, _)]) [0, 1, 2, 3, 4, 5] rfl ?_
  exact t_pc_l hC hS hd _ _ _ M h8 hp (by omega) hb.1 hb.2 hN hs.1 hs.2 hq
theorem pcf_i {nx : Int → Int} : ∀ (k : Nat) (i b : Int) (od : Int → Int) (ps : Int), i ≤ (pcf nx k i b od ps).2.2 ∧ (pcf nx k i b od ps).2.2 ≤ i + k
  | 0, i, b, od, ps => by unfold pcf; dsimp only; omega
  | k + 1, i, b, od, ps => by
    unfold pcf
    split
    · dsimp only; omega
    · have := pcf_i (nx := nx) k (i + 1) (nx b) (upf od i b) (adb ps b)
      omega
theorem hhf_bd {hd wt : Int → Int} {pl : Int → Bool} {n : Int} : ∀ (k : Nat) (b h g : Int), 0 ≤ b → b + k = n → -1 ≤ h → h < n → -1 ≤ hhf hd wt pl k b h g ∧ hhf hd wt pl k b h g < n
  | 0, b, h, g, h0, h1, h2, h3 => ⟨h2, h3⟩
  | k + 1, b, h, g, h0, h1, h2, h3 => by
    unfold hhf
    split
    · exact hhf_bd k (b + 1) b (wt b) (by omega) (by omega) (by omega) (by omega)
    · exact hhf_bd k (b + 1) h g (by omega) (by omega) h2 h3
/-- the next chain -/
def nch (n : Int) (hd ex tg ct : Int → Int) (ps : Int) : Int := hhf hd (wtf n hd ex tg ct (btb ps)) (btb ps) n.toNat 0 (-1) (-1)
def arf (n : Int) (hd nx ex tg ct : Int → Int) : Nat → (Int → Int) → Int → Int → (Int → Int)
  | 0, od, _, _ => od
  | k + 1, od, ps, p => if n ≤ p then od else arf n hd nx ex tg ct k (pcf nx (n - p).toNat p (nch n hd ex tg ct ps) od ps).1 (pcf nx (n - p).toNat p (nch n hd ex tg ct ps) od ps).2.1 (pcf nx (n - p).toNat p (nch n hd ex tg ct ps) od ps).2.2
def aro (n : Int) (hd nx ex tg ct od : Int → Int) : Int → Int := arf n hd nx ex tg ct (n - 1).toNat (pcf nx (n - 0).toNat 0 0 od 0).1 (pcf nx (n - 0).toNat 0 0 od 0).2.1 (pcf nx (n - 0).toNat 0 0 od 0).2.2
set_option maxHeartbeats 4000000 in
theorem t_ar_l {C S F : Nat} (hC : isCh σ ρ C) (hS : isSt σ ρ S F) (hd : S + 4 < C) : ∀ (n : Nat) (r p : Int) (M1 : Nat → Int → Int), wfG (M1 F 0) (M1 (S + 1)) (M1 (S + 2)) (M1 (S + 3)) → 1 ≤ r → r + n = M1 F 0 → 0 ≤ p → (∀ x, 0 ≤ x → x < M1 F 0 → -1 ≤ M1 (C + 2) x ∧ M1 (C + 2) x < M1 F 0) → (0 ≤ M1 C 4 ∧ M1 C 4 < 256) → (∀ M2, (∀ c, c ≠ S → c ≠ C → c ≠ S + 4 → M2 c = M1 c) → M2 (S + 4) = arf (M1 F 0) (M1 (C + 1)) (M1 (C + 2)) (M1 (S + 1)) (M1 (S + 2)) (M1 (S + 3)) n (M1 (S + 4)) (M1 C 4) p → M2 S 5 = M1 F 0 → M2 S 6 = M1 S 6 → Q none (σ, ρ, M2)) → xX G mX0_arrange 0 0 15 [(0, xP C), (1, xP S), (2, xI p), (3, xI r)] [] (σ, ρ, M1) Q := by
  have hlt := hS.lt
  intro n
  induction n with
  | zero =>
    intro r p M1 hG h1 hk hp hN hs hq
    have hn8 := hG.2.1
    refine x_iload_n (p2 := 16) rfl dX0_arrange_15 rfl ?_
    refine x_aload_n (p2 := 17) rfl dX0_arrange_16 rfl ?_
    refine x_getr (p2 := 20) (kz := 0) rfl dX0_arrange_17 f_0_28 rfl rfl hS.sh hS.r0 ?_
    refine x_geti (p2 := 23) (kz := 0) rfl dX0_arrange_20 f_0_34 rfl rfl hS.fr.sh ?_
    refine x_ic_ge (p2 := 26) (t := 55) (by decide) rfl dX0_arrange_23 (fun hc23 => ?_) (fun hc23 => absurd hc23 (by omega))
    refine x_aload_n (p2 := 56) rfl dX0_arrange_55 rfl ?_
    refine x_aload_n (p2 := 57) rfl dX0_arrange_56 rfl ?_
    refine x_getr (p2 := 60) (kz := 0) rfl dX0_arrange_57 f_0_28 rfl rfl hS.sh hS.r0 ?_
    refine x_geti (p2 := 63) (kz := 0) rfl dX0_arrange_60 f_0_34 rfl rfl hS.fr.sh ?_
    refine x_puti (p2 := 66) (kz := 5) rfl dX0_arrange_63 f_0_72 rfl rfl rfl hS.sh ?_
    refine x_vret dX0_arrange_66 rfl ?_
    exact hq _ (fun c z1 z2 z3 => by rw [xu_c z1]) (by rw [xu_c (by omega)]; rfl) (by rw [xu_s]) (by rw [xu_j (by omega)])
  | succ n ih =>
    intro r p M1 hG h1 hk hp hN hs hq
    have hn1 := hG.1
    have hn8 := hG.2.1
    unfold arf at hq
    refine x_iload_n (p2 := 16) rfl dX0_arrange_15 rfl ?_
    refine x_aload_n (p2 := 17) rfl dX0_arrange_16 rfl ?_
    refine x_getr (p2 := 20) (kz := 0) rfl dX0_arrange_17 f_0_28 rfl rfl hS.sh hS.r0 ?_
    refine x_geti (p2 := 23) (kz := 0) rfl dX0_arrange_20 f_0_34 rfl rfl hS.fr.sh ?_
    refine x_ic_ge (p2 := 26) (t := 55) (by decide) rfl dX0_arrange_23 (fun hc23 => ?_) (fun hc23 => ?_)
    · exact absurd hc23 (by omega)
    refine x_iload_n (p2 := 27) rfl dX0_arrange_26 rfl ?_
    refine x_aload_n (p2 := 28) rfl dX0_arrange_27 rfl ?_
    refine x_getr (p2 := 31) (kz := 0) rfl dX0_arrange_28 f_0_28 rfl rfl hS.sh hS.r0 ?_
    refine x_geti (p2 := 34) (kz := 0) rfl dX0_arrange_31 f_0_34 rfl rfl hS.fr.sh ?_
    refine x_ic_ge (p2 := 37) (t := 55) (by decide) rfl dX0_arrange_34 (fun hc34 => ?_) (fun hc34 => ?_)
    · skip
      refine x_aload_n (p2 := 56) rfl dX0_arrange_55 rfl ?_
      refine x_aload_n (p2 := 57) rfl dX0_arrange_56 rfl ?_
      refine x_getr (p2 := 60) (kz := 0) rfl dX0_arrange_57 f_0_28 rfl rfl hS.sh hS.r0 ?_
      refine x_geti (p2 := 63) (kz := 0) rfl dX0_arrange_60 f_0_34 rfl rfl hS.fr.sh ?_
      refine x_puti (p2 := 66) (kz := 5) rfl dX0_arrange_63 f_0_72 rfl rfl rfl hS.sh ?_
      refine x_vret dX0_arrange_66 rfl ?_
      rw [if_pos (by omega)] at hq
      exact hq _ (fun c z1 z2 z3 => by rw [xu_c z1]) (by rw [xu_c (by omega)]) (by rw [xu_s]) (by rw [xu_j (by omega)])
    · skip
      have hh9 := hhf_bd (hd := M1 (C + 1)) (wt := wtf (M1 F 0) (M1 (C + 1)) (M1 (S + 1)) (M1 (S + 2)) (M1 (S + 3)) (btb (M1 C 4))) (pl := btb (M1 C 4)) (n := M1 F 0) (M1 F 0).toNat 0 (-1) (-1) (by omega) (by omega) (by omega) (by omega)
      refine x_aload_n (p2 := 38) rfl dX0_arrange_37 rfl ?_
      refine x_aload_n (p2 := 39) rfl dX0_arrange_38 rfl ?_
      refine x_aload_n (p2 := 40) rfl dX0_arrange_39 rfl ?_
      refine x_aload_n (p2 := 41) rfl dX0_arrange_40 rfl ?_
      refine x_v1 (p2 := 44) rfl dX0_arrange_41 l_0_68 ok_X0_heaviestHead rfl hC.sh rfl ?_
      refine t_X0_heaviestHead hC hS hG ?_
      refine x_iload_n (p2 := 45) rfl dX0_arrange_44 rfl ?_
      refine x_v3 (p2 := 48) rfl dX0_arrange_45 l_0_64 ok_X0_placeChain rfl hC.sh rfl ?_
      refine t_X0_placeChain hC hS hd (by omega) (by omega) hh9 hN hs (fun M9 hf9 h39 ho9 hp9 hq9 hr9 => ?_)
      refine x_istore_n (p2 := 49) (i := 2) (L2 := [(0, _), (1, _), (2, _), (3, _)]) rfl dX0_arrange_48 rfl ⟨rfl, Nat.le_of_ble_eq_true rfl⟩ rfl ?_
      refine x_iinc (p2 := 52) (L2 := [(0, _), (1, _), (2, _), (3, _)]) rfl dX0_arrange_49 rfl ⟨by omega, by omega⟩ ⟨rfl, Nat.le_of_ble_eq_true rfl⟩ rfl ?_
      refine x_goto (t := 15) (by decide) dX0_arrange_52 ?_
      refine x_pick (L2 := [(0, _), (1, _), (2, _), (3, _)]) [0, 1, 2, 3] rfl ?_
      rw [if_neg (by omega)] at hq
      have eF := hf9 F (by omega) (by omega)
      have e1 := hf9 (S + 1) (by omega) (by omega)
      have e2 := hf9 (S + 2) (by omega) (by omega)
      have e3 := hf9 (S + 3) (by omega) (by omega)
      have e4 := hf9 (C + 1) (by omega) (by omega)
      have e5 := hf9 (C + 2) (by omega) (by omega)
      have e6 := hf9 S (by omega) (by omega)
      have hpi := pcf_i (nx := M1 (C + 2)) (M1 F 0 - p).toNat p (nch (M1 F 0) (M1 (C + 1)) (M1 (S + 1)) (M1 (S + 2)) (M1 (S + 3)) (M1 C 4)) (M1 (S + 4)) (M1 C 4)
      refine ih (r + 1) _ M9 (by rw [eF, e1, e2, e3]; exact hG) (by omega) (by rw [eF]; omega) (by unfold nch at hpi; omega) (by rw [eF, e5]; exact hN) ⟨hq9, hr9⟩ (fun M2 a1 a2 a3 a4 => ?_)
      rw [eF, e1, e2, e3, e4, e5, ho9, hp9] at a2
      rw [eF] at a3
      rw [e6] at a4
      exact hq M2 (fun c z1 z2 z3 => (a1 c z1 z2 z3).trans (hf9 c z2 z3)) a2 a3 a4
set_option maxHeartbeats 4000000 in
theorem t_X0_arrange {C S F : Nat} (hC : isCh σ ρ C) (hS : isSt σ ρ S F) (hd : S + 4 < C) (hG : wfG (M F 0) (M (S + 1)) (M (S + 2)) (M (S + 3))) (hN : ∀ x, 0 ≤ x → x < M F 0 → -1 ≤ M (C + 2) x ∧ M (C + 2) x < M F 0) (hq : ∀ M2, (∀ c, c ≠ S → c ≠ C → c ≠ S + 4 → M2 c = M c) → M2 (S + 4) = aro (M F 0) (M (C + 1)) (M (C + 2)) (M (S + 1)) (M (S + 2)) (M (S + 3)) (M (S + 4)) → M2 S 5 = M F 0 → M2 S 6 = M S 6 → Q none (σ, ρ, M2)) : xX G mX0_arrange 0 0 0 [(0, xP C), (1, xP S)] [] (σ, ρ, M) Q := by
  have hlt := hS.lt
  have hn1 := hG.1
  have hn8 := hG.2.1
  have hs : 0 ≤ xu M C 4 0 C 4 ∧ xu M C 4 0 C 4 < 256 := by rw [xu_s]; omega
  have eF0 := xu_c (M := M) (j := 4) (v := 0) (show F ≠ C by omega)
  have e10 := xu_c (M := M) (j := 4) (v := 0) (show S + 1 ≠ C by omega)
  have e20 := xu_c (M := M) (j := 4) (v := 0) (show S + 2 ≠ C by omega)
  have e30 := xu_c (M := M) (j := 4) (v := 0) (show S + 3 ≠ C by omega)
  have e40 := xu_c (M := M) (j := 4) (v := 0) (show C + 1 ≠ C by omega)
  have e50 := xu_c (M := M) (j := 4) (v := 0) (show C + 2 ≠ C by omega)
  have e60 := xu_c (M := M) (j := 4) (v := 0) (show S + 4 ≠ C by omega)
  have e70 := xu_c (M := M) (j := 4) (v := 0) (show S ≠ C by omega)
  have eF00 : xu M C 4 0 F 0 = M F 0 := by rw [eF0]
  refine x_aload_n (p2 := 1) rfl dX0_arrange_0 rfl ?_
  refine x_iconst (p2 := 2) rfl dX0_arrange_1 ⟨by decide, by decide⟩ ?_
  refine x_puti (p2 := 5) (kz := 4) rfl dX0_arrange_2 f_0_25 rfl rfl rfl hC.sh ?_
  refine x_aload_n (p2 := 6) rfl dX0_arrange_5 rfl ?_
  refine x_aload_n (p2 := 7) rfl dX0_arrange_6 rfl ?_
  refine x_iconst (p2 := 8) rfl dX0_arrange_7 ⟨by decide, by decide⟩ ?_
  refine x_iconst (p2 := 9) rfl dX0_arrange_8 ⟨by decide, by decide⟩ ?_
  refine x_v3 (p2 := 12) rfl dX0_arrange_9 l_0_64 ok_X0_placeChain rfl hC.sh rfl ?_
  refine t_X0_placeChain hC hS hd (by omega) (by omega) (by omega) (by rw [eF0, e50]; exact hN) hs (fun M9 hf9 h39 ho9 hp9 hq9 hr9 => ?_)
  refine x_istore_n (p2 := 13) (i := 2) (L2 := [(0, _), (1, _), (2, _)]) rfl dX0_arrange_12 rfl ⟨rfl, Nat.le_of_ble_eq_true rfl⟩ rfl ?_
  refine x_iconst (p2 := 14) rfl dX0_arrange_13 ⟨by decide, by decide⟩ ?_
  refine x_istore_n (p2 := 15) (i := 3) (L2 := [(0, _), (1, _), (2, _), (3, _)]) rfl dX0_arrange_14 rfl ⟨rfl, Nat.le_of_ble_eq_true rfl⟩ rfl ?_
  refine x_pick (L2 := [(0, _), (1, _), (2, _), (3, _)]) [0, 1, 2, 3] rfl ?_
  have hpi := pcf_i (nx := M (C + 2)) (M F 0 - 0).toNat 0 0 (M (S + 4)) 0
  have eF := (hf9 F (by omega) (by omega)).trans eF0
  have e1 := (hf9 (S + 1) (by omega) (by omega)).trans e10
  have e2 := (hf9 (S + 2) (by omega) (by omega)).trans e20
  have e3 := (hf9 (S + 3) (by omega) (by omega)).trans e30
  have e4 := (hf9 (C + 1) (by omega) (by omega)).trans e40
  have e5 := (hf9 (C + 2) (by omega) (by omega)).trans e50
  have e6 := (hf9 S (by omega) (by omega)).trans e70
  rw [eF0, e50, e60, xu_s] at ho9 hp9
  rw [eF0, e50, e60, xu_s]
  refine t_ar_l hC hS hd (M F 0 - 1).toNat 1 _ M9 (by rw [eF, e1, e2, e3]; exact hG) (by omega) (by rw [eF]; omega) hpi.1 (by rw [eF, e5]; exact hN) ⟨hq9, hr9⟩ (fun M2 a1 a2 a3 a4 => ?_)
  rw [eF, e1, e2, e3, e4, e5, ho9, hp9] at a2
  rw [eF] at a3
  rw [e6] at a4
  exact hq M2 (fun c z1 z2 z3 => by rw [a1 c z1 z2 z3, hf9 c z2 z3, xu_c z2]) a2 a3 a4
end XCO
