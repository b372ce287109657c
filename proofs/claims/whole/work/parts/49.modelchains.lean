section XMK
variable {G : xG} {σ : List (Nat × Nat)} {ρ : Nat → Int → Option Nat} {M : Nat → Int → Int} {Q : Option xV → xH → Prop}
set_option maxHeartbeats 4000000 in
theorem t_X10_chainHead {D : Nat} (hD : isMd σ ρ D) {n en : Int} {byt : Int → Int} {v : vV} (hM : mdI M D n en byt v) (hW : wfV n en byt v) {b : Int} (k1 : 0 ≤ b ∧ b < n → ∀ M2, rq M M2 D → Q (some (xI ((mgl n v.1 v.2.1 v.2.2.1).1 b))) (σ, ρ, M2)) (k0 : ¬ (0 ≤ b ∧ b < n) → Q (some (xI (-1))) (σ, ρ, M)) : xX G mX10_chainHead 0 0 0 [(0, xP D), (1, xI b)] [] (σ, ρ, M) Q := by
  obtain ⟨hn, hen, hyb, hr⟩ := id hM
  have hG := hW.1
  have hO := hW.2.1
  have hA := hW.2.2.1
  have he : M D 4 = en ∧ 0 ≤ en ∧ en ≤ 99 := ⟨hen, hW.2.2.2.1⟩
  have hy : ∀ b, 0 ≤ b → b < n → M (D + 2) b = byt b ∧ 0 ≤ byt b ∧ byt b ≤ 9 := fun b a c => ⟨hyb b a c, hW.2.2.2.2 b a c⟩
  have h8 := hG.2.1
  have h1 := hG.1
  have hx2 : ∀ b, 0 ≤ b → b < n → v.1 b ≤ 2 := fun b a c => (hG.2.2 b a c).2.1
  have hO5 := hO.2.2.2
  refine x_aload_n (p2 := 1) rfl dX10_chainHead_0 rfl ?_
  refine x_iload_n (p2 := 2) rfl dX10_chainHead_1 rfl ?_
  refine x_v1 (p2 := 5) rfl dX10_chainHead_2 l_10_61 ok_X10_isBlock rfl hD.sh rfl ?_
  refine t_X10_isBlock hD (by rw [hn]; omega) (fun hb2 => ?_) (fun hb2 => ?_)
  all_goals rw [hn] at hb2
  · skip
    refine x_if_ne (p2 := 8) (t := 10) (by decide) rfl dX10_chainHead_5 (fun _ => ?_) (fun hc => absurd hc (by decide))
    refine x_aload_n (p2 := 11) rfl dX10_chainHead_10 rfl ?_
    refine x_v0 (p2 := 14) rfl dX10_chainHead_11 l_10_147 ok_X10_layChains rfl hD.sh rfl ?_
    refine t_X10_layChains hD hn hr hG (fun M11 hf11 hc11 => ?_)
    refine x_aload_n (p2 := 15) rfl dX10_chainHead_14 rfl ?_
    refine x_getr (p2 := 18) (kz := 18) rfl dX10_chainHead_15 f_10_41 rfl rfl hD.sh hD.r18 ?_
    refine x_iload_n (p2 := 19) rfl dX10_chainHead_18 rfl ?_
    refine x_iald (p2 := 20) rfl dX10_chainHead_19 hD.a18 (by omega) (by omega) ?_
    refine x_iret dX10_chainHead_20 rfl ?_
    rw [hc11.1 b hb2.1 hb2.2]
    exact k1 hb2 _ ⟨fun c z => hf11 c (by omega) (by omega), fun f z => by rw [hf11 D (by omega) (by omega)]⟩
  · skip
    refine x_if_ne (p2 := 8) (t := 10) (by decide) rfl dX10_chainHead_5 (fun hc => absurd hc (by decide)) (fun _ => ?_)
    refine x_iconst (p2 := 9) rfl dX10_chainHead_8 ⟨by decide, by decide⟩ ?_
    refine x_iret dX10_chainHead_9 rfl ?_
    exact k0 hb2
/-- what the reference has placed -/
def rpl (M : Nat → Int → Int) (D : Nat) (n : Int) (od : Int → Int) (ps p : Int) : Prop := (∀ i, 0 ≤ i → i < p → M (D + 3) (2 + i) = od i) ∧ ∀ x, 0 ≤ x → x < n → (M (D + 13) x ≠ 0 ↔ btb ps x = true)
set_option maxHeartbeats 4000000 in
theorem t_oc1 {D : Nat} (hD : isMd σ ρ D) {n ch : Int} {hd nx : Int → Int} (h8 : n ≤ 8) : ∀ (T : List Int) (p b : Int) (M1 : Nat → Int → Int) (od : Int → Int) (ps : Int), (T = [] ∧ b = -9 ∨ (lnk nx T ∧ ∃ t, T = b :: t)) → (∀ x ∈ T, 0 ≤ x ∧ x < n) → 0 ≤ p → p + T.length ≤ n → rch M1 D n (hd, nx) → rpl M1 D n od ps p → 0 ≤ ps → ps < 256 → (∀ M2, (∀ c, c ≠ D + 3 → c ≠ D + 13 → M2 c = M1 c) → (∀ y, y < 2 ∨ 10 ≤ y → M2 (D + 3) y = M1 (D + 3) y) → rpl M2 D n (plf T p od) (ads ps T) (p + T.length) → xX G mX10_orderByChains 0 0 80 [(0, xP D), (1, xI (p + T.length)), (2, xI ch)] [] (σ, ρ, M2) Q) → xX G mX10_orderByChains 0 0 45 [(0, xP D), (1, xI p), (2, xI ch), (3, xI b)] [] (σ, ρ, M1) Q := by
  intro T
  induction T with
  | nil =>
    intro p b M1 od ps hb hT hp hl hch hrp hs1 hs2 hq
    have hb9 : b = -9 := by
      rcases hb with h | h
      · exact h.2
      · exact h.1.elim
    have hq0 := hq M1 (fun _ _ _ => rfl) (fun _ _ => rfl) (by rw [List.length_nil, show p + ((0 : Nat) : Int) = p by omega]; exact hrp)
    rw [List.length_nil, show p + ((0 : Nat) : Int) = p by omega] at hq0
    refine x_iload_n (p2 := 46) rfl dX10_orderByChains_45 rfl ?_
    refine x_bipush (p2 := 48) rfl dX10_orderByChains_46 ⟨by decide, ⟨by decide, by decide⟩⟩ ?_
    refine x_ic_eq (p2 := 51) (t := 80) (by decide) rfl dX10_orderByChains_48 (fun hc48 => ?_) (fun hc48 => absurd hc48 (not_not_intro hb9))
    refine x_pick (L2 := [(0, _), (1, _), (2, _)]) [0, 1, 2] rfl ?_
    exact hq0
  | cons a t ih =>
    intro p b M1 od ps hb hT hp hl hch hrp hs1 hs2 hq
    obtain ⟨hlk, t2, ht2⟩ : lnk nx (a :: t) ∧ ∃ t2, a :: t = b :: t2 := by
      rcases hb with h | h
      · exact absurd h.1 (by simp)
      · exact h
    have hab : a = b := (List.cons.inj ht2).1
    subst hab
    have ha := hT a List.mem_cons_self
    rw [List.length_cons] at hl
    have hb9 : ¬ a = -9 := by omega
    have hnx := hch.2.1 a ha.1 ha.2
    have hcx := hch.2.2 a ha.1 ha.2
    refine x_iload_n (p2 := 46) rfl dX10_orderByChains_45 rfl ?_
    refine x_bipush (p2 := 48) rfl dX10_orderByChains_46 ⟨by decide, ⟨by decide, by decide⟩⟩ ?_
    refine x_ic_eq (p2 := 51) (t := 80) (by decide) rfl dX10_orderByChains_48 (fun hc48 => ?_) (fun hc48 => ?_)
    · exact absurd hc48 hb9
    refine x_aload_n (p2 := 52) rfl dX10_orderByChains_51 rfl ?_
    refine x_getr (p2 := 55) (kz := 5) rfl dX10_orderByChains_52 f_10_16 rfl rfl hD.sh hD.r5 ?_
    refine x_iconst (p2 := 56) rfl dX10_orderByChains_55 ⟨by decide, by decide⟩ ?_
    refine x_iload_n (p2 := 57) rfl dX10_orderByChains_56 rfl ?_
    refine x_iadd (p2 := 58) rfl dX10_orderByChains_57 ⟨by omega, by omega⟩ ?_
    refine x_iload_n (p2 := 59) rfl dX10_orderByChains_58 rfl ?_
    refine x_iast (p2 := 60) rfl dX10_orderByChains_59 hD.a5 (by omega) (by omega) ?_
    refine x_aload_n (p2 := 61) rfl dX10_orderByChains_60 rfl ?_
    refine x_getr (p2 := 64) (kz := 20) rfl dX10_orderByChains_61 f_10_47 rfl rfl hD.sh hD.r20 ?_
    refine x_iload_n (p2 := 65) rfl dX10_orderByChains_64 rfl ?_
    refine x_iconst (p2 := 66) rfl dX10_orderByChains_65 ⟨by decide, by decide⟩ ?_
    refine x_zast (p2 := 67) rfl dX10_orderByChains_66 hD.a20 (by omega) (by omega) (by omega) ?_
    refine x_iinc (p2 := 70) (L2 := [(0, _), (1, _), (2, _), (3, _)]) rfl dX10_orderByChains_67 rfl ⟨by omega, by omega⟩ ⟨rfl, Nat.le_of_ble_eq_true rfl⟩ rfl ?_
    refine x_aload_n (p2 := 71) rfl dX10_orderByChains_70 rfl ?_
    refine x_getr (p2 := 74) (kz := 19) rfl dX10_orderByChains_71 f_10_44 rfl rfl hD.sh hD.r19 ?_
    refine x_iload_n (p2 := 75) rfl dX10_orderByChains_74 rfl ?_
    refine x_iald (p2 := 76) rfl dX10_orderByChains_75 hD.a19 (by omega) (by omega) ?_
    rw [xu_c (show D + 12 ≠ D + 13 by omega), xu_c (show D + 12 ≠ D + 3 by omega), hnx]
    refine x_istore_n (p2 := 77) (i := 3) (L2 := [(0, _), (1, _), (2, _), (3, _)]) rfl dX10_orderByChains_76 rfl ⟨rfl, Nat.le_of_ble_eq_true rfl⟩ rfl ?_
    refine x_goto (t := 45) (by decide) dX10_orderByChains_77 ?_
    refine x_pick (L2 := [(0, _), (1, _), (2, _), (3, _)]) [0, 1, 2, 3] rfl ?_
    generalize hM5 : xu (xu M1 (D + 3) (2 + p) a) (D + 13) a 1 = M5
    have f1 : ∀ c, c ≠ D + 3 → c ≠ D + 13 → M5 c = M1 c := fun c z1 z2 => by rw [← hM5, xu_c z2, xu_c z1]
    have f2 : ∀ y, y ≠ 2 + p → M5 (D + 3) y = M1 (D + 3) y := fun y z => by rw [← hM5, xu_c (show D + 3 ≠ D + 13 by omega), xu_j z]
    have f3 : M5 (D + 3) (2 + p) = a := by rw [← hM5, xu_c (show D + 3 ≠ D + 13 by omega), xu_s]
    have f4 : ∀ y, y ≠ a → M5 (D + 13) y = M1 (D + 13) y := fun y z => by rw [← hM5, xu_j z, xu_c (show D + 13 ≠ D + 3 by omega)]
    have f5 : M5 (D + 13) a = 1 := by rw [← hM5, xu_s]
    refine ih (p + 1) _ M5 (upf od p a) (adb ps a) ?_ (fun x hx => hT x (List.mem_cons_of_mem _ hx)) (by omega) (by omega) ?_ ?_ (adb_bd hs1 hs2 ha.1 (by omega)).1 (adb_bd hs1 hs2 ha.1 (by omega)).2 (fun M2 g1 g2 g3 => ?_)
    · cases t with
      | nil =>
        refine Or.inl ⟨rfl, ?_⟩
        have h1 : nx a = -1 := hlk
        show rfo (nx a) = -9
        rw [h1]; exact if_pos rfl
      | cons y r =>
        refine Or.inr ⟨hlk.2, r, ?_⟩
        have h1 : nx a = y := hlk.1
        have hy := hT y (List.mem_cons_of_mem _ List.mem_cons_self)
        show y :: r = rfo (nx a) :: r
        rw [h1]; unfold rfo; rw [if_neg (by omega)]
    · exact ⟨fun x a1 a2 => by rw [f1 (D + 11) (by omega) (by omega)]; exact hch.1 x a1 a2, fun x a1 a2 => by rw [f1 (D + 12) (by omega) (by omega)]; exact hch.2.1 x a1 a2, hch.2.2⟩
    · refine ⟨fun i i0 i1 => ?_, fun x x0 x1 => ?_⟩
      · by_cases hi : i = p
        · rw [hi, f3, upf_s]
        · rw [f2 _ (by omega), upf_n hi]; exact hrp.1 i i0 (by omega)
      · rw [btb_adb hs1 hs2 ha.1 (by omega) x0 (by omega), Bool.or_eq_true, decide_eq_true_eq]
        by_cases hx : x = a
        · rw [hx, f5]
          exact ⟨fun _ => Or.inl rfl, fun _ => by omega⟩
        · rw [f4 x hx, hrp.2 x x0 x1]
          exact ⟨fun h => Or.inr h, fun h => h.elim (fun e => absurd e hx) (fun e => e)⟩
    · have hq2 := hq M2 (fun c z1 z2 => (g1 c z1 z2).trans (f1 c z1 z2)) (fun y z => (g2 y z).trans (f2 y (by omega)))
      rw [List.length_cons, show p + ((t.length + 1 : Nat) : Int) = p + 1 + t.length by omega] at hq2
      exact hq2 g3
set_option maxHeartbeats 4000000 in
theorem t_oc2 {D : Nat} (hD : isMd σ ρ D) {n : Int} {v : vV} (hn : M D 2 = n) (hr : smr n v (M (D + 3))) (hG : wfG n v.1 v.2.1 v.2.2.1) {hd : Int → Int} {p ps : Int} (hh : ∀ x, 0 ≤ x → x < n → M (D + 11) x = hd x) (hpl : ∀ x, 0 ≤ x → x < n → (M (D + 13) x ≠ 0 ↔ btb ps x = true)) : ∀ (k : Nat) (b ch g : Int), 0 ≤ b → b + k = n → -1 ≤ g → g ≤ 1584 → xX G mX10_orderByChains 0 0 35 [(0, xP D), (1, xI p), (2, xI (hhf hd (wtf n hd v.1 v.2.1 v.2.2.1 (btb ps)) (btb ps) k b ch g))] [] (σ, ρ, M) Q → xX G mX10_orderByChains 0 0 85 [(0, xP D), (1, xI p), (2, xI ch), (3, xI g), (4, xI b)] [] (σ, ρ, M) Q := by
  have h8 := hG.2.1
  have h1 := hG.1
  have hx2 : ∀ b, 0 ≤ b → b < n → v.1 b ≤ 2 := fun b a c => (hG.2.2 b a c).2.1
  intro k
  induction k with
  | zero =>
    intro b ch g h0 hm hg1 hg2 hq
    refine x_iload (p2 := 87) rfl dX10_orderByChains_85 rfl ?_
    refine x_aload_n (p2 := 88) rfl dX10_orderByChains_87 rfl ?_
    refine x_geti (p2 := 91) (kz := 2) rfl dX10_orderByChains_88 f_10_53 rfl rfl hD.sh ?_
    rw [hn]
    refine x_ic_ge (p2 := 94) (t := 142) (by decide) rfl dX10_orderByChains_91 (fun hc91 => ?_) (fun hc91 => absurd hc91 (by omega))
    refine x_goto (t := 35) (by decide) dX10_orderByChains_142 ?_
    refine x_pick (L2 := [(0, _), (1, _), (2, _)]) [0, 1, 2] rfl ?_
    exact hq
  | succ k ih =>
    intro b ch g h0 hm hg1 hg2 hq
    have hhb := hh b h0 (by omega)
    have hpb := hpl b h0 (by omega)
    have hwb := wtf_bd (hd := hd) (pl := btb ps) (c := b) hG
    unfold hhf at hq
    refine x_iload (p2 := 87) rfl dX10_orderByChains_85 rfl ?_
    refine x_aload_n (p2 := 88) rfl dX10_orderByChains_87 rfl ?_
    refine x_geti (p2 := 91) (kz := 2) rfl dX10_orderByChains_88 f_10_53 rfl rfl hD.sh ?_
    rw [hn]
    refine x_ic_ge (p2 := 94) (t := 142) (by decide) rfl dX10_orderByChains_91 (fun hc91 => ?_) (fun hc91 => ?_)
    · exact absurd hc91 (by omega)
    refine x_aload_n (p2 := 95) rfl dX10_orderByChains_94 rfl ?_
    refine x_getr (p2 := 98) (kz := 18) rfl dX10_orderByChains_95 f_10_41 rfl rfl hD.sh hD.r18 ?_
    refine x_iload (p2 := 100) rfl dX10_orderByChains_98 rfl ?_
    refine x_iald (p2 := 101) rfl dX10_orderByChains_100 hD.a18 (by omega) (by omega) ?_
    refine x_iload (p2 := 103) rfl dX10_orderByChains_101 rfl ?_
    refine x_ic_ne (p2 := 106) (t := 136) (by decide) rfl dX10_orderByChains_103 (fun hc103 => ?_) (fun hc103 => ?_)
    · skip
      refine x_iinc (p2 := 139) (L2 := [(0, _), (1, _), (2, _), (3, _), (4, _)]) rfl dX10_orderByChains_136 rfl ⟨by omega, by omega⟩ ⟨rfl, Nat.le_of_ble_eq_true rfl⟩ rfl ?_
      refine x_goto (t := 85) (by decide) dX10_orderByChains_139 ?_
      refine x_pick (L2 := [(0, _), (1, _), (2, _), (3, _), (4, _)]) [0, 1, 2, 3, 4] rfl ?_
      first
        | (have hne : ¬ (hd b = b ∧ ¬ btb ps b = true ∧ g < (wtf n hd v.1 v.2.1 v.2.2.1 (btb ps)) b) := by
             intro z
             first
               | exact hc103 (by rw [hhb]; exact z.1)
               | exact z.2.1 (hpb.1 hc113)
               | exact absurd z.2.2 (Int.not_lt.2 hc123)
           rw [if_neg hne] at hq
           exact ih _ _ _ (by omega) (by omega) hg1 hg2 hq)
        | (rw [if_pos ⟨by rw [← hhb]; exact hc103, fun z => hpb.2 z (by omega), by omega⟩] at hq
           exact ih _ _ _ (by omega) (by omega) (by omega) (by omega) hq)
    · skip
      refine x_aload_n (p2 := 107) rfl dX10_orderByChains_106 rfl ?_
      refine x_getr (p2 := 110) (kz := 20) rfl dX10_orderByChains_107 f_10_47 rfl rfl hD.sh hD.r20 ?_
      refine x_iload (p2 := 112) rfl dX10_orderByChains_110 rfl ?_
      refine x_zald (p2 := 113) rfl dX10_orderByChains_112 hD.a20 (by omega) (by omega) ?_
      refine x_if_ne (p2 := 116) (t := 136) (by decide) rfl dX10_orderByChains_113 (fun hc113 => ?_) (fun hc113 => ?_)
      · skip
        refine x_iinc (p2 := 139) (L2 := [(0, _), (1, _), (2, _), (3, _), (4, _)]) rfl dX10_orderByChains_136 rfl ⟨by omega, by omega⟩ ⟨rfl, Nat.le_of_ble_eq_true rfl⟩ rfl ?_
        refine x_goto (t := 85) (by decide) dX10_orderByChains_139 ?_
        refine x_pick (L2 := [(0, _), (1, _), (2, _), (3, _), (4, _)]) [0, 1, 2, 3, 4] rfl ?_
        first
          | (have hne : ¬ (hd b = b ∧ ¬ btb ps b = true ∧ g < (wtf n hd v.1 v.2.1 v.2.2.1 (btb ps)) b) := by
               intro z
               first
                 | exact hc103 (by rw [hhb]; exact z.1)
                 | exact z.2.1 (hpb.1 hc113)
                 | exact absurd z.2.2 (Int.not_lt.2 hc123)
             rw [if_neg hne] at hq
             exact ih _ _ _ (by omega) (by omega) hg1 hg2 hq)
          | (rw [if_pos ⟨by rw [← hhb]; exact hc103, fun z => hpb.2 z (by omega), by omega⟩] at hq
             exact ih _ _ _ (by omega) (by omega) (by omega) (by omega) hq)
      · skip
        refine x_aload_n (p2 := 117) rfl dX10_orderByChains_116 rfl ?_
        refine x_iload (p2 := 119) rfl dX10_orderByChains_117 rfl ?_
        refine x_v1 (p2 := 122) rfl dX10_orderByChains_119 l_10_153 ok_X10_weightOf rfl hD.sh rfl ?_
        refine t_X10_weightOf hD (hd := hd) (pl := btb ps) hn hr hG hh hpl ?_
        refine x_iload_n (p2 := 123) rfl dX10_orderByChains_122 rfl ?_
        refine x_ic_le (p2 := 126) (t := 136) (by decide) rfl dX10_orderByChains_123 (fun hc123 => ?_) (fun hc123 => ?_)
        · skip
          refine x_iinc (p2 := 139) (L2 := [(0, _), (1, _), (2, _), (3, _), (4, _)]) rfl dX10_orderByChains_136 rfl ⟨by omega, by omega⟩ ⟨rfl, Nat.le_of_ble_eq_true rfl⟩ rfl ?_
          refine x_goto (t := 85) (by decide) dX10_orderByChains_139 ?_
          refine x_pick (L2 := [(0, _), (1, _), (2, _), (3, _), (4, _)]) [0, 1, 2, 3, 4] rfl ?_
          first
            | (have hne : ¬ (hd b = b ∧ ¬ btb ps b = true ∧ g < (wtf n hd v.1 v.2.1 v.2.2.1 (btb ps)) b) := by
                 intro z
                 first
                   | exact hc103 (by rw [hhb]; exact z.1)
                   | exact z.2.1 (hpb.1 hc113)
                   | exact absurd z.2.2 (Int.not_lt.2 hc123)
               rw [if_neg hne] at hq
               exact ih _ _ _ (by omega) (by omega) hg1 hg2 hq)
            | (rw [if_pos ⟨by rw [← hhb]; exact hc103, fun z => hpb.2 z (by omega), by omega⟩] at hq
               exact ih _ _ _ (by omega) (by omega) (by omega) (by omega) hq)
        · skip
          refine x_aload_n (p2 := 127) rfl dX10_orderByChains_126 rfl ?_
          refine x_iload (p2 := 129) rfl dX10_orderByChains_127 rfl ?_
          refine x_v1 (p2 := 132) rfl dX10_orderByChains_129 l_10_153 ok_X10_weightOf rfl hD.sh rfl ?_
          refine t_X10_weightOf hD (hd := hd) (pl := btb ps) hn hr hG hh hpl ?_
          refine x_istore_n (p2 := 133) (i := 3) (L2 := [(0, _), (1, _), (2, _), (3, _), (4, _)]) rfl dX10_orderByChains_132 rfl ⟨rfl, Nat.le_of_ble_eq_true rfl⟩ rfl ?_
          refine x_iload (p2 := 135) rfl dX10_orderByChains_133 rfl ?_
          refine x_istore_n (p2 := 136) (i := 2) (L2 := [(0, _), (1, _), (2, _), (3, _), (4, _)]) rfl dX10_orderByChains_135 rfl ⟨rfl, Nat.le_of_ble_eq_true rfl⟩ rfl ?_
          refine x_iinc (p2 := 139) (L2 := [(0, _), (1, _), (2, _), (3, _), (4, _)]) rfl dX10_orderByChains_136 rfl ⟨by omega, by omega⟩ ⟨rfl, Nat.le_of_ble_eq_true rfl⟩ rfl ?_
          refine x_goto (t := 85) (by decide) dX10_orderByChains_139 ?_
          refine x_pick (L2 := [(0, _), (1, _), (2, _), (3, _), (4, _)]) [0, 1, 2, 3, 4] rfl ?_
          first
            | (have hne : ¬ (hd b = b ∧ ¬ btb ps b = true ∧ g < (wtf n hd v.1 v.2.1 v.2.2.1 (btb ps)) b) := by
                 intro z
                 first
                   | exact hc103 (by rw [hhb]; exact z.1)
                   | exact z.2.1 (hpb.1 hc113)
                   | exact absurd z.2.2 (Int.not_lt.2 hc123)
               rw [if_neg hne] at hq
               exact ih _ _ _ (by omega) (by omega) hg1 hg2 hq)
            | (rw [if_pos ⟨by rw [← hhb]; exact hc103, fun z => hpb.2 z (by omega), by omega⟩] at hq
               exact ih _ _ _ (by omega) (by omega) (by omega) (by omega) hq)
set_option maxHeartbeats 4000000 in
theorem t_oc3 {D : Nat} (hD : isMd σ ρ D) {n : Int} {v : vV} (hn : M D 2 = n) (hr : smr n v (M (D + 3))) (hG : wfG n v.1 v.2.1 v.2.2.1) {hd nx : Int → Int} {c : Int → List Int} (hC : chn n (hd, nx) c) : ∀ (k : Nat) (P : List Int) (od : Int → Int) (ps ch : Int) (M1 : Nat → Int → Int), apl n hd P od ps → (P.length : Int) < n → n ≤ P.length + k + 1 → 0 ≤ ch → ch < n → hd ch = ch → ch ∉ P → (∀ c, c ≠ D + 3 → c ≠ D + 13 → M1 c = M c) → (∀ y, y < 2 ∨ 10 ≤ y → M1 (D + 3) y = M (D + 3) y) → rch M1 D n (hd, nx) → rpl M1 D n od ps P.length → (∀ M2, (∀ c, c ≠ D + 3 → c ≠ D + 13 → M2 c = M c) → (∀ y, y < 2 ∨ 10 ≤ y → M2 (D + 3) y = M (D + 3) y) → (∀ i, 0 ≤ i → i < n → M2 (D + 3) (2 + i) = arf n hd nx v.1 v.2.1 v.2.2.1 k (pcf nx (n - P.length).toNat P.length ch od ps).1 (pcf nx (n - P.length).toNat P.length ch od ps).2.1 (pcf nx (n - P.length).toNat P.length ch od ps).2.2 i) → xX G mX10_orderByChains 0 0 145 [(0, xP D)] [] (σ, ρ, M2) Q) → xX G mX10_orderByChains 0 0 35 [(0, xP D), (1, xI P.length), (2, xI ch)] [] (σ, ρ, M1) Q := by
  have h8 := hG.2.1
  have h1 := hG.1
  have hx2 : ∀ b, 0 ≤ b → b < n → v.1 b ≤ 2 := fun b a c => (hG.2.2 b a c).2.1
  intro k
  induction k with
  | zero =>
    intro P od ps ch M1 hA hP hk h0 h3 h4 h5 hf1 hf2 hch hrp hq
    have hn1 : M1 D 2 = n := by rw [hf1 D (by omega) (by omega)]; exact hn
    obtain ⟨s1, s2, s3, s4⟩ := apl_step h8 hC hA h0 h3 h4 h5
    obtain ⟨⟨t, ht⟩, c2, c3, c4⟩ := hC.2.2 ch h0 h3 h4
    have s5 := s4
    rw [List.length_append, Int.natCast_add] at s5
    rw [s1] at hq
    refine x_iload_n (p2 := 36) rfl dX10_orderByChains_35 rfl ?_
    refine x_aload_n (p2 := 37) rfl dX10_orderByChains_36 rfl ?_
    refine x_geti (p2 := 40) (kz := 2) rfl dX10_orderByChains_37 f_10_53 rfl rfl hD.sh ?_
    rw [hn1]
    refine x_ic_ge (p2 := 43) (t := 145) (by decide) rfl dX10_orderByChains_40 (fun hc40 => ?_) (fun hc40 => ?_)
    · exact absurd hc40 (by omega)
    refine x_iload_n (p2 := 44) rfl dX10_orderByChains_43 rfl ?_
    refine x_istore_n (p2 := 45) (i := 3) (L2 := [(0, _), (1, _), (2, _), (3, _)]) rfl dX10_orderByChains_44 rfl ⟨rfl, Nat.le_of_ble_eq_true rfl⟩ rfl ?_
    refine x_pick (L2 := [(0, _), (1, _), (2, _), (3, _)]) [0, 1, 2, 3] rfl ?_
    refine t_oc1 hD (hd := hd) (nx := nx) h8 (c ch) P.length ch M1 od ps (Or.inr ⟨c3, t, ht⟩) (fun x hx => by have := (c4 x).1 hx; exact ⟨this.1, this.2.1⟩) (by omega) s5 hch hrp hA.2.2.2.2.1.1 hA.2.2.2.2.1.2 (fun M2 g1 g2 g3 => ?_)
    have k1 : ∀ c, c ≠ D + 3 → c ≠ D + 13 → M2 c = M c := fun c z1 z2 => (g1 c z1 z2).trans (hf1 c z1 z2)
    have k2 : ∀ y, y < 2 ∨ 10 ≤ y → M2 (D + 3) y = M (D + 3) y := fun y z => (g2 y z).trans (hf2 y z)
    have hn2 : M2 D 2 = n := by rw [k1 D (by omega) (by omega)]; exact hn
    have hr2 := smr_o hr h8 k2 (od2 := fun i => M2 (D + 3) (2 + i)) (fun i _ _ => rfl) hx2
    have hch2 : rch M2 D n (hd, nx) := ⟨fun x a1 a2 => by rw [g1 (D + 11) (by omega) (by omega)]; exact hch.1 x a1 a2, fun x a1 a2 => by rw [g1 (D + 12) (by omega) (by omega)]; exact hch.2.1 x a1 a2, hch.2.2⟩
    refine x_iconst (p2 := 81) rfl dX10_orderByChains_80 ⟨by decide, by decide⟩ ?_
    refine x_istore_n (p2 := 82) (i := 3) (L2 := [(0, _), (1, _), (2, _), (3, _)]) rfl dX10_orderByChains_81 rfl ⟨rfl, Nat.le_of_ble_eq_true rfl⟩ rfl ?_
    refine x_iconst (p2 := 83) rfl dX10_orderByChains_82 ⟨by decide, by decide⟩ ?_
    refine x_istore (p2 := 85) (i := 4) (L2 := [(0, _), (1, _), (2, _), (3, _), (4, _)]) rfl dX10_orderByChains_83 ⟨rfl, Nat.le_of_ble_eq_true rfl⟩ rfl ?_
    refine x_pick (L2 := [(0, _), (1, _), (2, _), (3, _), (4, _)]) [0, 1, 2, 3, 4] rfl ?_
    refine t_oc2 hD (n := n) hn2 hr2 hG (hd := hd) (ps := ads ps (c ch)) (fun x a1 a2 => hch2.1 x a1 a2) g3.2 n.toNat 0 ch (-1) (by omega) (by omega) (by omega) (by omega) ?_
    refine x_iload_n (p2 := 36) rfl dX10_orderByChains_35 rfl ?_
    refine x_aload_n (p2 := 37) rfl dX10_orderByChains_36 rfl ?_
    refine x_geti (p2 := 40) (kz := 2) rfl dX10_orderByChains_37 f_10_53 rfl rfl hD.sh ?_
    rw [hn2]
    refine x_ic_ge (p2 := 43) (t := 145) (by decide) rfl dX10_orderByChains_40 (fun hc40 => ?_) (fun hc40 => absurd hc40 (by omega))
    refine x_pick (L2 := [(0, _)]) [0] rfl ?_
    refine hq M2 k1 k2 (fun i i0 i1 => ?_)
    rw [g3.1 i i0 (by omega)]
    rfl
  | succ k ih =>
    intro P od ps ch M1 hA hP hk h0 h3 h4 h5 hf1 hf2 hch hrp hq
    have hn1 : M1 D 2 = n := by rw [hf1 D (by omega) (by omega)]; exact hn
    obtain ⟨s1, s2, s3, s4⟩ := apl_step h8 hC hA h0 h3 h4 h5
    obtain ⟨⟨t, ht⟩, c2, c3, c4⟩ := hC.2.2 ch h0 h3 h4
    have s5 := s4
    rw [List.length_append, Int.natCast_add] at s5
    rw [s1] at hq
    refine x_iload_n (p2 := 36) rfl dX10_orderByChains_35 rfl ?_
    refine x_aload_n (p2 := 37) rfl dX10_orderByChains_36 rfl ?_
    refine x_geti (p2 := 40) (kz := 2) rfl dX10_orderByChains_37 f_10_53 rfl rfl hD.sh ?_
    rw [hn1]
    refine x_ic_ge (p2 := 43) (t := 145) (by decide) rfl dX10_orderByChains_40 (fun hc40 => ?_) (fun hc40 => ?_)
    · exact absurd hc40 (by omega)
    refine x_iload_n (p2 := 44) rfl dX10_orderByChains_43 rfl ?_
    refine x_istore_n (p2 := 45) (i := 3) (L2 := [(0, _), (1, _), (2, _), (3, _)]) rfl dX10_orderByChains_44 rfl ⟨rfl, Nat.le_of_ble_eq_true rfl⟩ rfl ?_
    refine x_pick (L2 := [(0, _), (1, _), (2, _), (3, _)]) [0, 1, 2, 3] rfl ?_
    refine t_oc1 hD (hd := hd) (nx := nx) h8 (c ch) P.length ch M1 od ps (Or.inr ⟨c3, t, ht⟩) (fun x hx => by have := (c4 x).1 hx; exact ⟨this.1, this.2.1⟩) (by omega) s5 hch hrp hA.2.2.2.2.1.1 hA.2.2.2.2.1.2 (fun M2 g1 g2 g3 => ?_)
    have k1 : ∀ c, c ≠ D + 3 → c ≠ D + 13 → M2 c = M c := fun c z1 z2 => (g1 c z1 z2).trans (hf1 c z1 z2)
    have k2 : ∀ y, y < 2 ∨ 10 ≤ y → M2 (D + 3) y = M (D + 3) y := fun y z => (g2 y z).trans (hf2 y z)
    have hn2 : M2 D 2 = n := by rw [k1 D (by omega) (by omega)]; exact hn
    have hr2 := smr_o hr h8 k2 (od2 := fun i => M2 (D + 3) (2 + i)) (fun i _ _ => rfl) hx2
    have hch2 : rch M2 D n (hd, nx) := ⟨fun x a1 a2 => by rw [g1 (D + 11) (by omega) (by omega)]; exact hch.1 x a1 a2, fun x a1 a2 => by rw [g1 (D + 12) (by omega) (by omega)]; exact hch.2.1 x a1 a2, hch.2.2⟩
    refine x_iconst (p2 := 81) rfl dX10_orderByChains_80 ⟨by decide, by decide⟩ ?_
    refine x_istore_n (p2 := 82) (i := 3) (L2 := [(0, _), (1, _), (2, _), (3, _)]) rfl dX10_orderByChains_81 rfl ⟨rfl, Nat.le_of_ble_eq_true rfl⟩ rfl ?_
    refine x_iconst (p2 := 83) rfl dX10_orderByChains_82 ⟨by decide, by decide⟩ ?_
    refine x_istore (p2 := 85) (i := 4) (L2 := [(0, _), (1, _), (2, _), (3, _), (4, _)]) rfl dX10_orderByChains_83 ⟨rfl, Nat.le_of_ble_eq_true rfl⟩ rfl ?_
    refine x_pick (L2 := [(0, _), (1, _), (2, _), (3, _), (4, _)]) [0, 1, 2, 3, 4] rfl ?_
    refine t_oc2 hD (n := n) hn2 hr2 hG (hd := hd) (ps := ads ps (c ch)) (fun x a1 a2 => hch2.1 x a1 a2) g3.2 n.toNat 0 ch (-1) (by omega) (by omega) (by omega) (by omega) ?_
    by_cases hfull : n ≤ (P.length : Int) + (c ch).length
    · refine x_iload_n (p2 := 36) rfl dX10_orderByChains_35 rfl ?_
      refine x_aload_n (p2 := 37) rfl dX10_orderByChains_36 rfl ?_
      refine x_geti (p2 := 40) (kz := 2) rfl dX10_orderByChains_37 f_10_53 rfl rfl hD.sh ?_
      rw [hn2]
      refine x_ic_ge (p2 := 43) (t := 145) (by decide) rfl dX10_orderByChains_40 (fun hc40 => ?_) (fun hc40 => absurd hc40 (by omega))
      refine x_pick (L2 := [(0, _)]) [0] rfl ?_
      refine hq M2 k1 k2 (fun i i0 i1 => ?_)
      rw [g3.1 i i0 (by omega)]
      unfold arf
      rw [if_pos hfull]
    · have hh := apl_head hG hC s2 (by rw [List.length_append, Int.natCast_add]; omega)
      rw [hh.2 ch]
      unfold arf at hq
      rw [if_neg hfull] at hq
      have hrp2 := g3
      rw [show (P.length : Int) + ((c ch).length : Int) = ((P ++ c ch).length : Int) by rw [List.length_append, Int.natCast_add]] at hrp2 hq ⊢
      exact ih (P ++ c ch) _ _ _ M2 s2 (by rw [List.length_append, Int.natCast_add]; omega) (by rw [List.length_append, Int.natCast_add]; omega) hh.1.1 hh.1.2.1 hh.1.2.2.1 hh.1.2.2.2 k1 k2 hch2 hrp2 hq
set_option maxHeartbeats 4000000 in
theorem t_oc0 {D : Nat} (hD : isMd σ ρ D) {n : Int} (h8 : n ≤ 8) (hq : ∀ M2, (∀ c, c ≠ D + 13 → M2 c = M c) → (∀ x, 0 ≤ x → x < n → M2 (D + 13) x = 0) → xX G mX10_orderByChains 0 0 31 [(0, xP D)] [] (σ, ρ, M2) Q) : ∀ (k : Nat) (b : Int) (M1 : Nat → Int → Int), M1 D 2 = n → 0 ≤ b → b + k = n → (∀ c, c ≠ D + 13 → M1 c = M c) → (∀ x, 0 ≤ x → x < b → M1 (D + 13) x = 0) → xX G mX10_orderByChains 0 0 10 [(0, xP D), (1, xI b)] [] (σ, ρ, M1) Q := by
  intro k
  induction k with
  | zero =>
    intro b M1 hn h0 hm hf hI
    refine x_iload_n (p2 := 11) rfl dX10_orderByChains_10 rfl ?_
    refine x_aload_n (p2 := 12) rfl dX10_orderByChains_11 rfl ?_
    refine x_geti (p2 := 15) (kz := 2) rfl dX10_orderByChains_12 f_10_53 rfl rfl hD.sh ?_
    rw [hn]
    refine x_ic_ge (p2 := 18) (t := 31) (by decide) rfl dX10_orderByChains_15 (fun hc15 => ?_) (fun hc15 => absurd hc15 (by omega))
    refine x_pick (L2 := [(0, _)]) [0] rfl ?_
    exact hq M1 hf (fun x a1 a2 => hI x a1 (by omega))
  | succ k ih =>
    intro b M1 hn h0 hm hf hI
    refine x_iload_n (p2 := 11) rfl dX10_orderByChains_10 rfl ?_
    refine x_aload_n (p2 := 12) rfl dX10_orderByChains_11 rfl ?_
    refine x_geti (p2 := 15) (kz := 2) rfl dX10_orderByChains_12 f_10_53 rfl rfl hD.sh ?_
    rw [hn]
    refine x_ic_ge (p2 := 18) (t := 31) (by decide) rfl dX10_orderByChains_15 (fun hc15 => ?_) (fun hc15 => ?_)
    · exact absurd hc15 (by omega)
    refine x_aload_n (p2 := 19) rfl dX10_orderByChains_18 rfl ?_
    refine x_getr (p2 := 22) (kz := 20) rfl dX10_orderByChains_19 f_10_47 rfl rfl hD.sh hD.r20 ?_
    refine x_iload_n (p2 := 23) rfl dX10_orderByChains_22 rfl ?_
    refine x_iconst (p2 := 24) rfl dX10_orderByChains_23 ⟨by decide, by decide⟩ ?_
    refine x_zast (p2 := 25) rfl dX10_orderByChains_24 hD.a20 (by omega) (by omega) (by omega) ?_
    refine x_iinc (p2 := 28) (L2 := [(0, _), (1, _)]) rfl dX10_orderByChains_25 rfl ⟨by omega, by omega⟩ ⟨rfl, Nat.le_of_ble_eq_true rfl⟩ rfl ?_
    refine x_goto (t := 10) (by decide) dX10_orderByChains_28 ?_
    refine x_pick (L2 := [(0, _), (1, _)]) [0, 1] rfl ?_
    refine ih (b + 1) _ (by rw [xu_c (show D ≠ D + 13 by omega)]; exact hn) (by omega) (by omega) (fun c z => by rw [xu_c z]; exact hf c z) (fun x a1 a2 => ?_)
    by_cases hx : x = b
    · rw [hx, xu_s]
    · rw [xu_j hx]; exact hI x a1 (by omega)
set_option maxHeartbeats 4000000 in
theorem t_X10_orderByChains {D : Nat} (hD : isMd σ ρ D) {n en : Int} {byt : Int → Int} {v : vV} (hM : mdI M D n en byt v) (hW : wfV n en byt v) (hx : 0 ≤ M D 10 ∧ M D 10 < 14) (ha : 0 ≤ M D 9 ∧ M D 9 ≤ 14) {hd nx : Int → Int} (hd1 : agr n hd (mgl n v.1 v.2.1 v.2.2.1).1) (hd2 : agr n nx (mgl n v.1 v.2.1 v.2.2.1).2) (hq : ∀ M2, ra M M2 D n (v.1, v.2.1, v.2.2.1, aro n hd nx v.1 v.2.1 v.2.2.1 v.2.2.2.1, n, v.2.2.2.2.2) → Q (some (xI (tcs n v.1 v.2.1 v.2.2.1 (aro n hd nx v.1 v.2.1 v.2.2.1 v.2.2.2.1) n))) (σ, ρ, M2)) : xX G mX10_orderByChains 0 0 0 [(0, xP D)] [] (σ, ρ, M) Q := by
  obtain ⟨hn, hen, hyb, hr⟩ := id hM
  have hG := hW.1
  have hO := hW.2.1
  have hA := hW.2.2.1
  have he : M D 4 = en ∧ 0 ≤ en ∧ en ≤ 99 := ⟨hen, hW.2.2.2.1⟩
  have hy : ∀ b, 0 ≤ b → b < n → M (D + 2) b = byt b ∧ 0 ≤ byt b ∧ byt b ≤ 9 := fun b a c => ⟨hyb b a c, hW.2.2.2.2 b a c⟩
  have h8 := hG.2.1
  have h1 := hG.1
  have hx2 : ∀ b, 0 ≤ b → b < n → v.1 b ≤ 2 := fun b a c => (hG.2.2 b a c).2.1
  have hO5 := hO.2.2.2
  obtain ⟨c, hC0⟩ := mgl_ch hG
  have hC := chn_agr (by omega) hd1 hd2 hC0
  have hwA := aro_wf (od := v.2.2.2.1) hG hC
  refine x_aload_n (p2 := 1) rfl dX10_orderByChains_0 rfl ?_
  refine x_v0 (p2 := 4) rfl dX10_orderByChains_1 l_10_150 ok_X10_note rfl hD.sh rfl ?_
  refine t_X10_note hD hx ha (fun M1 hnt => ?_)
  have hM1 := hnt.i hM
  obtain ⟨hn1, hen1, hyb1, hr1⟩ := id hM1
  refine x_aload_n (p2 := 5) rfl dX10_orderByChains_4 rfl ?_
  refine x_v0 (p2 := 8) rfl dX10_orderByChains_5 l_10_147 ok_X10_layChains rfl hD.sh rfl ?_
  refine t_X10_layChains hD hn1 hr1 hG (fun M5 hf5 hc5 => ?_)
  refine x_iconst (p2 := 9) rfl dX10_orderByChains_8 ⟨by decide, by decide⟩ ?_
  refine x_istore_n (p2 := 10) (i := 1) (L2 := [(0, _), (1, _)]) rfl dX10_orderByChains_9 rfl ⟨rfl, Nat.le_of_ble_eq_true rfl⟩ rfl ?_
  refine x_pick (L2 := [(0, _), (1, _)]) [0, 1] rfl ?_
  refine t_oc0 hD h8 (fun M6 hf6 hp6 => ?_) n.toNat 0 M5 (by rw [hf5 D (by omega) (by omega)]; exact hn1) (by omega) (by omega) (fun _ _ => rfl) (fun x a1 a2 => by omega)
  have e36 : M6 (D + 3) = M1 (D + 3) := (hf6 _ (by omega)).trans (hf5 _ (by omega) (by omega))
  have hn6 : M6 D 2 = n := by rw [hf6 D (by omega), hf5 D (by omega) (by omega)]; exact hn1
  have hr6 : smr n v (M6 (D + 3)) := by rw [e36]; exact hr1
  have hc6 : rch M6 D n (hd, nx) := by
    refine ⟨fun x a1 a2 => ?_, fun x a1 a2 => ?_, fun x a1 a2 => ?_⟩
    · rw [hf6 (D + 11) (by omega)]
      show _ = hd x
      rw [hd1 x a1 a2]; exact hc5.1 x a1 a2
    · rw [hf6 (D + 12) (by omega)]
      show _ = rfo (nx x)
      rw [hd2 x a1 a2]; exact hc5.2.1 x a1 a2
    · have := hc5.2.2 x a1 a2
      show 0 ≤ hd x ∧ hd x < n ∧ -1 ≤ nx x ∧ nx x < n
      rw [hd1 x a1 a2, hd2 x a1 a2]; exact this
  refine x_iconst (p2 := 32) rfl dX10_orderByChains_31 ⟨by decide, by decide⟩ ?_
  refine x_istore_n (p2 := 33) (i := 1) (L2 := [(0, _), (1, _)]) rfl dX10_orderByChains_32 rfl ⟨rfl, Nat.le_of_ble_eq_true rfl⟩ rfl ?_
  refine x_iconst (p2 := 34) rfl dX10_orderByChains_33 ⟨by decide, by decide⟩ ?_
  refine x_istore_n (p2 := 35) (i := 2) (L2 := [(0, _), (1, _), (2, _)]) rfl dX10_orderByChains_34 rfl ⟨rfl, Nat.le_of_ble_eq_true rfl⟩ rfl ?_
  refine x_pick (L2 := [(0, _), (1, _), (2, _)]) [0, 1, 2] rfl ?_
  refine t_oc3 hD hn6 hr6 hG hC (n - 1).toNat [] v.2.2.2.1 0 0 M6 (apl_0 h8) (by rw [List.length_nil]; omega) (by rw [List.length_nil]; omega) (by omega) (by omega) hC.2.1 (by simp) (fun _ _ _ => rfl) (fun _ _ => rfl) hc6 ⟨fun i a1 a2 => by rw [List.length_nil] at a2; omega, fun x a1 a2 => ?_⟩ (fun M7 g1 g2 g3 => ?_)
  · rw [hp6 x a1 a2]
    have := btb_0 x.toNat (by omega)
    rw [show ((x.toNat : Nat) : Int) = x by omega] at this
    rw [this]
    exact ⟨fun h => absurd rfl h, fun h => by cases h⟩
  have hn7 : M7 D 2 = n := by rw [g1 D (by omega) (by omega)]; exact hn6
  have hr7 := smr_o hr6 h8 g2 (od2 := aro n hd nx v.1 v.2.1 v.2.2.1 v.2.2.2.1) g3 hx2
  refine x_aload_n (p2 := 146) rfl dX10_orderByChains_145 rfl ?_
  refine x_getr (p2 := 149) (kz := 5) rfl dX10_orderByChains_146 f_10_16 rfl rfl hD.sh hD.r5 ?_
  refine x_iconst (p2 := 150) rfl dX10_orderByChains_149 ⟨by decide, by decide⟩ ?_
  refine x_aload_n (p2 := 151) rfl dX10_orderByChains_150 rfl ?_
  refine x_geti (p2 := 154) (kz := 2) rfl dX10_orderByChains_151 f_10_53 rfl rfl hD.sh ?_
  rw [hn7]
  refine x_iast (p2 := 155) rfl dX10_orderByChains_154 hD.a5 (by omega) (by omega) ?_
  generalize hM8 : xu M7 (D + 3) 0 n = M8
  have f1 : ∀ c, c ≠ D + 3 → M8 c = M7 c := fun c z1 => by rw [← hM8, xu_c z1]
  have hr8 : smr n (v.1, v.2.1, v.2.2.1, aro n hd nx v.1 v.2.1 v.2.2.1 v.2.2.2.1, n, v.2.2.2.2.2) (M8 (D + 3)) := by
    refine ⟨fun b a1 a2 => ?_, fun b k a1 a2 a3 a4 => ?_, fun i a1 a2 => ?_, ?_, ?_⟩
    · rw [← hM8, xu_j (by omega)]; exact hr7.x a1 a2
    · have := hx2 b a1 a2
      rw [← hM8, xu_j (by omega), xu_j (by omega)]; exact ⟨hr7.t a1 a2 a3 a4, hr7.c a1 a2 a3 a4⟩
    · rw [← hM8, xu_j (by omega)]; exact hr7.o a1 a2
    · rw [← hM8, xu_s]
    · rw [← hM8, xu_j (by omega)]; exact hr7.a
  refine x_aload_n (p2 := 156) rfl dX10_orderByChains_155 rfl ?_
  refine x_aload_n (p2 := 157) rfl dX10_orderByChains_156 rfl ?_
  refine x_getr (p2 := 160) (kz := 5) rfl dX10_orderByChains_157 f_10_16 rfl rfl hD.sh hD.r5 ?_
  refine x_v1 (p2 := 163) rfl dX10_orderByChains_160 l_10_140 ok_X10_costOf rfl hD.sh rfl ?_
  refine t_X10_costOf hD hD.a5 (v := (v.1, v.2.1, v.2.2.1, aro n hd nx v.1 v.2.1 v.2.2.1 v.2.2.2.1, n, v.2.2.2.2.2)) (by rw [f1 D (by omega)]; exact hn7) hr8 hG hwA ?_
  refine x_iret dX10_orderByChains_163 rfl ?_
  have hfr : ∀ c, c ≠ D + 3 → c ≠ D + 11 → c ≠ D + 12 → c ≠ D + 13 → M8 c = M1 c := fun c z1 z2 z3 z4 => (f1 c z1).trans ((g1 c z1 z4).trans ((hf6 c z4).trans (hf5 c z2 z3)))
  exact hq M8 (ra.mk hnt (fun c z => hfr c (by omega) (by omega) (by omega) (by omega)) (fun f z => by rw [hfr D (by omega) (by omega) (by omega) (by omega)]) hr8)
end XMK
