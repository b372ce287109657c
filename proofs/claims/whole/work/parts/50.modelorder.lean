section XMO
variable {G : xG} {σ : List (Nat × Nat)} {ρ : Nat → Int → Option Nat} {M : Nat → Int → Int} {Q : Option xV → xH → Prop}
theorem fac_7 : ∀ k, k < 8 → fac k ≤ 5040 := by decide
theorem fac_s {k : Nat} : ((fac (k + 1) : Nat) : Int) / ((k + 1 : Nat) : Int) = ((fac k : Nat) : Int) := by
  show ((((k + 1) * fac k) / (k + 1) : Nat) : Int) = _
  rw [Nat.mul_div_cancel_left _ (Nat.succ_pos k)]
theorem frs_pos {n hot b : Int} {od : Int → Int} (h8 : n ≤ 8) (hO : wfO n od hot) (h0 : 1 ≤ b) (h1 : b < n) : pos n od b < hot ↔ Nat.testBit (frs od hot) b.toNat = true := by
  have hp := pos_ok hO (b := b) (by omega) h1
  rw [(frs_ok h8 hO).2.2.1 b (by omega) (by omega)]
  constructor
  · intro h
    refine ⟨pos n od b, ?_, h, hp.2.2⟩
    have : pos n od b ≠ 0 := fun e => by
      have := hp.2.2
      rw [e, hO.2.2.1] at this
      omega
    omega
  · rintro ⟨j, j1, j2, j3⟩
    have := pos_un hO (i := j) (by omega) (by have := hO.2.2.2.2; omega)
    rw [j3] at this
    omega
theorem lay_up {r : Int → Int} {L : List Int} {x : Int} (h : lay r L) : lay (upf r L.length x) (L ++ [x]) := by
  intro j y hj
  rcases Nat.lt_or_ge j L.length with e | e
  · rw [List.getElem?_append_left e] at hj
    rw [upf_n (by omega)]; exact h j y hj
  · rw [List.getElem?_append_right e] at hj
    have hl : j - L.length = 0 := by
      rcases Nat.eq_zero_or_pos (j - L.length) with e2 | e2
      · exact e2
      · rw [List.getElem?_eq_none (by rw [List.length_singleton]; omega)] at hj; cases hj
    rw [hl] at hj
    rw [show ((j : Nat) : Int) = (L.length : Int) by omega, upf_s]
    exact Option.some.inj hj
theorem lay_er {r r2 : Int → Int} {L : List Int} {i m : Nat} (hl : L.length = m + 1) (h : lay r L) (h1 : ∀ x : Int, r2 x = if (i : Int) ≤ x ∧ x < m then r (x + 1) else r x) : lay r2 (L.eraseIdx i) := by
  intro j y hj
  rw [List.getElem?_eraseIdx] at hj
  rw [h1]
  split at hj
  · rw [if_neg (by omega)]; exact h j y hj
  · have : j + 1 < L.length := by
      rcases Nat.lt_or_ge (j + 1) L.length with e | e
      · exact e
      · rw [List.getElem?_eq_none e] at hj; cases hj
    rw [if_pos (by omega), show (j : Int) + 1 = ((j + 1 : Nat) : Int) by omega]
    exact h (j + 1) y hj
set_option maxHeartbeats 4000000 in
theorem t_ly1 {D : Nat} (hD : isMd σ ρ D) {n nu al : Int} {v : vV} (hG : wfG n v.1 v.2.1 v.2.2.1) (hO : wfO n v.2.2.2.1 v.2.2.2.2.1) : ∀ (k : Nat) (b : Int) (A : List Int) (M1 : Nat → Int → Int), M1 D 2 = n → smr n v (M1 (D + 3)) → 1 ≤ b → b + k = n → (A.length : Int) + k ≤ 7 → lay (M1 (D + 14)) A → (∀ M2, (∀ c, c ≠ D + 14 → M2 c = M1 c) → lay (M2 (D + 14)) (A ++ elf (frs v.2.2.2.1 v.2.2.2.2.1) k b) → xX G mX10_layOrder 0 0 61 [(0, xP D), (1, xI nu), (2, xI al), (3, xI (A ++ elf (frs v.2.2.2.1 v.2.2.2.2.1) k b).length)] [] (σ, ρ, M2) Q) → xX G mX10_layOrder 0 0 16 [(0, xP D), (1, xI nu), (2, xI al), (3, xI A.length), (4, xI b)] [] (σ, ρ, M1) Q := by
  have h8 := hG.2.1
  intro k
  induction k with
  | zero =>
    intro b A M1 hn hr h0 hm hl hA hq
    have hq0 := hq M1 (fun _ _ => rfl) (by unfold elf; rw [List.append_nil]; exact hA)
    unfold elf at hq0
    rw [List.append_nil] at hq0
    refine x_iload (p2 := 18) rfl dX10_layOrder_16 rfl ?_
    refine x_aload_n (p2 := 19) rfl dX10_layOrder_18 rfl ?_
    refine x_geti (p2 := 22) (kz := 2) rfl dX10_layOrder_19 f_10_53 rfl rfl hD.sh ?_
    rw [hn]
    refine x_ic_ge (p2 := 25) (t := 61) (by decide) rfl dX10_layOrder_22 (fun hc22 => ?_) (fun hc22 => absurd hc22 (by omega))
    refine x_pick (L2 := [(0, _), (1, _), (2, _), (3, _)]) [0, 1, 2, 3] rfl ?_
    exact hq0
  | succ k ih =>
    intro b A M1 hn hr h0 hm hl hA hq
    have hfp := frs_pos h8 hO h0 (by omega)
    unfold elf at hq
    refine x_iload (p2 := 18) rfl dX10_layOrder_16 rfl ?_
    refine x_aload_n (p2 := 19) rfl dX10_layOrder_18 rfl ?_
    refine x_geti (p2 := 22) (kz := 2) rfl dX10_layOrder_19 f_10_53 rfl rfl hD.sh ?_
    rw [hn]
    refine x_ic_ge (p2 := 25) (t := 61) (by decide) rfl dX10_layOrder_22 (fun hc22 => ?_) (fun hc22 => ?_)
    · exact absurd hc22 (by omega)
    refine x_aload_n (p2 := 26) rfl dX10_layOrder_25 rfl ?_
    refine x_aload_n (p2 := 27) rfl dX10_layOrder_26 rfl ?_
    refine x_getr (p2 := 30) (kz := 5) rfl dX10_layOrder_27 f_10_16 rfl rfl hD.sh hD.r5 ?_
    refine x_iload (p2 := 32) rfl dX10_layOrder_30 rfl ?_
    refine x_v2 (p2 := 35) rfl dX10_layOrder_32 l_10_114 ok_X10_positionOf rfl hD.sh rfl ?_
    refine t_X10_positionOf hD hD.a5 hn hr hG hO (by omega) ?_
    refine x_aload_n (p2 := 36) rfl dX10_layOrder_35 rfl ?_
    refine x_getr (p2 := 39) (kz := 5) rfl dX10_layOrder_36 f_10_16 rfl rfl hD.sh hD.r5 ?_
    refine x_iconst (p2 := 40) rfl dX10_layOrder_39 ⟨by decide, by decide⟩ ?_
    refine x_iald (p2 := 41) rfl dX10_layOrder_40 hD.a5 (by omega) (by omega) ?_
    rw [hr.h]
    refine x_ic_ge (p2 := 44) (t := 55) (by decide) rfl dX10_layOrder_41 (fun hc41 => ?_) (fun hc41 => ?_)
    · skip
      refine x_iinc (p2 := 58) (L2 := [(0, _), (1, _), (2, _), (3, _), (4, _)]) rfl dX10_layOrder_55 rfl ⟨by omega, by omega⟩ ⟨rfl, Nat.le_of_ble_eq_true rfl⟩ rfl ?_
      refine x_goto (t := 16) (by decide) dX10_layOrder_58 ?_
      refine x_pick (L2 := [(0, _), (1, _), (2, _), (3, _), (4, _)]) [0, 1, 2, 3, 4] rfl ?_
      first
        | (rw [if_pos (hfp.1 hc41)] at hq
           have hq2 := hq
           rw [show A ++ b :: elf (frs v.2.2.2.1 v.2.2.2.2.1) k (b + 1) = (A ++ [b]) ++ elf (frs v.2.2.2.1 v.2.2.2.2.1) k (b + 1) by rw [List.append_assoc]; rfl] at hq2
           rw [show (A.length : Int) + 1 = ((A ++ [b]).length : Int) by rw [List.length_append, List.length_singleton]; omega]
           refine ih (b + 1) (A ++ [b]) _ ?_ ?_ (by omega) (by omega) ?_ ?_ (fun M2 g1 g2 => hq2 M2 (fun c z => (g1 c z).trans (xu_c z)) g2)
           · rw [xu_c (show D ≠ D + 14 by omega)]; exact hn
           · rw [xu_c (show D + 3 ≠ D + 14 by omega)]; exact hr
           · rw [List.length_append, List.length_singleton]; omega
           · rw [xu_eq, xw_s]; exact lay_up hA)
        | (rw [if_neg (fun z => absurd (hfp.2 z) (by omega))] at hq
           exact ih (b + 1) A M1 hn hr (by omega) (by omega) (by omega) hA hq)
    · skip
      refine x_aload_n (p2 := 45) rfl dX10_layOrder_44 rfl ?_
      refine x_getr (p2 := 48) (kz := 21) rfl dX10_layOrder_45 f_10_50 rfl rfl hD.sh hD.r21 ?_
      refine x_iload_n (p2 := 49) rfl dX10_layOrder_48 rfl ?_
      refine x_iload (p2 := 51) rfl dX10_layOrder_49 rfl ?_
      refine x_iast (p2 := 52) rfl dX10_layOrder_51 hD.a21 (by omega) (by omega) ?_
      refine x_iinc (p2 := 55) (L2 := [(0, _), (1, _), (2, _), (3, _), (4, _)]) rfl dX10_layOrder_52 rfl ⟨by omega, by omega⟩ ⟨rfl, Nat.le_of_ble_eq_true rfl⟩ rfl ?_
      refine x_iinc (p2 := 58) (L2 := [(0, _), (1, _), (2, _), (3, _), (4, _)]) rfl dX10_layOrder_55 rfl ⟨by omega, by omega⟩ ⟨rfl, Nat.le_of_ble_eq_true rfl⟩ rfl ?_
      refine x_goto (t := 16) (by decide) dX10_layOrder_58 ?_
      refine x_pick (L2 := [(0, _), (1, _), (2, _), (3, _), (4, _)]) [0, 1, 2, 3, 4] rfl ?_
      first
        | (rw [if_pos (hfp.1 hc41)] at hq
           have hq2 := hq
           rw [show A ++ b :: elf (frs v.2.2.2.1 v.2.2.2.2.1) k (b + 1) = (A ++ [b]) ++ elf (frs v.2.2.2.1 v.2.2.2.2.1) k (b + 1) by rw [List.append_assoc]; rfl] at hq2
           rw [show (A.length : Int) + 1 = ((A ++ [b]).length : Int) by rw [List.length_append, List.length_singleton]; omega]
           refine ih (b + 1) (A ++ [b]) _ ?_ ?_ (by omega) (by omega) ?_ ?_ (fun M2 g1 g2 => hq2 M2 (fun c z => (g1 c z).trans (xu_c z)) g2)
           · rw [xu_c (show D ≠ D + 14 by omega)]; exact hn
           · rw [xu_c (show D + 3 ≠ D + 14 by omega)]; exact hr
           · rw [List.length_append, List.length_singleton]; omega
           · rw [xu_eq, xw_s]; exact lay_up hA)
        | (rw [if_neg (fun z => absurd (hfp.2 z) (by omega))] at hq
           exact ih (b + 1) A M1 hn hr (by omega) (by omega) (by omega) hA hq)
set_option maxHeartbeats 4000000 in
theorem t_ly2 {D : Nat} (hD : isMd σ ρ D) {nu al r w i pk : Int} {m : Nat} (hm8 : m < 8) : ∀ (k : Nat) (x : Int) (M1 : Nat → Int → Int), 0 ≤ x → x + k = max x m → (∀ M2, (∀ c, c ≠ D + 14 → M2 c = M1 c) → (∀ y, M2 (D + 14) y = if x ≤ y ∧ y < m then M1 (D + 14) (y + 1) else M1 (D + 14) y) → xX G mX10_layOrder 0 0 145 [(0, xP D), (1, xI nu), (2, xI al), (3, xI (m : Nat)), (4, xI r), (5, xI w), (6, xI i)] [] (σ, ρ, M2) Q) → xX G mX10_layOrder 0 0 117 [(0, xP D), (1, xI nu), (2, xI al), (3, xI (m : Nat)), (4, xI r), (5, xI w), (6, xI i), (7, xI pk), (8, xI x)] [] (σ, ρ, M1) Q := by
  intro k
  induction k with
  | zero =>
    intro x M1 h0 hk hq
    refine x_iload (p2 := 119) rfl dX10_layOrder_117 rfl ?_
    refine x_iload_n (p2 := 120) rfl dX10_layOrder_119 rfl ?_
    refine x_ic_ge (p2 := 123) (t := 145) (by decide) rfl dX10_layOrder_120 (fun hc120 => ?_) (fun hc120 => absurd hc120 (by omega))
    refine x_pick (L2 := [(0, _), (1, _), (2, _), (3, _), (4, _), (5, _), (6, _)]) [0, 1, 2, 3, 4, 5, 6] rfl ?_
    exact hq M1 (fun _ _ => rfl) (fun y => by rw [if_neg (by omega)])
  | succ k ih =>
    intro x M1 h0 hk hq
    refine x_iload (p2 := 119) rfl dX10_layOrder_117 rfl ?_
    refine x_iload_n (p2 := 120) rfl dX10_layOrder_119 rfl ?_
    refine x_ic_ge (p2 := 123) (t := 145) (by decide) rfl dX10_layOrder_120 (fun hc120 => ?_) (fun hc120 => ?_)
    · exact absurd hc120 (by omega)
    refine x_aload_n (p2 := 124) rfl dX10_layOrder_123 rfl ?_
    refine x_getr (p2 := 127) (kz := 21) rfl dX10_layOrder_124 f_10_50 rfl rfl hD.sh hD.r21 ?_
    refine x_iload (p2 := 129) rfl dX10_layOrder_127 rfl ?_
    refine x_aload_n (p2 := 130) rfl dX10_layOrder_129 rfl ?_
    refine x_getr (p2 := 133) (kz := 21) rfl dX10_layOrder_130 f_10_50 rfl rfl hD.sh hD.r21 ?_
    refine x_iload (p2 := 135) rfl dX10_layOrder_133 rfl ?_
    refine x_iconst (p2 := 136) rfl dX10_layOrder_135 ⟨by decide, by decide⟩ ?_
    refine x_iadd (p2 := 137) rfl dX10_layOrder_136 ⟨by omega, by omega⟩ ?_
    refine x_iald (p2 := 138) rfl dX10_layOrder_137 hD.a21 (by omega) (by omega) ?_
    refine x_iast (p2 := 139) rfl dX10_layOrder_138 hD.a21 (by omega) (by omega) ?_
    refine x_iinc (p2 := 142) (L2 := [(0, _), (1, _), (2, _), (3, _), (4, _), (5, _), (6, _), (7, _), (8, _)]) rfl dX10_layOrder_139 rfl ⟨by omega, by omega⟩ ⟨rfl, Nat.le_of_ble_eq_true rfl⟩ rfl ?_
    refine x_goto (t := 117) (by decide) dX10_layOrder_142 ?_
    refine x_pick (L2 := [(0, _), (1, _), (2, _), (3, _), (4, _), (5, _), (6, _), (7, _), (8, _)]) [0, 1, 2, 3, 4, 5, 6, 7, 8] rfl ?_
    refine ih (x + 1) _ (by omega) (by omega) (fun M2 g1 g2 => hq M2 (fun c z => (g1 c z).trans (xu_c z)) (fun y => ?_))
    rw [g2 y]
    by_cases hy : y = x
    · rw [hy, if_neg (by omega), if_pos (by omega), xu_s]
    · by_cases h2 : x + 1 ≤ y ∧ y < m
      · rw [if_pos h2, if_pos (by omega), xu_j (by omega)]
      · rw [if_neg h2, if_neg (by omega), xu_j hy]
set_option maxHeartbeats 4000000 in
theorem t_ly3 {D : Nat} (hD : isMd σ ρ D) {nu al : Int} : ∀ (k : Nat) (L : List Int) (q : Nat) (i : Int) (M1 : Nat → Int → Int), L.length = k → q < fac k → 1 ≤ i → i + k ≤ 8 → (∀ x ∈ L, 0 ≤ x ∧ x < 8) → lay (M1 (D + 14)) L → (∀ M2, (∀ c, c ≠ D + 4 → c ≠ D + 14 → M2 c = M1 c) → (∀ x, M2 (D + 4) (2 + x) = plf (orl k L q) i (fun x => M1 (D + 4) (2 + x)) x) → Q none (σ, ρ, M2)) → xX G mX10_layOrder 0 0 70 [(0, xP D), (1, xI nu), (2, xI al), (3, xI (k : Nat)), (4, xI (q : Nat)), (5, xI (fac k : Nat)), (6, xI i)] [] (σ, ρ, M1) Q := by
  intro k
  induction k with
  | zero =>
    intro L q i M1 hl hq0 h0 hi hL hy hq
    refine x_iload_n (p2 := 71) rfl dX10_layOrder_70 rfl ?_
    refine x_if_le (p2 := 74) (t := 151) (by decide) rfl dX10_layOrder_71 (fun hc71 => ?_) (fun hc71 => absurd hc71 (by omega))
    refine x_vret dX10_layOrder_151 rfl ?_
    exact hq M1 (fun _ _ _ => rfl) (fun x => rfl)
  | succ k ih =>
    intro L q i M1 hl hq0 h0 hi hL hy hq
    have hfp : 0 < fac k := fac_pos k
    have hf7 := fac_7 (k + 1) (by omega)
    have hf6 := fac_7 k (by omega)
    have hpl : q / fac k < k + 1 := Nat.div_lt_of_lt_mul (by rw [Nat.mul_comm]; exact hq0)
    have hrl : q % fac k < fac k := Nat.mod_lt _ hfp
    obtain ⟨pk, hpk⟩ : ∃ pk, q / fac k = pk := ⟨_, rfl⟩
    obtain ⟨rs, hrs⟩ : ∃ rs, q % fac k = rs := ⟨_, rfl⟩
    have ep : ((q : Nat) : Int) / ((fac k : Nat) : Int) = ((pk : Nat) : Int) := by rw [← hpk]; rfl
    have er : ((q : Nat) : Int) % ((fac k : Nat) : Int) = ((rs : Nat) : Int) := by rw [← hrs]; rfl
    rw [hpk] at hpl
    rw [hrs] at hrl
    have hg : L[pk]? = some L[pk] := List.getElem?_eq_getElem (by omega)
    have hgx := hL _ (List.mem_of_getElem? hg)
    have hrow := hy pk _ hg
    have horl : orl (k + 1) L q = L[pk] :: orl k (L.eraseIdx pk) rs := by
      rw [orl, hpk, hrs, List.getD_eq_getElem?_getD, hg]; rfl
    generalize L[pk] = xx at hg hgx hrow horl
    refine x_iload_n (p2 := 71) rfl dX10_layOrder_70 rfl ?_
    refine x_if_le (p2 := 74) (t := 151) (by decide) rfl dX10_layOrder_71 (fun hc71 => ?_) (fun hc71 => ?_)
    · exact absurd hc71 (by omega)
    refine x_iload (p2 := 76) rfl dX10_layOrder_74 rfl ?_
    refine x_iload_n (p2 := 77) rfl dX10_layOrder_76 rfl ?_
    refine x_idiv (p2 := 78) rfl dX10_layOrder_77 (by omega) (by omega) ?_
    rw [fac_s]
    refine x_istore (p2 := 80) (i := 5) (L2 := [(0, _), (1, _), (2, _), (3, _), (4, _), (5, _), (6, _)]) rfl dX10_layOrder_78 ⟨rfl, Nat.le_of_ble_eq_true rfl⟩ rfl ?_
    refine x_iload (p2 := 82) rfl dX10_layOrder_80 rfl ?_
    refine x_iload (p2 := 84) rfl dX10_layOrder_82 rfl ?_
    refine x_idiv (p2 := 85) rfl dX10_layOrder_84 (by omega) (by omega) ?_
    rw [ep]
    refine x_istore (p2 := 87) (i := 7) (L2 := [(0, _), (1, _), (2, _), (3, _), (4, _), (5, _), (6, _), (7, _)]) rfl dX10_layOrder_85 ⟨rfl, Nat.le_of_ble_eq_true rfl⟩ rfl ?_
    refine x_iload (p2 := 89) rfl dX10_layOrder_87 rfl ?_
    refine x_iload (p2 := 91) rfl dX10_layOrder_89 rfl ?_
    refine x_irem (p2 := 92) rfl dX10_layOrder_91 (by omega) (by omega) ?_
    rw [er]
    refine x_istore (p2 := 94) (i := 4) (L2 := [(0, _), (1, _), (2, _), (3, _), (4, _), (5, _), (6, _), (7, _)]) rfl dX10_layOrder_92 ⟨rfl, Nat.le_of_ble_eq_true rfl⟩ rfl ?_
    refine x_aload_n (p2 := 95) rfl dX10_layOrder_94 rfl ?_
    refine x_getr (p2 := 98) (kz := 6) rfl dX10_layOrder_95 f_10_19 rfl rfl hD.sh hD.r6 ?_
    refine x_iconst (p2 := 99) rfl dX10_layOrder_98 ⟨by decide, by decide⟩ ?_
    refine x_iload (p2 := 101) rfl dX10_layOrder_99 rfl ?_
    refine x_iadd (p2 := 102) rfl dX10_layOrder_101 ⟨by omega, by omega⟩ ?_
    refine x_aload_n (p2 := 103) rfl dX10_layOrder_102 rfl ?_
    refine x_getr (p2 := 106) (kz := 21) rfl dX10_layOrder_103 f_10_50 rfl rfl hD.sh hD.r21 ?_
    refine x_iload (p2 := 108) rfl dX10_layOrder_106 rfl ?_
    refine x_iald (p2 := 109) rfl dX10_layOrder_108 hD.a21 (by omega) (by omega) ?_
    rw [hrow]
    refine x_iast (p2 := 110) rfl dX10_layOrder_109 hD.a6 (by omega) (by omega) ?_
    refine x_iinc (p2 := 113) (L2 := [(0, _), (1, _), (2, _), (3, _), (4, _), (5, _), (6, _), (7, _)]) rfl dX10_layOrder_110 rfl ⟨by omega, by omega⟩ ⟨rfl, Nat.le_of_ble_eq_true rfl⟩ rfl ?_
    refine x_iload (p2 := 115) rfl dX10_layOrder_113 rfl ?_
    refine x_istore (p2 := 117) (i := 8) (L2 := [(0, _), (1, _), (2, _), (3, _), (4, _), (5, _), (6, _), (7, _), (8, _)]) rfl dX10_layOrder_115 ⟨rfl, Nat.le_of_ble_eq_true rfl⟩ rfl ?_
    refine x_pick (L2 := [(0, _), (1, _), (2, _), (3, _), (4, _), (5, _), (6, _), (7, _), (8, _)]) [0, 1, 2, 3, 4, 5, 6, 7, 8] rfl ?_
    rw [show ((k + 1 : Nat) : Int) + -1 = (k : Int) by omega]
    refine t_ly2 hD (m := k) (by omega) (k - pk) pk _ (by omega) (by omega) (fun M2 g1 g2 => ?_)
    refine x_iinc (p2 := 148) (L2 := [(0, _), (1, _), (2, _), (3, _), (4, _), (5, _), (6, _)]) rfl dX10_layOrder_145 rfl ⟨by omega, by omega⟩ ⟨rfl, Nat.le_of_ble_eq_true rfl⟩ rfl ?_
    refine x_goto (t := 70) (by decide) dX10_layOrder_148 ?_
    refine x_pick (L2 := [(0, _), (1, _), (2, _), (3, _), (4, _), (5, _), (6, _)]) [0, 1, 2, 3, 4, 5, 6] rfl ?_
    refine ih (L.eraseIdx pk) rs (i + 1) M2 ?_ hrl (by omega) (by omega) (fun x hx => hL x (List.mem_of_mem_eraseIdx hx)) ?_ (fun M3 d1 d2 => hq M3 (fun c z1 z2 => (d1 c z1 z2).trans ((g1 c z2).trans (xu_c z1))) (fun x => ?_))
    · rw [List.length_eraseIdx_of_lt (by omega)]; omega
    · refine lay_er (m := k) hl hy (fun x => ?_)
      rw [g2 x, xu_c (show D + 14 ≠ D + 4 by omega)]
    · rw [d2 x, horl]
      show _ = plf _ (i + 1) (upf _ i xx) x
      congr 1
      funext y
      rw [g1 (D + 4) (by omega)]
      by_cases hyi : y = i
      · rw [hyi, xu_s, upf_s]
      · rw [xu_j (by omega), upf_n hyi]
set_option maxHeartbeats 4000000 in
theorem t_X10_layOrder {D : Nat} (hD : isMd σ ρ D) {n en : Int} {byt : Int → Int} {v : vV} (hM : mdI M D n en byt v) (hW : wfV n en byt v) {q : Nat} (hql : q < fac (v.2.2.2.2.1 - 1).toNat) (hq : ∀ M2, (∀ c, c ≠ D + 4 → c ≠ D + 14 → M2 c = M c) → smr n (v.1, v.2.1, v.2.2.1, plf (orl (v.2.2.2.2.1 - 1).toNat (els n (frs v.2.2.2.1 v.2.2.2.2.1)) q) 1 v.2.2.2.1, v.2.2.2.2.1, v.2.2.2.2.2) (M2 (D + 4)) → Q none (σ, ρ, M2)) : xX G mX10_layOrder 0 0 0 [(0, xP D), (1, xI (q : Nat)), (2, xI (fac (v.2.2.2.2.1 - 1).toNat : Nat))] [] (σ, ρ, M) Q := by
  obtain ⟨hn, hen, hyb, hr⟩ := id hM
  have hG := hW.1
  have hO := hW.2.1
  have hA := hW.2.2.1
  have he : M D 4 = en ∧ 0 ≤ en ∧ en ≤ 99 := ⟨hen, hW.2.2.2.1⟩
  have hy : ∀ b, 0 ≤ b → b < n → M (D + 2) b = byt b ∧ 0 ≤ byt b ∧ byt b ≤ 9 := fun b a c => ⟨hyb b a c, hW.2.2.2.2 b a c⟩
  have h8 := hG.2.1
  have h1 := hG.1
  have hx2 : ∀ b, 0 ≤ b → b < n → v.1 b ≤ 2 := fun b a c => (hG.2.2 b a c).2.1
  have hO5 := hO.2.2.2
  have hfl := frs_len h8 hO
  refine x_aload_n (p2 := 1) rfl dX10_layOrder_0 rfl ?_
  refine x_getr (p2 := 4) (kz := 5) rfl dX10_layOrder_1 f_10_16 rfl rfl hD.sh hD.r5 ?_
  refine x_aload_n (p2 := 5) rfl dX10_layOrder_4 rfl ?_
  refine x_getr (p2 := 8) (kz := 6) rfl dX10_layOrder_5 f_10_19 rfl rfl hD.sh hD.r6 ?_
  refine x_s2 (p2 := 11) rfl dX10_layOrder_8 l_10_100 ok_X10_copy rfl rfl ?_
  refine t_X10_copy hD.a5 hD.a6 (by omega) (fun M8 hs8 hv8 => ?_)
  refine x_iconst (p2 := 12) rfl dX10_layOrder_11 ⟨by decide, by decide⟩ ?_
  refine x_istore_n (p2 := 13) (i := 3) (L2 := [(0, _), (1, _), (2, _), (3, _)]) rfl dX10_layOrder_12 rfl ⟨rfl, Nat.le_of_ble_eq_true rfl⟩ rfl ?_
  refine x_iconst (p2 := 14) rfl dX10_layOrder_13 ⟨by decide, by decide⟩ ?_
  refine x_istore (p2 := 16) (i := 4) (L2 := [(0, _), (1, _), (2, _), (3, _), (4, _)]) rfl dX10_layOrder_14 ⟨rfl, Nat.le_of_ble_eq_true rfl⟩ rfl ?_
  refine x_pick (L2 := [(0, _), (1, _), (2, _), (3, _), (4, _)]) [0, 1, 2, 3, 4] rfl ?_
  refine t_ly1 hD hG hO (n - 1).toNat 1 [] M8 (by rw [hs8 D (by omega)]; exact hn) (by rw [hs8 (D + 3) (by omega)]; exact hr) (by omega) (by omega) (by rw [List.length_nil]; omega) (fun j x hj => absurd hj (by simp)) (fun M2 g1 g2 => ?_)
  rw [List.nil_append] at g2 ⊢
  have e3 : (elf (frs v.2.2.2.1 v.2.2.2.2.1) (n - 1).toNat 1).length = (v.2.2.2.2.1 - 1).toNat := hfl
  rw [e3]
  refine x_iload_n (p2 := 62) rfl dX10_layOrder_61 rfl ?_
  refine x_istore (p2 := 64) (i := 4) (L2 := [(0, _), (1, _), (2, _), (3, _), (4, _)]) rfl dX10_layOrder_62 ⟨rfl, Nat.le_of_ble_eq_true rfl⟩ rfl ?_
  refine x_iload_n (p2 := 65) rfl dX10_layOrder_64 rfl ?_
  refine x_istore (p2 := 67) (i := 5) (L2 := [(0, _), (1, _), (2, _), (3, _), (4, _), (5, _)]) rfl dX10_layOrder_65 ⟨rfl, Nat.le_of_ble_eq_true rfl⟩ rfl ?_
  refine x_iconst (p2 := 68) rfl dX10_layOrder_67 ⟨by decide, by decide⟩ ?_
  refine x_istore (p2 := 70) (i := 6) (L2 := [(0, _), (1, _), (2, _), (3, _), (4, _), (5, _), (6, _)]) rfl dX10_layOrder_68 ⟨rfl, Nat.le_of_ble_eq_true rfl⟩ rfl ?_
  refine x_pick (L2 := [(0, _), (1, _), (2, _), (3, _), (4, _), (5, _), (6, _)]) [0, 1, 2, 3, 4, 5, 6] rfl ?_
  refine t_ly3 hD (v.2.2.2.2.1 - 1).toNat (els n (frs v.2.2.2.1 v.2.2.2.2.1)) q 1 M2 hfl hql (by omega) (by omega) (fun x hx => by have := els_mem.mp hx; omega) g2 (fun M3 d1 d2 => hq M3 (fun c z1 z2 => (d1 c z1 z2).trans ((g1 c z2).trans (hs8 c z1))) ?_)
  have hT := orl_ok (v.2.2.2.2.1 - 1).toNat (els n (frs v.2.2.2.1 v.2.2.2.2.1)) q hfl (elf_nodup _ _) hql
  have hr8 := smr_cp hr h8 hx2 hv8
  rw [← g1 (D + 4) (by omega)] at hr8
  have hcp : ∀ x, 0 ≤ x → x < n → M2 (D + 4) (2 + x) = v.2.2.2.1 x := fun x a b => hr8.o a b
  refine smr_o hr8 h8 (fun y z => ?_) (fun x a b => ?_) hx2
  · have := d2 (y - 2)
    rw [show 2 + (y - 2) = y by omega] at this
    rw [this]
    rcases z with z | z
    · rw [plf_lo _ _ _ _ (by omega)]; congr 1; omega
    · rw [plf_hi _ _ _ _ (by rw [hT.2.1]; omega)]; congr 1; omega
  · rw [d2 x]
    rcases Int.lt_or_le x 1 with e | e
    · rw [plf_lo _ _ _ _ e, plf_lo _ _ _ _ e]; exact hcp x a b
    · rcases Int.lt_or_le x (1 + ((v.2.2.2.2.1 - 1).toNat : Int)) with e2 | e2
      · have hg : (orl (v.2.2.2.2.1 - 1).toNat (els n (frs v.2.2.2.1 v.2.2.2.2.1)) q)[(x - 1).toNat]? = some (orl (v.2.2.2.2.1 - 1).toNat (els n (frs v.2.2.2.1 v.2.2.2.2.1)) q)[(x - 1).toNat] := List.getElem?_eq_getElem (by rw [hT.2.1]; omega)
        have p1 := plf_at _ 1 (fun x => M2 (D + 4) (2 + x)) _ _ hg
        have p2 := plf_at _ 1 v.2.2.2.1 _ _ hg
        rw [show 1 + (((x - 1).toNat : Nat) : Int) = x by omega] at p1 p2
        rw [p1, p2]
      · rw [plf_hi _ _ _ _ (by rw [hT.2.1]; omega), plf_hi _ _ _ _ (by rw [hT.2.1]; omega)]; exact hcp x a b
end XMO
