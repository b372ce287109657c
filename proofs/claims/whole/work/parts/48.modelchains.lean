section XML
variable {G : xG} {σ : List (Nat × Nat)} {ρ : Nat → Int → Option Nat} {M : Nat → Int → Int} {Q : Option xV → xH → Prop}
/-- the reference's rows of chains hold z -/
def rch (M : Nat → Int → Int) (D : Nat) (n : Int) (z : (Int → Int) × (Int → Int)) : Prop := (∀ x, 0 ≤ x → x < n → M (D + 11) x = z.1 x) ∧ (∀ x, 0 ≤ x → x < n → M (D + 12) x = rfo (z.2 x)) ∧ ∀ x, 0 ≤ x → x < n → 0 ≤ z.1 x ∧ z.1 x < n ∧ -1 ≤ z.2 x ∧ z.2 x < n
set_option maxHeartbeats 4000000 in
theorem t_lc1 {D : Nat} (hD : isMd σ ρ D) {n ct at1 b s h0 : Int} {hd0 : Int → Int} (h8 : n ≤ 8) (hb : 0 ≤ b ∧ b < n) (hb0 : hd0 b = h0 ∧ h0 ≠ s) : ∀ (m : Nat) (x : Int) (M1 : Nat → Int → Int), M1 D 2 = n → 0 ≤ x → x + m = n → (∀ y, 0 ≤ y → y < n → M1 (D + 11) y = if y < x then (if hd0 y = s then h0 else hd0 y) else hd0 y) → (∀ M2, (∀ c, c ≠ D + 11 → M2 c = M1 c) → (∀ y, 0 ≤ y → y < n → M2 (D + 11) y = if hd0 y = s then h0 else hd0 y) → xX G mX10_layChains 0 0 205 [(0, xP D), (1, xI ct), (2, xI at1), (3, xI b), (4, xI 1), (5, xI s)] [] (σ, ρ, M2) Q) → xX G mX10_layChains 0 0 155 [(0, xP D), (1, xI ct), (2, xI at1), (3, xI b), (4, xI 1), (5, xI s), (6, xI x)] [] (σ, ρ, M1) Q := by
  intro m
  induction m with
  | zero =>
    intro x M1 hn hx hm hI hq
    refine x_iload (p2 := 157) rfl dX10_layChains_155 rfl ?_
    refine x_aload_n (p2 := 158) rfl dX10_layChains_157 rfl ?_
    refine x_geti (p2 := 161) (kz := 2) rfl dX10_layChains_158 f_10_53 rfl rfl hD.sh ?_
    rw [hn]
    refine x_ic_ge (p2 := 164) (t := 205) (by decide) rfl dX10_layChains_161 (fun hc161 => ?_) (fun hc161 => absurd hc161 (by omega))
    refine x_pick (L2 := [(0, _), (1, _), (2, _), (3, _), (4, _), (5, _)]) [0, 1, 2, 3, 4, 5] rfl ?_
    exact hq M1 (fun _ _ => rfl) (fun y a1 a2 => by rw [hI y a1 a2, if_pos (by omega)])
  | succ m ih =>
    intro x M1 hn hx hm hI hq
    have hIx := hI x hx (by omega)
    rw [if_neg (by omega)] at hIx
    have hIb : M1 (D + 11) b = h0 := by
      rw [hI b hb.1 hb.2, hb0.1]
      split
      · exact if_neg hb0.2
      · rfl
    refine x_iload (p2 := 157) rfl dX10_layChains_155 rfl ?_
    refine x_aload_n (p2 := 158) rfl dX10_layChains_157 rfl ?_
    refine x_geti (p2 := 161) (kz := 2) rfl dX10_layChains_158 f_10_53 rfl rfl hD.sh ?_
    rw [hn]
    refine x_ic_ge (p2 := 164) (t := 205) (by decide) rfl dX10_layChains_161 (fun hc161 => ?_) (fun hc161 => ?_)
    · exact absurd hc161 (by omega)
    refine x_aload_n (p2 := 165) rfl dX10_layChains_164 rfl ?_
    refine x_getr (p2 := 168) (kz := 18) rfl dX10_layChains_165 f_10_41 rfl rfl hD.sh hD.r18 ?_
    refine x_iload (p2 := 170) rfl dX10_layChains_168 rfl ?_
    refine x_aload_n (p2 := 171) rfl dX10_layChains_170 rfl ?_
    refine x_getr (p2 := 174) (kz := 18) rfl dX10_layChains_171 f_10_41 rfl rfl hD.sh hD.r18 ?_
    refine x_iload (p2 := 176) rfl dX10_layChains_174 rfl ?_
    refine x_iald (p2 := 177) rfl dX10_layChains_176 hD.a18 (by omega) (by omega) ?_
    refine x_iload (p2 := 179) rfl dX10_layChains_177 rfl ?_
    refine x_ic_ne (p2 := 182) (t := 191) (by decide) rfl dX10_layChains_179 (fun hc179 => ?_) (fun hc179 => ?_)
    · skip
      refine x_aload_n (p2 := 192) rfl dX10_layChains_191 rfl ?_
      refine x_getr (p2 := 195) (kz := 18) rfl dX10_layChains_192 f_10_41 rfl rfl hD.sh hD.r18 ?_
      refine x_iload (p2 := 197) rfl dX10_layChains_195 rfl ?_
      refine x_iald (p2 := 198) rfl dX10_layChains_197 hD.a18 (by omega) (by omega) ?_
      refine x_iast (p2 := 199) rfl dX10_layChains_198 hD.a18 (by omega) (by omega) ?_
      refine x_iinc (p2 := 202) (L2 := [(0, _), (1, _), (2, _), (3, _), (4, _), (5, _), (6, _)]) rfl dX10_layChains_199 rfl ⟨by omega, by omega⟩ ⟨rfl, Nat.le_of_ble_eq_true rfl⟩ rfl ?_
      refine x_goto (t := 155) (by decide) dX10_layChains_202 ?_
      refine x_pick (L2 := [(0, _), (1, _), (2, _), (3, _), (4, _), (5, _), (6, _)]) [0, 1, 2, 3, 4, 5, 6] rfl ?_
      refine ih (x + 1) _ ?_ (by omega) (by omega) (fun y a1 a2 => ?_) (fun M2 b1 b2 => hq M2 (fun c z => (b1 c z).trans (xu_c z)) b2)
      · rw [xu_c (show D ≠ D + 11 by omega)]; exact hn
      · by_cases hy : y = x
        · rw [hy, xu_s, if_pos (show x < x + 1 by omega)]
          first
            | (rw [if_neg (by rw [← hIx]; exact hc179)]; exact hIx)
            | (rw [if_pos (by rw [← hIx]; exact hc179)]; exact hIb)
        · rw [xu_j hy, hI y a1 a2]
          by_cases hy2 : y < x
          · rw [if_pos hy2, if_pos (show y < x + 1 by omega)]
          · rw [if_neg hy2, if_neg (show ¬ y < x + 1 by omega)]
    · skip
      refine x_aload_n (p2 := 183) rfl dX10_layChains_182 rfl ?_
      refine x_getr (p2 := 186) (kz := 18) rfl dX10_layChains_183 f_10_41 rfl rfl hD.sh hD.r18 ?_
      refine x_iload_n (p2 := 187) rfl dX10_layChains_186 rfl ?_
      refine x_iald (p2 := 188) rfl dX10_layChains_187 hD.a18 (by omega) (by omega) ?_
      refine x_goto (t := 198) (by decide) dX10_layChains_188 ?_
      refine x_iast (p2 := 199) rfl dX10_layChains_198 hD.a18 (by omega) (by omega) ?_
      refine x_iinc (p2 := 202) (L2 := [(0, _), (1, _), (2, _), (3, _), (4, _), (5, _), (6, _)]) rfl dX10_layChains_199 rfl ⟨by omega, by omega⟩ ⟨rfl, Nat.le_of_ble_eq_true rfl⟩ rfl ?_
      refine x_goto (t := 155) (by decide) dX10_layChains_202 ?_
      refine x_pick (L2 := [(0, _), (1, _), (2, _), (3, _), (4, _), (5, _), (6, _)]) [0, 1, 2, 3, 4, 5, 6] rfl ?_
      refine ih (x + 1) _ ?_ (by omega) (by omega) (fun y a1 a2 => ?_) (fun M2 b1 b2 => hq M2 (fun c z => (b1 c z).trans (xu_c z)) b2)
      · rw [xu_c (show D ≠ D + 11 by omega)]; exact hn
      · by_cases hy : y = x
        · rw [hy, xu_s, if_pos (show x < x + 1 by omega)]
          first
            | (rw [if_neg (by rw [← hIx]; exact hc179)]; exact hIx)
            | (rw [if_pos (by rw [← hIx]; exact hc179)]; exact hIb)
        · rw [xu_j hy, hI y a1 a2]
          by_cases hy2 : y < x
          · rw [if_pos hy2, if_pos (show y < x + 1 by omega)]
          · rw [if_neg hy2, if_neg (show ¬ y < x + 1 by omega)]
set_option maxHeartbeats 4000000 in
theorem t_lc2 {D : Nat} (hD : isMd σ ρ D) {n : Int} {v : vV} (hG : wfG n v.1 v.2.1 v.2.2.1) {c : Nat} (hc : 0 < c) {z0 : (Int → Int) × (Int → Int)} : ∀ (m a : Nat) (z : (Int → Int) × (Int → Int)) (M1 : Nat → Int → Int), M1 D 2 = n → smr n v (M1 (D + 3)) → 0 < n → rch M1 D n z → (a : Int) + m = 2 * n → z = jl v.2.1 (bk v.2.2.1 (prl v.1 a) c) z0 → (∀ M2, (∀ c, c ≠ D + 11 → c ≠ D + 12 → M2 c = M1 c) → rch M2 D n (jl v.2.1 (bk v.2.2.1 (prl v.1 (2 * n.toNat)) c) z0) → xX G mX10_layChains 0 0 211 [(0, xP D), (1, xI (c : Nat))] [] (σ, ρ, M2) Q) → xX G mX10_layChains 0 0 40 [(0, xP D), (1, xI (c : Nat)), (2, xI (a : Nat))] [] (σ, ρ, M1) Q := by
  have h8 := hG.2.1
  intro m
  induction m with
  | zero =>
    intro a z M1 hn hr hz hch hm hzl hq
    refine x_iload_n (p2 := 41) rfl dX10_layChains_40 rfl ?_
    refine x_iconst (p2 := 42) rfl dX10_layChains_41 ⟨by decide, by decide⟩ ?_
    refine x_aload_n (p2 := 43) rfl dX10_layChains_42 rfl ?_
    refine x_geti (p2 := 46) (kz := 2) rfl dX10_layChains_43 f_10_53 rfl rfl hD.sh ?_
    rw [hn]
    refine x_imul (p2 := 47) rfl dX10_layChains_46 ⟨by omega, by omega⟩ ?_
    refine x_ic_ge (p2 := 50) (t := 211) (by decide) rfl dX10_layChains_47 (fun hc47 => ?_) (fun hc47 => absurd hc47 (by omega))
    refine x_pick (L2 := [(0, _), (1, _)]) [0, 1] rfl ?_
    refine hq M1 (fun _ _ _ => rfl) ?_
    rw [show 2 * n.toNat = a by omega, ← hzl]; exact hch
  | succ m ih =>
    intro a z M1 hn hr hz hch hm hzl hq
    refine x_iload_n (p2 := 41) rfl dX10_layChains_40 rfl ?_
    refine x_iconst (p2 := 42) rfl dX10_layChains_41 ⟨by decide, by decide⟩ ?_
    refine x_aload_n (p2 := 43) rfl dX10_layChains_42 rfl ?_
    refine x_geti (p2 := 46) (kz := 2) rfl dX10_layChains_43 f_10_53 rfl rfl hD.sh ?_
    rw [hn]
    refine x_imul (p2 := 47) rfl dX10_layChains_46 ⟨by omega, by omega⟩ ?_
    refine x_ic_ge (p2 := 50) (t := 211) (by decide) rfl dX10_layChains_47 (fun hc47 => ?_) (fun hc47 => ?_)
    · exact absurd hc47 (by omega)
    refine x_iload_n (p2 := 51) rfl dX10_layChains_50 rfl ?_
    refine x_iconst (p2 := 52) rfl dX10_layChains_51 ⟨by decide, by decide⟩ ?_
    refine x_idiv (p2 := 53) rfl dX10_layChains_52 (by omega) (by omega) ?_
    refine x_istore_n (p2 := 54) (i := 3) (L2 := [(0, _), (1, _), (2, _), (3, _)]) rfl dX10_layChains_53 rfl ⟨rfl, Nat.le_of_ble_eq_true rfl⟩ rfl ?_
    have ha8 : (a : Int) / 2 < n := by omega
    have hax := hG.2.2 ((a : Int) / 2) (by omega) ha8
    have hr34 : (a : Int) % 2 < v.1 ((a : Int) / 2) → M1 (D + 3) (34 + a) = v.2.2.1 (a : Int) := fun hk => by
      have := hr.c (b := (a : Int) / 2) (k := (a : Int) % 2) (by omega) ha8 (by omega) hk
      rw [show 34 + 2 * ((a : Int) / 2) + (a : Int) % 2 = 34 + a by omega, show 2 * ((a : Int) / 2) + (a : Int) % 2 = a by omega] at this
      exact this
    have hr18 : (a : Int) % 2 < v.1 ((a : Int) / 2) → M1 (D + 3) (18 + a) = v.2.1 (a : Int) ∧ 0 ≤ v.2.1 (a : Int) ∧ v.2.1 (a : Int) < n := fun hk => by
      have := hr.t (b := (a : Int) / 2) (k := (a : Int) % 2) (by omega) ha8 (by omega) hk
      have h2 := hax.2.2.1 ((a : Int) % 2) (by omega) hk
      rw [show 18 + 2 * ((a : Int) / 2) + (a : Int) % 2 = 18 + a by omega, show 2 * ((a : Int) / 2) + (a : Int) % 2 = a by omega] at this
      rw [show 2 * ((a : Int) / 2) + (a : Int) % 2 = a by omega] at h2
      exact ⟨this, h2.1, h2.2.1⟩
    refine x_iload_n (p2 := 55) rfl dX10_layChains_54 rfl ?_
    refine x_iconst (p2 := 56) rfl dX10_layChains_55 ⟨by decide, by decide⟩ ?_
    refine x_irem (p2 := 57) rfl dX10_layChains_56 (by omega) (by omega) ?_
    refine x_aload_n (p2 := 58) rfl dX10_layChains_57 rfl ?_
    refine x_getr (p2 := 61) (kz := 5) rfl dX10_layChains_58 f_10_16 rfl rfl hD.sh hD.r5 ?_
    refine x_bipush (p2 := 63) rfl dX10_layChains_61 ⟨by decide, ⟨by decide, by decide⟩⟩ ?_
    refine x_iload_n (p2 := 64) rfl dX10_layChains_63 rfl ?_
    refine x_iadd (p2 := 65) rfl dX10_layChains_64 ⟨by omega, by omega⟩ ?_
    refine x_iald (p2 := 66) rfl dX10_layChains_65 hD.a5 (by omega) (by omega) ?_
    rw [hr.x (b := (a : Int) / 2) (by omega) ha8]
    refine x_ic_ge (p2 := 69) (t := 86) (by decide) rfl dX10_layChains_66 (fun hc66 => ?_) (fun hc66 => ?_)
    · skip
      refine x_iconst (p2 := 87) rfl dX10_layChains_86 ⟨by decide, by decide⟩ ?_
      refine x_istore (p2 := 89) (i := 4) (L2 := [(0, _), (1, _), (2, _), (3, _), (4, _)]) rfl dX10_layChains_87 ⟨rfl, Nat.le_of_ble_eq_true rfl⟩ rfl ?_
      refine x_aload_n (p2 := 90) rfl dX10_layChains_89 rfl ?_
      refine x_getr (p2 := 93) (kz := 5) rfl dX10_layChains_90 f_10_16 rfl rfl hD.sh hD.r5 ?_
      refine x_bipush (p2 := 95) rfl dX10_layChains_93 ⟨by decide, ⟨by decide, by decide⟩⟩ ?_
      refine x_iload_n (p2 := 96) rfl dX10_layChains_95 rfl ?_
      refine x_iadd (p2 := 97) rfl dX10_layChains_96 ⟨by omega, by omega⟩ ?_
      refine x_iald (p2 := 98) rfl dX10_layChains_97 hD.a5 (by omega) (by omega) ?_
      refine x_istore (p2 := 100) (i := 5) (L2 := [(0, _), (1, _), (2, _), (3, _), (4, _), (5, _)]) rfl dX10_layChains_98 ⟨rfl, Nat.le_of_ble_eq_true rfl⟩ rfl ?_
      refine x_iload (p2 := 102) rfl dX10_layChains_100 rfl ?_
      refine x_if_eq (p2 := 105) (t := 205) (by decide) rfl dX10_layChains_102 (fun _ => ?_) (fun hc => absurd hc (by decide))
      refine x_iinc (p2 := 208) (L2 := [(0, _), (1, _), (2, _), (3, _), (4, _), (5, _)]) rfl dX10_layChains_205 rfl ⟨by omega, by omega⟩ ⟨rfl, Nat.le_of_ble_eq_true rfl⟩ rfl ?_
      refine x_goto (t := 40) (by decide) dX10_layChains_208 ?_
      refine x_pick (L2 := [(0, _), (1, _), (2, _)]) [0, 1, 2] rfl ?_
      try rw [show ((a : Int) + 1) = ((a + 1 : Nat) : Int) by omega]
      have e205 : bk v.2.2.1 (prl v.1 (a + 1)) c = bk v.2.2.1 (prl v.1 a) c := by
        show bk v.2.2.1 (if (a : Int) % 2 < v.1 ((a : Int) / 2) then prl v.1 a ++ [(a : Int)] else prl v.1 a) c = _
        by_cases hk : (a : Int) % 2 < v.1 ((a : Int) / 2)
        · rw [if_pos hk]
          refine bk_ne (fun e => ?_)
          first
            | exact hc79 (by rw [hr34 hk]; exact e)
            | omega
        · rw [if_neg hk]
      refine ih (a + 1) z M1 hn hr hz hch (by omega) ?_ hq
      rw [e205]; exact hzl
    · skip
      refine x_aload_n (p2 := 70) rfl dX10_layChains_69 rfl ?_
      refine x_getr (p2 := 73) (kz := 5) rfl dX10_layChains_70 f_10_16 rfl rfl hD.sh hD.r5 ?_
      refine x_bipush (p2 := 75) rfl dX10_layChains_73 ⟨by decide, ⟨by decide, by decide⟩⟩ ?_
      refine x_iload_n (p2 := 76) rfl dX10_layChains_75 rfl ?_
      refine x_iadd (p2 := 77) rfl dX10_layChains_76 ⟨by omega, by omega⟩ ?_
      refine x_iald (p2 := 78) rfl dX10_layChains_77 hD.a5 (by omega) (by omega) ?_
      refine x_iload_n (p2 := 79) rfl dX10_layChains_78 rfl ?_
      refine x_ic_ne (p2 := 82) (t := 86) (by decide) rfl dX10_layChains_79 (fun hc79 => ?_) (fun hc79 => ?_)
      · skip
        refine x_iconst (p2 := 87) rfl dX10_layChains_86 ⟨by decide, by decide⟩ ?_
        refine x_istore (p2 := 89) (i := 4) (L2 := [(0, _), (1, _), (2, _), (3, _), (4, _)]) rfl dX10_layChains_87 ⟨rfl, Nat.le_of_ble_eq_true rfl⟩ rfl ?_
        refine x_aload_n (p2 := 90) rfl dX10_layChains_89 rfl ?_
        refine x_getr (p2 := 93) (kz := 5) rfl dX10_layChains_90 f_10_16 rfl rfl hD.sh hD.r5 ?_
        refine x_bipush (p2 := 95) rfl dX10_layChains_93 ⟨by decide, ⟨by decide, by decide⟩⟩ ?_
        refine x_iload_n (p2 := 96) rfl dX10_layChains_95 rfl ?_
        refine x_iadd (p2 := 97) rfl dX10_layChains_96 ⟨by omega, by omega⟩ ?_
        refine x_iald (p2 := 98) rfl dX10_layChains_97 hD.a5 (by omega) (by omega) ?_
        refine x_istore (p2 := 100) (i := 5) (L2 := [(0, _), (1, _), (2, _), (3, _), (4, _), (5, _)]) rfl dX10_layChains_98 ⟨rfl, Nat.le_of_ble_eq_true rfl⟩ rfl ?_
        refine x_iload (p2 := 102) rfl dX10_layChains_100 rfl ?_
        refine x_if_eq (p2 := 105) (t := 205) (by decide) rfl dX10_layChains_102 (fun _ => ?_) (fun hc => absurd hc (by decide))
        refine x_iinc (p2 := 208) (L2 := [(0, _), (1, _), (2, _), (3, _), (4, _), (5, _)]) rfl dX10_layChains_205 rfl ⟨by omega, by omega⟩ ⟨rfl, Nat.le_of_ble_eq_true rfl⟩ rfl ?_
        refine x_goto (t := 40) (by decide) dX10_layChains_208 ?_
        refine x_pick (L2 := [(0, _), (1, _), (2, _)]) [0, 1, 2] rfl ?_
        try rw [show ((a : Int) + 1) = ((a + 1 : Nat) : Int) by omega]
        have e205 : bk v.2.2.1 (prl v.1 (a + 1)) c = bk v.2.2.1 (prl v.1 a) c := by
          show bk v.2.2.1 (if (a : Int) % 2 < v.1 ((a : Int) / 2) then prl v.1 a ++ [(a : Int)] else prl v.1 a) c = _
          by_cases hk : (a : Int) % 2 < v.1 ((a : Int) / 2)
          · rw [if_pos hk]
            refine bk_ne (fun e => ?_)
            first
              | exact hc79 (by rw [hr34 hk]; exact e)
              | omega
          · rw [if_neg hk]
        refine ih (a + 1) z M1 hn hr hz hch (by omega) ?_ hq
        rw [e205]; exact hzl
      · skip
        refine x_iconst (p2 := 83) rfl dX10_layChains_82 ⟨by decide, by decide⟩ ?_
        refine x_goto (t := 87) (by decide) dX10_layChains_83 ?_
        refine x_istore (p2 := 89) (i := 4) (L2 := [(0, _), (1, _), (2, _), (3, _), (4, _)]) rfl dX10_layChains_87 ⟨rfl, Nat.le_of_ble_eq_true rfl⟩ rfl ?_
        refine x_aload_n (p2 := 90) rfl dX10_layChains_89 rfl ?_
        refine x_getr (p2 := 93) (kz := 5) rfl dX10_layChains_90 f_10_16 rfl rfl hD.sh hD.r5 ?_
        refine x_bipush (p2 := 95) rfl dX10_layChains_93 ⟨by decide, ⟨by decide, by decide⟩⟩ ?_
        refine x_iload_n (p2 := 96) rfl dX10_layChains_95 rfl ?_
        refine x_iadd (p2 := 97) rfl dX10_layChains_96 ⟨by omega, by omega⟩ ?_
        refine x_iald (p2 := 98) rfl dX10_layChains_97 hD.a5 (by omega) (by omega) ?_
        refine x_istore (p2 := 100) (i := 5) (L2 := [(0, _), (1, _), (2, _), (3, _), (4, _), (5, _)]) rfl dX10_layChains_98 ⟨rfl, Nat.le_of_ble_eq_true rfl⟩ rfl ?_
        refine x_iload (p2 := 102) rfl dX10_layChains_100 rfl ?_
        refine x_if_eq (p2 := 105) (t := 205) (by decide) rfl dX10_layChains_102 (fun hc => absurd hc (by decide)) (fun _ => ?_)
        have hct : v.2.2.1 (a : Int) = (c : Nat) := by rw [← hr34 hc66]; exact hc79
        have hts := hr18 hc66
        rw [hts.1]
        have hdb := hch.1 ((a : Int) / 2) (by omega) ha8
        have hnb := hch.2.1 ((a : Int) / 2) (by omega) ha8
        have hds := hch.1 _ hts.2.1 hts.2.2
        have hcb := hch.2.2 ((a : Int) / 2) (by omega) ha8
        refine x_aload_n (p2 := 106) rfl dX10_layChains_105 rfl ?_
        refine x_getr (p2 := 109) (kz := 19) rfl dX10_layChains_106 f_10_44 rfl rfl hD.sh hD.r19 ?_
        refine x_iload_n (p2 := 110) rfl dX10_layChains_109 rfl ?_
        refine x_iald (p2 := 111) rfl dX10_layChains_110 hD.a19 (by omega) (by omega) ?_
        refine x_bipush (p2 := 113) rfl dX10_layChains_111 ⟨by decide, ⟨by decide, by decide⟩⟩ ?_
        refine x_ic_ne (p2 := 116) (t := 205) (by decide) rfl dX10_layChains_113 (fun hc113 => ?_) (fun hc113 => ?_)
        · skip
          refine x_iinc (p2 := 208) (L2 := [(0, _), (1, _), (2, _), (3, _), (4, _), (5, _)]) rfl dX10_layChains_205 rfl ⟨by omega, by omega⟩ ⟨rfl, Nat.le_of_ble_eq_true rfl⟩ rfl ?_
          refine x_goto (t := 40) (by decide) dX10_layChains_208 ?_
          refine x_pick (L2 := [(0, _), (1, _), (2, _)]) [0, 1, 2] rfl ?_
          have e205 : bk v.2.2.1 (prl v.1 (a + 1)) c = bk v.2.2.1 (prl v.1 a) c ++ [(a : Int)] := by
            show bk v.2.2.1 (if (a : Int) % 2 < v.1 ((a : Int) / 2) then prl v.1 a ++ [(a : Int)] else prl v.1 a) c = _
            rw [if_pos hc66]
            exact bk_eq hct
          have ej : jn ((a : Int) / 2) (v.2.1 (a : Int)) z = z := if_neg (fun y => by
            first
              | exact hc113 (by rw [hnb, y.1]; rfl)
              | exact y.2.2.2 hc118
              | exact hc130 (by rw [hds]; exact y.2.1)
              | exact y.2.2.1 (by rw [← hdb]; exact hc141))
          rw [show ((a : Int) + 1) = ((a + 1 : Nat) : Int) by omega]
          refine ih (a + 1) z M1 hn hr hz hch (by omega) ?_ hq
          rw [e205]
          unfold jl
          rw [List.foldl_append]
          show z = jn ((a : Int) / 2) (v.2.1 (a : Int)) (jl v.2.1 _ z0)
          rw [← hzl]; exact ej.symm
        · skip
          refine x_iload (p2 := 118) rfl dX10_layChains_116 rfl ?_
          refine x_if_eq (p2 := 121) (t := 205) (by decide) rfl dX10_layChains_118 (fun hc118 => ?_) (fun hc118 => ?_)
          · skip
            refine x_iinc (p2 := 208) (L2 := [(0, _), (1, _), (2, _), (3, _), (4, _), (5, _)]) rfl dX10_layChains_205 rfl ⟨by omega, by omega⟩ ⟨rfl, Nat.le_of_ble_eq_true rfl⟩ rfl ?_
            refine x_goto (t := 40) (by decide) dX10_layChains_208 ?_
            refine x_pick (L2 := [(0, _), (1, _), (2, _)]) [0, 1, 2] rfl ?_
            have e205 : bk v.2.2.1 (prl v.1 (a + 1)) c = bk v.2.2.1 (prl v.1 a) c ++ [(a : Int)] := by
              show bk v.2.2.1 (if (a : Int) % 2 < v.1 ((a : Int) / 2) then prl v.1 a ++ [(a : Int)] else prl v.1 a) c = _
              rw [if_pos hc66]
              exact bk_eq hct
            have ej : jn ((a : Int) / 2) (v.2.1 (a : Int)) z = z := if_neg (fun y => by
              first
                | exact hc113 (by rw [hnb, y.1]; rfl)
                | exact y.2.2.2 hc118
                | exact hc130 (by rw [hds]; exact y.2.1)
                | exact y.2.2.1 (by rw [← hdb]; exact hc141))
            rw [show ((a : Int) + 1) = ((a + 1 : Nat) : Int) by omega]
            refine ih (a + 1) z M1 hn hr hz hch (by omega) ?_ hq
            rw [e205]
            unfold jl
            rw [List.foldl_append]
            show z = jn ((a : Int) / 2) (v.2.1 (a : Int)) (jl v.2.1 _ z0)
            rw [← hzl]; exact ej.symm
          · skip
            refine x_aload_n (p2 := 122) rfl dX10_layChains_121 rfl ?_
            refine x_getr (p2 := 125) (kz := 18) rfl dX10_layChains_122 f_10_41 rfl rfl hD.sh hD.r18 ?_
            refine x_iload (p2 := 127) rfl dX10_layChains_125 rfl ?_
            refine x_iald (p2 := 128) rfl dX10_layChains_127 hD.a18 (by omega) (by omega) ?_
            refine x_iload (p2 := 130) rfl dX10_layChains_128 rfl ?_
            refine x_ic_ne (p2 := 133) (t := 205) (by decide) rfl dX10_layChains_130 (fun hc130 => ?_) (fun hc130 => ?_)
            · skip
              refine x_iinc (p2 := 208) (L2 := [(0, _), (1, _), (2, _), (3, _), (4, _), (5, _)]) rfl dX10_layChains_205 rfl ⟨by omega, by omega⟩ ⟨rfl, Nat.le_of_ble_eq_true rfl⟩ rfl ?_
              refine x_goto (t := 40) (by decide) dX10_layChains_208 ?_
              refine x_pick (L2 := [(0, _), (1, _), (2, _)]) [0, 1, 2] rfl ?_
              have e205 : bk v.2.2.1 (prl v.1 (a + 1)) c = bk v.2.2.1 (prl v.1 a) c ++ [(a : Int)] := by
                show bk v.2.2.1 (if (a : Int) % 2 < v.1 ((a : Int) / 2) then prl v.1 a ++ [(a : Int)] else prl v.1 a) c = _
                rw [if_pos hc66]
                exact bk_eq hct
              have ej : jn ((a : Int) / 2) (v.2.1 (a : Int)) z = z := if_neg (fun y => by
                first
                  | exact hc113 (by rw [hnb, y.1]; rfl)
                  | exact y.2.2.2 hc118
                  | exact hc130 (by rw [hds]; exact y.2.1)
                  | exact y.2.2.1 (by rw [← hdb]; exact hc141))
              rw [show ((a : Int) + 1) = ((a + 1 : Nat) : Int) by omega]
              refine ih (a + 1) z M1 hn hr hz hch (by omega) ?_ hq
              rw [e205]
              unfold jl
              rw [List.foldl_append]
              show z = jn ((a : Int) / 2) (v.2.1 (a : Int)) (jl v.2.1 _ z0)
              rw [← hzl]; exact ej.symm
            · skip
              refine x_aload_n (p2 := 134) rfl dX10_layChains_133 rfl ?_
              refine x_getr (p2 := 137) (kz := 18) rfl dX10_layChains_134 f_10_41 rfl rfl hD.sh hD.r18 ?_
              refine x_iload_n (p2 := 138) rfl dX10_layChains_137 rfl ?_
              refine x_iald (p2 := 139) rfl dX10_layChains_138 hD.a18 (by omega) (by omega) ?_
              refine x_iload (p2 := 141) rfl dX10_layChains_139 rfl ?_
              refine x_ic_eq (p2 := 144) (t := 205) (by decide) rfl dX10_layChains_141 (fun hc141 => ?_) (fun hc141 => ?_)
              · skip
                refine x_iinc (p2 := 208) (L2 := [(0, _), (1, _), (2, _), (3, _), (4, _), (5, _)]) rfl dX10_layChains_205 rfl ⟨by omega, by omega⟩ ⟨rfl, Nat.le_of_ble_eq_true rfl⟩ rfl ?_
                refine x_goto (t := 40) (by decide) dX10_layChains_208 ?_
                refine x_pick (L2 := [(0, _), (1, _), (2, _)]) [0, 1, 2] rfl ?_
                have e205 : bk v.2.2.1 (prl v.1 (a + 1)) c = bk v.2.2.1 (prl v.1 a) c ++ [(a : Int)] := by
                  show bk v.2.2.1 (if (a : Int) % 2 < v.1 ((a : Int) / 2) then prl v.1 a ++ [(a : Int)] else prl v.1 a) c = _
                  rw [if_pos hc66]
                  exact bk_eq hct
                have ej : jn ((a : Int) / 2) (v.2.1 (a : Int)) z = z := if_neg (fun y => by
                  first
                    | exact hc113 (by rw [hnb, y.1]; rfl)
                    | exact y.2.2.2 hc118
                    | exact hc130 (by rw [hds]; exact y.2.1)
                    | exact y.2.2.1 (by rw [← hdb]; exact hc141))
                rw [show ((a : Int) + 1) = ((a + 1 : Nat) : Int) by omega]
                refine ih (a + 1) z M1 hn hr hz hch (by omega) ?_ hq
                rw [e205]
                unfold jl
                rw [List.foldl_append]
                show z = jn ((a : Int) / 2) (v.2.1 (a : Int)) (jl v.2.1 _ z0)
                rw [← hzl]; exact ej.symm
              · skip
                refine x_aload_n (p2 := 145) rfl dX10_layChains_144 rfl ?_
                refine x_getr (p2 := 148) (kz := 19) rfl dX10_layChains_145 f_10_44 rfl rfl hD.sh hD.r19 ?_
                refine x_iload_n (p2 := 149) rfl dX10_layChains_148 rfl ?_
                refine x_iload (p2 := 151) rfl dX10_layChains_149 rfl ?_
                refine x_iast (p2 := 152) rfl dX10_layChains_151 hD.a19 (by omega) (by omega) ?_
                refine x_iconst (p2 := 153) rfl dX10_layChains_152 ⟨by decide, by decide⟩ ?_
                refine x_istore (p2 := 155) (i := 6) (L2 := [(0, _), (1, _), (2, _), (3, _), (4, _), (5, _), (6, _)]) rfl dX10_layChains_153 ⟨rfl, Nat.le_of_ble_eq_true rfl⟩ rfl ?_
                refine x_pick (L2 := [(0, _), (1, _), (2, _), (3, _), (4, _), (5, _), (6, _)]) [0, 1, 2, 3, 4, 5, 6] rfl ?_
                refine t_lc1 hD (h0 := z.1 ((a : Int) / 2)) (hd0 := z.1) h8 ⟨by omega, ha8⟩ ⟨rfl, fun e => hc141 (by rw [hdb]; exact e)⟩ n.toNat 0 _ ?_ (by omega) (by omega) (fun y a1 a2 => ?_) (fun M2 b1 b2 => ?_)
                · rw [xu_c (show D ≠ D + 12 by omega)]; exact hn
                · rw [xu_c (show D + 11 ≠ D + 12 by omega), if_neg (by omega)]; exact hch.1 y a1 a2
                have e205 : bk v.2.2.1 (prl v.1 (a + 1)) c = bk v.2.2.1 (prl v.1 a) c ++ [(a : Int)] := by
                  show bk v.2.2.1 (if (a : Int) % 2 < v.1 ((a : Int) / 2) then prl v.1 a ++ [(a : Int)] else prl v.1 a) c = _
                  rw [if_pos hc66]
                  exact bk_eq hct
                have hjf : z.2 ((a : Int) / 2) = -1 ∧ z.1 (v.2.1 (a : Int)) = v.2.1 (a : Int) ∧ z.1 ((a : Int) / 2) ≠ v.2.1 (a : Int) ∧ v.2.1 (a : Int) ≠ 0 := by
                  refine ⟨?_, by rw [← hds]; exact hc130, by rw [← hdb]; exact hc141, hc118⟩
                  have h113 := hc113
                  rw [hnb] at h113
                  unfold rfo at h113
                  split at h113
                  · rename_i h; exact h
                  · omega
                have ej : jn ((a : Int) / 2) (v.2.1 (a : Int)) z = _ := if_pos hjf
                have c3 : M2 (D + 3) = M1 (D + 3) := (b1 _ (by omega)).trans (xu_c (by omega))
                refine x_iinc (p2 := 208) (L2 := [(0, _), (1, _), (2, _), (3, _), (4, _), (5, _)]) rfl dX10_layChains_205 rfl ⟨by omega, by omega⟩ ⟨rfl, Nat.le_of_ble_eq_true rfl⟩ rfl ?_
                refine x_goto (t := 40) (by decide) dX10_layChains_208 ?_
                refine x_pick (L2 := [(0, _), (1, _), (2, _)]) [0, 1, 2] rfl ?_
                rw [show ((a : Int) + 1) = ((a + 1 : Nat) : Int) by omega]
                refine ih (a + 1) (jn ((a : Int) / 2) (v.2.1 (a : Int)) z) M2 ?_ ?_ (by omega) ?_ (by omega) ?_ ?_
                · rw [b1 D (by omega), xu_c (show D ≠ D + 12 by omega)]; exact hn
                · rw [c3]; exact hr
                · rw [ej]
                  refine ⟨b2, fun x x0 x1 => ?_, fun x x0 x1 => ?_⟩
                  · rw [b1 (D + 12) (by omega)]
                    by_cases hx : x = (a : Int) / 2
                    · rw [hx, xu_s]
                      show _ = rfo (upf z.2 _ _ _)
                      rw [upf_s]; unfold rfo; rw [if_neg (by omega)]
                    · rw [xu_j hx]
                      show _ = rfo (upf z.2 _ _ x)
                      rw [upf_n hx]; exact hch.2.1 x x0 x1
                  · have hx := hch.2.2 x x0 x1
                    dsimp only
                    refine ⟨?_, ?_, ?_, ?_⟩
                    · split
                      · exact hcb.1
                      · exact hx.1
                    · split
                      · exact hcb.2.1
                      · exact hx.2.1
                    · unfold upf
                      split
                      · omega
                      · exact hx.2.2.1
                    · unfold upf
                      split
                      · exact hts.2.2
                      · exact hx.2.2.2
                · rw [e205]
                  unfold jl
                  rw [List.foldl_append]
                  show _ = jn ((a : Int) / 2) (v.2.1 (a : Int)) (jl v.2.1 _ z0)
                  rw [← hzl]
                · exact fun M3 d1 d2 => hq M3 (fun c z1 z2 => (d1 c z1 z2).trans ((b1 c z1).trans (xu_c z2))) d2
set_option maxHeartbeats 4000000 in
theorem t_lc3 {D : Nat} (hD : isMd σ ρ D) {n : Int} {v : vV} (hG : wfG n v.1 v.2.1 v.2.2.1) : ∀ (c : Nat) (z : (Int → Int) × (Int → Int)) (M1 : Nat → Int → Int), c ≤ 99 → M1 D 2 = n → smr n v (M1 (D + 3)) → rch M1 D n z → (∀ M2, (∀ c, c ≠ D + 11 → c ≠ D + 12 → M2 c = M1 c) → rch M2 D n (jl v.2.1 (cc v.2.2.1 (prl v.1 (2 * n.toNat)) c) z) → Q none (σ, ρ, M2)) → xX G mX10_layChains 0 0 34 [(0, xP D), (1, xI (c : Nat))] [] (σ, ρ, M1) Q := by
  have h8 := hG.2.1
  have h1 := hG.1
  intro c
  induction c with
  | zero =>
    intro z M1 hc hn hr hch hq
    refine x_iload_n (p2 := 35) rfl dX10_layChains_34 rfl ?_
    refine x_if_le (p2 := 38) (t := 217) (by decide) rfl dX10_layChains_35 (fun hc35 => ?_) (fun hc35 => absurd hc35 (by omega))
    refine x_vret dX10_layChains_217 rfl ?_
    exact hq M1 (fun _ _ _ => rfl) hch
  | succ c ih =>
    intro z M1 hc hn hr hch hq
    refine x_iload_n (p2 := 35) rfl dX10_layChains_34 rfl ?_
    refine x_if_le (p2 := 38) (t := 217) (by decide) rfl dX10_layChains_35 (fun hc35 => ?_) (fun hc35 => ?_)
    · exact absurd hc35 (by omega)
    refine x_iconst (p2 := 39) rfl dX10_layChains_38 ⟨by decide, by decide⟩ ?_
    refine x_istore_n (p2 := 40) (i := 2) (L2 := [(0, _), (1, _), (2, _)]) rfl dX10_layChains_39 rfl ⟨rfl, Nat.le_of_ble_eq_true rfl⟩ rfl ?_
    refine x_pick (L2 := [(0, _), (1, _), (2, _)]) [0, 1, 2] rfl ?_
    refine t_lc2 hD hG (c := c + 1) (by omega) (z0 := z) (2 * n).toNat 0 z M1 hn hr (by omega) hch (by omega) rfl (fun M2 b1 b2 => ?_)
    refine x_iinc (p2 := 214) (L2 := [(0, _), (1, _)]) rfl dX10_layChains_211 rfl ⟨by omega, by omega⟩ ⟨rfl, Nat.le_of_ble_eq_true rfl⟩ rfl ?_
    refine x_goto (t := 34) (by decide) dX10_layChains_214 ?_
    refine x_pick (L2 := [(0, _), (1, _)]) [0, 1] rfl ?_
    rw [show ((c + 1 : Nat) : Int) + -1 = (c : Int) by omega]
    refine ih _ M2 (by omega) (by rw [b1 D (by omega) (by omega)]; exact hn) (by rw [b1 (D + 3) (by omega) (by omega)]; exact hr) b2 (fun M3 d1 d2 => hq M3 (fun x z1 z2 => (d1 x z1 z2).trans (b1 x z1 z2)) ?_)
    unfold cc jl
    rw [List.foldl_append]
    exact d2
set_option maxHeartbeats 4000000 in
theorem t_lc0 {D : Nat} (hD : isMd σ ρ D) {n : Int} {v : vV} (hG : wfG n v.1 v.2.1 v.2.2.1) (hr : smr n v (M (D + 3))) (hq : ∀ M2, (∀ c, c ≠ D + 11 → c ≠ D + 12 → M2 c = M c) → rch M2 D n (mgl n v.1 v.2.1 v.2.2.1) → Q none (σ, ρ, M2)) : ∀ (m : Nat) (b : Int) (M1 : Nat → Int → Int), M1 D 2 = n → 0 ≤ b → b + m = n → (∀ c, c ≠ D + 11 → c ≠ D + 12 → M1 c = M c) → (∀ x, 0 ≤ x → x < b → M1 (D + 11) x = x ∧ M1 (D + 12) x = -9) → xX G mX10_layChains 0 0 2 [(0, xP D), (1, xI b)] [] (σ, ρ, M1) Q := by
  have h8 := hG.2.1
  intro m
  induction m with
  | zero =>
    intro b M1 hn h0 hm hf hI
    refine x_iload_n (p2 := 3) rfl dX10_layChains_2 rfl ?_
    refine x_aload_n (p2 := 4) rfl dX10_layChains_3 rfl ?_
    refine x_geti (p2 := 7) (kz := 2) rfl dX10_layChains_4 f_10_53 rfl rfl hD.sh ?_
    rw [hn]
    refine x_ic_ge (p2 := 10) (t := 31) (by decide) rfl dX10_layChains_7 (fun hc7 => ?_) (fun hc7 => absurd hc7 (by omega))
    refine x_bipush (p2 := 33) rfl dX10_layChains_31 ⟨by decide, ⟨by decide, by decide⟩⟩ ?_
    refine x_istore_n (p2 := 34) (i := 1) (L2 := [(0, _), (1, _)]) rfl dX10_layChains_33 rfl ⟨rfl, Nat.le_of_ble_eq_true rfl⟩ rfl ?_
    refine x_pick (L2 := [(0, _), (1, _)]) [0, 1] rfl ?_
    refine t_lc3 hD hG 99 (fun x => x, fun _ => -1) M1 (by omega) hn (by rw [hf (D + 3) (by omega) (by omega)]; exact hr) ⟨fun x x0 x1 => (hI x x0 (by omega)).1, fun x x0 x1 => (hI x x0 (by omega)).2.trans (if_pos rfl).symm, fun x x0 x1 => ⟨x0, x1, by show (-1 : Int) ≤ -1; omega, by show (-1 : Int) < n; omega⟩⟩ (fun M2 b1 b2 => hq M2 (fun x z1 z2 => (b1 x z1 z2).trans (hf x z1 z2)) b2)
  | succ m ih =>
    intro b M1 hn h0 hm hf hI
    refine x_iload_n (p2 := 3) rfl dX10_layChains_2 rfl ?_
    refine x_aload_n (p2 := 4) rfl dX10_layChains_3 rfl ?_
    refine x_geti (p2 := 7) (kz := 2) rfl dX10_layChains_4 f_10_53 rfl rfl hD.sh ?_
    rw [hn]
    refine x_ic_ge (p2 := 10) (t := 31) (by decide) rfl dX10_layChains_7 (fun hc7 => ?_) (fun hc7 => ?_)
    · exact absurd hc7 (by omega)
    refine x_aload_n (p2 := 11) rfl dX10_layChains_10 rfl ?_
    refine x_getr (p2 := 14) (kz := 18) rfl dX10_layChains_11 f_10_41 rfl rfl hD.sh hD.r18 ?_
    refine x_iload_n (p2 := 15) rfl dX10_layChains_14 rfl ?_
    refine x_iload_n (p2 := 16) rfl dX10_layChains_15 rfl ?_
    refine x_iast (p2 := 17) rfl dX10_layChains_16 hD.a18 (by omega) (by omega) ?_
    refine x_aload_n (p2 := 18) rfl dX10_layChains_17 rfl ?_
    refine x_getr (p2 := 21) (kz := 19) rfl dX10_layChains_18 f_10_44 rfl rfl hD.sh hD.r19 ?_
    refine x_iload_n (p2 := 22) rfl dX10_layChains_21 rfl ?_
    refine x_bipush (p2 := 24) rfl dX10_layChains_22 ⟨by decide, ⟨by decide, by decide⟩⟩ ?_
    refine x_iast (p2 := 25) rfl dX10_layChains_24 hD.a19 (by omega) (by omega) ?_
    refine x_iinc (p2 := 28) (L2 := [(0, _), (1, _)]) rfl dX10_layChains_25 rfl ⟨by omega, by omega⟩ ⟨rfl, Nat.le_of_ble_eq_true rfl⟩ rfl ?_
    refine x_goto (t := 2) (by decide) dX10_layChains_28 ?_
    refine x_pick (L2 := [(0, _), (1, _)]) [0, 1] rfl ?_
    refine ih (b + 1) _ ?_ (by omega) (by omega) (fun c z1 z2 => ?_) (fun x x0 x1 => ?_)
    · rw [xu_c (show D ≠ D + 12 by omega), xu_c (show D ≠ D + 11 by omega)]; exact hn
    · rw [xu_c z2, xu_c z1]; exact hf c z1 z2
    · by_cases hx : x = b
      · rw [hx, xu_s, xu_c (show D + 11 ≠ D + 12 by omega), xu_s]; exact ⟨rfl, rfl⟩
      · refine ⟨?_, ?_⟩
        · rw [xu_c (show D + 11 ≠ D + 12 by omega), xu_j hx]; exact (hI x x0 (by omega)).1
        · rw [xu_j hx, xu_c (show D + 12 ≠ D + 11 by omega)]; exact (hI x x0 (by omega)).2
set_option maxHeartbeats 4000000 in
theorem t_X10_layChains {D : Nat} (hD : isMd σ ρ D) {n : Int} {v : vV} (hn : M D 2 = n) (hr : smr n v (M (D + 3))) (hG : wfG n v.1 v.2.1 v.2.2.1) (hq : ∀ M2, (∀ c, c ≠ D + 11 → c ≠ D + 12 → M2 c = M c) → rch M2 D n (mgl n v.1 v.2.1 v.2.2.1) → Q none (σ, ρ, M2)) : xX G mX10_layChains 0 0 0 [(0, xP D)] [] (σ, ρ, M) Q := by
  have h8 := hG.2.1
  have h1 := hG.1
  have hx2 : ∀ b, 0 ≤ b → b < n → v.1 b ≤ 2 := fun b a c => (hG.2.2 b a c).2.1
  refine x_iconst (p2 := 1) rfl dX10_layChains_0 ⟨by decide, by decide⟩ ?_
  refine x_istore_n (p2 := 2) (i := 1) (L2 := [(0, _), (1, _)]) rfl dX10_layChains_1 rfl ⟨rfl, Nat.le_of_ble_eq_true rfl⟩ rfl ?_
  refine x_pick (L2 := [(0, _), (1, _)]) [0, 1] rfl ?_
  exact t_lc0 hD hG hr hq n.toNat 0 M hn (by omega) (by omega) (fun _ _ _ => rfl) (fun x x0 x1 => by omega)
end XML
