section XMQ
variable {G : xG} {σ : List (Nat × Nat)} {ρ : Nat → Int → Option Nat} {M : Nat → Int → Int} {Q : Option xV → xH → Prop}
/-- layout v with the order that has a number -/
def vor (n : Int) (v : vV) (q : Nat) : vV := (v.1, v.2.1, v.2.2.1, plf (orl (v.2.2.2.2.1 - 1).toNat (els n (frs v.2.2.2.1 v.2.2.2.2.1)) q) 1 v.2.2.2.1, v.2.2.2.2.1, v.2.2.2.2.2)
/-- layout v with the class's optimal order -/
def vop (n : Int) (v : vV) : vV := (v.1, v.2.1, v.2.2.1, plf (gpl (shr v.1 v.2.1 v.2.2.1) (v.2.2.2.2.1 - 1).toNat 0 (els n (frs v.2.2.2.1 v.2.2.2.2.1))) 1 v.2.2.2.1, v.2.2.2.2.1, v.2.2.2.2.2)
def cor (n : Int) (v : vV) (q : Nat) : Int := tcs n v.1 v.2.1 v.2.2.1 (plf (orl (v.2.2.2.2.1 - 1).toNat (els n (frs v.2.2.2.1 v.2.2.2.2.1)) q) 1 v.2.2.2.1) v.2.2.2.2.1
theorem vor_wf {n en : Int} {byt : Int → Int} {v : vV} {q : Nat} (hW : wfV n en byt v) (hq : q < fac (v.2.2.2.2.1 - 1).toNat) : wfV n en byt (vor n v q) := by
  have hO := hW.2.1
  have h8 := hW.1.2.1
  have hT := orl_ok (v.2.2.2.2.1 - 1).toNat (els n (frs v.2.2.2.1 v.2.2.2.2.1)) q (frs_len h8 hO) (elf_nodup _ _) hq
  have h1 := hO.2.2.2.1
  have hl2 : ((orl (v.2.2.2.2.1 - 1).toNat (els n (frs v.2.2.2.1 v.2.2.2.2.1)) q).length : Int) = v.2.2.2.2.1 - 1 := by rw [hT.2.1]; omega
  exact ⟨hW.1, wfO_plf h8 hO hT.1 hl2 hT.2.2, hW.2.2⟩
theorem cor_bd {n en : Int} {byt : Int → Int} {v : vV} {q : Nat} (hW : wfV n en byt v) (hq : q < fac (v.2.2.2.2.1 - 1).toNat) : 0 ≤ cor n v q := by
  have hw := vor_wf hW hq
  have h1 := hW.1.1
  exact (sg_bd (c := 594) n.toNat 0 (fun j a b => shr_bd (hw.1.2.2 _ (hw.2.1.1 j a (by omega)).1 (hw.2.1.1 j a (by omega)).2))).1
theorem cor_opt {n en : Int} {byt : Int → Int} {v : vV} (hW : wfV n en byt v) : ∃ r, r < fac (v.2.2.2.2.1 - 1).toNat ∧ vor n v r = vop n v ∧ cor n v r = lcs n v.1 v.2.1 v.2.2.1 v.2.2.2.1 v.2.2.2.2.1 ∧ (∀ q, q < fac (v.2.2.2.2.1 - 1).toNat → cor n v r ≤ cor n v q) ∧ ∀ q, q < r → cor n v r < cor n v q := by
  have hO := hW.2.1
  have hG := hW.1
  have h8 := hG.2.1
  have h1 := hG.1
  have ho1 := hO.2.2.2.1
  have ho2 := hO.2.2.2.2
  have hl := frs_len h8 hO
  have hnd : (els n (frs v.2.2.2.1 v.2.2.2.2.1)).Nodup := elf_nodup _ _
  obtain ⟨r, r1, r2, r3, r4, r5⟩ := orl_opt (shr_n hG) (by omega) (v.2.2.2.2.1 - 1).toNat 0 (els n (frs v.2.2.2.1 v.2.2.2.2.1)) (by omega) hl hnd (by omega) (by omega) (fun b hb => by have := els_mem.mp hb; omega)
  have hc : ∀ q, q < fac (v.2.2.2.2.1 - 1).toNat → cor n v q = pco (shr v.1 v.2.1 v.2.2.1) 0 (orl (v.2.2.2.2.1 - 1).toNat (els n (frs v.2.2.2.1 v.2.2.2.2.1)) q) + cld n v.1 v.2.1 v.2.2.1 v.2.2.2.1 v.2.2.2.2.1 := fun q hq =>
    tcs_plf hO (by rw [(orl_ok _ _ q hl hnd hq).2.1]; omega)
  have hcr : cor n v r = lcs n v.1 v.2.1 v.2.2.1 v.2.2.2.1 v.2.2.2.2.1 := by
    rw [hc r r1, r2, r3]; rfl
  have hcr2 : cor n v r = opt (shr v.1 v.2.1 v.2.2.1) (v.2.2.2.2.1 - 1).toNat 0 (els n (frs v.2.2.2.1 v.2.2.2.2.1)) + cld n v.1 v.2.1 v.2.2.1 v.2.2.2.1 v.2.2.2.2.1 := hcr
  refine ⟨r, r1, ?_, hcr, fun q hq => ?_, fun q hq => ?_⟩
  · unfold vor vop; rw [r2]
  · rw [hcr2, hc q hq]
    have := r4 q hq
    omega
  · rw [hcr2, hc q (by omega)]
    have := r5 q hq
    omega
theorem lcs_tcs {n en : Int} {byt : Int → Int} {v : vV} (hW : wfV n en byt v) : lcs n v.1 v.2.1 v.2.2.1 v.2.2.2.1 v.2.2.2.2.1 = tcs n (vop n v).1 (vop n v).2.1 (vop n v).2.2.1 (vop n v).2.2.2.1 (vop n v).2.2.2.2.1 := by
  obtain ⟨r, r1, r2, r3, -⟩ := cor_opt hW
  rw [← r3, ← r2]; rfl
theorem vop_wf {n en : Int} {byt : Int → Int} {v : vV} (hW : wfV n en byt v) : wfV n en byt (vop n v) := by
  obtain ⟨r, r1, r2, -⟩ := cor_opt hW
  rw [← r2]; exact vor_wf hW r1
/-- the first least among the numbers below q -/
def fst1 (n : Int) (v : vV) (q : Nat) (l : Int) (row : Int → Int) : Prop := (q = 0 ∧ l = -9) ∨ (0 < q ∧ ∃ r, r < q ∧ l = cor n v r ∧ smr n (vor n v r) row ∧ (∀ s, s < q → cor n v r ≤ cor n v s) ∧ ∀ s, s < r → cor n v r < cor n v s)
theorem fst1_end {n en l : Int} {byt row : Int → Int} {v : vV} (hW : wfV n en byt v) (h : fst1 n v (fac (v.2.2.2.2.1 - 1).toNat) l row) : l = lcs n v.1 v.2.1 v.2.2.1 v.2.2.2.1 v.2.2.2.2.1 ∧ smr n (vop n v) row := by
  have hp := fac_pos (v.2.2.2.2.1 - 1).toNat
  obtain ⟨r, r1, r2, r3, r4, r5⟩ := cor_opt hW
  rcases h with h | ⟨-, t, t1, t2, t3, t4, t5⟩
  · omega
  · have a1 := r4 t t1
    have a2 := t4 r r1
    have : t = r := by
      rcases Nat.lt_trichotomy t r with e | e | e
      · have := r5 t e; omega
      · exact e
      · have := t5 r e; omega
    rw [this] at t2 t3
    rw [r2] at t3
    exact ⟨by rw [t2, r3], t3⟩
set_option maxHeartbeats 4000000 in
theorem t_fo1 {D : Nat} (hD : isMd σ ρ D) {n en : Int} {byt : Int → Int} {v : vV} (hM : mdI M D n en byt v) (hW : wfV n en byt v) : ∀ (d j : Nat), 1 ≤ j → (j : Int) + 1 + d = max 2 v.2.2.2.2.1 → xX G mX10_findOptimal 0 0 24 [(0, xP D), (1, xI (fac (v.2.2.2.2.1 - 1).toNat : Nat))] [] (σ, ρ, M) Q → xX G mX10_findOptimal 0 0 4 [(0, xP D), (1, xI (fac j : Nat)), (2, xI ((j : Int) + 1))] [] (σ, ρ, M) Q := by
  obtain ⟨hn, hen, hyb, hr⟩ := id hM
  have hG := hW.1
  have hO := hW.2.1
  have hA := hW.2.2.1
  have he : M D 4 = en ∧ 0 ≤ en ∧ en ≤ 99 := ⟨hen, hW.2.2.2.1⟩
  have hy : ∀ b, 0 ≤ b → b < n → M (D + 2) b = byt b ∧ 0 ≤ byt b ∧ byt b ≤ 9 := fun b a c => ⟨hyb b a c, hW.2.2.2.2 b a c⟩
  have h8 := hG.2.1
  have h1 := hG.1
  have hx2 : ∀ b, 0 ≤ b → b < n → v.1 b ≤ 2 := fun b a c => (hG.2.2 b a c).2.1
  have hO5 := hO.2.2.2
  intro d
  induction d with
  | zero =>
    intro j h0 hm hq
    have hq0 : fac j = fac (v.2.2.2.2.1 - 1).toNat := by
      rcases (show j = (v.2.2.2.2.1 - 1).toNat ∨ (j = 1 ∧ (v.2.2.2.2.1 - 1).toNat = 0) by omega) with e | e
      · rw [e]
      · rw [e.1, e.2]; rfl
    rw [hq0]
    refine x_iload_n (p2 := 5) rfl dX10_findOptimal_4 rfl ?_
    refine x_aload_n (p2 := 6) rfl dX10_findOptimal_5 rfl ?_
    refine x_getr (p2 := 9) (kz := 5) rfl dX10_findOptimal_6 f_10_16 rfl rfl hD.sh hD.r5 ?_
    refine x_iconst (p2 := 10) rfl dX10_findOptimal_9 ⟨by decide, by decide⟩ ?_
    refine x_iald (p2 := 11) rfl dX10_findOptimal_10 hD.a5 (by omega) (by omega) ?_
    rw [hr.h]
    refine x_ic_ge (p2 := 14) (t := 24) (by decide) rfl dX10_findOptimal_11 (fun hc11 => ?_) (fun hc11 => absurd hc11 (by omega))
    refine x_pick (L2 := [(0, _), (1, _)]) [0, 1] rfl ?_
    exact hq
  | succ d ih =>
    intro j h0 hm hq
    have hf7 := fac_7 (j + 1) (by omega)
    have hfj : ((fac j : Nat) : Int) * ((j : Int) + 1) = ((fac (j + 1) : Nat) : Int) := by
      show _ = (((j + 1) * fac j : Nat) : Int)
      rw [Int.natCast_mul, Int.mul_comm]; rfl
    refine x_iload_n (p2 := 5) rfl dX10_findOptimal_4 rfl ?_
    refine x_aload_n (p2 := 6) rfl dX10_findOptimal_5 rfl ?_
    refine x_getr (p2 := 9) (kz := 5) rfl dX10_findOptimal_6 f_10_16 rfl rfl hD.sh hD.r5 ?_
    refine x_iconst (p2 := 10) rfl dX10_findOptimal_9 ⟨by decide, by decide⟩ ?_
    refine x_iald (p2 := 11) rfl dX10_findOptimal_10 hD.a5 (by omega) (by omega) ?_
    rw [hr.h]
    refine x_ic_ge (p2 := 14) (t := 24) (by decide) rfl dX10_findOptimal_11 (fun hc11 => ?_) (fun hc11 => ?_)
    · exact absurd hc11 (by omega)
    refine x_iload_n (p2 := 15) rfl dX10_findOptimal_14 rfl ?_
    refine x_iload_n (p2 := 16) rfl dX10_findOptimal_15 rfl ?_
    have hxm : xin (((fac j : Nat) : Int) * ((j : Int) + 1)) := by rw [hfj]; exact ⟨by omega, by omega⟩
    refine x_imul (p2 := 17) rfl dX10_findOptimal_16 hxm ?_
    rw [hfj]
    refine x_istore_n (p2 := 18) (i := 1) (L2 := [(0, _), (1, _), (2, _)]) rfl dX10_findOptimal_17 rfl ⟨rfl, Nat.le_of_ble_eq_true rfl⟩ rfl ?_
    refine x_iinc (p2 := 21) (L2 := [(0, _), (1, _), (2, _)]) rfl dX10_findOptimal_18 rfl ⟨by omega, by omega⟩ ⟨rfl, Nat.le_of_ble_eq_true rfl⟩ rfl ?_
    refine x_goto (t := 4) (by decide) dX10_findOptimal_21 ?_
    refine x_pick (L2 := [(0, _), (1, _), (2, _)]) [0, 1, 2] rfl ?_
    have := ih (j + 1) (by omega) (by omega) hq
    rw [show ((j + 1 : Nat) : Int) + 1 = (j : Int) + 1 + 1 by omega] at this
    exact this
set_option maxHeartbeats 4000000 in
theorem t_fo2 {D : Nat} (hD : isMd σ ρ D) {n en : Int} {byt : Int → Int} {v : vV} (hM : mdI M D n en byt v) (hW : wfV n en byt v) (hq : ∀ M2, (∀ c, c ≠ D + 4 → c ≠ D + 5 → c ≠ D + 14 → M2 c = M c) → smr n (vop n v) (M2 (D + 5)) → Q (some (xI (lcs n v.1 v.2.1 v.2.2.1 v.2.2.2.1 v.2.2.2.2.1))) (σ, ρ, M2)) : ∀ (k q : Nat) (l : Int) (M1 : Nat → Int → Int), q + k = fac (v.2.2.2.2.1 - 1).toNat → (∀ c, c ≠ D + 4 → c ≠ D + 5 → c ≠ D + 14 → M1 c = M c) → fst1 n v q l (M1 (D + 5)) → xX G mX10_findOptimal 0 0 29 [(0, xP D), (1, xI (fac (v.2.2.2.2.1 - 1).toNat : Nat)), (2, xI l), (3, xI (q : Nat))] [] (σ, ρ, M1) Q := by
  obtain ⟨hn, hen, hyb, hr⟩ := id hM
  have hG := hW.1
  have hO := hW.2.1
  have hA := hW.2.2.1
  have he : M D 4 = en ∧ 0 ≤ en ∧ en ≤ 99 := ⟨hen, hW.2.2.2.1⟩
  have hy : ∀ b, 0 ≤ b → b < n → M (D + 2) b = byt b ∧ 0 ≤ byt b ∧ byt b ≤ 9 := fun b a c => ⟨hyb b a c, hW.2.2.2.2 b a c⟩
  have h8 := hG.2.1
  have h1 := hG.1
  have hx2 : ∀ b, 0 ≤ b → b < n → v.1 b ≤ 2 := fun b a c => (hG.2.2 b a c).2.1
  have hO5 := hO.2.2.2
  have hf7 := fac_7 (v.2.2.2.2.1 - 1).toNat (by omega)
  intro k
  induction k with
  | zero =>
    intro q l M1 hk hf hF
    rw [show q = fac (v.2.2.2.2.1 - 1).toNat by omega] at hF
    have hE := fst1_end hW hF
    refine x_iload_n (p2 := 30) rfl dX10_findOptimal_29 rfl ?_
    refine x_iload_n (p2 := 31) rfl dX10_findOptimal_30 rfl ?_
    refine x_ic_ge (p2 := 34) (t := 82) (by decide) rfl dX10_findOptimal_31 (fun hc31 => ?_) (fun hc31 => absurd hc31 (by omega))
    refine x_iload_n (p2 := 83) rfl dX10_findOptimal_82 rfl ?_
    refine x_iret dX10_findOptimal_83 rfl ?_
    rw [hE.1]; exact hq M1 hf hE.2
  | succ k ih =>
    intro q l M1 hk hf hF
    have hql : q < fac (v.2.2.2.2.1 - 1).toNat := by omega
    have hWq := vor_wf hW hql
    have hcb := cor_bd hW hql
    have hM1 : mdI M1 D n en byt v := ⟨by rw [hf D (by omega) (by omega) (by omega)]; exact hn, by rw [hf D (by omega) (by omega) (by omega)]; exact hen, fun b a c => by rw [hf (D + 2) (by omega) (by omega) (by omega)]; exact hyb b a c, by rw [hf (D + 3) (by omega) (by omega) (by omega)]; exact hr⟩
    have hcs : tcs n (vor n v q).1 (vor n v q).2.1 (vor n v q).2.2.1 (vor n v q).2.2.2.1 (vor n v q).2.2.2.2.1 = cor n v q := rfl
    refine x_iload_n (p2 := 30) rfl dX10_findOptimal_29 rfl ?_
    refine x_iload_n (p2 := 31) rfl dX10_findOptimal_30 rfl ?_
    refine x_ic_ge (p2 := 34) (t := 82) (by decide) rfl dX10_findOptimal_31 (fun hc31 => ?_) (fun hc31 => ?_)
    · exact absurd hc31 (by omega)
    refine x_aload_n (p2 := 35) rfl dX10_findOptimal_34 rfl ?_
    refine x_iload_n (p2 := 36) rfl dX10_findOptimal_35 rfl ?_
    refine x_iload_n (p2 := 37) rfl dX10_findOptimal_36 rfl ?_
    refine x_v2 (p2 := 40) rfl dX10_findOptimal_37 l_10_157 ok_X10_layOrder rfl hD.sh rfl ?_
    refine t_X10_layOrder hD hM1 hW hql (fun M37 hf37 hv37 => ?_)
    refine x_aload_n (p2 := 41) rfl dX10_findOptimal_40 rfl ?_
    refine x_aload_n (p2 := 42) rfl dX10_findOptimal_41 rfl ?_
    refine x_getr (p2 := 45) (kz := 6) rfl dX10_findOptimal_42 f_10_19 rfl rfl hD.sh hD.r6 ?_
    refine x_v1 (p2 := 48) rfl dX10_findOptimal_45 l_10_140 ok_X10_costOf rfl hD.sh rfl ?_
    refine t_X10_costOf hD hD.a6 (v := vor n v q) (by rw [hf37 D (by omega) (by omega)]; exact hM1.1) hv37 hWq.1 hWq.2.1 ?_
    rw [hcs]
    refine x_istore (p2 := 50) (i := 4) (L2 := [(0, _), (1, _), (2, _), (3, _), (4, _)]) rfl dX10_findOptimal_48 ⟨rfl, Nat.le_of_ble_eq_true rfl⟩ rfl ?_
    refine x_iload_n (p2 := 51) rfl dX10_findOptimal_50 rfl ?_
    refine x_bipush (p2 := 53) rfl dX10_findOptimal_51 ⟨by decide, ⟨by decide, by decide⟩⟩ ?_
    refine x_ic_eq (p2 := 56) (t := 62) (by decide) rfl dX10_findOptimal_53 (fun hc53 => ?_) (fun hc53 => ?_)
    · skip
      refine x_iload (p2 := 64) rfl dX10_findOptimal_62 rfl ?_
      refine x_istore_n (p2 := 65) (i := 2) (L2 := [(0, _), (1, _), (2, _), (3, _), (4, _)]) rfl dX10_findOptimal_64 rfl ⟨rfl, Nat.le_of_ble_eq_true rfl⟩ rfl ?_
      refine x_aload_n (p2 := 66) rfl dX10_findOptimal_65 rfl ?_
      refine x_getr (p2 := 69) (kz := 6) rfl dX10_findOptimal_66 f_10_19 rfl rfl hD.sh hD.r6 ?_
      refine x_aload_n (p2 := 70) rfl dX10_findOptimal_69 rfl ?_
      refine x_getr (p2 := 73) (kz := 7) rfl dX10_findOptimal_70 f_10_22 rfl rfl hD.sh hD.r7 ?_
      refine x_s2 (p2 := 76) rfl dX10_findOptimal_73 l_10_100 ok_X10_copy rfl rfl ?_
      refine t_X10_copy hD.a6 hD.a7 (by omega) (fun M73 hs73 hv73 => ?_)
      refine x_iinc (p2 := 79) (L2 := [(0, _), (1, _), (2, _), (3, _), (4, _)]) rfl dX10_findOptimal_76 rfl ⟨by omega, by omega⟩ ⟨rfl, Nat.le_of_ble_eq_true rfl⟩ rfl ?_
      refine x_goto (t := 29) (by decide) dX10_findOptimal_79 ?_
      refine x_pick (L2 := [(0, _), (1, _), (2, _), (3, _)]) [0, 1, 2, 3] rfl ?_
      first
        | (rw [show ((q : Nat) : Int) + 1 = ((q + 1 : Nat) : Int) by omega]
           refine ih (q + 1) _ M73 (by omega) (fun c z1 z2 z3 => (hs73 c z2).trans ((hf37 c z1 z3).trans (hf c z1 z2 z3))) ?_
           have hv5 := smr_cp hv37 h8 hx2 hv73
           refine Or.inr ⟨by omega, q, by omega, rfl, hv5, fun s hs => ?_, fun s hs => ?_⟩
           · rcases Nat.lt_or_ge s q with e | e
             · rcases hF with h | ⟨h0, r, r1, r2, r3, r4, r5⟩
               · omega
               · have a1 := r4 s e
                 first
                   | omega
                   | (have a2 := cor_bd hW (show r < _ by omega); omega)
             · rw [show s = q by omega]; exact Int.le_refl _
           · rcases hF with h | ⟨h0, r, r1, r2, r3, r4, r5⟩
             · omega
             · have a1 := r4 s hs
               first
                 | omega
                 | (have a2 := cor_bd hW (show r < _ by omega); omega))
        | (rw [show ((q : Nat) : Int) + 1 = ((q + 1 : Nat) : Int) by omega]
           refine ih (q + 1) _ M37 (by omega) (fun c z1 z2 z3 => (hf37 c z1 z3).trans (hf c z1 z2 z3)) ?_
           rcases hF with h | ⟨h0, r, r1, r2, r3, r4, r5⟩
           · omega
           · refine Or.inr ⟨by omega, r, by omega, r2, ?_, fun s hs => ?_, r5⟩
             · rw [hf37 (D + 5) (by omega) (by omega)]; exact r3
             · rcases Nat.lt_or_ge s q with e | e
               · exact r4 s e
               · rw [show s = q by omega]; omega)
    · skip
      refine x_iload (p2 := 58) rfl dX10_findOptimal_56 rfl ?_
      refine x_iload_n (p2 := 59) rfl dX10_findOptimal_58 rfl ?_
      refine x_ic_ge (p2 := 62) (t := 76) (by decide) rfl dX10_findOptimal_59 (fun hc59 => ?_) (fun hc59 => ?_)
      · skip
        refine x_iinc (p2 := 79) (L2 := [(0, _), (1, _), (2, _), (3, _), (4, _)]) rfl dX10_findOptimal_76 rfl ⟨by omega, by omega⟩ ⟨rfl, Nat.le_of_ble_eq_true rfl⟩ rfl ?_
        refine x_goto (t := 29) (by decide) dX10_findOptimal_79 ?_
        refine x_pick (L2 := [(0, _), (1, _), (2, _), (3, _)]) [0, 1, 2, 3] rfl ?_
        first
          | (rw [show ((q : Nat) : Int) + 1 = ((q + 1 : Nat) : Int) by omega]
             refine ih (q + 1) _ M73 (by omega) (fun c z1 z2 z3 => (hs73 c z2).trans ((hf37 c z1 z3).trans (hf c z1 z2 z3))) ?_
             have hv5 := smr_cp hv37 h8 hx2 hv73
             refine Or.inr ⟨by omega, q, by omega, rfl, hv5, fun s hs => ?_, fun s hs => ?_⟩
             · rcases Nat.lt_or_ge s q with e | e
               · rcases hF with h | ⟨h0, r, r1, r2, r3, r4, r5⟩
                 · omega
                 · have a1 := r4 s e
                   first
                     | omega
                     | (have a2 := cor_bd hW (show r < _ by omega); omega)
               · rw [show s = q by omega]; exact Int.le_refl _
             · rcases hF with h | ⟨h0, r, r1, r2, r3, r4, r5⟩
               · omega
               · have a1 := r4 s hs
                 first
                   | omega
                   | (have a2 := cor_bd hW (show r < _ by omega); omega))
          | (rw [show ((q : Nat) : Int) + 1 = ((q + 1 : Nat) : Int) by omega]
             refine ih (q + 1) _ M37 (by omega) (fun c z1 z2 z3 => (hf37 c z1 z3).trans (hf c z1 z2 z3)) ?_
             rcases hF with h | ⟨h0, r, r1, r2, r3, r4, r5⟩
             · omega
             · refine Or.inr ⟨by omega, r, by omega, r2, ?_, fun s hs => ?_, r5⟩
               · rw [hf37 (D + 5) (by omega) (by omega)]; exact r3
               · rcases Nat.lt_or_ge s q with e | e
                 · exact r4 s e
                 · rw [show s = q by omega]; omega)
      · skip
        refine x_iload (p2 := 64) rfl dX10_findOptimal_62 rfl ?_
        refine x_istore_n (p2 := 65) (i := 2) (L2 := [(0, _), (1, _), (2, _), (3, _), (4, _)]) rfl dX10_findOptimal_64 rfl ⟨rfl, Nat.le_of_ble_eq_true rfl⟩ rfl ?_
        refine x_aload_n (p2 := 66) rfl dX10_findOptimal_65 rfl ?_
        refine x_getr (p2 := 69) (kz := 6) rfl dX10_findOptimal_66 f_10_19 rfl rfl hD.sh hD.r6 ?_
        refine x_aload_n (p2 := 70) rfl dX10_findOptimal_69 rfl ?_
        refine x_getr (p2 := 73) (kz := 7) rfl dX10_findOptimal_70 f_10_22 rfl rfl hD.sh hD.r7 ?_
        refine x_s2 (p2 := 76) rfl dX10_findOptimal_73 l_10_100 ok_X10_copy rfl rfl ?_
        refine t_X10_copy hD.a6 hD.a7 (by omega) (fun M73 hs73 hv73 => ?_)
        refine x_iinc (p2 := 79) (L2 := [(0, _), (1, _), (2, _), (3, _), (4, _)]) rfl dX10_findOptimal_76 rfl ⟨by omega, by omega⟩ ⟨rfl, Nat.le_of_ble_eq_true rfl⟩ rfl ?_
        refine x_goto (t := 29) (by decide) dX10_findOptimal_79 ?_
        refine x_pick (L2 := [(0, _), (1, _), (2, _), (3, _)]) [0, 1, 2, 3] rfl ?_
        first
          | (rw [show ((q : Nat) : Int) + 1 = ((q + 1 : Nat) : Int) by omega]
             refine ih (q + 1) _ M73 (by omega) (fun c z1 z2 z3 => (hs73 c z2).trans ((hf37 c z1 z3).trans (hf c z1 z2 z3))) ?_
             have hv5 := smr_cp hv37 h8 hx2 hv73
             refine Or.inr ⟨by omega, q, by omega, rfl, hv5, fun s hs => ?_, fun s hs => ?_⟩
             · rcases Nat.lt_or_ge s q with e | e
               · rcases hF with h | ⟨h0, r, r1, r2, r3, r4, r5⟩
                 · omega
                 · have a1 := r4 s e
                   first
                     | omega
                     | (have a2 := cor_bd hW (show r < _ by omega); omega)
               · rw [show s = q by omega]; exact Int.le_refl _
             · rcases hF with h | ⟨h0, r, r1, r2, r3, r4, r5⟩
               · omega
               · have a1 := r4 s hs
                 first
                   | omega
                   | (have a2 := cor_bd hW (show r < _ by omega); omega))
          | (rw [show ((q : Nat) : Int) + 1 = ((q + 1 : Nat) : Int) by omega]
             refine ih (q + 1) _ M37 (by omega) (fun c z1 z2 z3 => (hf37 c z1 z3).trans (hf c z1 z2 z3)) ?_
             rcases hF with h | ⟨h0, r, r1, r2, r3, r4, r5⟩
             · omega
             · refine Or.inr ⟨by omega, r, by omega, r2, ?_, fun s hs => ?_, r5⟩
               · rw [hf37 (D + 5) (by omega) (by omega)]; exact r3
               · rcases Nat.lt_or_ge s q with e | e
                 · exact r4 s e
                 · rw [show s = q by omega]; omega)
set_option maxHeartbeats 4000000 in
theorem t_X10_findOptimal {D : Nat} (hD : isMd σ ρ D) {n en : Int} {byt : Int → Int} {v : vV} (hM : mdI M D n en byt v) (hW : wfV n en byt v) (hq : ∀ M2, (∀ c, c ≠ D + 4 → c ≠ D + 5 → c ≠ D + 14 → M2 c = M c) → smr n (vop n v) (M2 (D + 5)) → Q (some (xI (lcs n v.1 v.2.1 v.2.2.1 v.2.2.2.1 v.2.2.2.2.1))) (σ, ρ, M2)) : xX G mX10_findOptimal 0 0 0 [(0, xP D)] [] (σ, ρ, M) Q := by
  obtain ⟨hn, hen, hyb, hr⟩ := id hM
  have hG := hW.1
  have hO := hW.2.1
  have hA := hW.2.2.1
  have he : M D 4 = en ∧ 0 ≤ en ∧ en ≤ 99 := ⟨hen, hW.2.2.2.1⟩
  have hy : ∀ b, 0 ≤ b → b < n → M (D + 2) b = byt b ∧ 0 ≤ byt b ∧ byt b ≤ 9 := fun b a c => ⟨hyb b a c, hW.2.2.2.2 b a c⟩
  have h8 := hG.2.1
  have h1 := hG.1
  have hx2 : ∀ b, 0 ≤ b → b < n → v.1 b ≤ 2 := fun b a c => (hG.2.2 b a c).2.1
  have hO5 := hO.2.2.2
  refine x_iconst (p2 := 1) rfl dX10_findOptimal_0 ⟨by decide, by decide⟩ ?_
  refine x_istore_n (p2 := 2) (i := 1) (L2 := [(0, _), (1, _)]) rfl dX10_findOptimal_1 rfl ⟨rfl, Nat.le_of_ble_eq_true rfl⟩ rfl ?_
  refine x_iconst (p2 := 3) rfl dX10_findOptimal_2 ⟨by decide, by decide⟩ ?_
  refine x_istore_n (p2 := 4) (i := 2) (L2 := [(0, _), (1, _), (2, _)]) rfl dX10_findOptimal_3 rfl ⟨rfl, Nat.le_of_ble_eq_true rfl⟩ rfl ?_
  refine x_pick (L2 := [(0, _), (1, _), (2, _)]) [0, 1, 2] rfl ?_
  refine t_fo1 hD hM hW (v.2.2.2.2.1 - 2).toNat 1 (by omega) (by omega) ?_
  refine x_bipush (p2 := 26) rfl dX10_findOptimal_24 ⟨by decide, ⟨by decide, by decide⟩⟩ ?_
  refine x_istore_n (p2 := 27) (i := 2) (L2 := [(0, _), (1, _), (2, _)]) rfl dX10_findOptimal_26 rfl ⟨rfl, Nat.le_of_ble_eq_true rfl⟩ rfl ?_
  refine x_iconst (p2 := 28) rfl dX10_findOptimal_27 ⟨by decide, by decide⟩ ?_
  refine x_istore_n (p2 := 29) (i := 3) (L2 := [(0, _), (1, _), (2, _), (3, _)]) rfl dX10_findOptimal_28 rfl ⟨rfl, Nat.le_of_ble_eq_true rfl⟩ rfl ?_
  refine x_pick (L2 := [(0, _), (1, _), (2, _), (3, _)]) [0, 1, 2, 3] rfl ?_
  exact t_fo2 hD hM hW hq (fac (v.2.2.2.2.1 - 1).toNat) 0 (-9) M (by omega) (fun _ _ _ _ => rfl) (Or.inl ⟨rfl, rfl⟩)
set_option maxHeartbeats 4000000 in
theorem t_X10_optimalCost {D : Nat} (hD : isMd σ ρ D) {n en : Int} {byt : Int → Int} {v : vV} (hM : mdI M D n en byt v) (hW : wfV n en byt v) (hq : ∀ M2, rq M M2 D → Q (some (xI (lcs n v.1 v.2.1 v.2.2.1 v.2.2.2.1 v.2.2.2.2.1))) (σ, ρ, M2)) : xX G mX10_optimalCost 0 0 0 [(0, xP D)] [] (σ, ρ, M) Q := by
  obtain ⟨hn, hen, hyb, hr⟩ := id hM
  have hG := hW.1
  have hO := hW.2.1
  have hA := hW.2.2.1
  have he : M D 4 = en ∧ 0 ≤ en ∧ en ≤ 99 := ⟨hen, hW.2.2.2.1⟩
  have hy : ∀ b, 0 ≤ b → b < n → M (D + 2) b = byt b ∧ 0 ≤ byt b ∧ byt b ≤ 9 := fun b a c => ⟨hyb b a c, hW.2.2.2.2 b a c⟩
  have h8 := hG.2.1
  have h1 := hG.1
  have hx2 : ∀ b, 0 ≤ b → b < n → v.1 b ≤ 2 := fun b a c => (hG.2.2 b a c).2.1
  have hO5 := hO.2.2.2
  refine x_aload_n (p2 := 1) rfl dX10_optimalCost_0 rfl ?_
  refine x_v0 (p2 := 4) rfl dX10_optimalCost_1 l_10_161 ok_X10_findOptimal rfl hD.sh rfl ?_
  refine t_X10_findOptimal hD hM hW (fun M4 hf4 hv4 => ?_)
  refine x_iret dX10_optimalCost_4 rfl ?_
  exact hq M4 ⟨fun c z => hf4 c (by omega) (by omega) (by omega), fun f z => by rw [hf4 D (by omega) (by omega) (by omega)]⟩
theorem ra.mk0 {M0 M1 M2 : Nat → Int → Int} {D : Nat} {n : Int} {v : vV} (h0 : ∀ c, c ≠ D + 4 → c ≠ D + 5 → c ≠ D + 14 → M0 c = M c) (h : nt M0 M1 D) (h1 : ∀ c, c ≠ D + 3 → M2 c = M1 c) (h3 : smr n v (M2 (D + 3))) : ra M M2 D n v := by
  have hh := ra.mk (M2 := M2) h (fun c z => h1 c (by omega)) (fun f z => by rw [h1 D (by omega)]) h3
  obtain ⟨a1, a2, a3, a4, a5, a6, a7⟩ := hh
  have hD := h0 D (by omega) (by omega) (by omega)
  have h3 := h0 (D + 3) (by omega) (by omega) (by omega)
  have h6 := h0 (D + 6) (by omega) (by omega) (by omega)
  rw [hD] at a2 a3 a4 a5 a6
  rw [h3] at a2
  rw [h6] at a3
  exact ⟨fun c z => (a1 c z).trans (h0 c (by omega) (by omega) (by omega)), a2, a3, a4, a5, a6, a7⟩
set_option maxHeartbeats 4000000 in
theorem t_X10_orderOptimally {D : Nat} (hD : isMd σ ρ D) {n en : Int} {byt : Int → Int} {v : vV} (hM : mdI M D n en byt v) (hW : wfV n en byt v) (hx : 0 ≤ M D 10 ∧ M D 10 < 14) (ha : 0 ≤ M D 9 ∧ M D 9 ≤ 14) (hq : ∀ M2, ra M M2 D n (vop n v) → Q (some (xI (tcs n (vop n v).1 (vop n v).2.1 (vop n v).2.2.1 (vop n v).2.2.2.1 (vop n v).2.2.2.2.1))) (σ, ρ, M2)) : xX G mX10_orderOptimally 0 0 0 [(0, xP D)] [] (σ, ρ, M) Q := by
  obtain ⟨hn, hen, hyb, hr⟩ := id hM
  have hG := hW.1
  have hO := hW.2.1
  have hA := hW.2.2.1
  have he : M D 4 = en ∧ 0 ≤ en ∧ en ≤ 99 := ⟨hen, hW.2.2.2.1⟩
  have hy : ∀ b, 0 ≤ b → b < n → M (D + 2) b = byt b ∧ 0 ≤ byt b ∧ byt b ≤ 9 := fun b a c => ⟨hyb b a c, hW.2.2.2.2 b a c⟩
  have h8 := hG.2.1
  have h1 := hG.1
  have hx2 : ∀ b, 0 ≤ b → b < n → v.1 b ≤ 2 := fun b a c => (hG.2.2 b a c).2.1
  have hO5 := hO.2.2.2
  refine x_aload_n (p2 := 1) rfl dX10_orderOptimally_0 rfl ?_
  refine x_v0 (p2 := 4) rfl dX10_orderOptimally_1 l_10_161 ok_X10_findOptimal rfl hD.sh rfl ?_
  refine t_X10_findOptimal hD hM hW (fun M4 hf4 hv4 => ?_)
  refine x_istore_n (p2 := 5) (i := 1) (L2 := [(0, _), (1, _)]) rfl dX10_orderOptimally_4 rfl ⟨rfl, Nat.le_of_ble_eq_true rfl⟩ rfl ?_
  refine x_aload_n (p2 := 6) rfl dX10_orderOptimally_5 rfl ?_
  refine x_v0 (p2 := 9) rfl dX10_orderOptimally_6 l_10_150 ok_X10_note rfl hD.sh rfl ?_
  refine t_X10_note hD (by rw [hf4 D (by omega) (by omega) (by omega)]; exact hx) (by rw [hf4 D (by omega) (by omega) (by omega)]; exact ha) (fun M1 hnt => ?_)
  refine x_aload_n (p2 := 10) rfl dX10_orderOptimally_9 rfl ?_
  refine x_getr (p2 := 13) (kz := 7) rfl dX10_orderOptimally_10 f_10_22 rfl rfl hD.sh hD.r7 ?_
  refine x_aload_n (p2 := 14) rfl dX10_orderOptimally_13 rfl ?_
  refine x_getr (p2 := 17) (kz := 5) rfl dX10_orderOptimally_14 f_10_16 rfl rfl hD.sh hD.r5 ?_
  refine x_s2 (p2 := 20) rfl dX10_orderOptimally_17 l_10_100 ok_X10_copy rfl rfl ?_
  refine t_X10_copy hD.a7 hD.a5 (by omega) (fun M17 hs17 hv17 => ?_)
  refine x_iload_n (p2 := 21) rfl dX10_orderOptimally_20 rfl ?_
  refine x_iret dX10_orderOptimally_21 rfl ?_
  rw [lcs_tcs hW]
  refine hq _ (ra.mk0 hf4 hnt (fun c z => hs17 c (by omega)) (smr_cp (by rw [hnt.1 (D + 5) (by omega) (by omega)]; exact hv4) h8 hx2 hv17))
end XMQ
