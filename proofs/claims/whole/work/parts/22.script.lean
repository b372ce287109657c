section XSC
variable {G : xG} {σ : List (Nat × Nat)} {ρ : Nat → Int → Option Nat} {M : Nat → Int → Int} {Q : Option xV → xH → Prop}
theorem vw_o {S : Nat} {r : Int → Int} : vw (xw M (S + 4) r) S = (M (S + 1), M (S + 2), M (S + 3), r, M S 5, M S 6) := by
  unfold vw
  rw [xw_n (show S + 1 ≠ S + 4 by omega), xw_n (show S + 2 ≠ S + 4 by omega), xw_n (show S + 3 ≠ S + 4 by omega), xw_s, xw_n (show S ≠ S + 4 by omega)]
theorem vw_oh {S : Nat} {r : Int → Int} {h : Int} : vw (xu (xw M (S + 4) r) S 5 h) S = (M (S + 1), M (S + 2), M (S + 3), r, h, M S 6) := by
  unfold vw
  rw [xu_c (show S + 1 ≠ S by omega), xu_c (show S + 2 ≠ S by omega), xu_c (show S + 3 ≠ S by omega), xu_c (show S + 4 ≠ S by omega), xu_s, xu_j (show (6 : Int) ≠ 5 by omega), xw_n (show S + 1 ≠ S + 4 by omega), xw_n (show S + 2 ≠ S + 4 by omega), xw_n (show S + 3 ≠ S + 4 by omega), xw_s, xw_n (show S ≠ S + 4 by omega)]
theorem vw_g {S : Nat} {ex tg ct : Int → Int} {j x : Int} : vw (xu (st3 M S ex tg ct) (S + 3) j x) S = (ex, tg, upf ct j x, M (S + 4), M S 5, M S 6) := by
  rw [st3_u3]
  unfold vw
  rw [st3_1, st3_2, st3_3, st3_n (show S + 4 ≠ S + 1 by omega) (by omega) (by omega), st3_n (show S ≠ S + 1 by omega) (by omega) (by omega)]
theorem smo.rf {lo hi : Nat} : smo M M lo hi := fun _ _ => rfl
theorem smo.tr {M1 M2 M3 : Nat → Int → Int} {lo hi : Nat} (h : smo M1 M2 lo hi) (g : smo M2 M3 lo hi) : smo M1 M3 lo hi := fun c z => (g c z).trans (h c z)
theorem smo.u {lo hi c : Nat} {j v : Int} (h : lo ≤ c ∧ c ≤ hi) : smo M (xu M c j v) lo hi := fun a z => xu_c (by omega)
theorem smo.w {lo hi c : Nat} {r : Int → Int} (h : lo ≤ c ∧ c ≤ hi) : smo M (xw M c r) lo hi := fun a z => xw_n (by omega)
theorem smo.s3 {S : Nat} {ex tg ct : Int → Int} : smo M (st3 M S ex tg ct) S (S + 4) := fun a z => st3_n (by omega) (by omega) (by omega)
/-- a group of a script: whether it succeeds, and what it leaves -/
def sok (n : Int) (byt : Int → Int) (v : vV) (g : Int) : Bool := if g / 1000 = 1 then decide (g % 10 = 0 ∧ 0 < g / 100 % 10 ∧ g / 100 % 10 < n ∧ 0 < g / 10 % 10 ∧ g / 10 % 10 < n) else if g / 1000 = 2 then decide (g % 10 = 0 ∧ 0 < g / 100 % 10 ∧ g / 100 % 10 ≤ g / 10 % 10 ∧ g / 10 % 10 < n ∧ g / 10 % 10 < v.2.2.2.2.1) else if g / 1000 = 3 then decide (g / 100 % 10 = 0 ∧ 1 ≤ g % 100) else if g / 1000 = 4 then decide (g / 100 % 10 < n ∧ sof n v.1 v.2.1 v.2.2.2.1 byt v.2.2.2.2.1 v.2.2.2.2.2 (g / 100 % 10) n.toNat 0 0 = g % 100) else if g / 1000 = 5 then decide (tcs n v.1 v.2.1 v.2.2.1 v.2.2.2.1 v.2.2.2.2.1 = g % 1000) else if g / 1000 = 6 then decide (eoc n v.1 v.2.1 v.2.2.2.1 byt v.2.2.2.2.1 v.2.2.2.2.2 n.toNat 0 0 = g % 1000) else if g / 1000 = 7 then decide (g / 10 % 10 = 0 ∧ g % 10 = 0 ∧ 0 < g / 100 % 10 ∧ g / 100 % 10 < n ∧ byt (g / 100 % 10) = 0 ∧ v.1 (g / 100 % 10) = 1 ∧ v.2.1 (2 * (g / 100 % 10) + 0) ≠ g / 100 % 10) else if g / 1000 = 8 then decide (g % 10 = 0 ∧ g / 100 % 10 < n ∧ g / 10 % 10 < n ∧ fob n v.2.2.2.1 v.2.2.2.2.1 (g / 100 % 10) = g / 10 % 10) else false
theorem sok_1 {n g : Int} {byt : Int → Int} {v : vV} (h : g / 1000 = 1) : sok n byt v g = decide (g % 10 = 0 ∧ 0 < g / 100 % 10 ∧ g / 100 % 10 < n ∧ 0 < g / 10 % 10 ∧ g / 10 % 10 < n) := by
  unfold sok; rw [if_pos h]
theorem sok_2 {n g : Int} {byt : Int → Int} {v : vV} (h : g / 1000 = 2) : sok n byt v g = decide (g % 10 = 0 ∧ 0 < g / 100 % 10 ∧ g / 100 % 10 ≤ g / 10 % 10 ∧ g / 10 % 10 < n ∧ g / 10 % 10 < v.2.2.2.2.1) := by
  unfold sok; rw [if_neg (show ¬ g / 1000 = 1 by omega), if_pos h]
theorem sok_3 {n g : Int} {byt : Int → Int} {v : vV} (h : g / 1000 = 3) : sok n byt v g = decide (g / 100 % 10 = 0 ∧ 1 ≤ g % 100) := by
  unfold sok; rw [if_neg (show ¬ g / 1000 = 1 by omega), if_neg (show ¬ g / 1000 = 2 by omega), if_pos h]
theorem sok_4 {n g : Int} {byt : Int → Int} {v : vV} (h : g / 1000 = 4) : sok n byt v g = decide (g / 100 % 10 < n ∧ sof n v.1 v.2.1 v.2.2.2.1 byt v.2.2.2.2.1 v.2.2.2.2.2 (g / 100 % 10) n.toNat 0 0 = g % 100) := by
  unfold sok; rw [if_neg (show ¬ g / 1000 = 1 by omega), if_neg (show ¬ g / 1000 = 2 by omega), if_neg (show ¬ g / 1000 = 3 by omega), if_pos h]
theorem sok_5 {n g : Int} {byt : Int → Int} {v : vV} (h : g / 1000 = 5) : sok n byt v g = decide (tcs n v.1 v.2.1 v.2.2.1 v.2.2.2.1 v.2.2.2.2.1 = g % 1000) := by
  unfold sok; rw [if_neg (show ¬ g / 1000 = 1 by omega), if_neg (show ¬ g / 1000 = 2 by omega), if_neg (show ¬ g / 1000 = 3 by omega), if_neg (show ¬ g / 1000 = 4 by omega), if_pos h]
theorem sok_6 {n g : Int} {byt : Int → Int} {v : vV} (h : g / 1000 = 6) : sok n byt v g = decide (eoc n v.1 v.2.1 v.2.2.2.1 byt v.2.2.2.2.1 v.2.2.2.2.2 n.toNat 0 0 = g % 1000) := by
  unfold sok; rw [if_neg (show ¬ g / 1000 = 1 by omega), if_neg (show ¬ g / 1000 = 2 by omega), if_neg (show ¬ g / 1000 = 3 by omega), if_neg (show ¬ g / 1000 = 4 by omega), if_neg (show ¬ g / 1000 = 5 by omega), if_pos h]
theorem sok_7 {n g : Int} {byt : Int → Int} {v : vV} (h : g / 1000 = 7) : sok n byt v g = decide (g / 10 % 10 = 0 ∧ g % 10 = 0 ∧ 0 < g / 100 % 10 ∧ g / 100 % 10 < n ∧ byt (g / 100 % 10) = 0 ∧ v.1 (g / 100 % 10) = 1 ∧ v.2.1 (2 * (g / 100 % 10) + 0) ≠ g / 100 % 10) := by
  unfold sok; rw [if_neg (show ¬ g / 1000 = 1 by omega), if_neg (show ¬ g / 1000 = 2 by omega), if_neg (show ¬ g / 1000 = 3 by omega), if_neg (show ¬ g / 1000 = 4 by omega), if_neg (show ¬ g / 1000 = 5 by omega), if_neg (show ¬ g / 1000 = 6 by omega), if_pos h]
theorem sok_8 {n g : Int} {byt : Int → Int} {v : vV} (h : g / 1000 = 8) : sok n byt v g = decide (g % 10 = 0 ∧ g / 100 % 10 < n ∧ g / 10 % 10 < n ∧ fob n v.2.2.2.1 v.2.2.2.2.1 (g / 100 % 10) = g / 10 % 10) := by
  unfold sok; rw [if_neg (show ¬ g / 1000 = 1 by omega), if_neg (show ¬ g / 1000 = 2 by omega), if_neg (show ¬ g / 1000 = 3 by omega), if_neg (show ¬ g / 1000 = 4 by omega), if_neg (show ¬ g / 1000 = 5 by omega), if_neg (show ¬ g / 1000 = 6 by omega), if_neg (show ¬ g / 1000 = 7 by omega), if_pos h]
theorem sok_0 {n g : Int} {byt : Int → Int} {v : vV} (h : g / 1000 = 0 ∨ g / 1000 = 9) : sok n byt v g = false := by
  unfold sok; rw [if_neg (show ¬ g / 1000 = 1 by omega), if_neg (show ¬ g / 1000 = 2 by omega), if_neg (show ¬ g / 1000 = 3 by omega), if_neg (show ¬ g / 1000 = 4 by omega), if_neg (show ¬ g / 1000 = 5 by omega), if_neg (show ¬ g / 1000 = 6 by omega), if_neg (show ¬ g / 1000 = 7 by omega), if_neg (show ¬ g / 1000 = 8 by omega)]
def snw (n en : Int) (v : vV) (g : Int) : vV := if g / 1000 = 1 then vsw (g / 100 % 10) (g / 10 % 10) v else if g / 1000 = 2 then vtn (g / 100 % 10) (g / 10 % 10) v else if g / 1000 = 3 then vdv n en (g % 100) v else if g / 1000 = 7 then vga n (g / 100 % 10) v else v
theorem snw_0 {n en g : Int} {v : vV} (h : g / 1000 ≠ 1 ∧ g / 1000 ≠ 2 ∧ g / 1000 ≠ 3 ∧ g / 1000 ≠ 7) : snw n en v g = v := by
  unfold snw; rw [if_neg h.1, if_neg h.2.1, if_neg h.2.2.1, if_neg h.2.2.2]
theorem wfV_s {n en g : Int} {byt : Int → Int} {v : vV} (h : wfV n en byt v) (hs : sok n byt v g = true) : wfV n en byt (snw n en v g) := by
  unfold snw
  by_cases h1 : g / 1000 = 1
  · rw [sok_1 h1] at hs; have hs := of_decide_eq_true hs; rw [if_pos h1]; exact wfV_sw h (by omega) (by omega)
  · rw [if_neg h1]
    by_cases h2 : g / 1000 = 2
    · rw [sok_2 h2] at hs; have hs := of_decide_eq_true hs; rw [if_pos h2]; exact wfV_tn h (by omega) (by omega)
    · rw [if_neg h2]
      by_cases h3 : g / 1000 = 3
      · rw [if_pos h3]; exact wfV_dv h
      · rw [if_neg h3]
        by_cases h7 : g / 1000 = 7
        · rw [sok_7 h7] at hs; have hs := of_decide_eq_true hs; rw [if_pos h7]; exact wfV_ga h (by omega) (by omega) (by omega)
        · rw [if_neg h7]; exact h
set_option maxHeartbeats 4000000 in
theorem t_X5_exchanged {S F : Nat} (hS : isSt σ ρ S F) {i j : Int} (h8 : M F 0 ≤ 8) (k1 : 0 < i ∧ i < M F 0 ∧ 0 < j ∧ j < M F 0 → ∀ M2, vw M2 S = vsw i j (vw M S) → smo M M2 S (S + 4) → Q (some (xI 1)) (σ, ρ, M2)) (k0 : ¬ (0 < i ∧ i < M F 0 ∧ 0 < j ∧ j < M F 0) → Q (some (xI 0)) (σ, ρ, M)) : xX G mX5_exchanged 0 0 0 [(0, xP S), (1, xI i), (2, xI j)] [] (σ, ρ, M) Q := by
  refine x_aload_n (p2 := 1) rfl dX5_exchanged_0 rfl ?_
  refine x_iload_n (p2 := 2) rfl dX5_exchanged_1 rfl ?_
  refine x_iload_n (p2 := 3) rfl dX5_exchanged_2 rfl ?_
  refine x_v2 (p2 := 6) rfl dX5_exchanged_3 l_5_63 ok_X7_refusalToExchange rfl hS.sh rfl ?_
  refine t_X7_refusalToExchange hS (fun hr3 => ?_) (fun hr3 => ?_) (fun hr3 => ?_)
  · skip
    refine x_if_eq (p2 := 9) (t := 11) (by decide) rfl dX5_exchanged_6 (fun hc => absurd hc (by decide)) (fun _ => ?_)
    refine x_iconst (p2 := 10) rfl dX5_exchanged_9 ⟨by decide, by decide⟩ ?_
    refine x_zret dX5_exchanged_10 rfl (by omega) ?_
    exact k0 (by omega)
  · skip
    refine x_if_eq (p2 := 9) (t := 11) (by decide) rfl dX5_exchanged_6 (fun hc => absurd hc (by decide)) (fun _ => ?_)
    refine x_iconst (p2 := 10) rfl dX5_exchanged_9 ⟨by decide, by decide⟩ ?_
    refine x_zret dX5_exchanged_10 rfl (by omega) ?_
    exact k0 (by omega)
  · skip
    refine x_if_eq (p2 := 9) (t := 11) (by decide) rfl dX5_exchanged_6 (fun _ => ?_) (fun hc => absurd hc (by decide))
    refine x_aload_n (p2 := 12) rfl dX5_exchanged_11 rfl ?_
    refine x_iload_n (p2 := 13) rfl dX5_exchanged_12 rfl ?_
    refine x_iload_n (p2 := 14) rfl dX5_exchanged_13 rfl ?_
    refine x_v2 (p2 := 17) rfl dX5_exchanged_14 l_5_67 ok_X7_exchange rfl hS.sh rfl ?_
    refine t_X7_exchange hS (by omega) (by omega) ?_
    refine x_iconst (p2 := 18) rfl dX5_exchanged_17 ⟨by decide, by decide⟩ ?_
    refine x_zret dX5_exchanged_18 rfl (by omega) ?_
    exact k1 (by omega) _ vw_o (smo.w (by omega))
set_option maxHeartbeats 4000000 in
theorem t_X5_turned {S F : Nat} (hS : isSt σ ρ S F) {i j : Int} (h8 : M F 0 ≤ 8) (k1 : 0 < i ∧ i ≤ j ∧ j < M F 0 ∧ j < M S 5 → ∀ M2, vw M2 S = vtn i j (vw M S) → smo M M2 S (S + 4) → Q (some (xI 1)) (σ, ρ, M2)) (k0 : ¬ (0 < i ∧ i ≤ j ∧ j < M F 0 ∧ j < M S 5) → Q (some (xI 0)) (σ, ρ, M)) : xX G mX5_turned 0 0 0 [(0, xP S), (1, xI i), (2, xI j)] [] (σ, ρ, M) Q := by
  refine x_aload_n (p2 := 1) rfl dX5_turned_0 rfl ?_
  refine x_iload_n (p2 := 2) rfl dX5_turned_1 rfl ?_
  refine x_iload_n (p2 := 3) rfl dX5_turned_2 rfl ?_
  refine x_v2 (p2 := 6) rfl dX5_turned_3 l_5_71 ok_X7_refusalToTurn rfl hS.sh rfl ?_
  refine t_X7_refusalToTurn hS (fun hr3 => ?_) (fun hr3 => ?_) (fun hr3 => ?_)
  · skip
    refine x_if_eq (p2 := 9) (t := 11) (by decide) rfl dX5_turned_6 (fun hc => absurd hc (by decide)) (fun _ => ?_)
    refine x_iconst (p2 := 10) rfl dX5_turned_9 ⟨by decide, by decide⟩ ?_
    refine x_zret dX5_turned_10 rfl (by omega) ?_
    exact k0 (by omega)
  · skip
    refine x_if_eq (p2 := 9) (t := 11) (by decide) rfl dX5_turned_6 (fun hc => absurd hc (by decide)) (fun _ => ?_)
    refine x_iconst (p2 := 10) rfl dX5_turned_9 ⟨by decide, by decide⟩ ?_
    refine x_zret dX5_turned_10 rfl (by omega) ?_
    exact k0 (by omega)
  · skip
    refine x_if_eq (p2 := 9) (t := 11) (by decide) rfl dX5_turned_6 (fun _ => ?_) (fun hc => absurd hc (by decide))
    refine x_aload_n (p2 := 12) rfl dX5_turned_11 rfl ?_
    refine x_iload_n (p2 := 13) rfl dX5_turned_12 rfl ?_
    refine x_iload_n (p2 := 14) rfl dX5_turned_13 rfl ?_
    refine x_v2 (p2 := 17) rfl dX5_turned_14 l_5_74 ok_X7_turn rfl hS.sh rfl ?_
    refine t_X7_turn hS (by omega) (by omega) ?_
    refine x_iconst (p2 := 18) rfl dX5_turned_17 ⟨by decide, by decide⟩ ?_
    refine x_zret dX5_turned_18 rfl (by omega) ?_
    exact k1 (by omega) _ vw_o (smo.w (by omega))
set_option maxHeartbeats 4000000 in
theorem t_X5_divided {S F : Nat} (hS : isSt σ ρ S F) (hW : wfV (M F 0) (M F 1) (M (F + 1)) (vw M S)) {i : Int} (k1 : 1 ≤ i ∧ i ≤ 99 → ∀ M2, vw M2 S = vdv (M F 0) (M F 1) i (vw M S) → smo M M2 S (S + 4) → Q (some (xI 1)) (σ, ρ, M2)) (k0 : ¬ (1 ≤ i ∧ i ≤ 99) → Q (some (xI 0)) (σ, ρ, M)) : xX G mX5_divided 0 0 0 [(0, xP S), (1, xI i)] [] (σ, ρ, M) Q := by
  have hG := hW.1
  have hO := hW.2.1
  have he := hW.2.2.2.1
  have h8 := hG.2.1
  refine x_iload_n (p2 := 1) rfl dX5_divided_0 rfl ?_
  refine x_s1 (p2 := 4) rfl dX5_divided_1 l_5_77 ok_X7_refusalToDivide rfl rfl ?_
  refine t_X7_refusalToDivide (fun hr1 => ?_) (fun hr1 => ?_)
  · skip
    refine x_if_eq (p2 := 7) (t := 9) (by decide) rfl dX5_divided_4 (fun hc => absurd hc (by decide)) (fun _ => ?_)
    refine x_iconst (p2 := 8) rfl dX5_divided_7 ⟨by decide, by decide⟩ ?_
    refine x_zret dX5_divided_8 rfl (by omega) ?_
    exact k0 (by omega)
  · skip
    refine x_if_eq (p2 := 7) (t := 9) (by decide) rfl dX5_divided_4 (fun _ => ?_) (fun hc => absurd hc (by decide))
    refine x_aload_n (p2 := 10) rfl dX5_divided_9 rfl ?_
    refine x_iload_n (p2 := 11) rfl dX5_divided_10 rfl ?_
    refine x_v1 (p2 := 14) rfl dX5_divided_11 l_5_81 ok_X7_divide rfl hS.sh rfl ?_
    refine t_X7_divide hS hG he ?_
    refine x_iconst (p2 := 15) rfl dX5_divided_14 ⟨by decide, by decide⟩ ?_
    refine x_zret dX5_divided_15 rfl (by omega) ?_
    exact k1 (by omega) _ vw_oh ((smo.w (by omega)).tr (smo.u (by omega)))
set_option maxHeartbeats 4000000 in
theorem t_X5_wentAround {S F : Nat} (hS : isSt σ ρ S F) (hW : wfV (M F 0) (M F 1) (M (F + 1)) (vw M S)) {i : Int} (k1 : (0 < i ∧ i < M F 0 ∧ M (F + 1) i = 0 ∧ M (S + 1) i = 1 ∧ M (S + 2) (2 * i + 0) ≠ i) → ∀ M2, vw M2 S = vga (M F 0) i (vw M S) → smo M M2 S (S + 4) → Q (some (xI 1)) (σ, ρ, M2)) (k0 : ¬ (0 < i ∧ i < M F 0 ∧ M (F + 1) i = 0 ∧ M (S + 1) i = 1 ∧ M (S + 2) (2 * i + 0) ≠ i) → Q (some (xI 0)) (σ, ρ, M)) : xX G mX5_wentAround 0 0 0 [(0, xP S), (1, xI i)] [] (σ, ρ, M) Q := by
  have hG := hW.1
  have hO := hW.2.1
  have he := hW.2.2.2.1
  have h8 := hG.2.1
  refine x_aload_n (p2 := 1) rfl dX5_wentAround_0 rfl ?_
  refine x_iload_n (p2 := 2) rfl dX5_wentAround_1 rfl ?_
  refine x_v1 (p2 := 5) rfl dX5_wentAround_2 l_5_85 ok_X7_refusalToGoAround rfl hS.sh rfl ?_
  refine t_X7_refusalToGoAround hS (by omega) (fun hr2 => ?_) (fun hr2 => ?_) (fun hr2 => ?_)
  · skip
    refine x_if_eq (p2 := 8) (t := 10) (by decide) rfl dX5_wentAround_5 (fun hc => absurd hc (by decide)) (fun _ => ?_)
    refine x_iconst (p2 := 9) rfl dX5_wentAround_8 ⟨by decide, by decide⟩ ?_
    refine x_zret dX5_wentAround_9 rfl (by omega) ?_
    exact k0 (by omega)
  · skip
    refine x_if_eq (p2 := 8) (t := 10) (by decide) rfl dX5_wentAround_5 (fun hc => absurd hc (by decide)) (fun _ => ?_)
    refine x_iconst (p2 := 9) rfl dX5_wentAround_8 ⟨by decide, by decide⟩ ?_
    refine x_zret dX5_wentAround_9 rfl (by omega) ?_
    exact k0 (by omega)
  · skip
    refine x_if_eq (p2 := 8) (t := 10) (by decide) rfl dX5_wentAround_5 (fun _ => ?_) (fun hc => absurd hc (by decide))
    refine x_aload_n (p2 := 11) rfl dX5_wentAround_10 rfl ?_
    refine x_iload_n (p2 := 12) rfl dX5_wentAround_11 rfl ?_
    refine x_v1 (p2 := 15) rfl dX5_wentAround_12 l_5_88 ok_X7_goAround rfl hS.sh rfl ?_
    refine t_X7_goAround hS hG (by omega) ?_
    refine x_pop (p2 := 16) rfl dX5_wentAround_15 rfl ?_
    refine x_iconst (p2 := 17) rfl dX5_wentAround_16 ⟨by decide, by decide⟩ ?_
    refine x_zret dX5_wentAround_17 rfl (by omega) ?_
    exact k1 (by omega) _ vw_g (smo.s3.tr (smo.u (by omega)))
set_option maxHeartbeats 4000000 in
theorem t_X5_isFollowedBy {S F : Nat} (hS : isSt σ ρ S F) (hW : wfV (M F 0) (M F 1) (M (F + 1)) (vw M S)) {i j : Int} (k1 : (0 ≤ i ∧ i < M F 0 ∧ 0 ≤ j ∧ j < M F 0 ∧ fob (M F 0) (M (S + 4)) (M S 5) i = j) → Q (some (xI 1)) (σ, ρ, M)) (k0 : ¬ (0 ≤ i ∧ i < M F 0 ∧ 0 ≤ j ∧ j < M F 0 ∧ fob (M F 0) (M (S + 4)) (M S 5) i = j) → Q (some (xI 0)) (σ, ρ, M)) : xX G mX5_isFollowedBy 0 0 0 [(0, xP S), (1, xI i), (2, xI j)] [] (σ, ρ, M) Q := by
  have hG := hW.1
  have hO := hW.2.1
  have he := hW.2.2.2.1
  have h8 := hG.2.1
  refine x_aload_n (p2 := 1) rfl dX5_isFollowedBy_0 rfl ?_
  refine x_getr (p2 := 4) (kz := 0) rfl dX5_isFollowedBy_1 f_5_31 rfl rfl hS.sh hS.r0 ?_
  refine x_iload_n (p2 := 5) rfl dX5_isFollowedBy_4 rfl ?_
  refine x_v1 (p2 := 8) rfl dX5_isFollowedBy_5 l_5_37 ok_X1_hasBlock rfl hS.fr.sh rfl ?_
  refine t_X1_hasBlock hS.fr (fun hb5 => ?_) (fun hb5 => ?_)
  · skip
    refine x_if_eq (p2 := 11) (t := 35) (by decide) rfl dX5_isFollowedBy_8 (fun hc => absurd hc (by decide)) (fun _ => ?_)
    refine x_aload_n (p2 := 12) rfl dX5_isFollowedBy_11 rfl ?_
    refine x_getr (p2 := 15) (kz := 0) rfl dX5_isFollowedBy_12 f_5_31 rfl rfl hS.sh hS.r0 ?_
    refine x_iload_n (p2 := 16) rfl dX5_isFollowedBy_15 rfl ?_
    refine x_v1 (p2 := 19) rfl dX5_isFollowedBy_16 l_5_37 ok_X1_hasBlock rfl hS.fr.sh rfl ?_
    refine t_X1_hasBlock hS.fr (fun hb16 => ?_) (fun hb16 => ?_)
    · skip
      refine x_if_eq (p2 := 22) (t := 35) (by decide) rfl dX5_isFollowedBy_19 (fun hc => absurd hc (by decide)) (fun _ => ?_)
      refine x_aload_n (p2 := 23) rfl dX5_isFollowedBy_22 rfl ?_
      refine x_iload_n (p2 := 24) rfl dX5_isFollowedBy_23 rfl ?_
      refine x_v1 (p2 := 27) rfl dX5_isFollowedBy_24 l_5_91 ok_X7_followerOf rfl hS.sh rfl ?_
      refine t_fob hS (by omega) hW.2.1 (by omega) ?_
      refine x_iload_n (p2 := 28) rfl dX5_isFollowedBy_27 rfl ?_
      refine x_ic_ne (p2 := 31) (t := 35) (by decide) rfl dX5_isFollowedBy_28 (fun hc28 => ?_) (fun hc28 => ?_)
      · skip
        refine x_iconst (p2 := 36) rfl dX5_isFollowedBy_35 ⟨by decide, by decide⟩ ?_
        refine x_zret dX5_isFollowedBy_36 rfl (by omega) ?_
        exact k0 (by omega)
      · skip
        refine x_iconst (p2 := 32) rfl dX5_isFollowedBy_31 ⟨by decide, by decide⟩ ?_
        refine x_goto (t := 36) (by decide) dX5_isFollowedBy_32 ?_
        refine x_zret dX5_isFollowedBy_36 rfl (by omega) ?_
        exact k1 (by omega)
    · skip
      refine x_if_eq (p2 := 22) (t := 35) (by decide) rfl dX5_isFollowedBy_19 (fun _ => ?_) (fun hc => absurd hc (by decide))
      refine x_iconst (p2 := 36) rfl dX5_isFollowedBy_35 ⟨by decide, by decide⟩ ?_
      refine x_zret dX5_isFollowedBy_36 rfl (by omega) ?_
      exact k0 (by omega)
  · skip
    refine x_if_eq (p2 := 11) (t := 35) (by decide) rfl dX5_isFollowedBy_8 (fun _ => ?_) (fun hc => absurd hc (by decide))
    refine x_iconst (p2 := 36) rfl dX5_isFollowedBy_35 ⟨by decide, by decide⟩ ?_
    refine x_zret dX5_isFollowedBy_36 rfl (by omega) ?_
    exact k0 (by omega)
set_option maxHeartbeats 4000000 in
theorem t_X5_succeeds {S F : Nat} (hS : isSt σ ρ S F) (hW : wfV (M F 0) (M F 1) (M (F + 1)) (vw M S)) {g : Int} (hg0 : 0 ≤ g ∧ g ≤ 9999) (k1 : sok (M F 0) (M (F + 1)) (vw M S) g = true → ∀ M2, vw M2 S = snw (M F 0) (M F 1) (vw M S) g → smo M M2 S (S + 4) → Q (some (xI 1)) (σ, ρ, M2)) (k0 : sok (M F 0) (M (F + 1)) (vw M S) g = false → Q (some (xI 0)) (σ, ρ, M)) : xX G mX5_succeeds 0 0 0 [(0, xP S), (1, xI g)] [] (σ, ρ, M) Q := by
  have hG := hW.1
  have hO := hW.2.1
  have he := hW.2.2.2.1
  have h8 := hG.2.1
  refine x_iload_n (p2 := 1) rfl dX5_succeeds_0 rfl ?_
  refine x_bipush (p2 := 3) rfl dX5_succeeds_1 ⟨by decide, ⟨by decide, by decide⟩⟩ ?_
  refine x_idiv (p2 := 4) rfl dX5_succeeds_3 (by omega) (by omega) ?_
  refine x_bipush (p2 := 6) rfl dX5_succeeds_4 ⟨by decide, ⟨by decide, by decide⟩⟩ ?_
  refine x_irem (p2 := 7) rfl dX5_succeeds_6 (by omega) (by omega) ?_
  refine x_istore_n (p2 := 8) (i := 2) (L2 := [(0, _), (1, _), (2, _)]) rfl dX5_succeeds_7 rfl ⟨rfl, Nat.le_of_ble_eq_true rfl⟩ rfl ?_
  refine x_iload_n (p2 := 9) rfl dX5_succeeds_8 rfl ?_
  refine x_bipush (p2 := 11) rfl dX5_succeeds_9 ⟨by decide, ⟨by decide, by decide⟩⟩ ?_
  refine x_idiv (p2 := 12) rfl dX5_succeeds_11 (by omega) (by omega) ?_
  refine x_bipush (p2 := 14) rfl dX5_succeeds_12 ⟨by decide, ⟨by decide, by decide⟩⟩ ?_
  refine x_irem (p2 := 15) rfl dX5_succeeds_14 (by omega) (by omega) ?_
  refine x_istore_n (p2 := 16) (i := 3) (L2 := [(0, _), (1, _), (2, _), (3, _)]) rfl dX5_succeeds_15 rfl ⟨rfl, Nat.le_of_ble_eq_true rfl⟩ rfl ?_
  refine x_iload_n (p2 := 17) rfl dX5_succeeds_16 rfl ?_
  refine x_bipush (p2 := 19) rfl dX5_succeeds_17 ⟨by decide, ⟨by decide, by decide⟩⟩ ?_
  refine x_irem (p2 := 20) rfl dX5_succeeds_19 (by omega) (by omega) ?_
  refine x_istore (p2 := 22) (i := 4) (L2 := [(0, _), (1, _), (2, _), (3, _), (4, _)]) rfl dX5_succeeds_20 ⟨rfl, Nat.le_of_ble_eq_true rfl⟩ rfl ?_
  refine x_iload_n (p2 := 23) rfl dX5_succeeds_22 rfl ?_
  refine x_sipush (p2 := 26) rfl dX5_succeeds_23 ⟨by decide, ⟨by decide, by decide⟩⟩ ?_
  refine x_idiv (p2 := 27) rfl dX5_succeeds_26 (by omega) (by omega) ?_
  rcases (by omega : g / 1000 = 0 ∨ g / 1000 = 1 ∨ g / 1000 = 2 ∨ g / 1000 = 3 ∨ g / 1000 = 4 ∨ g / 1000 = 5 ∨ g / 1000 = 6 ∨ g / 1000 = 7 ∨ g / 1000 = 8 ∨ g / 1000 = 9) with hg | hg | hg | hg | hg | hg | hg | hg | hg | hg
  · rw [hg]
    refine x_tsOut (t := 241) dX5_succeeds_27 (by decide) (by decide) ?_
    refine x_iconst (p2 := 242) rfl dX5_succeeds_241 ⟨by decide, by decide⟩ ?_
    refine x_zret dX5_succeeds_242 rfl (by omega) ?_
    exact k0 (sok_0 (by omega))
  · rw [hg]
    refine x_tsIn (t := 72) dX5_succeeds_27 (by decide) (by decide) rfl (by decide) ?_
    refine x_iload (p2 := 74) rfl dX5_succeeds_72 rfl ?_
    refine x_if_ne (p2 := 77) (t := 90) (by decide) rfl dX5_succeeds_74 (fun hc74 => ?_) (fun hc74 => ?_)
    · skip
      refine x_iconst (p2 := 91) rfl dX5_succeeds_90 ⟨by decide, by decide⟩ ?_
      refine x_zret dX5_succeeds_91 rfl (by omega) ?_
      exact k0 (by rw [sok_1 hg]; exact decide_eq_false (by omega))
    · skip
      refine x_aload_n (p2 := 78) rfl dX5_succeeds_77 rfl ?_
      refine x_iload_n (p2 := 79) rfl dX5_succeeds_78 rfl ?_
      refine x_iload_n (p2 := 80) rfl dX5_succeeds_79 rfl ?_
      refine x_s3 (p2 := 83) rfl dX5_succeeds_80 l_5_21 ok_X5_exchanged rfl rfl ?_
      refine t_X5_exchanged hS (by omega) (fun hb80 M2 hv hs => ?_) (fun hb80 => ?_)
      · skip
        refine x_if_eq (p2 := 86) (t := 90) (by decide) rfl dX5_succeeds_83 (fun hc => absurd hc (by decide)) (fun _ => ?_)
        refine x_iconst (p2 := 87) rfl dX5_succeeds_86 ⟨by decide, by decide⟩ ?_
        refine x_goto (t := 91) (by decide) dX5_succeeds_87 ?_
        refine x_zret dX5_succeeds_91 rfl (by omega) ?_
        refine k1 (by rw [sok_1 hg]; exact decide_eq_true (by (try dsimp only [vw]); omega)) _ ?_ hs
        rw [hv]; unfold snw
        rw [if_pos hg]
      · skip
        refine x_if_eq (p2 := 86) (t := 90) (by decide) rfl dX5_succeeds_83 (fun _ => ?_) (fun hc => absurd hc (by decide))
        refine x_iconst (p2 := 91) rfl dX5_succeeds_90 ⟨by decide, by decide⟩ ?_
        refine x_zret dX5_succeeds_91 rfl (by omega) ?_
        exact k0 (by rw [sok_1 hg]; exact decide_eq_false (by omega))
  · rw [hg]
    refine x_tsIn (t := 92) dX5_succeeds_27 (by decide) (by decide) rfl (by decide) ?_
    refine x_iload (p2 := 94) rfl dX5_succeeds_92 rfl ?_
    refine x_if_ne (p2 := 97) (t := 110) (by decide) rfl dX5_succeeds_94 (fun hc94 => ?_) (fun hc94 => ?_)
    · skip
      refine x_iconst (p2 := 111) rfl dX5_succeeds_110 ⟨by decide, by decide⟩ ?_
      refine x_zret dX5_succeeds_111 rfl (by omega) ?_
      exact k0 (by rw [sok_2 hg]; exact decide_eq_false (by (try dsimp only [vw]); omega))
    · skip
      refine x_aload_n (p2 := 98) rfl dX5_succeeds_97 rfl ?_
      refine x_iload_n (p2 := 99) rfl dX5_succeeds_98 rfl ?_
      refine x_iload_n (p2 := 100) rfl dX5_succeeds_99 rfl ?_
      refine x_s3 (p2 := 103) rfl dX5_succeeds_100 l_5_25 ok_X5_turned rfl rfl ?_
      refine t_X5_turned hS (by omega) (fun hb100 M2 hv hs => ?_) (fun hb100 => ?_)
      · skip
        refine x_if_eq (p2 := 106) (t := 110) (by decide) rfl dX5_succeeds_103 (fun hc => absurd hc (by decide)) (fun _ => ?_)
        refine x_iconst (p2 := 107) rfl dX5_succeeds_106 ⟨by decide, by decide⟩ ?_
        refine x_goto (t := 111) (by decide) dX5_succeeds_107 ?_
        refine x_zret dX5_succeeds_111 rfl (by omega) ?_
        refine k1 (by rw [sok_2 hg]; exact decide_eq_true (by (try dsimp only [vw]); omega)) _ ?_ hs
        rw [hv]; unfold snw
        rw [if_neg (show ¬ g / 1000 = 1 by omega)]
        rw [if_pos hg]
      · skip
        refine x_if_eq (p2 := 106) (t := 110) (by decide) rfl dX5_succeeds_103 (fun _ => ?_) (fun hc => absurd hc (by decide))
        refine x_iconst (p2 := 111) rfl dX5_succeeds_110 ⟨by decide, by decide⟩ ?_
        refine x_zret dX5_succeeds_111 rfl (by omega) ?_
        exact k0 (by rw [sok_2 hg]; exact decide_eq_false (by (try dsimp only [vw]); omega))
  · rw [hg]
    refine x_tsIn (t := 112) dX5_succeeds_27 (by decide) (by decide) rfl (by decide) ?_
    refine x_iload_n (p2 := 113) rfl dX5_succeeds_112 rfl ?_
    refine x_if_ne (p2 := 116) (t := 131) (by decide) rfl dX5_succeeds_113 (fun hc113 => ?_) (fun hc113 => ?_)
    · skip
      refine x_iconst (p2 := 132) rfl dX5_succeeds_131 ⟨by decide, by decide⟩ ?_
      refine x_zret dX5_succeeds_132 rfl (by omega) ?_
      exact k0 (by rw [sok_3 hg]; exact decide_eq_false (by omega))
    · skip
      refine x_aload_n (p2 := 117) rfl dX5_succeeds_116 rfl ?_
      refine x_iload_n (p2 := 118) rfl dX5_succeeds_117 rfl ?_
      refine x_bipush (p2 := 120) rfl dX5_succeeds_118 ⟨by decide, ⟨by decide, by decide⟩⟩ ?_
      refine x_irem (p2 := 121) rfl dX5_succeeds_120 (by omega) (by omega) ?_
      refine x_s2 (p2 := 124) rfl dX5_succeeds_121 l_5_28 ok_X5_divided rfl rfl ?_
      refine t_X5_divided hS hW (fun hb121 M2 hv hs => ?_) (fun hb121 => ?_)
      · skip
        refine x_if_eq (p2 := 127) (t := 131) (by decide) rfl dX5_succeeds_124 (fun hc => absurd hc (by decide)) (fun _ => ?_)
        refine x_iconst (p2 := 128) rfl dX5_succeeds_127 ⟨by decide, by decide⟩ ?_
        refine x_goto (t := 132) (by decide) dX5_succeeds_128 ?_
        refine x_zret dX5_succeeds_132 rfl (by omega) ?_
        refine k1 (by rw [sok_3 hg]; exact decide_eq_true (by (try dsimp only [vw]); omega)) _ ?_ hs
        rw [hv]; unfold snw
        rw [if_neg (show ¬ g / 1000 = 1 by omega)]
        rw [if_neg (show ¬ g / 1000 = 2 by omega)]
        rw [if_pos hg]
      · skip
        refine x_if_eq (p2 := 127) (t := 131) (by decide) rfl dX5_succeeds_124 (fun _ => ?_) (fun hc => absurd hc (by decide))
        refine x_iconst (p2 := 132) rfl dX5_succeeds_131 ⟨by decide, by decide⟩ ?_
        refine x_zret dX5_succeeds_132 rfl (by omega) ?_
        exact k0 (by rw [sok_3 hg]; exact decide_eq_false (by omega))
  · rw [hg]
    refine x_tsIn (t := 133) dX5_succeeds_27 (by decide) (by decide) rfl (by decide) ?_
    refine x_aload_n (p2 := 134) rfl dX5_succeeds_133 rfl ?_
    refine x_getr (p2 := 137) (kz := 0) rfl dX5_succeeds_134 f_5_31 rfl rfl hS.sh hS.r0 ?_
    refine x_iload_n (p2 := 138) rfl dX5_succeeds_137 rfl ?_
    refine x_v1 (p2 := 141) rfl dX5_succeeds_138 l_5_37 ok_X1_hasBlock rfl hS.fr.sh rfl ?_
    refine t_X1_hasBlock hS.fr (fun hb138 => ?_) (fun hb138 => ?_)
    · skip
      refine x_if_eq (p2 := 144) (t := 160) (by decide) rfl dX5_succeeds_141 (fun hc => absurd hc (by decide)) (fun _ => ?_)
      refine x_aload_n (p2 := 145) rfl dX5_succeeds_144 rfl ?_
      refine x_iload_n (p2 := 146) rfl dX5_succeeds_145 rfl ?_
      refine x_s2 (p2 := 149) rfl dX5_succeeds_146 l_5_43 ok_X4_startOf rfl rfl ?_
      refine t_X4_startOf hS hW ?_
      refine x_iload_n (p2 := 150) rfl dX5_succeeds_149 rfl ?_
      refine x_bipush (p2 := 152) rfl dX5_succeeds_150 ⟨by decide, ⟨by decide, by decide⟩⟩ ?_
      refine x_irem (p2 := 153) rfl dX5_succeeds_152 (by omega) (by omega) ?_
      refine x_ic_ne (p2 := 156) (t := 160) (by decide) rfl dX5_succeeds_153 (fun hc153 => ?_) (fun hc153 => ?_)
      · skip
        refine x_iconst (p2 := 161) rfl dX5_succeeds_160 ⟨by decide, by decide⟩ ?_
        refine x_zret dX5_succeeds_161 rfl (by omega) ?_
        exact k0 (by rw [sok_4 hg]; exact decide_eq_false (by (try dsimp only [vw]); omega))
      · skip
        refine x_iconst (p2 := 157) rfl dX5_succeeds_156 ⟨by decide, by decide⟩ ?_
        refine x_goto (t := 161) (by decide) dX5_succeeds_157 ?_
        refine x_zret dX5_succeeds_161 rfl (by omega) ?_
        refine k1 (by rw [sok_4 hg]; exact decide_eq_true (by (try dsimp only [vw]); omega)) _ ?_ smo.rf
        rw [snw_0 (by omega)]
    · skip
      refine x_if_eq (p2 := 144) (t := 160) (by decide) rfl dX5_succeeds_141 (fun _ => ?_) (fun hc => absurd hc (by decide))
      refine x_iconst (p2 := 161) rfl dX5_succeeds_160 ⟨by decide, by decide⟩ ?_
      refine x_zret dX5_succeeds_161 rfl (by omega) ?_
      exact k0 (by rw [sok_4 hg]; exact decide_eq_false (by (try dsimp only [vw]); omega))
  · rw [hg]
    refine x_tsIn (t := 162) dX5_succeeds_27 (by decide) (by decide) rfl (by decide) ?_
    refine x_aload_n (p2 := 163) rfl dX5_succeeds_162 rfl ?_
    refine x_v0 (p2 := 166) rfl dX5_succeeds_163 l_5_49 ok_X7_totalCost rfl hS.sh rfl ?_
    refine t_X7_totalCost hS hG hO ?_
    refine x_iload_n (p2 := 167) rfl dX5_succeeds_166 rfl ?_
    refine x_sipush (p2 := 170) rfl dX5_succeeds_167 ⟨by decide, ⟨by decide, by decide⟩⟩ ?_
    refine x_irem (p2 := 171) rfl dX5_succeeds_170 (by omega) (by omega) ?_
    refine x_ic_ne (p2 := 174) (t := 178) (by decide) rfl dX5_succeeds_171 (fun hc171 => ?_) (fun hc171 => ?_)
    · skip
      refine x_iconst (p2 := 179) rfl dX5_succeeds_178 ⟨by decide, by decide⟩ ?_
      refine x_zret dX5_succeeds_179 rfl (by omega) ?_
      exact k0 (by rw [sok_5 hg]; exact decide_eq_false (by (try dsimp only [vw]); omega))
    · skip
      refine x_iconst (p2 := 175) rfl dX5_succeeds_174 ⟨by decide, by decide⟩ ?_
      refine x_goto (t := 179) (by decide) dX5_succeeds_175 ?_
      refine x_zret dX5_succeeds_179 rfl (by omega) ?_
      refine k1 (by rw [sok_5 hg]; exact decide_eq_true (by (try dsimp only [vw]); omega)) _ ?_ smo.rf
      rw [snw_0 (by omega)]
  · rw [hg]
    refine x_tsIn (t := 180) dX5_succeeds_27 (by decide) (by decide) rfl (by decide) ?_
    refine x_aload_n (p2 := 181) rfl dX5_succeeds_180 rfl ?_
    refine x_s1 (p2 := 184) rfl dX5_succeeds_181 l_5_53 ok_X4_endOfCode rfl rfl ?_
    refine t_X4_endOfCode hS hW ?_
    refine x_iload_n (p2 := 185) rfl dX5_succeeds_184 rfl ?_
    refine x_sipush (p2 := 188) rfl dX5_succeeds_185 ⟨by decide, ⟨by decide, by decide⟩⟩ ?_
    refine x_irem (p2 := 189) rfl dX5_succeeds_188 (by omega) (by omega) ?_
    refine x_ic_ne (p2 := 192) (t := 196) (by decide) rfl dX5_succeeds_189 (fun hc189 => ?_) (fun hc189 => ?_)
    · skip
      refine x_iconst (p2 := 197) rfl dX5_succeeds_196 ⟨by decide, by decide⟩ ?_
      refine x_zret dX5_succeeds_197 rfl (by omega) ?_
      exact k0 (by rw [sok_6 hg]; exact decide_eq_false (by (try dsimp only [vw]); omega))
    · skip
      refine x_iconst (p2 := 193) rfl dX5_succeeds_192 ⟨by decide, by decide⟩ ?_
      refine x_goto (t := 197) (by decide) dX5_succeeds_193 ?_
      refine x_zret dX5_succeeds_197 rfl (by omega) ?_
      refine k1 (by rw [sok_6 hg]; exact decide_eq_true (by (try dsimp only [vw]); omega)) _ ?_ smo.rf
      rw [snw_0 (by omega)]
  · rw [hg]
    refine x_tsIn (t := 198) dX5_succeeds_27 (by decide) (by decide) rfl (by decide) ?_
    refine x_iload_n (p2 := 199) rfl dX5_succeeds_198 rfl ?_
    refine x_if_ne (p2 := 202) (t := 219) (by decide) rfl dX5_succeeds_199 (fun hc199 => ?_) (fun hc199 => ?_)
    · skip
      refine x_iconst (p2 := 220) rfl dX5_succeeds_219 ⟨by decide, by decide⟩ ?_
      refine x_zret dX5_succeeds_220 rfl (by omega) ?_
      exact k0 (by rw [sok_7 hg]; exact decide_eq_false (by (try dsimp only [vw]); omega))
    · skip
      refine x_iload (p2 := 204) rfl dX5_succeeds_202 rfl ?_
      refine x_if_ne (p2 := 207) (t := 219) (by decide) rfl dX5_succeeds_204 (fun hc204 => ?_) (fun hc204 => ?_)
      · skip
        refine x_iconst (p2 := 220) rfl dX5_succeeds_219 ⟨by decide, by decide⟩ ?_
        refine x_zret dX5_succeeds_220 rfl (by omega) ?_
        exact k0 (by rw [sok_7 hg]; exact decide_eq_false (by (try dsimp only [vw]); omega))
      · skip
        refine x_aload_n (p2 := 208) rfl dX5_succeeds_207 rfl ?_
        refine x_iload_n (p2 := 209) rfl dX5_succeeds_208 rfl ?_
        refine x_s2 (p2 := 212) rfl dX5_succeeds_209 l_5_57 ok_X5_wentAround rfl rfl ?_
        refine t_X5_wentAround hS hW (fun hb209 M2 hv hs => ?_) (fun hb209 => ?_)
        · skip
          refine x_if_eq (p2 := 215) (t := 219) (by decide) rfl dX5_succeeds_212 (fun hc => absurd hc (by decide)) (fun _ => ?_)
          refine x_iconst (p2 := 216) rfl dX5_succeeds_215 ⟨by decide, by decide⟩ ?_
          refine x_goto (t := 220) (by decide) dX5_succeeds_216 ?_
          refine x_zret dX5_succeeds_220 rfl (by omega) ?_
          refine k1 (by rw [sok_7 hg]; exact decide_eq_true (by (try dsimp only [vw]); omega)) _ ?_ hs
          rw [hv]; unfold snw
          rw [if_neg (show ¬ g / 1000 = 1 by omega)]
          rw [if_neg (show ¬ g / 1000 = 2 by omega)]
          rw [if_neg (show ¬ g / 1000 = 3 by omega)]
          rw [if_pos hg]
        · skip
          refine x_if_eq (p2 := 215) (t := 219) (by decide) rfl dX5_succeeds_212 (fun _ => ?_) (fun hc => absurd hc (by decide))
          refine x_iconst (p2 := 220) rfl dX5_succeeds_219 ⟨by decide, by decide⟩ ?_
          refine x_zret dX5_succeeds_220 rfl (by omega) ?_
          exact k0 (by rw [sok_7 hg]; exact decide_eq_false (by (try dsimp only [vw]); omega))
  · rw [hg]
    refine x_tsIn (t := 221) dX5_succeeds_27 (by decide) (by decide) rfl (by decide) ?_
    refine x_iload (p2 := 223) rfl dX5_succeeds_221 rfl ?_
    refine x_if_ne (p2 := 226) (t := 239) (by decide) rfl dX5_succeeds_223 (fun hc223 => ?_) (fun hc223 => ?_)
    · skip
      refine x_iconst (p2 := 240) rfl dX5_succeeds_239 ⟨by decide, by decide⟩ ?_
      refine x_zret dX5_succeeds_240 rfl (by omega) ?_
      exact k0 (by rw [sok_8 hg]; exact decide_eq_false (by (try dsimp only [vw]); omega))
    · skip
      refine x_aload_n (p2 := 227) rfl dX5_succeeds_226 rfl ?_
      refine x_iload_n (p2 := 228) rfl dX5_succeeds_227 rfl ?_
      refine x_iload_n (p2 := 229) rfl dX5_succeeds_228 rfl ?_
      refine x_s3 (p2 := 232) rfl dX5_succeeds_229 l_5_60 ok_X5_isFollowedBy rfl rfl ?_
      refine t_X5_isFollowedBy hS hW (fun hb229 => ?_) (fun hb229 => ?_)
      · skip
        refine x_if_eq (p2 := 235) (t := 239) (by decide) rfl dX5_succeeds_232 (fun hc => absurd hc (by decide)) (fun _ => ?_)
        refine x_iconst (p2 := 236) rfl dX5_succeeds_235 ⟨by decide, by decide⟩ ?_
        refine x_goto (t := 240) (by decide) dX5_succeeds_236 ?_
        refine x_zret dX5_succeeds_240 rfl (by omega) ?_
        refine k1 (by rw [sok_8 hg]; exact decide_eq_true (by (try dsimp only [vw]); omega)) _ ?_ smo.rf
        rw [snw_0 (by omega)]
      · skip
        refine x_if_eq (p2 := 235) (t := 239) (by decide) rfl dX5_succeeds_232 (fun _ => ?_) (fun hc => absurd hc (by decide))
        refine x_iconst (p2 := 240) rfl dX5_succeeds_239 ⟨by decide, by decide⟩ ?_
        refine x_zret dX5_succeeds_240 rfl (by omega) ?_
        exact k0 (by rw [sok_8 hg]; exact decide_eq_false (by (try dsimp only [vw]); omega))
  · rw [hg]
    refine x_tsOut (t := 241) dX5_succeeds_27 (by decide) (by decide) ?_
    refine x_iconst (p2 := 242) rfl dX5_succeeds_241 ⟨by decide, by decide⟩ ?_
    refine x_zret dX5_succeeds_242 rfl (by omega) ?_
    exact k0 (sok_0 (by omega))
def wdl : Nat → Int → Int
  | 0, x => x
  | k + 1, x => wdl k (x / 10000)
theorem wdl_bd : ∀ (k : Nat) (x : Int), 0 ≤ x → 0 ≤ wdl k x
  | 0, x, h => h
  | k + 1, x, h => by unfold wdl; exact wdl_bd k _ (by omega)
set_option maxHeartbeats 4000000 in
theorem t_wl_l {s k : Int} (hk : k ≤ 9) : ∀ (m : Nat) (i x : Int), 0 ≤ i → i + m = k → 0 ≤ x → Q (some (xL (wdl m x))) (σ, ρ, M) → xX G mX5_withoutLowest 0 0 5 [(0, xL s), (2, xI k), (3, xL x), (5, xI i)] [] (σ, ρ, M) Q := by
  intro m
  induction m with
  | zero =>
    intro i x h0 hm hx hq
    refine x_iload (p2 := 7) rfl dX5_withoutLowest_5 rfl ?_
    refine x_iload_n (p2 := 8) rfl dX5_withoutLowest_7 rfl ?_
    refine x_ic_ge (p2 := 11) (t := 23) (by decide) rfl dX5_withoutLowest_8 (fun hc8 => ?_) (fun hc8 => absurd hc8 (by omega))
    refine x_lload_n (p2 := 24) rfl dX5_withoutLowest_23 rfl ?_
    refine x_lret dX5_withoutLowest_24 rfl ?_
    exact hq
  | succ m ih =>
    intro i x h0 hm hx hq
    refine x_iload (p2 := 7) rfl dX5_withoutLowest_5 rfl ?_
    refine x_iload_n (p2 := 8) rfl dX5_withoutLowest_7 rfl ?_
    refine x_ic_ge (p2 := 11) (t := 23) (by decide) rfl dX5_withoutLowest_8 (fun hc8 => ?_) (fun hc8 => ?_)
    · exact absurd hc8 (by omega)
    refine x_lload_n (p2 := 12) rfl dX5_withoutLowest_11 rfl ?_
    refine x_ldc2 (p2 := 15) rfl dX5_withoutLowest_12 q_5_15 ?_
    refine x_ldiv (p2 := 16) rfl dX5_withoutLowest_15 (by omega) (by omega) ?_
    refine x_lstore_n (p2 := 17) (i := 3) (L2 := [(0, _), (2, _), (3, _), (5, _)]) rfl dX5_withoutLowest_16 rfl ⟨rfl, Nat.le_of_ble_eq_true rfl⟩ rfl ?_
    refine x_iinc (p2 := 20) (L2 := [(0, _), (2, _), (3, _), (5, _)]) rfl dX5_withoutLowest_17 rfl ⟨by omega, by omega⟩ ⟨rfl, Nat.le_of_ble_eq_true rfl⟩ rfl ?_
    refine x_goto (t := 5) (by decide) dX5_withoutLowest_20 ?_
    refine x_pick (L2 := [(0, _), (2, _), (3, _), (5, _)]) [0, 2, 3, 5] rfl ?_
    exact ih _ _ (by omega) (by omega) (by omega) hq
set_option maxHeartbeats 4000000 in
theorem t_X5_withoutLowest {s k : Int} (hk : 0 ≤ k ∧ k ≤ 9) (hs : 0 ≤ s) (hq : Q (some (xL (wdl k.toNat s))) (σ, ρ, M)) : xX G mX5_withoutLowest 0 0 0 [(0, xL s), (2, xI k)] [] (σ, ρ, M) Q := by
  refine x_lload_n (p2 := 1) rfl dX5_withoutLowest_0 rfl ?_
  refine x_lstore_n (p2 := 2) (i := 3) (L2 := [(0, _), (2, _), (3, _)]) rfl dX5_withoutLowest_1 rfl ⟨rfl, Nat.le_of_ble_eq_true rfl⟩ rfl ?_
  refine x_iconst (p2 := 3) rfl dX5_withoutLowest_2 ⟨by decide, by decide⟩ ?_
  refine x_istore (p2 := 5) (i := 5) (L2 := [(0, _), (2, _), (3, _), (5, _)]) rfl dX5_withoutLowest_3 ⟨rfl, Nat.le_of_ble_eq_true rfl⟩ rfl ?_
  refine x_pick (L2 := [(0, _), (2, _), (3, _), (5, _)]) [0, 2, 3, 5] rfl ?_
  exact t_wl_l hk.2 k.toNat 0 s (by omega) (by omega) hs hq
set_option maxHeartbeats 4000000 in
theorem t_X5_isWellFormed {n s : Int} (k1 : (1 ≤ n ∧ n ≤ 4 ∧ 0 ≤ s ∧ wdl n.toNat s = 0) → Q (some (xI 1)) (σ, ρ, M)) (k0 : ¬ (1 ≤ n ∧ n ≤ 4 ∧ 0 ≤ s ∧ wdl n.toNat s = 0) → Q (some (xI 0)) (σ, ρ, M)) : xX G mX5_isWellFormed 0 0 0 [(0, xI n), (1, xL s)] [] (σ, ρ, M) Q := by
  refine x_iload_n (p2 := 1) rfl dX5_isWellFormed_0 rfl ?_
  refine x_iconst (p2 := 2) rfl dX5_isWellFormed_1 ⟨by decide, by decide⟩ ?_
  refine x_ic_lt (p2 := 5) (t := 30) (by decide) rfl dX5_isWellFormed_2 (fun hc2 => ?_) (fun hc2 => ?_)
  · skip
    refine x_iconst (p2 := 31) rfl dX5_isWellFormed_30 ⟨by decide, by decide⟩ ?_
    refine x_zret dX5_isWellFormed_31 rfl (by omega) ?_
    exact k0 (by omega)
  · skip
    refine x_iload_n (p2 := 6) rfl dX5_isWellFormed_5 rfl ?_
    refine x_iconst (p2 := 7) rfl dX5_isWellFormed_6 ⟨by decide, by decide⟩ ?_
    refine x_ic_gt (p2 := 10) (t := 30) (by decide) rfl dX5_isWellFormed_7 (fun hc7 => ?_) (fun hc7 => ?_)
    · skip
      refine x_iconst (p2 := 31) rfl dX5_isWellFormed_30 ⟨by decide, by decide⟩ ?_
      refine x_zret dX5_isWellFormed_31 rfl (by omega) ?_
      exact k0 (by omega)
    · skip
      refine x_lload_n (p2 := 11) rfl dX5_isWellFormed_10 rfl ?_
      refine x_lconst (p2 := 12) (v := 0) rfl dX5_isWellFormed_11 ⟨by decide, ⟨by decide, by decide⟩⟩ ?_
      refine x_lcmp (p2 := 13) rfl dX5_isWellFormed_12 (fun hc12 => ?_) (fun hc12 => ?_) (fun hc12 => ?_)
      · skip
        refine x_if_lt (p2 := 16) (t := 30) (by decide) rfl dX5_isWellFormed_13 (fun hc => absurd hc (by decide)) (fun _ => ?_)
        refine x_lload_n (p2 := 17) rfl dX5_isWellFormed_16 rfl ?_
        refine x_iload_n (p2 := 18) rfl dX5_isWellFormed_17 rfl ?_
        refine x_s2 (p2 := 21) rfl dX5_isWellFormed_18 l_5_9 ok_X5_withoutLowest rfl rfl ?_
        refine t_X5_withoutLowest (by omega) (by omega) ?_
        refine x_lconst (p2 := 22) (v := 0) rfl dX5_isWellFormed_21 ⟨by decide, ⟨by decide, by decide⟩⟩ ?_
        refine x_lcmp (p2 := 23) rfl dX5_isWellFormed_22 (fun hc22 => ?_) (fun hc22 => ?_) (fun hc22 => ?_)
        · skip
          refine x_if_ne (p2 := 26) (t := 30) (by decide) rfl dX5_isWellFormed_23 (fun _ => ?_) (fun hc => absurd hc (by decide))
          refine x_iconst (p2 := 31) rfl dX5_isWellFormed_30 ⟨by decide, by decide⟩ ?_
          refine x_zret dX5_isWellFormed_31 rfl (by omega) ?_
          exact k0 (by omega)
        · skip
          refine x_if_ne (p2 := 26) (t := 30) (by decide) rfl dX5_isWellFormed_23 (fun hc => absurd hc (by decide)) (fun _ => ?_)
          refine x_iconst (p2 := 27) rfl dX5_isWellFormed_26 ⟨by decide, by decide⟩ ?_
          refine x_goto (t := 31) (by decide) dX5_isWellFormed_27 ?_
          refine x_zret dX5_isWellFormed_31 rfl (by omega) ?_
          exact k1 (by omega)
        · skip
          refine x_if_ne (p2 := 26) (t := 30) (by decide) rfl dX5_isWellFormed_23 (fun _ => ?_) (fun hc => absurd hc (by decide))
          refine x_iconst (p2 := 31) rfl dX5_isWellFormed_30 ⟨by decide, by decide⟩ ?_
          refine x_zret dX5_isWellFormed_31 rfl (by omega) ?_
          exact k0 (by omega)
      · skip
        refine x_if_lt (p2 := 16) (t := 30) (by decide) rfl dX5_isWellFormed_13 (fun hc => absurd hc (by decide)) (fun _ => ?_)
        refine x_lload_n (p2 := 17) rfl dX5_isWellFormed_16 rfl ?_
        refine x_iload_n (p2 := 18) rfl dX5_isWellFormed_17 rfl ?_
        refine x_s2 (p2 := 21) rfl dX5_isWellFormed_18 l_5_9 ok_X5_withoutLowest rfl rfl ?_
        refine t_X5_withoutLowest (by omega) (by omega) ?_
        refine x_lconst (p2 := 22) (v := 0) rfl dX5_isWellFormed_21 ⟨by decide, ⟨by decide, by decide⟩⟩ ?_
        refine x_lcmp (p2 := 23) rfl dX5_isWellFormed_22 (fun hc22 => ?_) (fun hc22 => ?_) (fun hc22 => ?_)
        · skip
          refine x_if_ne (p2 := 26) (t := 30) (by decide) rfl dX5_isWellFormed_23 (fun _ => ?_) (fun hc => absurd hc (by decide))
          refine x_iconst (p2 := 31) rfl dX5_isWellFormed_30 ⟨by decide, by decide⟩ ?_
          refine x_zret dX5_isWellFormed_31 rfl (by omega) ?_
          exact k0 (by omega)
        · skip
          refine x_if_ne (p2 := 26) (t := 30) (by decide) rfl dX5_isWellFormed_23 (fun hc => absurd hc (by decide)) (fun _ => ?_)
          refine x_iconst (p2 := 27) rfl dX5_isWellFormed_26 ⟨by decide, by decide⟩ ?_
          refine x_goto (t := 31) (by decide) dX5_isWellFormed_27 ?_
          refine x_zret dX5_isWellFormed_31 rfl (by omega) ?_
          exact k1 (by omega)
        · skip
          refine x_if_ne (p2 := 26) (t := 30) (by decide) rfl dX5_isWellFormed_23 (fun _ => ?_) (fun hc => absurd hc (by decide))
          refine x_iconst (p2 := 31) rfl dX5_isWellFormed_30 ⟨by decide, by decide⟩ ?_
          refine x_zret dX5_isWellFormed_31 rfl (by omega) ?_
          exact k0 (by omega)
      · skip
        refine x_if_lt (p2 := 16) (t := 30) (by decide) rfl dX5_isWellFormed_13 (fun _ => ?_) (fun hc => absurd hc (by decide))
        refine x_iconst (p2 := 31) rfl dX5_isWellFormed_30 ⟨by decide, by decide⟩ ?_
        refine x_zret dX5_isWellFormed_31 rfl (by omega) ?_
        exact k0 (by omega)
/-- a script of k groups, from group i on -/
def ffl (n en : Int) (byt : Int → Int) (k s : Int) : Nat → Int → vV → Int
  | 0, _, _ => -9
  | m + 1, i, v => if sok n byt v (wdl (k - 1 - i).toNat s % 10000) = true then ffl n en byt k s m (i + 1) (snw n en v (wdl (k - 1 - i).toNat s % 10000)) else i
set_option maxHeartbeats 4000000 in
theorem t_ff_l {S F : Nat} (hS : isSt σ ρ S F) {k s : Int} (hk : 1 ≤ k ∧ k ≤ 4) (hs0 : 0 ≤ s) : ∀ (m : Nat) (i : Int) (v : vV) (M1 : Nat → Int → Int), 0 ≤ i → i + m = k → smo M M1 S (S + 4) → vw M1 S = v → wfV (M F 0) (M F 1) (M (F + 1)) v → (∀ M2, smo M M2 S (S + 4) → Q (some (xI (ffl (M F 0) (M F 1) (M (F + 1)) k s m i v))) (σ, ρ, M2)) → xX G mX5_firstFailure 0 0 3 [(0, xP S), (1, xI k), (2, xL s), (4, xI i)] [] (σ, ρ, M1) Q := by
  intro m
  have hlt := hS.lt
  induction m with
  | zero =>
    intro i v M1 h0 hm hf hv hW hq
    refine x_iload (p2 := 5) rfl dX5_firstFailure_3 rfl ?_
    refine x_iload_n (p2 := 6) rfl dX5_firstFailure_5 rfl ?_
    refine x_ic_ge (p2 := 9) (t := 44) (by decide) rfl dX5_firstFailure_6 (fun hc6 => ?_) (fun hc6 => absurd hc6 (by omega))
    refine x_bipush (p2 := 46) rfl dX5_firstFailure_44 ⟨by decide, ⟨by decide, by decide⟩⟩ ?_
    refine x_iret dX5_firstFailure_46 rfl ?_
    exact hq M1 hf
  | succ m ih =>
    intro i v M1 h0 hm hf hv hW hq
    have hn : M1 F = M F := hf F (by omega)
    have hn1 : M1 (F + 1) = M (F + 1) := hf (F + 1) (by omega)
    have hW1 : wfV (M1 F 0) (M1 F 1) (M1 (F + 1)) (vw M1 S) := by rw [hn, hn1, hv]; exact hW
    unfold ffl at hq
    refine x_iload (p2 := 5) rfl dX5_firstFailure_3 rfl ?_
    refine x_iload_n (p2 := 6) rfl dX5_firstFailure_5 rfl ?_
    refine x_ic_ge (p2 := 9) (t := 44) (by decide) rfl dX5_firstFailure_6 (fun hc6 => ?_) (fun hc6 => ?_)
    · exact absurd hc6 (by omega)
    refine x_lload_n (p2 := 10) rfl dX5_firstFailure_9 rfl ?_
    refine x_iload_n (p2 := 11) rfl dX5_firstFailure_10 rfl ?_
    refine x_iconst (p2 := 12) rfl dX5_firstFailure_11 ⟨by decide, by decide⟩ ?_
    refine x_isub (p2 := 13) rfl dX5_firstFailure_12 ⟨by omega, by omega⟩ ?_
    refine x_iload (p2 := 15) rfl dX5_firstFailure_13 rfl ?_
    refine x_isub (p2 := 16) rfl dX5_firstFailure_15 ⟨by omega, by omega⟩ ?_
    refine x_s2 (p2 := 19) rfl dX5_firstFailure_16 l_5_9 ok_X5_withoutLowest rfl rfl ?_
    refine t_X5_withoutLowest (by omega) (by omega) ?_
    refine x_ldc2 (p2 := 22) rfl dX5_firstFailure_19 q_5_15 ?_
    have hz3 := wdl_bd (k - 1 - i).toNat s hs0
    refine x_lrem (p2 := 23) rfl dX5_firstFailure_22 (by omega) (by omega) ?_
    refine x_l2i (p2 := 24) rfl dX5_firstFailure_23 ⟨by omega, by omega⟩ ?_
    refine x_istore (p2 := 26) (i := 5) (L2 := [(0, _), (1, _), (2, _), (4, _), (5, _)]) rfl dX5_firstFailure_24 ⟨rfl, Nat.le_of_ble_eq_true rfl⟩ rfl ?_
    refine x_aload_n (p2 := 27) rfl dX5_firstFailure_26 rfl ?_
    refine x_iload (p2 := 29) rfl dX5_firstFailure_27 rfl ?_
    refine x_s2 (p2 := 32) rfl dX5_firstFailure_29 l_5_17 ok_X5_succeeds rfl rfl ?_
    have hz := wdl_bd (k - 1 - i).toNat s hs0
    refine t_X5_succeeds hS hW1 (by omega) (fun hb M2 hv2 hs2 => ?_) (fun hb => ?_)
    all_goals rw [hn, hn1, hv] at hb
    · skip
      refine x_if_ne (p2 := 35) (t := 38) (by decide) rfl dX5_firstFailure_32 (fun _ => ?_) (fun hc => absurd hc (by decide))
      refine x_iinc (p2 := 41) (L2 := [(0, _), (1, _), (2, _), (4, _), (5, _)]) rfl dX5_firstFailure_38 rfl ⟨by omega, by omega⟩ ⟨rfl, Nat.le_of_ble_eq_true rfl⟩ rfl ?_
      refine x_goto (t := 3) (by decide) dX5_firstFailure_41 ?_
      refine x_pick (L2 := [(0, _), (1, _), (2, _), (4, _)]) [0, 1, 2, 4] rfl ?_
      rw [if_pos hb] at hq
      rw [hn, hv] at hv2
      exact ih (i + 1) _ M2 (by omega) (by omega) (hf.tr hs2) hv2 (wfV_s hW hb) hq
    · skip
      refine x_if_ne (p2 := 35) (t := 38) (by decide) rfl dX5_firstFailure_32 (fun hc => absurd hc (by decide)) (fun _ => ?_)
      refine x_iload (p2 := 37) rfl dX5_firstFailure_35 rfl ?_
      refine x_iret dX5_firstFailure_37 rfl ?_
      rw [if_neg (by rw [hb]; decide)] at hq
      exact hq M1 hf
set_option maxHeartbeats 4000000 in
theorem t_X5_firstFailure {S F : Nat} (hS : isSt σ ρ S F) (hW : wfV (M F 0) (M F 1) (M (F + 1)) (vw M S)) {k s : Int} (hk : 1 ≤ k ∧ k ≤ 4) (hs0 : 0 ≤ s) (hq : ∀ M2, smo M M2 S (S + 4) → Q (some (xI (ffl (M F 0) (M F 1) (M (F + 1)) k s k.toNat 0 (vw M S)))) (σ, ρ, M2)) : xX G mX5_firstFailure 0 0 0 [(0, xP S), (1, xI k), (2, xL s)] [] (σ, ρ, M) Q := by
  refine x_iconst (p2 := 1) rfl dX5_firstFailure_0 ⟨by decide, by decide⟩ ?_
  refine x_istore (p2 := 3) (i := 4) (L2 := [(0, _), (1, _), (2, _), (4, _)]) rfl dX5_firstFailure_1 ⟨rfl, Nat.le_of_ble_eq_true rfl⟩ rfl ?_
  refine x_pick (L2 := [(0, _), (1, _), (2, _), (4, _)]) [0, 1, 2, 4] rfl ?_
  exact t_ff_l hS hk hs0 k.toNat 0 _ M (by omega) (by omega) smo.rf rfl hW hq
end XSC
