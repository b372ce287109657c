section XMI
variable {G : xG} {σ : List (Nat × Nat)} {ρ : Nat → Int → Option Nat} {M : Nat → Int → Int} {Q : Option xV → xH → Prop}
theorem flt_len {p : Int → Bool} : ∀ L : List Int, (L.filter p).length + (L.filter (fun b => !p b)).length = L.length
  | [] => rfl
  | a :: L => by
    have ih := flt_len (p := p) L
    by_cases h : p a = true
    · rw [List.filter_cons_of_pos h, List.filter_cons_of_neg (by simp [h])]
      simp only [List.length_cons]; omega
    · rw [List.filter_cons_of_neg h, List.filter_cons_of_pos (by simp [h])]
      simp only [List.length_cons]; omega
theorem odl_s {od : Int → Int} {k : Nat} : odl od (k + 1) = odl od k ++ [od k] := rfl
theorem odl_pre {od : Int → Int} {p : Int → Bool} : ∀ (k i : Nat), ((odl od i).filter p).length ≤ ((odl od (i + k)).filter p).length
  | 0, i => Nat.le_refl _
  | k + 1, i => by
    have h := odl_pre (od := od) (p := p) k (i + 1)
    rw [show i + (k + 1) = i + 1 + k by omega]
    refine Nat.le_trans ?_ h
    rw [odl_s, List.filter_append, List.length_append]
    omega
theorem odl_in {od : Int → Int} {p : Int → Bool} {i : Int} (h0 : 0 ≤ i) (hp : p (od i) = true) : (odl od (i + 1).toNat).filter p = (odl od i.toNat).filter p ++ [od i] := by
  rw [show (i + 1).toNat = i.toNat + 1 by omega]
  rw [odl_s, List.filter_append, show ((i.toNat : Nat) : Int) = i by omega, List.filter_cons_of_pos hp]; rfl
theorem odl_out {od : Int → Int} {p : Int → Bool} {i : Int} (h0 : 0 ≤ i) (hp : ¬ p (od i) = true) : (odl od (i + 1).toNat).filter p = (odl od i.toNat).filter p := by
  rw [show (i + 1).toNat = i.toNat + 1 by omega]
  rw [odl_s, List.filter_append, show ((i.toNat : Nat) : Int) = i by omega, List.filter_cons_of_neg hp]; simp
theorem fna_add {L : List Int} {x a : Int} (h0 : 0 ≤ x) (h1 : x ≤ L.length) : fna (L ++ [a]) x = if x = L.length then a else fna L x := by
  unfold fna
  simp only [List.getD_eq_getElem?_getD]
  by_cases h : x = L.length
  · rw [if_pos h, h, List.getElem?_append_right (by omega), show ((L.length : Nat) : Int).toNat - L.length = 0 by omega]; rfl
  · rw [if_neg h, List.getElem?_append_left (by omega)]
def pside (p : Int → Bool) (s b : Int) : Bool := if s = 1 then !p b else p b
set_option maxHeartbeats 4000000 in
theorem t_sp1 {D R : Nat} (hD : isMd σ ρ D) (hR : σ[R]? = some (100, 50)) (hRD : R ≠ D ∧ R ≠ D + 14) {n en t : Int} {v : vV} (hn : M D 2 = n) (hen : M D 4 = en ∧ 0 ≤ en ∧ en ≤ 99) (hr : smr n v (M R)) (hG : wfG n v.1 v.2.1 v.2.2.1) (hO : wfO n v.2.2.2.1 v.2.2.2.2.1) {h s : Int} (hs : s = 0 ∨ s = 1) {base : List Int} (hB : base.length + ((odl v.2.2.2.1 n.toNat).filter (pside (hotp n en v.1 v.2.1 v.2.2.1 t) s)).length ≤ 8) : ∀ (m : Nat) (i c : Int) (M1 : Nat → Int → Int), 0 ≤ i → i + m = n → (∀ a, a ≠ D + 14 → M1 a = M a) → c = (base ++ (odl v.2.2.2.1 i.toNat).filter (pside (hotp n en v.1 v.2.1 v.2.2.1 t) s)).length → (∀ x, 0 ≤ x → x < c → M1 (D + 14) x = fna (base ++ (odl v.2.2.2.1 i.toNat).filter (pside (hotp n en v.1 v.2.1 v.2.2.1 t) s)) x) → (∀ (c2 : Int) M2, (∀ a, a ≠ D + 14 → M2 a = M a) → c2 = (base ++ (odl v.2.2.2.1 n.toNat).filter (pside (hotp n en v.1 v.2.1 v.2.2.1 t) s)).length → (∀ x, 0 ≤ x → x < c2 → M2 (D + 14) x = fna (base ++ (odl v.2.2.2.1 n.toNat).filter (pside (hotp n en v.1 v.2.1 v.2.2.1 t) s)) x) → xX G mX10_splitIn 0 0 90 [(0, xP D), (1, xP R), (2, xI t), (3, xI c2), (4, xI h), (5, xI s)] [] (σ, ρ, M2) Q) → xX G mX10_splitIn 0 0 17 [(0, xP D), (1, xP R), (2, xI t), (3, xI c), (4, xI h), (5, xI s), (6, xI i)] [] (σ, ρ, M1) Q := by
  have h8 := hG.2.1
  have h1 := hG.1
  intro m
  induction m with
  | zero =>
    intro i c M1 h0 hm g1 g2 g3 hq
    refine x_iload (p2 := 19) rfl dX10_splitIn_17 rfl ?_
    refine x_aload_n (p2 := 20) rfl dX10_splitIn_19 rfl ?_
    refine x_geti (p2 := 23) (kz := 2) rfl dX10_splitIn_20 f_10_53 rfl rfl hD.sh ?_
    rw [g1 D (by omega), hn]
    refine x_ic_ge (p2 := 26) (t := 90) (by decide) rfl dX10_splitIn_23 (fun hc23 => ?_) (fun hc23 => absurd hc23 (by omega))
    refine x_pick (L2 := [(0, _), (1, _), (2, _), (3, _), (4, _), (5, _)]) [0, 1, 2, 3, 4, 5] rfl ?_
    have hi : i = n := by omega
    rw [hi] at g2 g3
    exact hq c M1 g1 g2 g3
  | succ m ih =>
    intro i c M1 h0 hm g1 g2 g3 hq
    have hpre := odl_pre (od := v.2.2.2.1) (p := (pside (hotp n en v.1 v.2.1 v.2.2.1 t) s)) (n.toNat - (i + 1).toNat) (i + 1).toNat
    rw [show (i + 1).toNat + (n.toNat - (i + 1).toNat) = n.toNat by omega] at hpre
    have stay : ¬ (pside (hotp n en v.1 v.2.1 v.2.2.1 t) s) (v.2.2.2.1 i) = true → xX G mX10_splitIn 0 0 17 [(0, xP D), (1, xP R), (2, xI t), (3, xI c), (4, xI h), (5, xI s), (6, xI (i + 1))] [] (σ, ρ, M1) Q := fun hp => by
      rw [← odl_out h0 hp] at g2 g3
      exact ih (i + 1) c M1 (by omega) (by omega) g1 g2 g3 hq
    have hl8 : (pside (hotp n en v.1 v.2.1 v.2.2.1 t) s) (v.2.2.2.1 i) = true → 0 ≤ c ∧ c < 8 := fun hp => by
      rw [odl_in h0 hp, List.length_append, List.length_singleton] at hpre
      rw [List.length_append] at g2
      omega
    have go : (pside (hotp n en v.1 v.2.1 v.2.2.1 t) s) (v.2.2.2.1 i) = true → xX G mX10_splitIn 0 0 17 [(0, xP D), (1, xP R), (2, xI t), (3, xI (c + 1)), (4, xI h), (5, xI s), (6, xI (i + 1))] [] (σ, ρ, xu M1 (D + 14) c (v.2.2.2.1 i)) Q := fun hp => by
      have h8c := hl8 hp
      refine ih (i + 1) (c + 1) _ (by omega) (by omega) (fun a z => by rw [xu_c z]; exact g1 a z) ?_ (fun x x0 x1 => ?_) hq
      · rw [odl_in h0 hp, ← List.append_assoc, List.length_append, List.length_singleton, g2]; omega
      · rw [odl_in h0 hp, ← List.append_assoc, fna_add x0 (by omega)]
        by_cases hx : x = c
        · rw [if_pos (by omega), hx, xu_s]
        · rw [if_neg (by omega), xu_j hx]; exact g3 x x0 (by omega)
    have hps : ∀ z : Bool, hotp n en v.1 v.2.1 v.2.2.1 t (v.2.2.2.1 i) = z → (pside (hotp n en v.1 v.2.1 v.2.2.1 t) s) (v.2.2.2.1 i) = (if s = 1 then !z else z) := fun z hz => by unfold pside; rw [hz]
    refine x_iload (p2 := 19) rfl dX10_splitIn_17 rfl ?_
    refine x_aload_n (p2 := 20) rfl dX10_splitIn_19 rfl ?_
    refine x_geti (p2 := 23) (kz := 2) rfl dX10_splitIn_20 f_10_53 rfl rfl hD.sh ?_
    rw [g1 D (by omega), hn]
    refine x_ic_ge (p2 := 26) (t := 90) (by decide) rfl dX10_splitIn_23 (fun hc23 => ?_) (fun hc23 => ?_)
    · exact absurd hc23 (by omega)
    refine x_aload_n (p2 := 27) rfl dX10_splitIn_26 rfl ?_
    refine x_iconst (p2 := 28) rfl dX10_splitIn_27 ⟨by decide, by decide⟩ ?_
    refine x_iload (p2 := 30) rfl dX10_splitIn_28 rfl ?_
    refine x_iadd (p2 := 31) rfl dX10_splitIn_30 ⟨by omega, by omega⟩ ?_
    refine x_iald (p2 := 32) rfl dX10_splitIn_31 hR (by omega) (by omega) ?_
    rw [g1 R hRD.2, hr.o h0 (by omega)]
    refine x_istore (p2 := 34) (i := 7) (L2 := [(0, _), (1, _), (2, _), (3, _), (4, _), (5, _), (6, _), (7, _)]) rfl dX10_splitIn_32 ⟨rfl, Nat.le_of_ble_eq_true rfl⟩ rfl ?_
    refine x_iload (p2 := 36) rfl dX10_splitIn_34 rfl ?_
    refine x_if_eq (p2 := 39) (t := 54) (by decide) rfl dX10_splitIn_36 (fun hc36 => ?_) (fun hc36 => ?_)
    · skip
      refine x_iconst (p2 := 55) rfl dX10_splitIn_54 ⟨by decide, by decide⟩ ?_
      refine x_istore (p2 := 57) (i := 8) (L2 := [(0, _), (1, _), (2, _), (3, _), (4, _), (5, _), (6, _), (7, _), (8, _)]) rfl dX10_splitIn_55 ⟨rfl, Nat.le_of_ble_eq_true rfl⟩ rfl ?_
      refine x_iload (p2 := 59) rfl dX10_splitIn_57 rfl ?_
      refine x_iload (p2 := 61) rfl dX10_splitIn_59 rfl ?_
      refine x_iconst (p2 := 62) rfl dX10_splitIn_61 ⟨by decide, by decide⟩ ?_
      refine x_ic_ne (p2 := 65) (t := 69) (by decide) rfl dX10_splitIn_62 (fun hc62 => ?_) (fun hc62 => ?_)
      · skip
        refine x_iconst (p2 := 70) rfl dX10_splitIn_69 ⟨by decide, by decide⟩ ?_
        refine x_ic_ne (p2 := 73) (t := 84) (by decide) rfl dX10_splitIn_70 (fun hc => absurd hc (by decide)) (fun _ => ?_)
        have hin : (pside (hotp n en v.1 v.2.1 v.2.2.1 t) s) (v.2.2.2.1 i) = true := by
          first
            | (rw [hps true (decide_eq_true (by omega)), if_neg (by omega)])
            | (rw [hps false (decide_eq_false (by omega)), if_pos (by omega)]; rfl)
        have h8c := hl8 hin
        refine x_aload_n (p2 := 74) rfl dX10_splitIn_73 rfl ?_
        refine x_getr (p2 := 77) (kz := 21) rfl dX10_splitIn_74 f_10_50 rfl rfl hD.sh hD.r21 ?_
        refine x_iload_n (p2 := 78) rfl dX10_splitIn_77 rfl ?_
        refine x_iload (p2 := 80) rfl dX10_splitIn_78 rfl ?_
        refine x_iast (p2 := 81) rfl dX10_splitIn_80 hD.a21 (by omega) (by omega) ?_
        refine x_iinc (p2 := 84) (L2 := [(0, _), (1, _), (2, _), (3, _), (4, _), (5, _), (6, _), (7, _), (8, _)]) rfl dX10_splitIn_81 rfl ⟨by omega, by omega⟩ ⟨rfl, Nat.le_of_ble_eq_true rfl⟩ rfl ?_
        refine x_iinc (p2 := 87) (L2 := [(0, _), (1, _), (2, _), (3, _), (4, _), (5, _), (6, _), (7, _), (8, _)]) rfl dX10_splitIn_84 rfl ⟨by omega, by omega⟩ ⟨rfl, Nat.le_of_ble_eq_true rfl⟩ rfl ?_
        refine x_goto (t := 17) (by decide) dX10_splitIn_87 ?_
        refine x_pick (L2 := [(0, _), (1, _), (2, _), (3, _), (4, _), (5, _), (6, _)]) [0, 1, 2, 3, 4, 5, 6] rfl ?_
        first
          | exact go hin
          | (refine stay (fun hz => ?_)
             first
               | (rw [hps true (decide_eq_true (by omega)), if_pos (by omega)] at hz; cases hz)
               | (rw [hps false (decide_eq_false (by omega)), if_neg (by omega)] at hz; cases hz))
      · skip
        refine x_iconst (p2 := 66) rfl dX10_splitIn_65 ⟨by decide, by decide⟩ ?_
        refine x_goto (t := 70) (by decide) dX10_splitIn_66 ?_
        refine x_ic_ne (p2 := 73) (t := 84) (by decide) rfl dX10_splitIn_70 (fun _ => ?_) (fun hc => absurd hc (by decide))
        refine x_iinc (p2 := 87) (L2 := [(0, _), (1, _), (2, _), (3, _), (4, _), (5, _), (6, _), (7, _), (8, _)]) rfl dX10_splitIn_84 rfl ⟨by omega, by omega⟩ ⟨rfl, Nat.le_of_ble_eq_true rfl⟩ rfl ?_
        refine x_goto (t := 17) (by decide) dX10_splitIn_87 ?_
        refine x_pick (L2 := [(0, _), (1, _), (2, _), (3, _), (4, _), (5, _), (6, _)]) [0, 1, 2, 3, 4, 5, 6] rfl ?_
        first
          | exact go hin
          | (refine stay (fun hz => ?_)
             first
               | (rw [hps true (decide_eq_true (by omega)), if_pos (by omega)] at hz; cases hz)
               | (rw [hps false (decide_eq_false (by omega)), if_neg (by omega)] at hz; cases hz))
    · skip
      refine x_aload_n (p2 := 40) rfl dX10_splitIn_39 rfl ?_
      refine x_aload_n (p2 := 41) rfl dX10_splitIn_40 rfl ?_
      refine x_iload (p2 := 43) rfl dX10_splitIn_41 rfl ?_
      refine x_v2 (p2 := 46) rfl dX10_splitIn_43 l_10_110 ok_X10_executionsOf rfl hD.sh rfl ?_
      refine t_X10_executionsOf hD hR (v := v) (by rw [g1 D (by omega)]; exact hn) (by rw [g1 R hRD.2]; exact hr) hG (by rw [g1 D (by omega)]; exact hen) ?_
      refine x_iload_n (p2 := 47) rfl dX10_splitIn_46 rfl ?_
      refine x_ic_ge (p2 := 50) (t := 54) (by decide) rfl dX10_splitIn_47 (fun hc47 => ?_) (fun hc47 => ?_)
      · skip
        refine x_iconst (p2 := 55) rfl dX10_splitIn_54 ⟨by decide, by decide⟩ ?_
        refine x_istore (p2 := 57) (i := 8) (L2 := [(0, _), (1, _), (2, _), (3, _), (4, _), (5, _), (6, _), (7, _), (8, _)]) rfl dX10_splitIn_55 ⟨rfl, Nat.le_of_ble_eq_true rfl⟩ rfl ?_
        refine x_iload (p2 := 59) rfl dX10_splitIn_57 rfl ?_
        refine x_iload (p2 := 61) rfl dX10_splitIn_59 rfl ?_
        refine x_iconst (p2 := 62) rfl dX10_splitIn_61 ⟨by decide, by decide⟩ ?_
        refine x_ic_ne (p2 := 65) (t := 69) (by decide) rfl dX10_splitIn_62 (fun hc62 => ?_) (fun hc62 => ?_)
        · skip
          refine x_iconst (p2 := 70) rfl dX10_splitIn_69 ⟨by decide, by decide⟩ ?_
          refine x_ic_ne (p2 := 73) (t := 84) (by decide) rfl dX10_splitIn_70 (fun hc => absurd hc (by decide)) (fun _ => ?_)
          have hin : (pside (hotp n en v.1 v.2.1 v.2.2.1 t) s) (v.2.2.2.1 i) = true := by
            first
              | (rw [hps true (decide_eq_true (by omega)), if_neg (by omega)])
              | (rw [hps false (decide_eq_false (by omega)), if_pos (by omega)]; rfl)
          have h8c := hl8 hin
          refine x_aload_n (p2 := 74) rfl dX10_splitIn_73 rfl ?_
          refine x_getr (p2 := 77) (kz := 21) rfl dX10_splitIn_74 f_10_50 rfl rfl hD.sh hD.r21 ?_
          refine x_iload_n (p2 := 78) rfl dX10_splitIn_77 rfl ?_
          refine x_iload (p2 := 80) rfl dX10_splitIn_78 rfl ?_
          refine x_iast (p2 := 81) rfl dX10_splitIn_80 hD.a21 (by omega) (by omega) ?_
          refine x_iinc (p2 := 84) (L2 := [(0, _), (1, _), (2, _), (3, _), (4, _), (5, _), (6, _), (7, _), (8, _)]) rfl dX10_splitIn_81 rfl ⟨by omega, by omega⟩ ⟨rfl, Nat.le_of_ble_eq_true rfl⟩ rfl ?_
          refine x_iinc (p2 := 87) (L2 := [(0, _), (1, _), (2, _), (3, _), (4, _), (5, _), (6, _), (7, _), (8, _)]) rfl dX10_splitIn_84 rfl ⟨by omega, by omega⟩ ⟨rfl, Nat.le_of_ble_eq_true rfl⟩ rfl ?_
          refine x_goto (t := 17) (by decide) dX10_splitIn_87 ?_
          refine x_pick (L2 := [(0, _), (1, _), (2, _), (3, _), (4, _), (5, _), (6, _)]) [0, 1, 2, 3, 4, 5, 6] rfl ?_
          first
            | exact go hin
            | (refine stay (fun hz => ?_)
               first
                 | (rw [hps true (decide_eq_true (by omega)), if_pos (by omega)] at hz; cases hz)
                 | (rw [hps false (decide_eq_false (by omega)), if_neg (by omega)] at hz; cases hz))
        · skip
          refine x_iconst (p2 := 66) rfl dX10_splitIn_65 ⟨by decide, by decide⟩ ?_
          refine x_goto (t := 70) (by decide) dX10_splitIn_66 ?_
          refine x_ic_ne (p2 := 73) (t := 84) (by decide) rfl dX10_splitIn_70 (fun _ => ?_) (fun hc => absurd hc (by decide))
          refine x_iinc (p2 := 87) (L2 := [(0, _), (1, _), (2, _), (3, _), (4, _), (5, _), (6, _), (7, _), (8, _)]) rfl dX10_splitIn_84 rfl ⟨by omega, by omega⟩ ⟨rfl, Nat.le_of_ble_eq_true rfl⟩ rfl ?_
          refine x_goto (t := 17) (by decide) dX10_splitIn_87 ?_
          refine x_pick (L2 := [(0, _), (1, _), (2, _), (3, _), (4, _), (5, _), (6, _)]) [0, 1, 2, 3, 4, 5, 6] rfl ?_
          first
            | exact go hin
            | (refine stay (fun hz => ?_)
               first
                 | (rw [hps true (decide_eq_true (by omega)), if_pos (by omega)] at hz; cases hz)
                 | (rw [hps false (decide_eq_false (by omega)), if_neg (by omega)] at hz; cases hz))
      · skip
        refine x_iconst (p2 := 51) rfl dX10_splitIn_50 ⟨by decide, by decide⟩ ?_
        refine x_goto (t := 55) (by decide) dX10_splitIn_51 ?_
        refine x_istore (p2 := 57) (i := 8) (L2 := [(0, _), (1, _), (2, _), (3, _), (4, _), (5, _), (6, _), (7, _), (8, _)]) rfl dX10_splitIn_55 ⟨rfl, Nat.le_of_ble_eq_true rfl⟩ rfl ?_
        refine x_iload (p2 := 59) rfl dX10_splitIn_57 rfl ?_
        refine x_iload (p2 := 61) rfl dX10_splitIn_59 rfl ?_
        refine x_iconst (p2 := 62) rfl dX10_splitIn_61 ⟨by decide, by decide⟩ ?_
        refine x_ic_ne (p2 := 65) (t := 69) (by decide) rfl dX10_splitIn_62 (fun hc62 => ?_) (fun hc62 => ?_)
        · skip
          refine x_iconst (p2 := 70) rfl dX10_splitIn_69 ⟨by decide, by decide⟩ ?_
          refine x_ic_ne (p2 := 73) (t := 84) (by decide) rfl dX10_splitIn_70 (fun _ => ?_) (fun hc => absurd hc (by decide))
          refine x_iinc (p2 := 87) (L2 := [(0, _), (1, _), (2, _), (3, _), (4, _), (5, _), (6, _), (7, _), (8, _)]) rfl dX10_splitIn_84 rfl ⟨by omega, by omega⟩ ⟨rfl, Nat.le_of_ble_eq_true rfl⟩ rfl ?_
          refine x_goto (t := 17) (by decide) dX10_splitIn_87 ?_
          refine x_pick (L2 := [(0, _), (1, _), (2, _), (3, _), (4, _), (5, _), (6, _)]) [0, 1, 2, 3, 4, 5, 6] rfl ?_
          first
            | exact go hin
            | (refine stay (fun hz => ?_)
               first
                 | (rw [hps true (decide_eq_true (by omega)), if_pos (by omega)] at hz; cases hz)
                 | (rw [hps false (decide_eq_false (by omega)), if_neg (by omega)] at hz; cases hz))
        · skip
          refine x_iconst (p2 := 66) rfl dX10_splitIn_65 ⟨by decide, by decide⟩ ?_
          refine x_goto (t := 70) (by decide) dX10_splitIn_66 ?_
          refine x_ic_ne (p2 := 73) (t := 84) (by decide) rfl dX10_splitIn_70 (fun hc => absurd hc (by decide)) (fun _ => ?_)
          have hin : (pside (hotp n en v.1 v.2.1 v.2.2.1 t) s) (v.2.2.2.1 i) = true := by
            first
              | (rw [hps true (decide_eq_true (by omega)), if_neg (by omega)])
              | (rw [hps false (decide_eq_false (by omega)), if_pos (by omega)]; rfl)
          have h8c := hl8 hin
          refine x_aload_n (p2 := 74) rfl dX10_splitIn_73 rfl ?_
          refine x_getr (p2 := 77) (kz := 21) rfl dX10_splitIn_74 f_10_50 rfl rfl hD.sh hD.r21 ?_
          refine x_iload_n (p2 := 78) rfl dX10_splitIn_77 rfl ?_
          refine x_iload (p2 := 80) rfl dX10_splitIn_78 rfl ?_
          refine x_iast (p2 := 81) rfl dX10_splitIn_80 hD.a21 (by omega) (by omega) ?_
          refine x_iinc (p2 := 84) (L2 := [(0, _), (1, _), (2, _), (3, _), (4, _), (5, _), (6, _), (7, _), (8, _)]) rfl dX10_splitIn_81 rfl ⟨by omega, by omega⟩ ⟨rfl, Nat.le_of_ble_eq_true rfl⟩ rfl ?_
          refine x_iinc (p2 := 87) (L2 := [(0, _), (1, _), (2, _), (3, _), (4, _), (5, _), (6, _), (7, _), (8, _)]) rfl dX10_splitIn_84 rfl ⟨by omega, by omega⟩ ⟨rfl, Nat.le_of_ble_eq_true rfl⟩ rfl ?_
          refine x_goto (t := 17) (by decide) dX10_splitIn_87 ?_
          refine x_pick (L2 := [(0, _), (1, _), (2, _), (3, _), (4, _), (5, _), (6, _)]) [0, 1, 2, 3, 4, 5, 6] rfl ?_
          first
            | exact go hin
            | (refine stay (fun hz => ?_)
               first
                 | (rw [hps true (decide_eq_true (by omega)), if_pos (by omega)] at hz; cases hz)
                 | (rw [hps false (decide_eq_false (by omega)), if_neg (by omega)] at hz; cases hz))
theorem smr_oh {n h2 : Int} {v : vV} {r r2 od2 : Int → Int} (h : smr n v r) (h8 : n ≤ 8) (h1 : ∀ x, x = 1 ∨ 10 ≤ x → r2 x = r x) (h0 : r2 0 = h2) (h3 : ∀ i, 0 ≤ i → i < n → r2 (2 + i) = od2 i) (hx : ∀ b, 0 ≤ b → b < n → v.1 b ≤ 2) : smr n (v.1, v.2.1, v.2.2.1, od2, h2, v.2.2.2.2.2) r2 := by
  refine ⟨fun b a c => ?_, fun b k a c d e => ?_, h3, h0, ?_⟩
  · rw [h1 _ (by omega)]; exact h.x a c
  · rw [h1 _ (by omega), h1 _ (by omega)]; exact ⟨h.t a c d e, h.c a c d e⟩
  · rw [h1 _ (by omega)]; exact h.a
set_option maxHeartbeats 4000000 in
theorem t_sp3 {D R : Nat} (hD : isMd σ ρ D) (hR : σ[R]? = some (100, 50)) (hRD : R ≠ D ∧ R ≠ D + 14) {n t c h : Int} (hn : M D 2 = n) (h8 : n ≤ 8) (hq : ∀ M2, (∀ a, a ≠ R → M2 a = M a) → (∀ x, x = 1 ∨ 10 ≤ x → M2 R x = M R x) → M2 R 0 = h → (∀ x, 0 ≤ x → x < n → M2 R (2 + x) = M (D + 14) x) → Q (some (xI h)) (σ, ρ, M2)) : ∀ (m : Nat) (i : Int) (M1 : Nat → Int → Int), 0 ≤ i → i + m = n → (∀ a, a ≠ R → M1 a = M a) → (∀ x, x = 1 ∨ 10 ≤ x → M1 R x = M R x) → (∀ x, 0 ≤ x → x < i → M1 R (2 + x) = M (D + 14) x) → xX G mX10_splitIn 0 0 112 [(0, xP D), (1, xP R), (2, xI t), (3, xI c), (4, xI h), (5, xI i)] [] (σ, ρ, M1) Q := by
  intro m
  induction m with
  | zero =>
    intro i M1 h0 hm g1 g2 g3
    refine x_iload (p2 := 114) rfl dX10_splitIn_112 rfl ?_
    refine x_aload_n (p2 := 115) rfl dX10_splitIn_114 rfl ?_
    refine x_geti (p2 := 118) (kz := 2) rfl dX10_splitIn_115 f_10_53 rfl rfl hD.sh ?_
    rw [g1 D (fun z => hRD.1 z.symm), hn]
    refine x_ic_ge (p2 := 121) (t := 140) (by decide) rfl dX10_splitIn_118 (fun hc118 => ?_) (fun hc118 => absurd hc118 (by omega))
    refine x_aload_n (p2 := 141) rfl dX10_splitIn_140 rfl ?_
    refine x_iconst (p2 := 142) rfl dX10_splitIn_141 ⟨by decide, by decide⟩ ?_
    refine x_iload (p2 := 144) rfl dX10_splitIn_142 rfl ?_
    refine x_iast (p2 := 145) rfl dX10_splitIn_144 hR (by omega) (by omega) ?_
    refine x_iload (p2 := 147) rfl dX10_splitIn_145 rfl ?_
    refine x_iret dX10_splitIn_147 rfl ?_
    refine hq _ (fun a z => by rw [xu_c z]; exact g1 a z) (fun x z => by rw [xu_j (by omega)]; exact g2 x z) (by rw [xu_s]) (fun x a b => ?_)
    rw [xu_j (by omega)]; exact g3 x a (by omega)
  | succ m ih =>
    intro i M1 h0 hm g1 g2 g3
    refine x_iload (p2 := 114) rfl dX10_splitIn_112 rfl ?_
    refine x_aload_n (p2 := 115) rfl dX10_splitIn_114 rfl ?_
    refine x_geti (p2 := 118) (kz := 2) rfl dX10_splitIn_115 f_10_53 rfl rfl hD.sh ?_
    rw [g1 D (fun z => hRD.1 z.symm), hn]
    refine x_ic_ge (p2 := 121) (t := 140) (by decide) rfl dX10_splitIn_118 (fun hc118 => ?_) (fun hc118 => ?_)
    · exact absurd hc118 (by omega)
    refine x_aload_n (p2 := 122) rfl dX10_splitIn_121 rfl ?_
    refine x_iconst (p2 := 123) rfl dX10_splitIn_122 ⟨by decide, by decide⟩ ?_
    refine x_iload (p2 := 125) rfl dX10_splitIn_123 rfl ?_
    refine x_iadd (p2 := 126) rfl dX10_splitIn_125 ⟨by omega, by omega⟩ ?_
    refine x_aload_n (p2 := 127) rfl dX10_splitIn_126 rfl ?_
    refine x_getr (p2 := 130) (kz := 21) rfl dX10_splitIn_127 f_10_50 rfl rfl hD.sh hD.r21 ?_
    refine x_iload (p2 := 132) rfl dX10_splitIn_130 rfl ?_
    refine x_iald (p2 := 133) rfl dX10_splitIn_132 hD.a21 (by omega) (by omega) ?_
    rw [g1 (D + 14) (fun z => hRD.2 z.symm)]
    refine x_iast (p2 := 134) rfl dX10_splitIn_133 hR (by omega) (by omega) ?_
    refine x_iinc (p2 := 137) (L2 := [(0, _), (1, _), (2, _), (3, _), (4, _), (5, _)]) rfl dX10_splitIn_134 rfl ⟨by omega, by omega⟩ ⟨rfl, Nat.le_of_ble_eq_true rfl⟩ rfl ?_
    refine x_goto (t := 112) (by decide) dX10_splitIn_137 ?_
    refine x_pick (L2 := [(0, _), (1, _), (2, _), (3, _), (4, _), (5, _)]) [0, 1, 2, 3, 4, 5] rfl ?_
    refine ih _ _ (by omega) (by omega) (fun a z => by rw [xu_c z]; exact g1 a z) (fun x z => by rw [xu_j (by omega)]; exact g2 x z) (fun x a b => ?_)
    by_cases hx : x = i
    · rw [hx, xu_s]
    · rw [xu_j (by omega)]; exact g3 x a (by omega)
set_option maxHeartbeats 4000000 in
theorem t_X10_splitIn {D R : Nat} (hD : isMd σ ρ D) (hR : σ[R]? = some (100, 50)) (hRD : R ≠ D ∧ R ≠ D + 14) {n en t : Int} {v : vV} (hn : M D 2 = n) (hen : M D 4 = en ∧ 0 ≤ en ∧ en ≤ 99) (hr : smr n v (M R)) (hG : wfG n v.1 v.2.1 v.2.2.1) (hO : wfO n v.2.2.2.1 v.2.2.2.2.1) (hq : ∀ M2, (∀ a, a ≠ R → a ≠ D + 14 → M2 a = M a) → smr n (vdv n en t v) (M2 R) → Q (some (xI (vdv n en t v).2.2.2.2.1)) (σ, ρ, M2)) : xX G mX10_splitIn 0 0 0 [(0, xP D), (1, xP R), (2, xI t)] [] (σ, ρ, M) Q := by
  have h8 := hG.2.1
  have h1 := hG.1
  have hx2 : ∀ b, 0 ≤ b → b < n → v.1 b ≤ 2 := fun b a c => (hG.2.2 b a c).2.1
  have hfl := flt_len (p := (hotp n en v.1 v.2.1 v.2.2.1 t)) (odl v.2.2.2.1 n.toNat)
  rw [odl_len] at hfl
  have hdv := dvf_l (p := (hotp n en v.1 v.2.1 v.2.2.1 t)) (od := v.2.2.2.1) n.toNat 0 v.2.2.2.1 [] [] rfl rfl (fun x a b => by omega) (fun _ _ => rfl) rfl
  rw [Nat.zero_add] at hdv
  have p0 : pside (hotp n en v.1 v.2.1 v.2.2.1 t) 0 = (hotp n en v.1 v.2.1 v.2.2.1 t) := by funext b; unfold pside; rw [if_neg (by omega)]
  have p1 : pside (hotp n en v.1 v.2.1 v.2.2.1 t) 1 = fun b => !(hotp n en v.1 v.2.1 v.2.2.1 t) b := by funext b; unfold pside; rw [if_pos rfl]
  refine x_iconst (p2 := 1) rfl dX10_splitIn_0 ⟨by decide, by decide⟩ ?_
  refine x_istore_n (p2 := 2) (i := 3) (L2 := [(0, _), (1, _), (2, _), (3, _)]) rfl dX10_splitIn_1 rfl ⟨rfl, Nat.le_of_ble_eq_true rfl⟩ rfl ?_
  refine x_iconst (p2 := 3) rfl dX10_splitIn_2 ⟨by decide, by decide⟩ ?_
  refine x_istore (p2 := 5) (i := 4) (L2 := [(0, _), (1, _), (2, _), (3, _), (4, _)]) rfl dX10_splitIn_3 ⟨rfl, Nat.le_of_ble_eq_true rfl⟩ rfl ?_
  refine x_iconst (p2 := 6) rfl dX10_splitIn_5 ⟨by decide, by decide⟩ ?_
  refine x_istore (p2 := 8) (i := 5) (L2 := [(0, _), (1, _), (2, _), (3, _), (4, _), (5, _)]) rfl dX10_splitIn_6 ⟨rfl, Nat.le_of_ble_eq_true rfl⟩ rfl ?_
  refine x_iload (p2 := 10) rfl dX10_splitIn_8 rfl ?_
  refine x_iconst (p2 := 11) rfl dX10_splitIn_10 ⟨by decide, by decide⟩ ?_
  refine x_ic_ge (p2 := 14) (t := 109) (by decide) rfl dX10_splitIn_11 (fun hc => absurd hc (by decide)) (fun _ => ?_)
  refine x_iconst (p2 := 15) rfl dX10_splitIn_14 ⟨by decide, by decide⟩ ?_
  refine x_istore (p2 := 17) (i := 6) (L2 := [(0, _), (1, _), (2, _), (3, _), (4, _), (5, _), (6, _)]) rfl dX10_splitIn_15 ⟨rfl, Nat.le_of_ble_eq_true rfl⟩ rfl ?_
  refine x_pick (L2 := [(0, _), (1, _), (2, _), (3, _), (4, _), (5, _), (6, _)]) [0, 1, 2, 3, 4, 5, 6] rfl ?_
  refine t_sp1 (base := []) hD hR hRD hn hen hr hG hO (Or.inl rfl) (by rw [p0, List.length_nil]; omega) n.toNat 0 0 M (by omega) (by omega) (fun _ _ => rfl) rfl (fun x a b => by omega) (fun c2 M2 q1 q2 q3 => ?_)
  rw [p0, List.nil_append] at q2 q3
  refine x_iload (p2 := 92) rfl dX10_splitIn_90 rfl ?_
  refine x_if_ne (p2 := 95) (t := 99) (by decide) rfl dX10_splitIn_92 (fun hc => absurd hc (by decide)) (fun _ => ?_)
  refine x_iload_n (p2 := 96) rfl dX10_splitIn_95 rfl ?_
  refine x_goto (t := 101) (by decide) dX10_splitIn_96 ?_
  refine x_istore (p2 := 103) (i := 4) (L2 := [(0, _), (1, _), (2, _), (3, _), (4, _), (5, _)]) rfl dX10_splitIn_101 ⟨rfl, Nat.le_of_ble_eq_true rfl⟩ rfl ?_
  refine x_iinc (p2 := 106) (L2 := [(0, _), (1, _), (2, _), (3, _), (4, _), (5, _)]) rfl dX10_splitIn_103 rfl ⟨by omega, by omega⟩ ⟨rfl, Nat.le_of_ble_eq_true rfl⟩ rfl ?_
  rw [show (0 : Int) + 1 = 1 from rfl]
  refine x_goto (t := 8) (by decide) dX10_splitIn_106 ?_
  refine x_iload (p2 := 10) rfl dX10_splitIn_8 rfl ?_
  refine x_iconst (p2 := 11) rfl dX10_splitIn_10 ⟨by decide, by decide⟩ ?_
  refine x_ic_ge (p2 := 14) (t := 109) (by decide) rfl dX10_splitIn_11 (fun hc11 => ?_) (fun hc11 => ?_)
  · exact absurd hc11 (by omega)
  refine x_iconst (p2 := 15) rfl dX10_splitIn_14 ⟨by decide, by decide⟩ ?_
  refine x_istore (p2 := 17) (i := 6) (L2 := [(0, _), (1, _), (2, _), (3, _), (4, _), (5, _), (6, _)]) rfl dX10_splitIn_15 ⟨rfl, Nat.le_of_ble_eq_true rfl⟩ rfl ?_
  refine x_pick (L2 := [(0, _), (1, _), (2, _), (3, _), (4, _), (5, _), (6, _)]) [0, 1, 2, 3, 4, 5, 6] rfl ?_
  refine t_sp1 (M := M2) (base := ((odl v.2.2.2.1 n.toNat).filter (hotp n en v.1 v.2.1 v.2.2.1 t))) hD hR hRD (n := n) (en := en) (v := v) (by rw [q1 D (by omega)]; exact hn) (by rw [q1 D (by omega)]; exact hen) (by rw [q1 R hRD.2]; exact hr) hG hO (Or.inr rfl) (by rw [p1]; omega) n.toNat 0 c2 M2 (by omega) (by omega) (fun _ _ => rfl) ?_ ?_ (fun c3 M3 r1 r2 r3 => ?_)
  · rw [q2, show (odl v.2.2.2.1 (0 : Int).toNat) = [] from rfl, List.filter_nil, List.append_nil]
  · rw [show (odl v.2.2.2.1 (0 : Int).toNat) = [] from rfl, List.filter_nil, List.append_nil]; exact q3
  rw [p1] at r2 r3
  refine x_iload (p2 := 92) rfl dX10_splitIn_90 rfl ?_
  refine x_if_ne (p2 := 95) (t := 99) (by decide) rfl dX10_splitIn_92 (fun _ => ?_) (fun hc => absurd hc (by decide))
  refine x_iload (p2 := 101) rfl dX10_splitIn_99 rfl ?_
  refine x_istore (p2 := 103) (i := 4) (L2 := [(0, _), (1, _), (2, _), (3, _), (4, _), (5, _)]) rfl dX10_splitIn_101 ⟨rfl, Nat.le_of_ble_eq_true rfl⟩ rfl ?_
  refine x_iinc (p2 := 106) (L2 := [(0, _), (1, _), (2, _), (3, _), (4, _), (5, _)]) rfl dX10_splitIn_103 rfl ⟨by omega, by omega⟩ ⟨rfl, Nat.le_of_ble_eq_true rfl⟩ rfl ?_
  refine x_goto (t := 8) (by decide) dX10_splitIn_106 ?_
  refine x_iload (p2 := 10) rfl dX10_splitIn_8 rfl ?_
  refine x_iconst (p2 := 11) rfl dX10_splitIn_10 ⟨by decide, by decide⟩ ?_
  refine x_ic_ge (p2 := 14) (t := 109) (by decide) rfl dX10_splitIn_11 (fun hc11 => ?_) (fun hc11 => absurd hc11 (by omega))
  refine x_iconst (p2 := 110) rfl dX10_splitIn_109 ⟨by decide, by decide⟩ ?_
  refine x_istore (p2 := 112) (i := 5) (L2 := [(0, _), (1, _), (2, _), (3, _), (4, _), (5, _)]) rfl dX10_splitIn_110 ⟨rfl, Nat.le_of_ble_eq_true rfl⟩ rfl ?_
  refine x_pick (L2 := [(0, _), (1, _), (2, _), (3, _), (4, _), (5, _)]) [0, 1, 2, 3, 4, 5] rfl ?_
  refine t_sp3 hD hR hRD (by rw [r1 D (by omega), q1 D (by omega)]; exact hn) h8 (fun M4 s1 s2 s3 s4 => ?_) n.toNat 0 M3 (by omega) (by omega) (fun _ _ => rfl) (fun _ _ => rfl) (fun x a b => by omega)
  have e4 : c2 = (vdv n en t v).2.2.2.2.1 := q2.trans hdv.1.symm
  rw [e4]
  refine hq M4 (fun a z1 z2 => (s1 a z1).trans ((r1 a z2).trans (q1 a z2))) (smr_oh hr h8 (fun x z => ?_) (s3.trans e4) (fun x a b => ?_) hx2)
  · rw [s2 x z, r1 R hRD.2, q1 R hRD.2]
  · rw [s4 x a b, r3 x a (by rw [r2, List.length_append]; omega)]
    exact (hdv.2 x a (by omega)).symm
set_option maxHeartbeats 4000000 in
theorem t_X10_split {D : Nat} (hD : isMd σ ρ D) {n en : Int} {byt : Int → Int} {v : vV} (hM : mdI M D n en byt v) (hW : wfV n en byt v) (hx : 0 ≤ M D 10 ∧ M D 10 < 14) (ha : 0 ≤ M D 9 ∧ M D 9 ≤ 14) {t : Int} (k1 : ¬ (1 ≤ t ∧ t ≤ 99) → Q (some (xI (-2))) (σ, ρ, M)) (hq : (1 ≤ t ∧ t ≤ 99) → ∀ M2, ra M M2 D n (vdv n en t v) → Q (some (xI (vdv n en t v).2.2.2.2.1)) (σ, ρ, M2)) : xX G mX10_split 0 0 0 [(0, xP D), (1, xI t)] [] (σ, ρ, M) Q := by
  obtain ⟨hn, hen, hyb, hr⟩ := id hM
  have hG := hW.1
  have hO := hW.2.1
  have hA := hW.2.2.1
  have he : M D 4 = en ∧ 0 ≤ en ∧ en ≤ 99 := ⟨hen, hW.2.2.2.1⟩
  have hy : ∀ b, 0 ≤ b → b < n → M (D + 2) b = byt b ∧ 0 ≤ byt b ∧ byt b ≤ 9 := fun b a c => ⟨hyb b a c, hW.2.2.2.2 b a c⟩
  have h8 := hG.2.1
  have h1 := hG.1
  have hx2 : ∀ b, 0 ≤ b → b < n → v.1 b ≤ 2 := fun b a c => (hG.2.2 b a c).2.1
  have hO5 := hO.2.2.2
  refine x_iload_n (p2 := 1) rfl dX10_split_0 rfl ?_
  refine x_i2l (p2 := 2) rfl dX10_split_1 ?_
  refine x_lconst (p2 := 3) (v := 1) rfl dX10_split_2 ⟨by decide, ⟨by decide, by decide⟩⟩ ?_
  refine x_ldc2 (p2 := 6) rfl dX10_split_3 q_10_184 ?_
  refine x_s3 (p2 := 9) rfl dX10_split_6 l_10_57 ok_X10_in rfl rfl ?_
  refine t_X10_in (fun hb6 => ?_) (fun hb6 => ?_)
  · skip
    refine x_if_ne (p2 := 12) (t := 15) (by decide) rfl dX10_split_9 (fun _ => ?_) (fun hc => absurd hc (by decide))
    refine x_aload_n (p2 := 16) rfl dX10_split_15 rfl ?_
    refine x_v0 (p2 := 19) rfl dX10_split_16 l_10_150 ok_X10_note rfl hD.sh rfl ?_
    refine t_X10_note hD hx ha (fun M1 hnt => ?_)
    have hM1 := hnt.i hM
    obtain ⟨hn1, hen1, hyb1, hr1⟩ := id hM1
    refine x_aload_n (p2 := 20) rfl dX10_split_19 rfl ?_
    refine x_aload_n (p2 := 21) rfl dX10_split_20 rfl ?_
    refine x_getr (p2 := 24) (kz := 5) rfl dX10_split_21 f_10_16 rfl rfl hD.sh hD.r5 ?_
    refine x_iload_n (p2 := 25) rfl dX10_split_24 rfl ?_
    refine x_v2 (p2 := 28) rfl dX10_split_25 l_10_186 ok_X10_splitIn rfl hD.sh rfl ?_
    refine t_X10_splitIn hD hD.a5 (by omega) hn1 ⟨hen1, hW.2.2.2.1⟩ hr1 hG hO (fun M2 hs hv => ?_)
    refine x_iret dX10_split_28 rfl ?_
    exact hq (by omega) _ (ra.mk hnt (fun c z => hs c (by omega) (by omega)) (fun f z => by rw [hs D (by omega) (by omega)]) hv)
  · skip
    refine x_if_ne (p2 := 12) (t := 15) (by decide) rfl dX10_split_9 (fun hc => absurd hc (by decide)) (fun _ => ?_)
    refine x_bipush (p2 := 14) rfl dX10_split_12 ⟨by decide, ⟨by decide, by decide⟩⟩ ?_
    refine x_iret dX10_split_14 rfl ?_
    exact k1 (by omega)
end XMI
