section XU
variable {G : xG} {σ : List (Nat × Nat)} {ρ : Nat → Int → Option Nat} {M : Nat → Int → Int} {Q : Option xV → xH → Prop}
def upf (f : Int → Int) (j v : Int) : Int → Int := fun x => if x = j then v else f x
def xw (M : Nat → Int → Int) (c : Nat) (f : Int → Int) : Nat → Int → Int := fun a => if a = c then f else M a
theorem upf_s {f : Int → Int} {j v : Int} : upf f j v j = v := if_pos rfl
theorem upf_n {f : Int → Int} {j v x : Int} (h : x ≠ j) : upf f j v x = f x := if_neg h
theorem xw_s {c : Nat} {f : Int → Int} : xw M c f c = f := if_pos rfl
theorem xw_n {a c : Nat} {f : Int → Int} (h : a ≠ c) : xw M c f a = M a := if_neg h
theorem xw_xw {c : Nat} {f g : Int → Int} : xw (xw M c f) c g = xw M c g := by
  funext a; unfold xw; split <;> rfl
theorem xw_id {c : Nat} : xw M c (M c) = M := by
  funext a; unfold xw; split
  · rename_i h; rw [h]
  · rfl
theorem xu_eq {c : Nat} {j v : Int} : xu M c j v = xw M c (upf (M c) j v) := by
  funext a b; unfold xu xw upf
  by_cases h : a = c
  · subst h; simp
  · simp [h]
theorem xu_xw {c : Nat} {f : Int → Int} {j v : Int} : xu (xw M c f) c j v = xw M c (upf f j v) := by
  rw [xu_eq, xw_s, xw_xw]
theorem xw_cm {a c : Nat} {f g : Int → Int} (h : a ≠ c) : xw (xw M a f) c g = xw (xw M c g) a f := by
  funext x; unfold xw
  by_cases h1 : x = c
  · subst h1; simp [Ne.symm h]
  · simp [h1]
/-- three rows of a State -/
def st3 (M : Nat → Int → Int) (S : Nat) (ex tg ct : Int → Int) : Nat → Int → Int := xw (xw (xw M (S + 1) ex) (S + 2) tg) (S + 3) ct
section S3
variable {S : Nat} {ex tg ct : Int → Int}
theorem st3_1 : st3 M S ex tg ct (S + 1) = ex := by unfold st3; rw [xw_n (by omega), xw_n (by omega), xw_s]
theorem st3_2 : st3 M S ex tg ct (S + 2) = tg := by unfold st3; rw [xw_n (by omega), xw_s]
theorem st3_3 : st3 M S ex tg ct (S + 3) = ct := by unfold st3; rw [xw_s]
theorem st3_n {c : Nat} (h1 : c ≠ S + 1) (h2 : c ≠ S + 2) (h3 : c ≠ S + 3) : st3 M S ex tg ct c = M c := by unfold st3; rw [xw_n h3, xw_n h2, xw_n h1]
theorem st3_u1 {j v : Int} : xu (st3 M S ex tg ct) (S + 1) j v = st3 M S (upf ex j v) tg ct := by
  rw [xu_eq, st3_1]; unfold st3
  rw [xw_cm (show S + 3 ≠ S + 1 by omega), xw_cm (show S + 2 ≠ S + 1 by omega), xw_xw]
theorem st3_u2 {j v : Int} : xu (st3 M S ex tg ct) (S + 2) j v = st3 M S ex (upf tg j v) ct := by
  rw [xu_eq, st3_2]; unfold st3
  rw [xw_cm (show S + 3 ≠ S + 2 by omega), xw_xw]
theorem st3_u3 {j v : Int} : xu (st3 M S ex tg ct) (S + 3) j v = st3 M S ex tg (upf ct j v) := by
  rw [xu_eq, st3_3]; unfold st3
  rw [xw_xw]
theorem st3_id : st3 M S (M (S + 1)) (M (S + 2)) (M (S + 3)) = M := by
  unfold st3
  rw [xw_id, xw_id, xw_id]
end S3
set_option maxHeartbeats 4000000 in
theorem t_X7_exchange {S F : Nat} {i j : Int} (hS : isSt σ ρ S F) (hi : 0 ≤ i ∧ i < 8) (hj : 0 ≤ j ∧ j < 8) (hq : Q none (σ, ρ, xw M (S + 4) (upf (upf (M (S + 4)) i (M (S + 4) j)) j (M (S + 4) i)))) : xX G mX7_exchange 0 0 0 [(0, xP S), (1, xI i), (2, xI j)] [] (σ, ρ, M) Q := by
  refine x_aload_n (p2 := 1) rfl dX7_exchange_0 rfl ?_
  refine x_getr (p2 := 4) (kz := 4) rfl dX7_exchange_1 f_7_21 rfl rfl hS.sh hS.r4 ?_
  refine x_iload_n (p2 := 5) rfl dX7_exchange_4 rfl ?_
  refine x_iald (p2 := 6) rfl dX7_exchange_5 hS.a4 (by omega) (by omega) ?_
  refine x_istore_n (p2 := 7) (i := 3) (L2 := [(0, _), (1, _), (2, _), (3, _)]) rfl dX7_exchange_6 rfl ⟨rfl, Nat.le_of_ble_eq_true rfl⟩ rfl ?_
  refine x_aload_n (p2 := 8) rfl dX7_exchange_7 rfl ?_
  refine x_getr (p2 := 11) (kz := 4) rfl dX7_exchange_8 f_7_21 rfl rfl hS.sh hS.r4 ?_
  refine x_iload_n (p2 := 12) rfl dX7_exchange_11 rfl ?_
  refine x_aload_n (p2 := 13) rfl dX7_exchange_12 rfl ?_
  refine x_getr (p2 := 16) (kz := 4) rfl dX7_exchange_13 f_7_21 rfl rfl hS.sh hS.r4 ?_
  refine x_iload_n (p2 := 17) rfl dX7_exchange_16 rfl ?_
  refine x_iald (p2 := 18) rfl dX7_exchange_17 hS.a4 (by omega) (by omega) ?_
  refine x_iast (p2 := 19) rfl dX7_exchange_18 hS.a4 (by omega) (by omega) ?_
  refine x_aload_n (p2 := 20) rfl dX7_exchange_19 rfl ?_
  refine x_getr (p2 := 23) (kz := 4) rfl dX7_exchange_20 f_7_21 rfl rfl hS.sh hS.r4 ?_
  refine x_iload_n (p2 := 24) rfl dX7_exchange_23 rfl ?_
  refine x_iload_n (p2 := 25) rfl dX7_exchange_24 rfl ?_
  refine x_iast (p2 := 26) rfl dX7_exchange_25 hS.a4 (by omega) (by omega) ?_
  refine x_vret dX7_exchange_26 rfl ?_
  rw [xu_eq (M := M), xu_xw]; exact hq
set_option maxHeartbeats 4000000 in
theorem t_X7_refusalToExchange {S F : Nat} {i j : Int} (hS : isSt σ ρ S F) (k1 : ¬ (0 ≤ i ∧ i < M F 0 ∧ 0 ≤ j ∧ j < M F 0) → Q (some (xI (-1))) (σ, ρ, M)) (k2 : (0 ≤ i ∧ i < M F 0 ∧ 0 ≤ j ∧ j < M F 0) ∧ (i = 0 ∨ j = 0) → Q (some (xI (-3))) (σ, ρ, M)) (k0 : 0 < i ∧ i < M F 0 ∧ 0 < j ∧ j < M F 0 → Q (some (xI 0)) (σ, ρ, M)) : xX G mX7_refusalToExchange 0 0 0 [(0, xP S), (1, xI i), (2, xI j)] [] (σ, ρ, M) Q := by
  refine x_aload_n (p2 := 1) rfl dX7_refusalToExchange_0 rfl ?_
  refine x_getr (p2 := 4) (kz := 0) rfl dX7_refusalToExchange_1 f_7_31 rfl rfl hS.sh hS.r0 ?_
  refine x_iload_n (p2 := 5) rfl dX7_refusalToExchange_4 rfl ?_
  refine x_v1 (p2 := 8) rfl dX7_refusalToExchange_5 l_7_71 ok_X1_hasPosition rfl hS.fr.sh rfl ?_
  refine t_X1_hasPosition hS.fr (fun hb5 => ?_) (fun hb5 => ?_)
  · skip
    refine x_if_eq (p2 := 11) (t := 22) (by decide) rfl dX7_refusalToExchange_8 (fun hc => absurd hc (by decide)) (fun _ => ?_)
    refine x_aload_n (p2 := 12) rfl dX7_refusalToExchange_11 rfl ?_
    refine x_getr (p2 := 15) (kz := 0) rfl dX7_refusalToExchange_12 f_7_31 rfl rfl hS.sh hS.r0 ?_
    refine x_iload_n (p2 := 16) rfl dX7_refusalToExchange_15 rfl ?_
    refine x_v1 (p2 := 19) rfl dX7_refusalToExchange_16 l_7_71 ok_X1_hasPosition rfl hS.fr.sh rfl ?_
    refine t_X1_hasPosition hS.fr (fun hb16 => ?_) (fun hb16 => ?_)
    · skip
      refine x_if_ne (p2 := 22) (t := 24) (by decide) rfl dX7_refusalToExchange_19 (fun _ => ?_) (fun hc => absurd hc (by decide))
      refine x_iload_n (p2 := 25) rfl dX7_refusalToExchange_24 rfl ?_
      refine x_if_eq (p2 := 28) (t := 32) (by decide) rfl dX7_refusalToExchange_25 (fun hc25 => ?_) (fun hc25 => ?_)
      · skip
        refine x_bipush (p2 := 34) rfl dX7_refusalToExchange_32 ⟨by decide, ⟨by decide, by decide⟩⟩ ?_
        refine x_goto (t := 38) (by decide) dX7_refusalToExchange_34 ?_
        refine x_iret dX7_refusalToExchange_38 rfl ?_
        exact k2 (by omega)
      · skip
        refine x_iload_n (p2 := 29) rfl dX7_refusalToExchange_28 rfl ?_
        refine x_if_ne (p2 := 32) (t := 37) (by decide) rfl dX7_refusalToExchange_29 (fun hc29 => ?_) (fun hc29 => ?_)
        · skip
          refine x_iconst (p2 := 38) rfl dX7_refusalToExchange_37 ⟨by decide, by decide⟩ ?_
          refine x_iret dX7_refusalToExchange_38 rfl ?_
          exact k0 (by omega)
        · skip
          refine x_bipush (p2 := 34) rfl dX7_refusalToExchange_32 ⟨by decide, ⟨by decide, by decide⟩⟩ ?_
          refine x_goto (t := 38) (by decide) dX7_refusalToExchange_34 ?_
          refine x_iret dX7_refusalToExchange_38 rfl ?_
          exact k2 (by omega)
    · skip
      refine x_if_ne (p2 := 22) (t := 24) (by decide) rfl dX7_refusalToExchange_19 (fun hc => absurd hc (by decide)) (fun _ => ?_)
      refine x_iconst (p2 := 23) rfl dX7_refusalToExchange_22 ⟨by decide, by decide⟩ ?_
      refine x_iret dX7_refusalToExchange_23 rfl ?_
      exact k1 (by omega)
  · skip
    refine x_if_eq (p2 := 11) (t := 22) (by decide) rfl dX7_refusalToExchange_8 (fun _ => ?_) (fun hc => absurd hc (by decide))
    refine x_iconst (p2 := 23) rfl dX7_refusalToExchange_22 ⟨by decide, by decide⟩ ?_
    refine x_iret dX7_refusalToExchange_23 rfl ?_
    exact k1 (by omega)
set_option maxHeartbeats 4000000 in
theorem t_X7_refusalToTurn {S F : Nat} {i j : Int} (hS : isSt σ ρ S F) (k1 : ¬ (0 ≤ i ∧ i < M F 0 ∧ 0 ≤ j ∧ j < M F 0) → Q (some (xI (-1))) (σ, ρ, M)) (k2 : (0 ≤ i ∧ i < M F 0 ∧ 0 ≤ j ∧ j < M F 0) ∧ (i = 0 ∨ j < i ∨ M S 5 ≤ j) → Q (some (xI (-3))) (σ, ρ, M)) (k0 : 0 < i ∧ i ≤ j ∧ j < M F 0 ∧ j < M S 5 → Q (some (xI 0)) (σ, ρ, M)) : xX G mX7_refusalToTurn 0 0 0 [(0, xP S), (1, xI i), (2, xI j)] [] (σ, ρ, M) Q := by
  refine x_aload_n (p2 := 1) rfl dX7_refusalToTurn_0 rfl ?_
  refine x_getr (p2 := 4) (kz := 0) rfl dX7_refusalToTurn_1 f_7_31 rfl rfl hS.sh hS.r0 ?_
  refine x_iload_n (p2 := 5) rfl dX7_refusalToTurn_4 rfl ?_
  refine x_v1 (p2 := 8) rfl dX7_refusalToTurn_5 l_7_71 ok_X1_hasPosition rfl hS.fr.sh rfl ?_
  refine t_X1_hasPosition hS.fr (fun hb5 => ?_) (fun hb5 => ?_)
  · skip
    refine x_if_eq (p2 := 11) (t := 22) (by decide) rfl dX7_refusalToTurn_8 (fun hc => absurd hc (by decide)) (fun _ => ?_)
    refine x_aload_n (p2 := 12) rfl dX7_refusalToTurn_11 rfl ?_
    refine x_getr (p2 := 15) (kz := 0) rfl dX7_refusalToTurn_12 f_7_31 rfl rfl hS.sh hS.r0 ?_
    refine x_iload_n (p2 := 16) rfl dX7_refusalToTurn_15 rfl ?_
    refine x_v1 (p2 := 19) rfl dX7_refusalToTurn_16 l_7_71 ok_X1_hasPosition rfl hS.fr.sh rfl ?_
    refine t_X1_hasPosition hS.fr (fun hb16 => ?_) (fun hb16 => ?_)
    · skip
      refine x_if_ne (p2 := 22) (t := 24) (by decide) rfl dX7_refusalToTurn_19 (fun _ => ?_) (fun hc => absurd hc (by decide))
      refine x_iload_n (p2 := 25) rfl dX7_refusalToTurn_24 rfl ?_
      refine x_if_eq (p2 := 28) (t := 41) (by decide) rfl dX7_refusalToTurn_25 (fun hc25 => ?_) (fun hc25 => ?_)
      · skip
        refine x_bipush (p2 := 43) rfl dX7_refusalToTurn_41 ⟨by decide, ⟨by decide, by decide⟩⟩ ?_
        refine x_goto (t := 47) (by decide) dX7_refusalToTurn_43 ?_
        refine x_iret dX7_refusalToTurn_47 rfl ?_
        exact k2 (by omega)
      · skip
        refine x_iload_n (p2 := 29) rfl dX7_refusalToTurn_28 rfl ?_
        refine x_iload_n (p2 := 30) rfl dX7_refusalToTurn_29 rfl ?_
        refine x_ic_gt (p2 := 33) (t := 41) (by decide) rfl dX7_refusalToTurn_30 (fun hc30 => ?_) (fun hc30 => ?_)
        · skip
          refine x_bipush (p2 := 43) rfl dX7_refusalToTurn_41 ⟨by decide, ⟨by decide, by decide⟩⟩ ?_
          refine x_goto (t := 47) (by decide) dX7_refusalToTurn_43 ?_
          refine x_iret dX7_refusalToTurn_47 rfl ?_
          exact k2 (by omega)
        · skip
          refine x_iload_n (p2 := 34) rfl dX7_refusalToTurn_33 rfl ?_
          refine x_aload_n (p2 := 35) rfl dX7_refusalToTurn_34 rfl ?_
          refine x_geti (p2 := 38) (kz := 5) rfl dX7_refusalToTurn_35 f_7_24 rfl rfl hS.sh ?_
          refine x_ic_lt (p2 := 41) (t := 46) (by decide) rfl dX7_refusalToTurn_38 (fun hc38 => ?_) (fun hc38 => ?_)
          · skip
            refine x_iconst (p2 := 47) rfl dX7_refusalToTurn_46 ⟨by decide, by decide⟩ ?_
            refine x_iret dX7_refusalToTurn_47 rfl ?_
            exact k0 (by omega)
          · skip
            refine x_bipush (p2 := 43) rfl dX7_refusalToTurn_41 ⟨by decide, ⟨by decide, by decide⟩⟩ ?_
            refine x_goto (t := 47) (by decide) dX7_refusalToTurn_43 ?_
            refine x_iret dX7_refusalToTurn_47 rfl ?_
            exact k2 (by omega)
    · skip
      refine x_if_ne (p2 := 22) (t := 24) (by decide) rfl dX7_refusalToTurn_19 (fun hc => absurd hc (by decide)) (fun _ => ?_)
      refine x_iconst (p2 := 23) rfl dX7_refusalToTurn_22 ⟨by decide, by decide⟩ ?_
      refine x_iret dX7_refusalToTurn_23 rfl ?_
      exact k1 (by omega)
  · skip
    refine x_if_eq (p2 := 11) (t := 22) (by decide) rfl dX7_refusalToTurn_8 (fun _ => ?_) (fun hc => absurd hc (by decide))
    refine x_iconst (p2 := 23) rfl dX7_refusalToTurn_22 ⟨by decide, by decide⟩ ?_
    refine x_iret dX7_refusalToTurn_23 rfl ?_
    exact k1 (by omega)
set_option maxHeartbeats 4000000 in
theorem t_X7_refusalToDivide {i : Int} (k1 : ¬ (1 ≤ i ∧ i ≤ 99) → Q (some (xI (-2))) (σ, ρ, M)) (k0 : 1 ≤ i ∧ i ≤ 99 → Q (some (xI 0)) (σ, ρ, M)) : xX G mX7_refusalToDivide 0 0 0 [(0, xI i)] [] (σ, ρ, M) Q := by
  refine x_iload_n (p2 := 1) rfl dX7_refusalToDivide_0 rfl ?_
  refine x_iconst (p2 := 2) rfl dX7_refusalToDivide_1 ⟨by decide, by decide⟩ ?_
  refine x_ic_lt (p2 := 5) (t := 11) (by decide) rfl dX7_refusalToDivide_2 (fun hc2 => ?_) (fun hc2 => ?_)
  · skip
    refine x_bipush (p2 := 13) rfl dX7_refusalToDivide_11 ⟨by decide, ⟨by decide, by decide⟩⟩ ?_
    refine x_goto (t := 17) (by decide) dX7_refusalToDivide_13 ?_
    refine x_iret dX7_refusalToDivide_17 rfl ?_
    exact k1 (by omega)
  · skip
    refine x_iload_n (p2 := 6) rfl dX7_refusalToDivide_5 rfl ?_
    refine x_bipush (p2 := 8) rfl dX7_refusalToDivide_6 ⟨by decide, ⟨by decide, by decide⟩⟩ ?_
    refine x_ic_le (p2 := 11) (t := 16) (by decide) rfl dX7_refusalToDivide_8 (fun hc8 => ?_) (fun hc8 => ?_)
    · skip
      refine x_iconst (p2 := 17) rfl dX7_refusalToDivide_16 ⟨by decide, by decide⟩ ?_
      refine x_iret dX7_refusalToDivide_17 rfl ?_
      exact k0 (by omega)
    · skip
      refine x_bipush (p2 := 13) rfl dX7_refusalToDivide_11 ⟨by decide, ⟨by decide, by decide⟩⟩ ?_
      refine x_goto (t := 17) (by decide) dX7_refusalToDivide_13 ?_
      refine x_iret dX7_refusalToDivide_17 rfl ?_
      exact k1 (by omega)
set_option maxHeartbeats 4000000 in
theorem t_X7_refusalToGoAround {S F : Nat} {b : Int} (hS : isSt σ ρ S F) (hn : M F 0 ≤ 8) (k1 : ¬ (0 ≤ b ∧ b < M F 0) → Q (some (xI (-1))) (σ, ρ, M)) (k2 : (0 ≤ b ∧ b < M F 0) ∧ (b = 0 ∨ M (F + 1) b ≠ 0 ∨ M (S + 1) b ≠ 1 ∨ M (S + 2) (2 * b + 0) = b) → Q (some (xI (-3))) (σ, ρ, M)) (k0 : 0 < b ∧ b < M F 0 ∧ M (F + 1) b = 0 ∧ M (S + 1) b = 1 ∧ M (S + 2) (2 * b + 0) ≠ b → Q (some (xI 0)) (σ, ρ, M)) : xX G mX7_refusalToGoAround 0 0 0 [(0, xP S), (1, xI b)] [] (σ, ρ, M) Q := by
  refine x_aload_n (p2 := 1) rfl dX7_refusalToGoAround_0 rfl ?_
  refine x_getr (p2 := 4) (kz := 0) rfl dX7_refusalToGoAround_1 f_7_31 rfl rfl hS.sh hS.r0 ?_
  refine x_iload_n (p2 := 5) rfl dX7_refusalToGoAround_4 rfl ?_
  refine x_v1 (p2 := 8) rfl dX7_refusalToGoAround_5 l_7_46 ok_X1_hasBlock rfl hS.fr.sh rfl ?_
  refine t_X1_hasBlock hS.fr (fun hb5 => ?_) (fun hb5 => ?_)
  · skip
    refine x_if_ne (p2 := 11) (t := 13) (by decide) rfl dX7_refusalToGoAround_8 (fun _ => ?_) (fun hc => absurd hc (by decide))
    refine x_iload_n (p2 := 14) rfl dX7_refusalToGoAround_13 rfl ?_
    refine x_if_eq (p2 := 17) (t := 53) (by decide) rfl dX7_refusalToGoAround_14 (fun hc14 => ?_) (fun hc14 => ?_)
    · skip
      refine x_iconst (p2 := 54) rfl dX7_refusalToGoAround_53 ⟨by decide, by decide⟩ ?_
      refine x_istore_n (p2 := 55) (i := 2) (L2 := [(0, _), (1, _), (2, _)]) rfl dX7_refusalToGoAround_54 rfl ⟨rfl, Nat.le_of_ble_eq_true rfl⟩ rfl ?_
      refine x_iload_n (p2 := 56) rfl dX7_refusalToGoAround_55 rfl ?_
      refine x_if_eq (p2 := 59) (t := 63) (by decide) rfl dX7_refusalToGoAround_56 (fun _ => ?_) (fun hc => absurd hc (by decide))
      refine x_bipush (p2 := 65) rfl dX7_refusalToGoAround_63 ⟨by decide, ⟨by decide, by decide⟩⟩ ?_
      refine x_iret dX7_refusalToGoAround_65 rfl ?_
      exact k2 (by omega)
    · skip
      refine x_aload_n (p2 := 18) rfl dX7_refusalToGoAround_17 rfl ?_
      refine x_getr (p2 := 21) (kz := 0) rfl dX7_refusalToGoAround_18 f_7_31 rfl rfl hS.sh hS.r0 ?_
      refine x_getr (p2 := 24) (kz := 2) rfl dX7_refusalToGoAround_21 f_7_77 rfl rfl hS.fr.sh hS.fr.r2 ?_
      refine x_iload_n (p2 := 25) rfl dX7_refusalToGoAround_24 rfl ?_
      refine x_iald (p2 := 26) rfl dX7_refusalToGoAround_25 hS.fr.a2 (by omega) (by omega) ?_
      refine x_if_ne (p2 := 29) (t := 53) (by decide) rfl dX7_refusalToGoAround_26 (fun hc26 => ?_) (fun hc26 => ?_)
      · skip
        refine x_iconst (p2 := 54) rfl dX7_refusalToGoAround_53 ⟨by decide, by decide⟩ ?_
        refine x_istore_n (p2 := 55) (i := 2) (L2 := [(0, _), (1, _), (2, _)]) rfl dX7_refusalToGoAround_54 rfl ⟨rfl, Nat.le_of_ble_eq_true rfl⟩ rfl ?_
        refine x_iload_n (p2 := 56) rfl dX7_refusalToGoAround_55 rfl ?_
        refine x_if_eq (p2 := 59) (t := 63) (by decide) rfl dX7_refusalToGoAround_56 (fun _ => ?_) (fun hc => absurd hc (by decide))
        refine x_bipush (p2 := 65) rfl dX7_refusalToGoAround_63 ⟨by decide, ⟨by decide, by decide⟩⟩ ?_
        refine x_iret dX7_refusalToGoAround_65 rfl ?_
        exact k2 (by omega)
      · skip
        refine x_aload_n (p2 := 30) rfl dX7_refusalToGoAround_29 rfl ?_
        refine x_getr (p2 := 33) (kz := 1) rfl dX7_refusalToGoAround_30 f_7_9 rfl rfl hS.sh hS.r1 ?_
        refine x_iload_n (p2 := 34) rfl dX7_refusalToGoAround_33 rfl ?_
        refine x_iald (p2 := 35) rfl dX7_refusalToGoAround_34 hS.a1 (by omega) (by omega) ?_
        refine x_iconst (p2 := 36) rfl dX7_refusalToGoAround_35 ⟨by decide, by decide⟩ ?_
        refine x_ic_ne (p2 := 39) (t := 53) (by decide) rfl dX7_refusalToGoAround_36 (fun hc36 => ?_) (fun hc36 => ?_)
        · skip
          refine x_iconst (p2 := 54) rfl dX7_refusalToGoAround_53 ⟨by decide, by decide⟩ ?_
          refine x_istore_n (p2 := 55) (i := 2) (L2 := [(0, _), (1, _), (2, _)]) rfl dX7_refusalToGoAround_54 rfl ⟨rfl, Nat.le_of_ble_eq_true rfl⟩ rfl ?_
          refine x_iload_n (p2 := 56) rfl dX7_refusalToGoAround_55 rfl ?_
          refine x_if_eq (p2 := 59) (t := 63) (by decide) rfl dX7_refusalToGoAround_56 (fun _ => ?_) (fun hc => absurd hc (by decide))
          refine x_bipush (p2 := 65) rfl dX7_refusalToGoAround_63 ⟨by decide, ⟨by decide, by decide⟩⟩ ?_
          refine x_iret dX7_refusalToGoAround_65 rfl ?_
          exact k2 (by omega)
        · skip
          refine x_aload_n (p2 := 40) rfl dX7_refusalToGoAround_39 rfl ?_
          refine x_iload_n (p2 := 41) rfl dX7_refusalToGoAround_40 rfl ?_
          refine x_iconst (p2 := 42) rfl dX7_refusalToGoAround_41 ⟨by decide, by decide⟩ ?_
          refine x_v2 (p2 := 45) rfl dX7_refusalToGoAround_42 l_7_53 ok_X7_target rfl hS.sh rfl ?_
          refine t_X7_target hS (by omega) (by omega) (by omega) (by omega) ?_
          refine x_iload_n (p2 := 46) rfl dX7_refusalToGoAround_45 rfl ?_
          refine x_ic_eq (p2 := 49) (t := 53) (by decide) rfl dX7_refusalToGoAround_46 (fun hc46 => ?_) (fun hc46 => ?_)
          · skip
            refine x_iconst (p2 := 54) rfl dX7_refusalToGoAround_53 ⟨by decide, by decide⟩ ?_
            refine x_istore_n (p2 := 55) (i := 2) (L2 := [(0, _), (1, _), (2, _)]) rfl dX7_refusalToGoAround_54 rfl ⟨rfl, Nat.le_of_ble_eq_true rfl⟩ rfl ?_
            refine x_iload_n (p2 := 56) rfl dX7_refusalToGoAround_55 rfl ?_
            refine x_if_eq (p2 := 59) (t := 63) (by decide) rfl dX7_refusalToGoAround_56 (fun _ => ?_) (fun hc => absurd hc (by decide))
            refine x_bipush (p2 := 65) rfl dX7_refusalToGoAround_63 ⟨by decide, ⟨by decide, by decide⟩⟩ ?_
            refine x_iret dX7_refusalToGoAround_65 rfl ?_
            exact k2 (by omega)
          · skip
            refine x_iconst (p2 := 50) rfl dX7_refusalToGoAround_49 ⟨by decide, by decide⟩ ?_
            refine x_goto (t := 54) (by decide) dX7_refusalToGoAround_50 ?_
            refine x_istore_n (p2 := 55) (i := 2) (L2 := [(0, _), (1, _), (2, _)]) rfl dX7_refusalToGoAround_54 rfl ⟨rfl, Nat.le_of_ble_eq_true rfl⟩ rfl ?_
            refine x_iload_n (p2 := 56) rfl dX7_refusalToGoAround_55 rfl ?_
            refine x_if_eq (p2 := 59) (t := 63) (by decide) rfl dX7_refusalToGoAround_56 (fun hc => absurd hc (by decide)) (fun _ => ?_)
            refine x_iconst (p2 := 60) rfl dX7_refusalToGoAround_59 ⟨by decide, by decide⟩ ?_
            refine x_goto (t := 65) (by decide) dX7_refusalToGoAround_60 ?_
            refine x_iret dX7_refusalToGoAround_65 rfl ?_
            exact k0 (by omega)
  · skip
    refine x_if_ne (p2 := 11) (t := 13) (by decide) rfl dX7_refusalToGoAround_8 (fun hc => absurd hc (by decide)) (fun _ => ?_)
    refine x_iconst (p2 := 12) rfl dX7_refusalToGoAround_11 ⟨by decide, by decide⟩ ?_
    refine x_iret dX7_refusalToGoAround_12 rfl ?_
    exact k1 (by omega)
def tnf : Nat → Int → (Int → Int) → Int → Int
  | 0, _, r => r
  | k + 1, i, r => tnf k (i + 1) (upf r i (r (i + 1)))
set_option maxHeartbeats 4000000 in
theorem t_turn_l {S F : Nat} {f l v : Int} (hS : isSt σ ρ S F) (hl : l < 8) : ∀ (n : Nat) (i : Int) (r : Int → Int), 0 ≤ i → i + n = l → Q none (σ, ρ, xw M (S + 4) (upf (tnf n i r) l v)) → xX G mX7_turn 0 0 10 [(0, xP S), (1, xI f), (2, xI l), (3, xI v), (4, xI i)] [] (σ, ρ, xw M (S + 4) r) Q := by
  intro n
  induction n with
  | zero =>
    intro i r h0 hk hq
    refine x_iload (p2 := 12) rfl dX7_turn_10 rfl ?_
    refine x_iload_n (p2 := 13) rfl dX7_turn_12 rfl ?_
    refine x_ic_ge (p2 := 16) (t := 38) (by decide) rfl dX7_turn_13 (fun hc13 => ?_) (fun hc13 => absurd hc13 (by omega))
    refine x_aload_n (p2 := 39) rfl dX7_turn_38 rfl ?_
    refine x_getr (p2 := 42) (kz := 4) rfl dX7_turn_39 f_7_21 rfl rfl hS.sh hS.r4 ?_
    refine x_iload_n (p2 := 43) rfl dX7_turn_42 rfl ?_
    refine x_iload_n (p2 := 44) rfl dX7_turn_43 rfl ?_
    refine x_iast (p2 := 45) rfl dX7_turn_44 hS.a4 (by omega) (by omega) ?_
    rw [xu_xw]
    refine x_vret dX7_turn_45 rfl ?_
    exact hq
  | succ n ih =>
    intro i r h0 hk hq
    refine x_iload (p2 := 12) rfl dX7_turn_10 rfl ?_
    refine x_iload_n (p2 := 13) rfl dX7_turn_12 rfl ?_
    refine x_ic_ge (p2 := 16) (t := 38) (by decide) rfl dX7_turn_13 (fun hc13 => ?_) (fun hc13 => ?_)
    · exact absurd hc13 (by omega)
    refine x_aload_n (p2 := 17) rfl dX7_turn_16 rfl ?_
    refine x_getr (p2 := 20) (kz := 4) rfl dX7_turn_17 f_7_21 rfl rfl hS.sh hS.r4 ?_
    refine x_iload (p2 := 22) rfl dX7_turn_20 rfl ?_
    refine x_aload_n (p2 := 23) rfl dX7_turn_22 rfl ?_
    refine x_getr (p2 := 26) (kz := 4) rfl dX7_turn_23 f_7_21 rfl rfl hS.sh hS.r4 ?_
    refine x_iload (p2 := 28) rfl dX7_turn_26 rfl ?_
    refine x_iconst (p2 := 29) rfl dX7_turn_28 ⟨by decide, by decide⟩ ?_
    refine x_iadd (p2 := 30) rfl dX7_turn_29 ⟨by omega, by omega⟩ ?_
    refine x_iald (p2 := 31) rfl dX7_turn_30 hS.a4 (by omega) (by omega) ?_
    rw [xw_s]
    refine x_iast (p2 := 32) rfl dX7_turn_31 hS.a4 (by omega) (by omega) ?_
    rw [xu_xw]
    refine x_iinc (p2 := 35) (L2 := [(0, _), (1, _), (2, _), (3, _), (4, _)]) rfl dX7_turn_32 rfl ⟨by omega, by omega⟩ ⟨rfl, Nat.le_of_ble_eq_true rfl⟩ rfl ?_
    refine x_goto (t := 10) (by decide) dX7_turn_35 ?_
    refine x_pick (L2 := [(0, _), (1, _), (2, _), (3, _), (4, _)]) [0, 1, 2, 3, 4] rfl ?_
    exact ih _ _ (by omega) (by omega) hq
set_option maxHeartbeats 4000000 in
theorem t_X7_turn {S F : Nat} {f l : Int} (hS : isSt σ ρ S F) (hf : 0 ≤ f ∧ f ≤ l) (hl : l < 8) (hq : Q none (σ, ρ, xw M (S + 4) (upf (tnf (l - f).toNat f (M (S + 4))) l (M (S + 4) f)))) : xX G mX7_turn 0 0 0 [(0, xP S), (1, xI f), (2, xI l)] [] (σ, ρ, M) Q := by
  refine x_aload_n (p2 := 1) rfl dX7_turn_0 rfl ?_
  refine x_getr (p2 := 4) (kz := 4) rfl dX7_turn_1 f_7_21 rfl rfl hS.sh hS.r4 ?_
  refine x_iload_n (p2 := 5) rfl dX7_turn_4 rfl ?_
  refine x_iald (p2 := 6) rfl dX7_turn_5 hS.a4 (by omega) (by omega) ?_
  refine x_istore_n (p2 := 7) (i := 3) (L2 := [(0, _), (1, _), (2, _), (3, _)]) rfl dX7_turn_6 rfl ⟨rfl, Nat.le_of_ble_eq_true rfl⟩ rfl ?_
  refine x_iload_n (p2 := 8) rfl dX7_turn_7 rfl ?_
  refine x_istore (p2 := 10) (i := 4) (L2 := [(0, _), (1, _), (2, _), (3, _), (4, _)]) rfl dX7_turn_8 ⟨rfl, Nat.le_of_ble_eq_true rfl⟩ rfl ?_
  refine x_pick (L2 := [(0, _), (1, _), (2, _), (3, _), (4, _)]) [0, 1, 2, 3, 4] rfl ?_
  rw [show (σ, ρ, M) = (σ, ρ, xw M (S + 4) (M (S + 4))) by rw [xw_id]]
  exact t_turn_l hS hl _ _ _ hf.1 (by omega) hq
def shf : Nat → Int → (Int → Int) → Int → Int
  | 0, _, r => r
  | k + 1, j, r => shf k (j - 1) (upf r j (r (j - 1)))
def dvf (p : Int → Bool) : Nat → Int → (Int → Int) → Int → (Int → Int) × Int
  | 0, _, r, h => (r, h)
  | k + 1, i, r, h => if p (r i) then dvf p k (i + 1) (upf (shf (i - h).toNat i r) h (r i)) (h + 1) else dvf p k (i + 1) r h
def hotp (n en : Int) (ex tg ct : Int → Int) (t b : Int) : Bool := decide (b = 0 ∨ t ≤ rns n en ex tg ct b)
set_option maxHeartbeats 4000000 in
theorem t_div_l1 {S F : Nat} {t h i b : Int} (hS : isSt σ ρ S F) (hh : 0 ≤ h) : ∀ (n : Nat) (j : Int) (r : Int → Int), j < 8 → h + n = j → xX G mX7_divide 0 0 69 [(0, xP S), (1, xI t), (2, xI h), (3, xI i), (4, xI b)] [] (σ, ρ, xw M (S + 4) (shf n j r)) Q → xX G mX7_divide 0 0 41 [(0, xP S), (1, xI t), (2, xI h), (3, xI i), (4, xI b), (5, xI j)] [] (σ, ρ, xw M (S + 4) r) Q := by
  intro n
  induction n with
  | zero =>
    intro j r h0 hk hq
    refine x_iload (p2 := 43) rfl dX7_divide_41 rfl ?_
    refine x_iload_n (p2 := 44) rfl dX7_divide_43 rfl ?_
    refine x_ic_le (p2 := 47) (t := 69) (by decide) rfl dX7_divide_44 (fun hc44 => ?_) (fun hc44 => absurd hc44 (by omega))
    refine x_pick (L2 := [(0, _), (1, _), (2, _), (3, _), (4, _)]) [0, 1, 2, 3, 4] rfl ?_
    exact hq
  | succ n ih =>
    intro j r h0 hk hq
    refine x_iload (p2 := 43) rfl dX7_divide_41 rfl ?_
    refine x_iload_n (p2 := 44) rfl dX7_divide_43 rfl ?_
    refine x_ic_le (p2 := 47) (t := 69) (by decide) rfl dX7_divide_44 (fun hc44 => ?_) (fun hc44 => ?_)
    · exact absurd hc44 (by omega)
    refine x_aload_n (p2 := 48) rfl dX7_divide_47 rfl ?_
    refine x_getr (p2 := 51) (kz := 4) rfl dX7_divide_48 f_7_21 rfl rfl hS.sh hS.r4 ?_
    refine x_iload (p2 := 53) rfl dX7_divide_51 rfl ?_
    refine x_aload_n (p2 := 54) rfl dX7_divide_53 rfl ?_
    refine x_getr (p2 := 57) (kz := 4) rfl dX7_divide_54 f_7_21 rfl rfl hS.sh hS.r4 ?_
    refine x_iload (p2 := 59) rfl dX7_divide_57 rfl ?_
    refine x_iconst (p2 := 60) rfl dX7_divide_59 ⟨by decide, by decide⟩ ?_
    refine x_isub (p2 := 61) rfl dX7_divide_60 ⟨by omega, by omega⟩ ?_
    refine x_iald (p2 := 62) rfl dX7_divide_61 hS.a4 (by omega) (by omega) ?_
    rw [xw_s]
    refine x_iast (p2 := 63) rfl dX7_divide_62 hS.a4 (by omega) (by omega) ?_
    rw [xu_xw]
    refine x_iinc (p2 := 66) (L2 := [(0, _), (1, _), (2, _), (3, _), (4, _), (5, _)]) rfl dX7_divide_63 rfl ⟨by omega, by omega⟩ ⟨rfl, Nat.le_of_ble_eq_true rfl⟩ rfl ?_
    refine x_goto (t := 41) (by decide) dX7_divide_66 ?_
    refine x_pick (L2 := [(0, _), (1, _), (2, _), (3, _), (4, _), (5, _)]) [0, 1, 2, 3, 4, 5] rfl ?_
    rw [show j + -1 = j - 1 by omega]
    exact ih _ _ (by omega) (by omega) hq
set_option maxHeartbeats 4000000 in
theorem t_div_l2 {S F : Nat} {t : Int} (hS : isSt σ ρ S F) (hG : wfG (M F 0) (M (S + 1)) (M (S + 2)) (M (S + 3))) (he : 0 ≤ M F 1 ∧ M F 1 ≤ 99) : ∀ (n : Nat) (i h : Int) (r : Int → Int), 0 ≤ i → i + n = M F 0 → 0 ≤ h → h ≤ i → Q none (σ, ρ, xu (xw M (S + 4) (dvf (hotp (M F 0) (M F 1) (M (S + 1)) (M (S + 2)) (M (S + 3)) t) n i r h).1) S 5 (dvf (hotp (M F 0) (M F 1) (M (S + 1)) (M (S + 2)) (M (S + 3)) t) n i r h).2) → xX G mX7_divide 0 0 4 [(0, xP S), (1, xI t), (2, xI h), (3, xI i)] [] (σ, ρ, xw M (S + 4) r) Q := by
  have hn1 := hG.1
  have hn8 := hG.2.1
  intro n
  induction n with
  | zero =>
    intro i h r h0 hk h2 h3 hq
    have e0 : xw M (S + 4) r F 0 = M F 0 := by rw [xw_n (by have := hS.lt; omega)]
    have eF : xw M (S + 4) r F = M F := xw_n (by have := hS.lt; omega)
    have e1 : xw M (S + 4) r (S + 1) = M (S + 1) := xw_n (by omega)
    have e2 : xw M (S + 4) r (S + 2) = M (S + 2) := xw_n (by omega)
    have e3 : xw M (S + 4) r (S + 3) = M (S + 3) := xw_n (by omega)
    refine x_iload_n (p2 := 5) rfl dX7_divide_4 rfl ?_
    refine x_aload_n (p2 := 6) rfl dX7_divide_5 rfl ?_
    refine x_getr (p2 := 9) (kz := 0) rfl dX7_divide_6 f_7_31 rfl rfl hS.sh hS.r0 ?_
    refine x_geti (p2 := 12) (kz := 0) rfl dX7_divide_9 f_7_41 rfl rfl hS.fr.sh ?_
    refine x_ic_ge (p2 := 15) (t := 86) (by decide) rfl dX7_divide_12 (fun hc12 => ?_) (fun hc12 => absurd hc12 (by omega))
    refine x_aload_n (p2 := 87) rfl dX7_divide_86 rfl ?_
    refine x_iload_n (p2 := 88) rfl dX7_divide_87 rfl ?_
    refine x_puti (p2 := 91) (kz := 5) rfl dX7_divide_88 f_7_24 rfl rfl rfl hS.sh ?_
    refine x_vret dX7_divide_91 rfl ?_
    exact hq
  | succ n ih =>
    intro i h r h0 hk h2 h3 hq
    have e0 : xw M (S + 4) r F 0 = M F 0 := by rw [xw_n (by have := hS.lt; omega)]
    have eF : xw M (S + 4) r F = M F := xw_n (by have := hS.lt; omega)
    have e1 : xw M (S + 4) r (S + 1) = M (S + 1) := xw_n (by omega)
    have e2 : xw M (S + 4) r (S + 2) = M (S + 2) := xw_n (by omega)
    have e3 : xw M (S + 4) r (S + 3) = M (S + 3) := xw_n (by omega)
    refine x_iload_n (p2 := 5) rfl dX7_divide_4 rfl ?_
    refine x_aload_n (p2 := 6) rfl dX7_divide_5 rfl ?_
    refine x_getr (p2 := 9) (kz := 0) rfl dX7_divide_6 f_7_31 rfl rfl hS.sh hS.r0 ?_
    refine x_geti (p2 := 12) (kz := 0) rfl dX7_divide_9 f_7_41 rfl rfl hS.fr.sh ?_
    refine x_ic_ge (p2 := 15) (t := 86) (by decide) rfl dX7_divide_12 (fun hc12 => ?_) (fun hc12 => ?_)
    · exact absurd hc12 (by omega)
    refine x_aload_n (p2 := 16) rfl dX7_divide_15 rfl ?_
    refine x_getr (p2 := 19) (kz := 4) rfl dX7_divide_16 f_7_21 rfl rfl hS.sh hS.r4 ?_
    refine x_iload_n (p2 := 20) rfl dX7_divide_19 rfl ?_
    refine x_iald (p2 := 21) rfl dX7_divide_20 hS.a4 (by omega) (by omega) ?_
    rw [xw_s]
    refine x_istore (p2 := 23) (i := 4) (L2 := [(0, _), (1, _), (2, _), (3, _), (4, _)]) rfl dX7_divide_21 ⟨rfl, Nat.le_of_ble_eq_true rfl⟩ rfl ?_
    refine x_iload (p2 := 25) rfl dX7_divide_23 rfl ?_
    refine x_if_eq (p2 := 28) (t := 38) (by decide) rfl dX7_divide_25 (fun hc25 => ?_) (fun hc25 => ?_)
    · skip
      refine x_iload_n (p2 := 39) rfl dX7_divide_38 rfl ?_
      refine x_istore (p2 := 41) (i := 5) (L2 := [(0, _), (1, _), (2, _), (3, _), (4, _), (5, _)]) rfl dX7_divide_39 ⟨rfl, Nat.le_of_ble_eq_true rfl⟩ rfl ?_
      refine x_pick (L2 := [(0, _), (1, _), (2, _), (3, _), (4, _), (5, _)]) [0, 1, 2, 3, 4, 5] rfl ?_
      have hp : (hotp (M F 0) (M F 1) (M (S + 1)) (M (S + 2)) (M (S + 3)) t) (r i) = true := decide_eq_true (by first | exact Or.inl hc25 | exact Or.inr hc35)
      refine t_div_l1 hS h2 (i - h).toNat i r (by omega) (by omega) ?_
      refine x_aload_n (p2 := 70) rfl dX7_divide_69 rfl ?_
      refine x_getr (p2 := 73) (kz := 4) rfl dX7_divide_70 f_7_21 rfl rfl hS.sh hS.r4 ?_
      refine x_iload_n (p2 := 74) rfl dX7_divide_73 rfl ?_
      refine x_iload (p2 := 76) rfl dX7_divide_74 rfl ?_
      refine x_iast (p2 := 77) rfl dX7_divide_76 hS.a4 (by omega) (by omega) ?_
      rw [xu_xw]
      refine x_iinc (p2 := 80) (L2 := [(0, _), (1, _), (2, _), (3, _), (4, _)]) rfl dX7_divide_77 rfl ⟨by omega, by omega⟩ ⟨rfl, Nat.le_of_ble_eq_true rfl⟩ rfl ?_
      refine x_iinc (p2 := 83) (L2 := [(0, _), (1, _), (2, _), (3, _), (4, _)]) rfl dX7_divide_80 rfl ⟨by omega, by omega⟩ ⟨rfl, Nat.le_of_ble_eq_true rfl⟩ rfl ?_
      refine x_goto (t := 4) (by decide) dX7_divide_83 ?_
      refine x_pick (L2 := [(0, _), (1, _), (2, _), (3, _)]) [0, 1, 2, 3] rfl ?_
      unfold dvf at hq
      rw [if_pos hp] at hq
      exact ih _ _ _ (by omega) (by omega) (by omega) (by omega) hq
    · skip
      refine x_aload_n (p2 := 29) rfl dX7_divide_28 rfl ?_
      refine x_iload (p2 := 31) rfl dX7_divide_29 rfl ?_
      refine x_v1 (p2 := 34) rfl dX7_divide_31 l_7_74 ok_X7_runsOf rfl hS.sh rfl ?_
      refine t_X7_runsOf hS (by rw [eF, e1, e2, e3]; exact hG) (by rw [eF]; exact he) ?_
      rw [eF, e1, e2, e3]
      refine x_iload_n (p2 := 35) rfl dX7_divide_34 rfl ?_
      refine x_ic_lt (p2 := 38) (t := 80) (by decide) rfl dX7_divide_35 (fun hc35 => ?_) (fun hc35 => ?_)
      · skip
        refine x_iinc (p2 := 83) (L2 := [(0, _), (1, _), (2, _), (3, _), (4, _)]) rfl dX7_divide_80 rfl ⟨by omega, by omega⟩ ⟨rfl, Nat.le_of_ble_eq_true rfl⟩ rfl ?_
        refine x_goto (t := 4) (by decide) dX7_divide_83 ?_
        refine x_pick (L2 := [(0, _), (1, _), (2, _), (3, _)]) [0, 1, 2, 3] rfl ?_
        have hp : ¬ ((hotp (M F 0) (M F 1) (M (S + 1)) (M (S + 2)) (M (S + 3)) t) (r i) = true) := fun z => by have := of_decide_eq_true z; omega
        unfold dvf at hq
        rw [if_neg hp] at hq
        exact ih _ _ _ (by omega) (by omega) (by omega) (by omega) hq
      · skip
        refine x_iload_n (p2 := 39) rfl dX7_divide_38 rfl ?_
        refine x_istore (p2 := 41) (i := 5) (L2 := [(0, _), (1, _), (2, _), (3, _), (4, _), (5, _)]) rfl dX7_divide_39 ⟨rfl, Nat.le_of_ble_eq_true rfl⟩ rfl ?_
        refine x_pick (L2 := [(0, _), (1, _), (2, _), (3, _), (4, _), (5, _)]) [0, 1, 2, 3, 4, 5] rfl ?_
        have hp : (hotp (M F 0) (M F 1) (M (S + 1)) (M (S + 2)) (M (S + 3)) t) (r i) = true := decide_eq_true (by first | exact Or.inl hc25 | exact Or.inr hc35)
        refine t_div_l1 hS h2 (i - h).toNat i r (by omega) (by omega) ?_
        refine x_aload_n (p2 := 70) rfl dX7_divide_69 rfl ?_
        refine x_getr (p2 := 73) (kz := 4) rfl dX7_divide_70 f_7_21 rfl rfl hS.sh hS.r4 ?_
        refine x_iload_n (p2 := 74) rfl dX7_divide_73 rfl ?_
        refine x_iload (p2 := 76) rfl dX7_divide_74 rfl ?_
        refine x_iast (p2 := 77) rfl dX7_divide_76 hS.a4 (by omega) (by omega) ?_
        rw [xu_xw]
        refine x_iinc (p2 := 80) (L2 := [(0, _), (1, _), (2, _), (3, _), (4, _)]) rfl dX7_divide_77 rfl ⟨by omega, by omega⟩ ⟨rfl, Nat.le_of_ble_eq_true rfl⟩ rfl ?_
        refine x_iinc (p2 := 83) (L2 := [(0, _), (1, _), (2, _), (3, _), (4, _)]) rfl dX7_divide_80 rfl ⟨by omega, by omega⟩ ⟨rfl, Nat.le_of_ble_eq_true rfl⟩ rfl ?_
        refine x_goto (t := 4) (by decide) dX7_divide_83 ?_
        refine x_pick (L2 := [(0, _), (1, _), (2, _), (3, _)]) [0, 1, 2, 3] rfl ?_
        unfold dvf at hq
        rw [if_pos hp] at hq
        exact ih _ _ _ (by omega) (by omega) (by omega) (by omega) hq
set_option maxHeartbeats 4000000 in
theorem t_X7_divide {S F : Nat} {t : Int} (hS : isSt σ ρ S F) (hG : wfG (M F 0) (M (S + 1)) (M (S + 2)) (M (S + 3))) (he : 0 ≤ M F 1 ∧ M F 1 ≤ 99) (hq : Q none (σ, ρ, xu (xw M (S + 4) (dvf (hotp (M F 0) (M F 1) (M (S + 1)) (M (S + 2)) (M (S + 3)) t) (M F 0).toNat 0 (M (S + 4)) 0).1) S 5 (dvf (hotp (M F 0) (M F 1) (M (S + 1)) (M (S + 2)) (M (S + 3)) t) (M F 0).toNat 0 (M (S + 4)) 0).2)) : xX G mX7_divide 0 0 0 [(0, xP S), (1, xI t)] [] (σ, ρ, M) Q := by
  have hn1 := hG.1
  refine x_iconst (p2 := 1) rfl dX7_divide_0 ⟨by decide, by decide⟩ ?_
  refine x_istore_n (p2 := 2) (i := 2) (L2 := [(0, _), (1, _), (2, _)]) rfl dX7_divide_1 rfl ⟨rfl, Nat.le_of_ble_eq_true rfl⟩ rfl ?_
  refine x_iconst (p2 := 3) rfl dX7_divide_2 ⟨by decide, by decide⟩ ?_
  refine x_istore_n (p2 := 4) (i := 3) (L2 := [(0, _), (1, _), (2, _), (3, _)]) rfl dX7_divide_3 rfl ⟨rfl, Nat.le_of_ble_eq_true rfl⟩ rfl ?_
  refine x_pick (L2 := [(0, _), (1, _), (2, _), (3, _)]) [0, 1, 2, 3] rfl ?_
  rw [show (σ, ρ, M) = (σ, ρ, xw M (S + 4) (M (S + 4))) by rw [xw_id]]
  exact t_div_l2 hS hG he _ _ _ _ (by omega) (by omega) (by omega) (by omega) hq
set_option maxHeartbeats 4000000 in
theorem t_X7_joinEqualEdges {S F : Nat} {b : Int} {ex tg ct : Int → Int} (hS : isSt σ ρ S F) (hb : 0 ≤ b ∧ b < 8) (hc : ex b = 2 → 0 ≤ ct (2 * b + 0) ∧ ct (2 * b + 0) ≤ 99 ∧ 0 ≤ ct (2 * b + 1) ∧ ct (2 * b + 1) ≤ 99) (k1 : ex b = 2 ∧ tg (2 * b + 0) = tg (2 * b + 1) → Q none (σ, ρ, st3 M S (upf ex b 1) tg (upf ct (2 * b + 0) (if ct (2 * b + 0) + ct (2 * b + 1) < 99 then ct (2 * b + 0) + ct (2 * b + 1) else 99)))) (k0 : ¬ (ex b = 2 ∧ tg (2 * b + 0) = tg (2 * b + 1)) → Q none (σ, ρ, st3 M S ex tg ct)) : xX G mX7_joinEqualEdges 0 0 0 [(0, xP S), (1, xI b)] [] (σ, ρ, st3 M S ex tg ct) Q := by
  refine x_aload_n (p2 := 1) rfl dX7_joinEqualEdges_0 rfl ?_
  refine x_getr (p2 := 4) (kz := 1) rfl dX7_joinEqualEdges_1 f_7_9 rfl rfl hS.sh hS.r1 ?_
  refine x_iload_n (p2 := 5) rfl dX7_joinEqualEdges_4 rfl ?_
  refine x_iald (p2 := 6) rfl dX7_joinEqualEdges_5 hS.a1 (by omega) (by omega) ?_
  rw [st3_1]
  refine x_iconst (p2 := 7) rfl dX7_joinEqualEdges_6 ⟨by decide, by decide⟩ ?_
  refine x_ic_ne (p2 := 10) (t := 56) (by decide) rfl dX7_joinEqualEdges_7 (fun hc7 => ?_) (fun hc7 => ?_)
  · skip
    refine x_vret dX7_joinEqualEdges_56 rfl ?_
    first
      | exact k0 (fun z => hc7 z.1)
      | exact k0 (fun z => hc22 z.2)
      | exact k1 ⟨hc7, hc22⟩
  · skip
    refine x_aload_n (p2 := 11) rfl dX7_joinEqualEdges_10 rfl ?_
    refine x_iload_n (p2 := 12) rfl dX7_joinEqualEdges_11 rfl ?_
    refine x_iconst (p2 := 13) rfl dX7_joinEqualEdges_12 ⟨by decide, by decide⟩ ?_
    refine x_v2 (p2 := 16) rfl dX7_joinEqualEdges_13 l_7_53 ok_X7_target rfl hS.sh rfl ?_
    refine t_X7_target hS (by omega) (by omega) (by omega) (by omega) ?_
    rw [st3_2]
    refine x_aload_n (p2 := 17) rfl dX7_joinEqualEdges_16 rfl ?_
    refine x_iload_n (p2 := 18) rfl dX7_joinEqualEdges_17 rfl ?_
    refine x_iconst (p2 := 19) rfl dX7_joinEqualEdges_18 ⟨by decide, by decide⟩ ?_
    refine x_v2 (p2 := 22) rfl dX7_joinEqualEdges_19 l_7_53 ok_X7_target rfl hS.sh rfl ?_
    refine t_X7_target hS (by omega) (by omega) (by omega) (by omega) ?_
    rw [st3_2]
    refine x_ic_ne (p2 := 25) (t := 56) (by decide) rfl dX7_joinEqualEdges_22 (fun hc22 => ?_) (fun hc22 => ?_)
    · skip
      refine x_vret dX7_joinEqualEdges_56 rfl ?_
      first
        | exact k0 (fun z => hc7 z.1)
        | exact k0 (fun z => hc22 z.2)
        | exact k1 ⟨hc7, hc22⟩
    · skip
      have hc9 := hc hc7
      refine x_aload_n (p2 := 26) rfl dX7_joinEqualEdges_25 rfl ?_
      refine x_iload_n (p2 := 27) rfl dX7_joinEqualEdges_26 rfl ?_
      refine x_iconst (p2 := 28) rfl dX7_joinEqualEdges_27 ⟨by decide, by decide⟩ ?_
      refine x_bipush (p2 := 30) rfl dX7_joinEqualEdges_28 ⟨by decide, ⟨by decide, by decide⟩⟩ ?_
      refine x_aload_n (p2 := 31) rfl dX7_joinEqualEdges_30 rfl ?_
      refine x_iload_n (p2 := 32) rfl dX7_joinEqualEdges_31 rfl ?_
      refine x_iconst (p2 := 33) rfl dX7_joinEqualEdges_32 ⟨by decide, by decide⟩ ?_
      refine x_v2 (p2 := 36) rfl dX7_joinEqualEdges_33 l_7_57 ok_X7_count rfl hS.sh rfl ?_
      refine t_X7_count hS (by omega) (by omega) (by omega) (by omega) ?_
      rw [st3_3]
      refine x_aload_n (p2 := 37) rfl dX7_joinEqualEdges_36 rfl ?_
      refine x_iload_n (p2 := 38) rfl dX7_joinEqualEdges_37 rfl ?_
      refine x_iconst (p2 := 39) rfl dX7_joinEqualEdges_38 ⟨by decide, by decide⟩ ?_
      refine x_v2 (p2 := 42) rfl dX7_joinEqualEdges_39 l_7_57 ok_X7_count rfl hS.sh rfl ?_
      refine t_X7_count hS (by omega) (by omega) (by omega) (by omega) ?_
      rw [st3_3]
      refine x_iadd (p2 := 43) rfl dX7_joinEqualEdges_42 ⟨by omega, by omega⟩ ?_
      refine x_min (p2 := 46) rfl dX7_joinEqualEdges_43 w_7_91 w_mn3 w_mn4 w_mn5 ⟨Nat.le_of_ble_eq_true rfl, Nat.le_of_ble_eq_true rfl⟩ (Nat.le_of_ble_eq_true rfl) ?_
      refine x_v3 (p2 := 49) rfl dX7_joinEqualEdges_46 l_7_88 ok_X7_putCount rfl hS.sh rfl ?_
      refine t_X7_putCount hS (by omega) (by omega) (by omega) (by omega) ?_
      rw [st3_u3]
      refine x_aload_n (p2 := 50) rfl dX7_joinEqualEdges_49 rfl ?_
      refine x_getr (p2 := 53) (kz := 1) rfl dX7_joinEqualEdges_50 f_7_9 rfl rfl hS.sh hS.r1 ?_
      refine x_iload_n (p2 := 54) rfl dX7_joinEqualEdges_53 rfl ?_
      refine x_iconst (p2 := 55) rfl dX7_joinEqualEdges_54 ⟨by decide, by decide⟩ ?_
      refine x_iast (p2 := 56) rfl dX7_joinEqualEdges_55 hS.a1 (by omega) (by omega) ?_
      rw [st3_u1]
      refine x_vret dX7_joinEqualEdges_56 rfl ?_
      first
        | exact k0 (fun z => hc7 z.1)
        | exact k0 (fun z => hc22 z.2)
        | exact k1 ⟨hc7, hc22⟩
def ga1 (b f : Int) : Nat → Int → (Int → Int) → Int → (Int → Int) × Int
  | 0, _, tg, c => (tg, c)
  | m + 1, k, tg, c => if tg (2 * f + k) = b then ga1 b f m (k + 1) (upf tg (2 * f + k) (tg (2 * b + 0))) (c + 1) else ga1 b f m (k + 1) tg c
def jnE (f : Int) (ex tg : Int → Int) : Int → Int := if ex f = 2 ∧ tg (2 * f + 0) = tg (2 * f + 1) then upf ex f 1 else ex
def jnC (f : Int) (ex tg ct : Int → Int) : Int → Int := if ex f = 2 ∧ tg (2 * f + 0) = tg (2 * f + 1) then upf ct (2 * f + 0) (if ct (2 * f + 0) + ct (2 * f + 1) < 99 then ct (2 * f + 0) + ct (2 * f + 1) else 99) else ct
def ga2 (b : Int) : Nat → Int → (Int → Int) → (Int → Int) → (Int → Int) → Int → (Int → Int) × (Int → Int) × (Int → Int) × Int
  | 0, _, ex, tg, ct, c => (ex, tg, ct, c)
  | m + 1, f, ex, tg, ct, c => ga2 b m (f + 1) (jnE f ex (ga1 b f (ex f).toNat 0 tg c).1) (ga1 b f (ex f).toNat 0 tg c).1 (jnC f ex (ga1 b f (ex f).toNat 0 tg c).1 ct) (ga1 b f (ex f).toNat 0 tg c).2
set_option maxHeartbeats 4000000 in
theorem t_ga_l1 {S F : Nat} {b f : Int} {ex ct : Int → Int} (hS : isSt σ ρ S F) (hb : 0 ≤ b ∧ b < 8) (hf : 0 ≤ f ∧ f < 8) (hx : ex f ≤ 2) : ∀ (n : Nat) (k c : Int) (tg : Int → Int), 0 ≤ k → k + n = ex f → 0 ≤ c → c ≤ 2 * f + k → xX G mX7_goAround 0 0 62 [(0, xP S), (1, xI b), (2, xI (ga1 b f n k tg c).2), (3, xI f)] [] (σ, ρ, st3 M S ex (ga1 b f n k tg c).1 ct) Q → xX G mX7_goAround 0 0 18 [(0, xP S), (1, xI b), (2, xI c), (3, xI f), (4, xI k)] [] (σ, ρ, st3 M S ex tg ct) Q := by
  intro n
  induction n with
  | zero =>
    intro k c tg h0 hk hc1 hc2 hq
    refine x_iload (p2 := 20) rfl dX7_goAround_18 rfl ?_
    refine x_aload_n (p2 := 21) rfl dX7_goAround_20 rfl ?_
    refine x_getr (p2 := 24) (kz := 1) rfl dX7_goAround_21 f_7_9 rfl rfl hS.sh hS.r1 ?_
    refine x_iload_n (p2 := 25) rfl dX7_goAround_24 rfl ?_
    refine x_iald (p2 := 26) rfl dX7_goAround_25 hS.a1 (by omega) (by omega) ?_
    rw [st3_1]
    refine x_ic_ge (p2 := 29) (t := 62) (by decide) rfl dX7_goAround_26 (fun hc26 => ?_) (fun hc26 => absurd hc26 (by omega))
    refine x_pick (L2 := [(0, _), (1, _), (2, _), (3, _)]) [0, 1, 2, 3] rfl ?_
    exact hq
  | succ n ih =>
    intro k c tg h0 hk hc1 hc2 hq
    unfold ga1 at hq
    refine x_iload (p2 := 20) rfl dX7_goAround_18 rfl ?_
    refine x_aload_n (p2 := 21) rfl dX7_goAround_20 rfl ?_
    refine x_getr (p2 := 24) (kz := 1) rfl dX7_goAround_21 f_7_9 rfl rfl hS.sh hS.r1 ?_
    refine x_iload_n (p2 := 25) rfl dX7_goAround_24 rfl ?_
    refine x_iald (p2 := 26) rfl dX7_goAround_25 hS.a1 (by omega) (by omega) ?_
    rw [st3_1]
    refine x_ic_ge (p2 := 29) (t := 62) (by decide) rfl dX7_goAround_26 (fun hc26 => ?_) (fun hc26 => ?_)
    · exact absurd hc26 (by omega)
    refine x_aload_n (p2 := 30) rfl dX7_goAround_29 rfl ?_
    refine x_iload_n (p2 := 31) rfl dX7_goAround_30 rfl ?_
    refine x_iload (p2 := 33) rfl dX7_goAround_31 rfl ?_
    refine x_v2 (p2 := 36) rfl dX7_goAround_33 l_7_53 ok_X7_target rfl hS.sh rfl ?_
    refine t_X7_target hS (by omega) (by omega) (by omega) (by omega) ?_
    rw [st3_2]
    refine x_iload_n (p2 := 37) rfl dX7_goAround_36 rfl ?_
    refine x_ic_ne (p2 := 40) (t := 56) (by decide) rfl dX7_goAround_37 (fun hc37 => ?_) (fun hc37 => ?_)
    · skip
      refine x_iinc (p2 := 59) (L2 := [(0, _), (1, _), (2, _), (3, _), (4, _)]) rfl dX7_goAround_56 rfl ⟨by omega, by omega⟩ ⟨rfl, Nat.le_of_ble_eq_true rfl⟩ rfl ?_
      refine x_goto (t := 18) (by decide) dX7_goAround_59 ?_
      refine x_pick (L2 := [(0, _), (1, _), (2, _), (3, _), (4, _)]) [0, 1, 2, 3, 4] rfl ?_
      first
        | (rw [if_pos hc37] at hq; exact ih _ _ _ (by omega) (by omega) (by omega) (by omega) hq)
        | (rw [if_neg hc37] at hq; exact ih _ _ _ (by omega) (by omega) (by omega) (by omega) hq)
    · skip
      refine x_aload_n (p2 := 41) rfl dX7_goAround_40 rfl ?_
      refine x_iload_n (p2 := 42) rfl dX7_goAround_41 rfl ?_
      refine x_iload (p2 := 44) rfl dX7_goAround_42 rfl ?_
      refine x_aload_n (p2 := 45) rfl dX7_goAround_44 rfl ?_
      refine x_iload_n (p2 := 46) rfl dX7_goAround_45 rfl ?_
      refine x_iconst (p2 := 47) rfl dX7_goAround_46 ⟨by decide, by decide⟩ ?_
      refine x_v2 (p2 := 50) rfl dX7_goAround_47 l_7_53 ok_X7_target rfl hS.sh rfl ?_
      refine t_X7_target hS (by omega) (by omega) (by omega) (by omega) ?_
      rw [st3_2]
      refine x_v3 (p2 := 53) rfl dX7_goAround_50 l_7_80 ok_X7_putTarget rfl hS.sh rfl ?_
      refine t_X7_putTarget hS (by omega) (by omega) (by omega) (by omega) ?_
      rw [st3_u2]
      refine x_iinc (p2 := 56) (L2 := [(0, _), (1, _), (2, _), (3, _), (4, _)]) rfl dX7_goAround_53 rfl ⟨by omega, by omega⟩ ⟨rfl, Nat.le_of_ble_eq_true rfl⟩ rfl ?_
      refine x_iinc (p2 := 59) (L2 := [(0, _), (1, _), (2, _), (3, _), (4, _)]) rfl dX7_goAround_56 rfl ⟨by omega, by omega⟩ ⟨rfl, Nat.le_of_ble_eq_true rfl⟩ rfl ?_
      refine x_goto (t := 18) (by decide) dX7_goAround_59 ?_
      refine x_pick (L2 := [(0, _), (1, _), (2, _), (3, _), (4, _)]) [0, 1, 2, 3, 4] rfl ?_
      first
        | (rw [if_pos hc37] at hq; exact ih _ _ _ (by omega) (by omega) (by omega) (by omega) hq)
        | (rw [if_neg hc37] at hq; exact ih _ _ _ (by omega) (by omega) (by omega) (by omega) hq)
/-- the rows at block f on: as they were; below: still rows of a graph -/
def gaI (n : Int) (ex ct : Int → Int) : Prop := (∀ x, 0 ≤ x → x < n → 0 ≤ ex x ∧ ex x ≤ 2 ∧ (ex x = 2 → 0 ≤ ct (2 * x + 0) ∧ ct (2 * x + 0) ≤ 99 ∧ 0 ≤ ct (2 * x + 1) ∧ ct (2 * x + 1) ≤ 99))
theorem ga1_c {b f : Int} : ∀ (m : Nat) (k : Int) (tg : Int → Int) (c : Int), c ≤ (ga1 b f m k tg c).2 ∧ (ga1 b f m k tg c).2 ≤ c + m
  | 0, k, tg, c => by unfold ga1; dsimp only; omega
  | m + 1, k, tg, c => by
    unfold ga1
    split
    · have := ga1_c (b := b) (f := f) m (k + 1) (upf tg (2 * f + k) (tg (2 * b + 0))) (c + 1)
      omega
    · have := ga1_c (b := b) (f := f) m (k + 1) tg c
      omega
theorem gaI_jn {n f : Int} {ex tg ct : Int → Int} (h : gaI n ex ct) (hf : 0 ≤ f ∧ f < n) : gaI n (jnE f ex tg) (jnC f ex tg ct) := by
  intro x h0 h1
  have hx := h x h0 h1
  have hy := h f hf.1 hf.2
  unfold jnE jnC
  split
  · rename_i hc
    have h9 := hy.2.2 hc.1
    by_cases hxf : x = f
    · subst hxf
      rw [upf_s]
      refine ⟨by omega, by omega, fun z => by omega⟩
    · rw [upf_n hxf, upf_n (by omega), upf_n (by omega)]
      exact hx
  · exact hx
set_option maxHeartbeats 4000000 in
theorem t_ga_l2 {S F : Nat} {b : Int} (hS : isSt σ ρ S F) (hn : M F 0 ≤ 8) (hb : 0 ≤ b ∧ b < 8) : ∀ (n : Nat) (f c : Int) (ex tg ct : Int → Int), 0 ≤ f → f + n = M F 0 → 0 ≤ c → c ≤ 2 * f → gaI (M F 0) ex ct → Q (some (xI (ga2 b n f ex tg ct c).2.2.2)) (σ, ρ, xu (st3 M S (ga2 b n f ex tg ct c).1 (ga2 b n f ex tg ct c).2.1 (ga2 b n f ex tg ct c).2.2.1) (S + 3) (2 * b + 0) 0) → xX G mX7_goAround 0 0 4 [(0, xP S), (1, xI b), (2, xI c), (3, xI f)] [] (σ, ρ, st3 M S ex tg ct) Q := by
  intro n
  induction n with
  | zero =>
    intro f c ex tg ct h0 hk hc1 hc2 hI hq
    have e0 : st3 M S ex tg ct F 0 = M F 0 := by rw [st3_n (by have := hS.lt; omega) (by have := hS.lt; omega) (by have := hS.lt; omega)]
    refine x_iload_n (p2 := 5) rfl dX7_goAround_4 rfl ?_
    refine x_aload_n (p2 := 6) rfl dX7_goAround_5 rfl ?_
    refine x_getr (p2 := 9) (kz := 0) rfl dX7_goAround_6 f_7_31 rfl rfl hS.sh hS.r0 ?_
    refine x_geti (p2 := 12) (kz := 0) rfl dX7_goAround_9 f_7_41 rfl rfl hS.fr.sh ?_
    refine x_ic_ge (p2 := 15) (t := 73) (by decide) rfl dX7_goAround_12 (fun hc12 => ?_) (fun hc12 => absurd hc12 (by omega))
    refine x_aload_n (p2 := 74) rfl dX7_goAround_73 rfl ?_
    refine x_iload_n (p2 := 75) rfl dX7_goAround_74 rfl ?_
    refine x_iconst (p2 := 76) rfl dX7_goAround_75 ⟨by decide, by decide⟩ ?_
    refine x_iconst (p2 := 77) rfl dX7_goAround_76 ⟨by decide, by decide⟩ ?_
    refine x_v3 (p2 := 80) rfl dX7_goAround_77 l_7_88 ok_X7_putCount rfl hS.sh rfl ?_
    refine t_X7_putCount hS (by omega) (by omega) (by omega) (by omega) ?_
    rw [st3_u3]
    refine x_iload_n (p2 := 81) rfl dX7_goAround_80 rfl ?_
    refine x_iret dX7_goAround_81 rfl ?_
    rw [← st3_u3]; exact hq
  | succ n ih =>
    intro f c ex tg ct h0 hk hc1 hc2 hI hq
    have e0 : st3 M S ex tg ct F 0 = M F 0 := by rw [st3_n (by have := hS.lt; omega) (by have := hS.lt; omega) (by have := hS.lt; omega)]
    have hx := hI f h0 (by omega)
    unfold ga2 at hq
    refine x_iload_n (p2 := 5) rfl dX7_goAround_4 rfl ?_
    refine x_aload_n (p2 := 6) rfl dX7_goAround_5 rfl ?_
    refine x_getr (p2 := 9) (kz := 0) rfl dX7_goAround_6 f_7_31 rfl rfl hS.sh hS.r0 ?_
    refine x_geti (p2 := 12) (kz := 0) rfl dX7_goAround_9 f_7_41 rfl rfl hS.fr.sh ?_
    refine x_ic_ge (p2 := 15) (t := 73) (by decide) rfl dX7_goAround_12 (fun hc12 => ?_) (fun hc12 => ?_)
    · exact absurd hc12 (by omega)
    refine x_iconst (p2 := 16) rfl dX7_goAround_15 ⟨by decide, by decide⟩ ?_
    refine x_istore (p2 := 18) (i := 4) (L2 := [(0, _), (1, _), (2, _), (3, _), (4, _)]) rfl dX7_goAround_16 ⟨rfl, Nat.le_of_ble_eq_true rfl⟩ rfl ?_
    refine x_pick (L2 := [(0, _), (1, _), (2, _), (3, _), (4, _)]) [0, 1, 2, 3, 4] rfl ?_
    refine t_ga_l1 hS hb (by omega) hx.2.1 (ex f).toNat 0 c tg (by omega) (by omega) (by omega) (by omega) ?_
    have hz := ga1_c (b := b) (f := f) (ex f).toNat 0 tg c
    generalize ga1 b f (ex f).toNat 0 tg c = z at hq hz ⊢
    refine x_aload_n rfl dX7_goAround_62 rfl ?_
    refine x_iload_n rfl dX7_goAround_63 rfl ?_
    refine x_v1 rfl dX7_goAround_64 l_7_84 ok_X7_joinEqualEdges rfl hS.sh rfl ?_
    refine t_X7_joinEqualEdges hS (by omega) hx.2.2 (fun hj => ?_) (fun hj => ?_)
    · have e7 : jnE f ex z.1 = _ := if_pos hj
      have e8 : jnC f ex z.1 ct = _ := if_pos hj
      rw [e7, e8] at hq
      have hI2 := gaI_jn (tg := z.1) hI (by omega : 0 ≤ f ∧ f < M F 0)
      rw [e7, e8] at hI2
      refine x_iinc (p2 := 70) (L2 := [(0, _), (1, _), (2, _), (3, _)]) rfl dX7_goAround_67 rfl ⟨by omega, by omega⟩ ⟨rfl, Nat.le_of_ble_eq_true rfl⟩ rfl ?_
      refine x_goto (t := 4) (by decide) dX7_goAround_70 ?_
      refine x_pick (L2 := [(0, _), (1, _), (2, _), (3, _)]) [0, 1, 2, 3] rfl ?_
      exact ih _ _ _ _ _ (by omega) (by omega) (by omega) (by omega) hI2 hq
    · have e7 : jnE f ex z.1 = _ := if_neg hj
      have e8 : jnC f ex z.1 ct = _ := if_neg hj
      rw [e7, e8] at hq
      have hI2 := gaI_jn (tg := z.1) hI (by omega : 0 ≤ f ∧ f < M F 0)
      rw [e7, e8] at hI2
      refine x_iinc (p2 := 70) (L2 := [(0, _), (1, _), (2, _), (3, _)]) rfl dX7_goAround_67 rfl ⟨by omega, by omega⟩ ⟨rfl, Nat.le_of_ble_eq_true rfl⟩ rfl ?_
      refine x_goto (t := 4) (by decide) dX7_goAround_70 ?_
      refine x_pick (L2 := [(0, _), (1, _), (2, _), (3, _)]) [0, 1, 2, 3] rfl ?_
      exact ih _ _ _ _ _ (by omega) (by omega) (by omega) (by omega) hI2 hq
set_option maxHeartbeats 4000000 in
theorem t_X7_goAround {S F : Nat} {b : Int} (hS : isSt σ ρ S F) (hG : wfG (M F 0) (M (S + 1)) (M (S + 2)) (M (S + 3))) (hb : 0 ≤ b ∧ b < M F 0) (hq : Q (some (xI (ga2 b (M F 0).toNat 0 (M (S + 1)) (M (S + 2)) (M (S + 3)) 0).2.2.2)) (σ, ρ, xu (st3 M S (ga2 b (M F 0).toNat 0 (M (S + 1)) (M (S + 2)) (M (S + 3)) 0).1 (ga2 b (M F 0).toNat 0 (M (S + 1)) (M (S + 2)) (M (S + 3)) 0).2.1 (ga2 b (M F 0).toNat 0 (M (S + 1)) (M (S + 2)) (M (S + 3)) 0).2.2.1) (S + 3) (2 * b + 0) 0)) : xX G mX7_goAround 0 0 0 [(0, xP S), (1, xI b)] [] (σ, ρ, M) Q := by
  have hn1 := hG.1
  have hn8 := hG.2.1
  refine x_iconst (p2 := 1) rfl dX7_goAround_0 ⟨by decide, by decide⟩ ?_
  refine x_istore_n (p2 := 2) (i := 2) (L2 := [(0, _), (1, _), (2, _)]) rfl dX7_goAround_1 rfl ⟨rfl, Nat.le_of_ble_eq_true rfl⟩ rfl ?_
  refine x_iconst (p2 := 3) rfl dX7_goAround_2 ⟨by decide, by decide⟩ ?_
  refine x_istore_n (p2 := 4) (i := 3) (L2 := [(0, _), (1, _), (2, _), (3, _)]) rfl dX7_goAround_3 rfl ⟨rfl, Nat.le_of_ble_eq_true rfl⟩ rfl ?_
  refine x_pick (L2 := [(0, _), (1, _), (2, _), (3, _)]) [0, 1, 2, 3] rfl ?_
  rw [show (σ, ρ, M) = (σ, ρ, st3 M S (M (S + 1)) (M (S + 2)) (M (S + 3))) by rw [st3_id]]
  refine t_ga_l2 hS hn8 (by omega) _ _ _ _ _ _ (by omega) (by omega) (by omega) (by omega) (fun x a1 a2 => ?_) hq
  have hw := hG.2.2 x a1 a2
  refine ⟨hw.1, hw.2.1, fun z => ?_⟩
  have h1 := hw.2.2.1 0 (by omega) (by omega)
  have h2 := hw.2.2.1 1 (by omega) (by omega)
  omega
end XU
