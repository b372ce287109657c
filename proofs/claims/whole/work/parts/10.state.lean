section XS
variable {G : xG} {σ : List (Nat × Nat)} {ρ : Nat → Int → Option Nat} {M : Nat → Int → Int} {Q : Option xV → xH → Prop}
/-- a Frame at F: its row of bytes lies behind it -/
def isFr (σ : List (Nat × Nat)) (ρ : Nat → Int → Option Nat) (F : Nat) : Prop := σ[F]? = some (1, xN 1) ∧ ρ F 2 = some (F + 1) ∧ σ[F + 1]? = some (100, 8)
/-- a State at S: its rows lie behind it -/
def isSt (σ : List (Nat × Nat)) (ρ : Nat → Int → Option Nat) (S F : Nat) : Prop := σ[S]? = some (5, xN 5) ∧ ρ S 0 = some F ∧ ρ S 1 = some (S + 1) ∧ ρ S 2 = some (S + 2) ∧ ρ S 3 = some (S + 3) ∧ ρ S 4 = some (S + 4) ∧ σ[S + 1]? = some (100, 8) ∧ σ[S + 2]? = some (100, 16) ∧ σ[S + 3]? = some (100, 16) ∧ σ[S + 4]? = some (100, 8) ∧ isFr σ ρ F ∧ F + 1 < S
theorem isFr.sh {F : Nat} (h : isFr σ ρ F) : σ[F]? = some (1, xN 1) := h.1
theorem isFr.r2 {F : Nat} (h : isFr σ ρ F) : ρ F 2 = some (F + 1) := h.2.1
theorem isFr.a2 {F : Nat} (h : isFr σ ρ F) : σ[F + 1]? = some (100, 8) := h.2.2
theorem isSt.sh {S F : Nat} (h : isSt σ ρ S F) : σ[S]? = some (5, xN 5) := h.1
theorem isSt.r0 {S F : Nat} (h : isSt σ ρ S F) : ρ S 0 = some F := h.2.1
theorem isSt.r1 {S F : Nat} (h : isSt σ ρ S F) : ρ S 1 = some (S + 1) := h.2.2.1
theorem isSt.r2 {S F : Nat} (h : isSt σ ρ S F) : ρ S 2 = some (S + 2) := h.2.2.2.1
theorem isSt.r3 {S F : Nat} (h : isSt σ ρ S F) : ρ S 3 = some (S + 3) := h.2.2.2.2.1
theorem isSt.r4 {S F : Nat} (h : isSt σ ρ S F) : ρ S 4 = some (S + 4) := h.2.2.2.2.2.1
theorem isSt.a1 {S F : Nat} (h : isSt σ ρ S F) : σ[S + 1]? = some (100, 8) := h.2.2.2.2.2.2.1
theorem isSt.a2 {S F : Nat} (h : isSt σ ρ S F) : σ[S + 2]? = some (100, 16) := h.2.2.2.2.2.2.2.1
theorem isSt.a3 {S F : Nat} (h : isSt σ ρ S F) : σ[S + 3]? = some (100, 16) := h.2.2.2.2.2.2.2.2.1
theorem isSt.a4 {S F : Nat} (h : isSt σ ρ S F) : σ[S + 4]? = some (100, 8) := h.2.2.2.2.2.2.2.2.2.1
theorem isSt.fr {S F : Nat} (h : isSt σ ρ S F) : isFr σ ρ F := h.2.2.2.2.2.2.2.2.2.2.1
theorem isSt.lt {S F : Nat} (h : isSt σ ρ S F) : F + 1 < S := h.2.2.2.2.2.2.2.2.2.2.2
set_option maxHeartbeats 4000000 in
theorem t_X1_hasBlock {F : Nat} {b : Int} (hF : isFr σ ρ F) (k1 : 0 ≤ b ∧ b < M F 0 → Q (some (xI 1)) (σ, ρ, M)) (k0 : ¬ (0 ≤ b ∧ b < M F 0) → Q (some (xI 0)) (σ, ρ, M)) : xX G mX1_hasBlock 0 0 0 [(0, xP F), (1, xI b)] [] (σ, ρ, M) Q := by
  refine x_iload_n (p2 := 1) rfl dX1_hasBlock_0 rfl ?_
  refine x_if_lt (p2 := 4) (t := 16) (by decide) rfl dX1_hasBlock_1 (fun hc1 => ?_) (fun hc1 => ?_)
  · skip
    refine x_iconst (p2 := 17) rfl dX1_hasBlock_16 ⟨by decide, by decide⟩ ?_
    refine x_zret dX1_hasBlock_17 rfl (by omega) ?_
    exact k0 (by omega)
  · skip
    refine x_iload_n (p2 := 5) rfl dX1_hasBlock_4 rfl ?_
    refine x_aload_n (p2 := 6) rfl dX1_hasBlock_5 rfl ?_
    refine x_geti (p2 := 9) (kz := 0) rfl dX1_hasBlock_6 f_1_9 rfl rfl hF.sh ?_
    refine x_ic_ge (p2 := 12) (t := 16) (by decide) rfl dX1_hasBlock_9 (fun hc9 => ?_) (fun hc9 => ?_)
    · skip
      refine x_iconst (p2 := 17) rfl dX1_hasBlock_16 ⟨by decide, by decide⟩ ?_
      refine x_zret dX1_hasBlock_17 rfl (by omega) ?_
      exact k0 (by omega)
    · skip
      refine x_iconst (p2 := 13) rfl dX1_hasBlock_12 ⟨by decide, by decide⟩ ?_
      refine x_goto (t := 17) (by decide) dX1_hasBlock_13 ?_
      refine x_zret dX1_hasBlock_17 rfl (by omega) ?_
      exact k1 (by omega)
set_option maxHeartbeats 4000000 in
theorem t_X1_hasPosition {F : Nat} {b : Int} (hF : isFr σ ρ F) (k1 : 0 ≤ b ∧ b < M F 0 → Q (some (xI 1)) (σ, ρ, M)) (k0 : ¬ (0 ≤ b ∧ b < M F 0) → Q (some (xI 0)) (σ, ρ, M)) : xX G mX1_hasPosition 0 0 0 [(0, xP F), (1, xI b)] [] (σ, ρ, M) Q := by
  refine x_iload_n (p2 := 1) rfl dX1_hasPosition_0 rfl ?_
  refine x_if_lt (p2 := 4) (t := 16) (by decide) rfl dX1_hasPosition_1 (fun hc1 => ?_) (fun hc1 => ?_)
  · skip
    refine x_iconst (p2 := 17) rfl dX1_hasPosition_16 ⟨by decide, by decide⟩ ?_
    refine x_zret dX1_hasPosition_17 rfl (by omega) ?_
    exact k0 (by omega)
  · skip
    refine x_iload_n (p2 := 5) rfl dX1_hasPosition_4 rfl ?_
    refine x_aload_n (p2 := 6) rfl dX1_hasPosition_5 rfl ?_
    refine x_geti (p2 := 9) (kz := 0) rfl dX1_hasPosition_6 f_1_9 rfl rfl hF.sh ?_
    refine x_ic_ge (p2 := 12) (t := 16) (by decide) rfl dX1_hasPosition_9 (fun hc9 => ?_) (fun hc9 => ?_)
    · skip
      refine x_iconst (p2 := 17) rfl dX1_hasPosition_16 ⟨by decide, by decide⟩ ?_
      refine x_zret dX1_hasPosition_17 rfl (by omega) ?_
      exact k0 (by omega)
    · skip
      refine x_iconst (p2 := 13) rfl dX1_hasPosition_12 ⟨by decide, by decide⟩ ?_
      refine x_goto (t := 17) (by decide) dX1_hasPosition_13 ?_
      refine x_zret dX1_hasPosition_17 rfl (by omega) ?_
      exact k1 (by omega)
set_option maxHeartbeats 4000000 in
theorem t_X7_target {S F : Nat} {b k : Int} (hS : isSt σ ρ S F) (h1 : 0 ≤ b) (h2 : b < 8) (h3 : 0 ≤ k) (h4 : k < 2) (hq : Q (some (xI (M (S + 2) (2 * b + k)))) (σ, ρ, M)) : xX G mX7_target 0 0 0 [(0, xP S), (1, xI b), (2, xI k)] [] (σ, ρ, M) Q := by
  refine x_aload_n (p2 := 1) rfl dX7_target_0 rfl ?_
  refine x_getr (p2 := 4) (kz := 2) rfl dX7_target_1 f_7_15 rfl rfl hS.sh hS.r2 ?_
  refine x_iconst (p2 := 5) rfl dX7_target_4 ⟨by decide, by decide⟩ ?_
  refine x_iload_n (p2 := 6) rfl dX7_target_5 rfl ?_
  refine x_imul (p2 := 7) rfl dX7_target_6 ⟨by omega, by omega⟩ ?_
  refine x_iload_n (p2 := 8) rfl dX7_target_7 rfl ?_
  refine x_iadd (p2 := 9) rfl dX7_target_8 ⟨by omega, by omega⟩ ?_
  refine x_iald (p2 := 10) rfl dX7_target_9 hS.a2 (by omega) (by omega) ?_
  refine x_iret dX7_target_10 rfl ?_
  exact hq
set_option maxHeartbeats 4000000 in
theorem t_X7_count {S F : Nat} {b k : Int} (hS : isSt σ ρ S F) (h1 : 0 ≤ b) (h2 : b < 8) (h3 : 0 ≤ k) (h4 : k < 2) (hq : Q (some (xI (M (S + 3) (2 * b + k)))) (σ, ρ, M)) : xX G mX7_count 0 0 0 [(0, xP S), (1, xI b), (2, xI k)] [] (σ, ρ, M) Q := by
  refine x_aload_n (p2 := 1) rfl dX7_count_0 rfl ?_
  refine x_getr (p2 := 4) (kz := 3) rfl dX7_count_1 f_7_18 rfl rfl hS.sh hS.r3 ?_
  refine x_iconst (p2 := 5) rfl dX7_count_4 ⟨by decide, by decide⟩ ?_
  refine x_iload_n (p2 := 6) rfl dX7_count_5 rfl ?_
  refine x_imul (p2 := 7) rfl dX7_count_6 ⟨by omega, by omega⟩ ?_
  refine x_iload_n (p2 := 8) rfl dX7_count_7 rfl ?_
  refine x_iadd (p2 := 9) rfl dX7_count_8 ⟨by omega, by omega⟩ ?_
  refine x_iald (p2 := 10) rfl dX7_count_9 hS.a3 (by omega) (by omega) ?_
  refine x_iret dX7_count_10 rfl ?_
  exact hq
set_option maxHeartbeats 4000000 in
theorem t_X7_putTarget {S F : Nat} {b k v : Int} (hS : isSt σ ρ S F) (h1 : 0 ≤ b) (h2 : b < 8) (h3 : 0 ≤ k) (h4 : k < 2) (hq : Q none (σ, ρ, xu M (S + 2) (2 * b + k) v)) : xX G mX7_putTarget 0 0 0 [(0, xP S), (1, xI b), (2, xI k), (3, xI v)] [] (σ, ρ, M) Q := by
  refine x_aload_n (p2 := 1) rfl dX7_putTarget_0 rfl ?_
  refine x_getr (p2 := 4) (kz := 2) rfl dX7_putTarget_1 f_7_15 rfl rfl hS.sh hS.r2 ?_
  refine x_iconst (p2 := 5) rfl dX7_putTarget_4 ⟨by decide, by decide⟩ ?_
  refine x_iload_n (p2 := 6) rfl dX7_putTarget_5 rfl ?_
  refine x_imul (p2 := 7) rfl dX7_putTarget_6 ⟨by omega, by omega⟩ ?_
  refine x_iload_n (p2 := 8) rfl dX7_putTarget_7 rfl ?_
  refine x_iadd (p2 := 9) rfl dX7_putTarget_8 ⟨by omega, by omega⟩ ?_
  refine x_iload_n (p2 := 10) rfl dX7_putTarget_9 rfl ?_
  refine x_iast (p2 := 11) rfl dX7_putTarget_10 hS.a2 (by omega) (by omega) ?_
  refine x_vret dX7_putTarget_11 rfl ?_
  exact hq
set_option maxHeartbeats 4000000 in
theorem t_X7_putCount {S F : Nat} {b k v : Int} (hS : isSt σ ρ S F) (h1 : 0 ≤ b) (h2 : b < 8) (h3 : 0 ≤ k) (h4 : k < 2) (hq : Q none (σ, ρ, xu M (S + 3) (2 * b + k) v)) : xX G mX7_putCount 0 0 0 [(0, xP S), (1, xI b), (2, xI k), (3, xI v)] [] (σ, ρ, M) Q := by
  refine x_aload_n (p2 := 1) rfl dX7_putCount_0 rfl ?_
  refine x_getr (p2 := 4) (kz := 3) rfl dX7_putCount_1 f_7_18 rfl rfl hS.sh hS.r3 ?_
  refine x_iconst (p2 := 5) rfl dX7_putCount_4 ⟨by decide, by decide⟩ ?_
  refine x_iload_n (p2 := 6) rfl dX7_putCount_5 rfl ?_
  refine x_imul (p2 := 7) rfl dX7_putCount_6 ⟨by omega, by omega⟩ ?_
  refine x_iload_n (p2 := 8) rfl dX7_putCount_7 rfl ?_
  refine x_iadd (p2 := 9) rfl dX7_putCount_8 ⟨by omega, by omega⟩ ?_
  refine x_iload_n (p2 := 10) rfl dX7_putCount_9 rfl ?_
  refine x_iast (p2 := 11) rfl dX7_putCount_10 hS.a3 (by omega) (by omega) ?_
  refine x_vret dX7_putCount_11 rfl ?_
  exact hq
end XS
