section XMG
variable {G : xG} {σ : List (Nat × Nat)} {ρ : Nat → Int → Option Nat} {M : Nat → Int → Int} {Q : Option xV → xH → Prop}
/-- the reference at D holds the function (n, en, byt) and the layout v -/
def mdI (M : Nat → Int → Int) (D : Nat) (n en : Int) (byt : Int → Int) (v : vV) : Prop := M D 2 = n ∧ M D 4 = en ∧ (∀ b, 0 ≤ b → b < n → M (D + 2) b = byt b) ∧ smr n v (M (D + 3))
theorem smr_o {n : Int} {v : vV} {r r2 od2 : Int → Int} (h : smr n v r) (h8 : n ≤ 8) (h1 : ∀ x, x < 2 ∨ 10 ≤ x → r2 x = r x) (h2 : ∀ i, 0 ≤ i → i < n → r2 (2 + i) = od2 i) (hx : ∀ b, 0 ≤ b → b < n → v.1 b ≤ 2) : smr n (v.1, v.2.1, v.2.2.1, od2, v.2.2.2.2.1, v.2.2.2.2.2) r2 := by
  refine ⟨fun b a c => ?_, fun b k a c d e => ?_, h2, ?_, ?_⟩
  · rw [h1 _ (by omega)]; exact h.x a c
  · rw [h1 _ (by omega), h1 _ (by omega)]; exact ⟨h.t a c d e, h.c a c d e⟩
  · rw [h1 _ (by omega)]; exact h.h
  · rw [h1 _ (by omega)]; exact h.a
set_option maxHeartbeats 4000000 in
theorem t_X10_isEdge {D : Nat} (hD : isMd σ ρ D) {n en : Int} {byt : Int → Int} {v : vV} (hM : mdI M D n en byt v) (hW : wfV n en byt v) {b k : Int} (k1 : 0 ≤ b ∧ b < n ∧ 0 ≤ k ∧ k < v.1 b → Q (some (xI 1)) (σ, ρ, M)) (k0 : ¬ (0 ≤ b ∧ b < n ∧ 0 ≤ k ∧ k < v.1 b) → Q (some (xI 0)) (σ, ρ, M)) : xX G mX10_isEdge 0 0 0 [(0, xP D), (1, xI b), (2, xI k)] [] (σ, ρ, M) Q := by
  obtain ⟨hn, hen, hyb, hr⟩ := id hM
  have hG := hW.1
  have hO := hW.2.1
  have hA := hW.2.2.1
  have he : M D 4 = en ∧ 0 ≤ en ∧ en ≤ 99 := ⟨hen, hW.2.2.2.1⟩
  have hy : ∀ b, 0 ≤ b → b < n → M (D + 2) b = byt b ∧ 0 ≤ byt b ∧ byt b ≤ 9 := fun b a c => ⟨hyb b a c, hW.2.2.2.2 b a c⟩
  have h8 := hG.2.1
  have h1 := hG.1
  have hx2 : ∀ b, 0 ≤ b → b < n → v.1 b ≤ 2 := fun b a c => (hG.2.2 b a c).2.1
  have hO5 := hO.2.2.2
  refine x_aload_n (p2 := 1) rfl dX10_isEdge_0 rfl ?_
  refine x_iload_n (p2 := 2) rfl dX10_isEdge_1 rfl ?_
  refine x_v1 (p2 := 5) rfl dX10_isEdge_2 l_10_61 ok_X10_isBlock rfl hD.sh rfl ?_
  refine t_X10_isBlock hD (by rw [hn]; omega) (fun hb2 => ?_) (fun hb2 => ?_)
  all_goals rw [hn] at hb2
  · skip
    refine x_if_eq (p2 := 8) (t := 33) (by decide) rfl dX10_isEdge_5 (fun hc => absurd hc (by decide)) (fun _ => ?_)
    have hxb := hx2 b (by omega) (by omega)
    have hxc := (hG.2.2 b (by omega) (by omega)).1
    refine x_iload_n (p2 := 9) rfl dX10_isEdge_8 rfl ?_
    refine x_i2l (p2 := 10) rfl dX10_isEdge_9 ?_
    refine x_lconst (p2 := 11) (v := 0) rfl dX10_isEdge_10 ⟨by decide, ⟨by decide, by decide⟩⟩ ?_
    refine x_aload_n (p2 := 12) rfl dX10_isEdge_11 rfl ?_
    refine x_getr (p2 := 15) (kz := 5) rfl dX10_isEdge_12 f_10_16 rfl rfl hD.sh hD.r5 ?_
    refine x_bipush (p2 := 17) rfl dX10_isEdge_15 ⟨by decide, ⟨by decide, by decide⟩⟩ ?_
    refine x_iload_n (p2 := 18) rfl dX10_isEdge_17 rfl ?_
    refine x_iadd (p2 := 19) rfl dX10_isEdge_18 ⟨by omega, by omega⟩ ?_
    refine x_iald (p2 := 20) rfl dX10_isEdge_19 hD.a5 (by omega) (by omega) ?_
    rw [hr.x hb2.1 hb2.2]
    refine x_iconst (p2 := 21) rfl dX10_isEdge_20 ⟨by decide, by decide⟩ ?_
    refine x_isub (p2 := 22) rfl dX10_isEdge_21 ⟨by omega, by omega⟩ ?_
    refine x_i2l (p2 := 23) rfl dX10_isEdge_22 ?_
    refine x_s3 (p2 := 26) rfl dX10_isEdge_23 l_10_57 ok_X10_in rfl rfl ?_
    refine t_X10_in (fun hb23 => ?_) (fun hb23 => ?_)
    · skip
      refine x_if_eq (p2 := 29) (t := 33) (by decide) rfl dX10_isEdge_26 (fun hc => absurd hc (by decide)) (fun _ => ?_)
      refine x_iconst (p2 := 30) rfl dX10_isEdge_29 ⟨by decide, by decide⟩ ?_
      refine x_goto (t := 34) (by decide) dX10_isEdge_30 ?_
      refine x_zret dX10_isEdge_34 rfl (by omega) ?_
      exact k1 (by omega)
    · skip
      refine x_if_eq (p2 := 29) (t := 33) (by decide) rfl dX10_isEdge_26 (fun _ => ?_) (fun hc => absurd hc (by decide))
      refine x_iconst (p2 := 34) rfl dX10_isEdge_33 ⟨by decide, by decide⟩ ?_
      refine x_zret dX10_isEdge_34 rfl (by omega) ?_
      exact k0 (by omega)
  · skip
    refine x_if_eq (p2 := 8) (t := 33) (by decide) rfl dX10_isEdge_5 (fun _ => ?_) (fun hc => absurd hc (by decide))
    refine x_iconst (p2 := 34) rfl dX10_isEdge_33 ⟨by decide, by decide⟩ ?_
    refine x_zret dX10_isEdge_34 rfl (by omega) ?_
    exact k0 (by omega)
set_option maxHeartbeats 4000000 in
theorem t_X10_blockCount {D : Nat} (hD : isMd σ ρ D) {n en : Int} {byt : Int → Int} {v : vV} (hM : mdI M D n en byt v) (hW : wfV n en byt v) (hq : Q (some (xI n)) (σ, ρ, M)) : xX G mX10_blockCount 0 0 0 [(0, xP D)] [] (σ, ρ, M) Q := by
  obtain ⟨hn, hen, hyb, hr⟩ := id hM
  have hG := hW.1
  have hO := hW.2.1
  have hA := hW.2.2.1
  have he : M D 4 = en ∧ 0 ≤ en ∧ en ≤ 99 := ⟨hen, hW.2.2.2.1⟩
  have hy : ∀ b, 0 ≤ b → b < n → M (D + 2) b = byt b ∧ 0 ≤ byt b ∧ byt b ≤ 9 := fun b a c => ⟨hyb b a c, hW.2.2.2.2 b a c⟩
  have h8 := hG.2.1
  have h1 := hG.1
  have hx2 : ∀ b, 0 ≤ b → b < n → v.1 b ≤ 2 := fun b a c => (hG.2.2 b a c).2.1
  have hO5 := hO.2.2.2
  refine x_aload_n (p2 := 1) rfl dX10_blockCount_0 rfl ?_
  refine x_geti (p2 := 4) (kz := 2) rfl dX10_blockCount_1 f_10_53 rfl rfl hD.sh ?_
  refine x_iret dX10_blockCount_4 rfl ?_
  rw [hn]; exact hq
set_option maxHeartbeats 4000000 in
theorem t_X10_size {D : Nat} (hD : isMd σ ρ D) {n en : Int} {byt : Int → Int} {v : vV} (hM : mdI M D n en byt v) (hW : wfV n en byt v) {b : Int} (k1 : 0 ≤ b ∧ b < n → Q (some (xI (byt b))) (σ, ρ, M)) (k0 : ¬ (0 ≤ b ∧ b < n) → Q (some (xI (-1))) (σ, ρ, M)) : xX G mX10_size 0 0 0 [(0, xP D), (1, xI b)] [] (σ, ρ, M) Q := by
  obtain ⟨hn, hen, hyb, hr⟩ := id hM
  have hG := hW.1
  have hO := hW.2.1
  have hA := hW.2.2.1
  have he : M D 4 = en ∧ 0 ≤ en ∧ en ≤ 99 := ⟨hen, hW.2.2.2.1⟩
  have hy : ∀ b, 0 ≤ b → b < n → M (D + 2) b = byt b ∧ 0 ≤ byt b ∧ byt b ≤ 9 := fun b a c => ⟨hyb b a c, hW.2.2.2.2 b a c⟩
  have h8 := hG.2.1
  have h1 := hG.1
  have hx2 : ∀ b, 0 ≤ b → b < n → v.1 b ≤ 2 := fun b a c => (hG.2.2 b a c).2.1
  have hO5 := hO.2.2.2
  refine x_aload_n (p2 := 1) rfl dX10_size_0 rfl ?_
  refine x_iload_n (p2 := 2) rfl dX10_size_1 rfl ?_
  refine x_v1 (p2 := 5) rfl dX10_size_2 l_10_61 ok_X10_isBlock rfl hD.sh rfl ?_
  refine t_X10_isBlock hD (by rw [hn]; omega) (fun hb2 => ?_) (fun hb2 => ?_)
  all_goals rw [hn] at hb2
  · skip
    refine x_if_eq (p2 := 8) (t := 17) (by decide) rfl dX10_size_5 (fun hc => absurd hc (by decide)) (fun _ => ?_)
    refine x_aload_n (p2 := 9) rfl dX10_size_8 rfl ?_
    refine x_getr (p2 := 12) (kz := 3) rfl dX10_size_9 f_10_13 rfl rfl hD.sh hD.r3 ?_
    refine x_iload_n (p2 := 13) rfl dX10_size_12 rfl ?_
    refine x_iald (p2 := 14) rfl dX10_size_13 hD.a3 (by omega) (by omega) ?_
    refine x_goto (t := 18) (by decide) dX10_size_14 ?_
    refine x_iret dX10_size_18 rfl ?_
    rw [hyb b hb2.1 hb2.2]; exact k1 hb2
  · skip
    refine x_if_eq (p2 := 8) (t := 17) (by decide) rfl dX10_size_5 (fun _ => ?_) (fun hc => absurd hc (by decide))
    refine x_iconst (p2 := 18) rfl dX10_size_17 ⟨by decide, by decide⟩ ?_
    refine x_iret dX10_size_18 rfl ?_
    exact k0 (by omega)
set_option maxHeartbeats 4000000 in
theorem t_X10_successor {D : Nat} (hD : isMd σ ρ D) {n en : Int} {byt : Int → Int} {v : vV} (hM : mdI M D n en byt v) (hW : wfV n en byt v) {b k : Int} (k1 : 0 ≤ b ∧ b < n ∧ 0 ≤ k ∧ k < v.1 b → Q (some (xI (v.2.1 (2 * b + k)))) (σ, ρ, M)) (k0 : ¬ (0 ≤ b ∧ b < n ∧ 0 ≤ k ∧ k < v.1 b) → Q (some (xI (-1))) (σ, ρ, M)) : xX G mX10_successor 0 0 0 [(0, xP D), (1, xI b), (2, xI k)] [] (σ, ρ, M) Q := by
  obtain ⟨hn, hen, hyb, hr⟩ := id hM
  have hG := hW.1
  have hO := hW.2.1
  have hA := hW.2.2.1
  have he : M D 4 = en ∧ 0 ≤ en ∧ en ≤ 99 := ⟨hen, hW.2.2.2.1⟩
  have hy : ∀ b, 0 ≤ b → b < n → M (D + 2) b = byt b ∧ 0 ≤ byt b ∧ byt b ≤ 9 := fun b a c => ⟨hyb b a c, hW.2.2.2.2 b a c⟩
  have h8 := hG.2.1
  have h1 := hG.1
  have hx2 : ∀ b, 0 ≤ b → b < n → v.1 b ≤ 2 := fun b a c => (hG.2.2 b a c).2.1
  have hO5 := hO.2.2.2
  refine x_aload_n (p2 := 1) rfl dX10_successor_0 rfl ?_
  refine x_iload_n (p2 := 2) rfl dX10_successor_1 rfl ?_
  refine x_iload_n (p2 := 3) rfl dX10_successor_2 rfl ?_
  refine x_v2 (p2 := 6) rfl dX10_successor_3 l_10_107 ok_X10_isEdge rfl hD.sh rfl ?_
  refine t_X10_isEdge hD hM hW (fun hb3 => ?_) (fun hb3 => ?_)
  · skip
    refine x_if_eq (p2 := 9) (t := 25) (by decide) rfl dX10_successor_6 (fun hc => absurd hc (by decide)) (fun _ => ?_)
    have hxb := hx2 b (by omega) (by omega)
    refine x_aload_n (p2 := 10) rfl dX10_successor_9 rfl ?_
    refine x_getr (p2 := 13) (kz := 5) rfl dX10_successor_10 f_10_16 rfl rfl hD.sh hD.r5 ?_
    refine x_bipush (p2 := 15) rfl dX10_successor_13 ⟨by decide, ⟨by decide, by decide⟩⟩ ?_
    refine x_iconst (p2 := 16) rfl dX10_successor_15 ⟨by decide, by decide⟩ ?_
    refine x_iload_n (p2 := 17) rfl dX10_successor_16 rfl ?_
    refine x_imul (p2 := 18) rfl dX10_successor_17 ⟨by omega, by omega⟩ ?_
    refine x_iadd (p2 := 19) rfl dX10_successor_18 ⟨by omega, by omega⟩ ?_
    refine x_iload_n (p2 := 20) rfl dX10_successor_19 rfl ?_
    refine x_iadd (p2 := 21) rfl dX10_successor_20 ⟨by omega, by omega⟩ ?_
    refine x_iald (p2 := 22) rfl dX10_successor_21 hD.a5 (by omega) (by omega) ?_
    refine x_goto (t := 26) (by decide) dX10_successor_22 ?_
    refine x_iret dX10_successor_26 rfl ?_
    rw [hr.t hb3.1 hb3.2.1 hb3.2.2.1 hb3.2.2.2]; exact k1 hb3
  · skip
    refine x_if_eq (p2 := 9) (t := 25) (by decide) rfl dX10_successor_6 (fun _ => ?_) (fun hc => absurd hc (by decide))
    refine x_iconst (p2 := 26) rfl dX10_successor_25 ⟨by decide, by decide⟩ ?_
    refine x_iret dX10_successor_26 rfl ?_
    exact k0 hb3
set_option maxHeartbeats 4000000 in
theorem t_X10_edgeCount {D : Nat} (hD : isMd σ ρ D) {n en : Int} {byt : Int → Int} {v : vV} (hM : mdI M D n en byt v) (hW : wfV n en byt v) {b k : Int} (k1 : 0 ≤ b ∧ b < n ∧ 0 ≤ k ∧ k < v.1 b → Q (some (xI (v.2.2.1 (2 * b + k)))) (σ, ρ, M)) (k0 : ¬ (0 ≤ b ∧ b < n ∧ 0 ≤ k ∧ k < v.1 b) → Q (some (xI (-1))) (σ, ρ, M)) : xX G mX10_edgeCount 0 0 0 [(0, xP D), (1, xI b), (2, xI k)] [] (σ, ρ, M) Q := by
  obtain ⟨hn, hen, hyb, hr⟩ := id hM
  have hG := hW.1
  have hO := hW.2.1
  have hA := hW.2.2.1
  have he : M D 4 = en ∧ 0 ≤ en ∧ en ≤ 99 := ⟨hen, hW.2.2.2.1⟩
  have hy : ∀ b, 0 ≤ b → b < n → M (D + 2) b = byt b ∧ 0 ≤ byt b ∧ byt b ≤ 9 := fun b a c => ⟨hyb b a c, hW.2.2.2.2 b a c⟩
  have h8 := hG.2.1
  have h1 := hG.1
  have hx2 : ∀ b, 0 ≤ b → b < n → v.1 b ≤ 2 := fun b a c => (hG.2.2 b a c).2.1
  have hO5 := hO.2.2.2
  refine x_aload_n (p2 := 1) rfl dX10_edgeCount_0 rfl ?_
  refine x_iload_n (p2 := 2) rfl dX10_edgeCount_1 rfl ?_
  refine x_iload_n (p2 := 3) rfl dX10_edgeCount_2 rfl ?_
  refine x_v2 (p2 := 6) rfl dX10_edgeCount_3 l_10_107 ok_X10_isEdge rfl hD.sh rfl ?_
  refine t_X10_isEdge hD hM hW (fun hb3 => ?_) (fun hb3 => ?_)
  · skip
    refine x_if_eq (p2 := 9) (t := 25) (by decide) rfl dX10_edgeCount_6 (fun hc => absurd hc (by decide)) (fun _ => ?_)
    have hxb := hx2 b (by omega) (by omega)
    refine x_aload_n (p2 := 10) rfl dX10_edgeCount_9 rfl ?_
    refine x_getr (p2 := 13) (kz := 5) rfl dX10_edgeCount_10 f_10_16 rfl rfl hD.sh hD.r5 ?_
    refine x_bipush (p2 := 15) rfl dX10_edgeCount_13 ⟨by decide, ⟨by decide, by decide⟩⟩ ?_
    refine x_iconst (p2 := 16) rfl dX10_edgeCount_15 ⟨by decide, by decide⟩ ?_
    refine x_iload_n (p2 := 17) rfl dX10_edgeCount_16 rfl ?_
    refine x_imul (p2 := 18) rfl dX10_edgeCount_17 ⟨by omega, by omega⟩ ?_
    refine x_iadd (p2 := 19) rfl dX10_edgeCount_18 ⟨by omega, by omega⟩ ?_
    refine x_iload_n (p2 := 20) rfl dX10_edgeCount_19 rfl ?_
    refine x_iadd (p2 := 21) rfl dX10_edgeCount_20 ⟨by omega, by omega⟩ ?_
    refine x_iald (p2 := 22) rfl dX10_edgeCount_21 hD.a5 (by omega) (by omega) ?_
    refine x_goto (t := 26) (by decide) dX10_edgeCount_22 ?_
    refine x_iret dX10_edgeCount_26 rfl ?_
    rw [hr.c hb3.1 hb3.2.1 hb3.2.2.1 hb3.2.2.2]; exact k1 hb3
  · skip
    refine x_if_eq (p2 := 9) (t := 25) (by decide) rfl dX10_edgeCount_6 (fun _ => ?_) (fun hc => absurd hc (by decide))
    refine x_iconst (p2 := 26) rfl dX10_edgeCount_25 ⟨by decide, by decide⟩ ?_
    refine x_iret dX10_edgeCount_26 rfl ?_
    exact k0 hb3
set_option maxHeartbeats 4000000 in
theorem t_X10_executions {D : Nat} (hD : isMd σ ρ D) {n en : Int} {byt : Int → Int} {v : vV} (hM : mdI M D n en byt v) (hW : wfV n en byt v) {b : Int} (k1 : 0 ≤ b ∧ b < n → Q (some (xI (rns n en v.1 v.2.1 v.2.2.1 b))) (σ, ρ, M)) (k0 : ¬ (0 ≤ b ∧ b < n) → Q (some (xI (-1))) (σ, ρ, M)) : xX G mX10_executions 0 0 0 [(0, xP D), (1, xI b)] [] (σ, ρ, M) Q := by
  obtain ⟨hn, hen, hyb, hr⟩ := id hM
  have hG := hW.1
  have hO := hW.2.1
  have hA := hW.2.2.1
  have he : M D 4 = en ∧ 0 ≤ en ∧ en ≤ 99 := ⟨hen, hW.2.2.2.1⟩
  have hy : ∀ b, 0 ≤ b → b < n → M (D + 2) b = byt b ∧ 0 ≤ byt b ∧ byt b ≤ 9 := fun b a c => ⟨hyb b a c, hW.2.2.2.2 b a c⟩
  have h8 := hG.2.1
  have h1 := hG.1
  have hx2 : ∀ b, 0 ≤ b → b < n → v.1 b ≤ 2 := fun b a c => (hG.2.2 b a c).2.1
  have hO5 := hO.2.2.2
  refine x_aload_n (p2 := 1) rfl dX10_executions_0 rfl ?_
  refine x_iload_n (p2 := 2) rfl dX10_executions_1 rfl ?_
  refine x_v1 (p2 := 5) rfl dX10_executions_2 l_10_61 ok_X10_isBlock rfl hD.sh rfl ?_
  refine t_X10_isBlock hD (by rw [hn]; omega) (fun hb2 => ?_) (fun hb2 => ?_)
  all_goals rw [hn] at hb2
  · skip
    refine x_if_eq (p2 := 8) (t := 20) (by decide) rfl dX10_executions_5 (fun hc => absurd hc (by decide)) (fun _ => ?_)
    refine x_aload_n (p2 := 9) rfl dX10_executions_8 rfl ?_
    refine x_aload_n (p2 := 10) rfl dX10_executions_9 rfl ?_
    refine x_getr (p2 := 13) (kz := 5) rfl dX10_executions_10 f_10_16 rfl rfl hD.sh hD.r5 ?_
    refine x_iload_n (p2 := 14) rfl dX10_executions_13 rfl ?_
    refine x_v2 (p2 := 17) rfl dX10_executions_14 l_10_110 ok_X10_executionsOf rfl hD.sh rfl ?_
    refine t_X10_executionsOf hD hD.a5 hn hr hG he ?_
    refine x_goto (t := 21) (by decide) dX10_executions_17 ?_
    refine x_iret dX10_executions_21 rfl ?_
    exact k1 (by omega)
  · skip
    refine x_if_eq (p2 := 8) (t := 20) (by decide) rfl dX10_executions_5 (fun _ => ?_) (fun hc => absurd hc (by decide))
    refine x_iconst (p2 := 21) rfl dX10_executions_20 ⟨by decide, by decide⟩ ?_
    refine x_iret dX10_executions_21 rfl ?_
    exact k0 (by omega)
set_option maxHeartbeats 4000000 in
theorem t_X10_blockAt {D : Nat} (hD : isMd σ ρ D) {n en : Int} {byt : Int → Int} {v : vV} (hM : mdI M D n en byt v) (hW : wfV n en byt v) {b : Int} (k1 : 0 ≤ b ∧ b < n → Q (some (xI (v.2.2.2.1 b))) (σ, ρ, M)) (k0 : ¬ (0 ≤ b ∧ b < n) → Q (some (xI (-1))) (σ, ρ, M)) : xX G mX10_blockAt 0 0 0 [(0, xP D), (1, xI b)] [] (σ, ρ, M) Q := by
  obtain ⟨hn, hen, hyb, hr⟩ := id hM
  have hG := hW.1
  have hO := hW.2.1
  have hA := hW.2.2.1
  have he : M D 4 = en ∧ 0 ≤ en ∧ en ≤ 99 := ⟨hen, hW.2.2.2.1⟩
  have hy : ∀ b, 0 ≤ b → b < n → M (D + 2) b = byt b ∧ 0 ≤ byt b ∧ byt b ≤ 9 := fun b a c => ⟨hyb b a c, hW.2.2.2.2 b a c⟩
  have h8 := hG.2.1
  have h1 := hG.1
  have hx2 : ∀ b, 0 ≤ b → b < n → v.1 b ≤ 2 := fun b a c => (hG.2.2 b a c).2.1
  have hO5 := hO.2.2.2
  refine x_aload_n (p2 := 1) rfl dX10_blockAt_0 rfl ?_
  refine x_iload_n (p2 := 2) rfl dX10_blockAt_1 rfl ?_
  refine x_v1 (p2 := 5) rfl dX10_blockAt_2 l_10_137 ok_X10_isPosition rfl hD.sh rfl ?_
  refine t_X10_isPosition hD (by rw [hn]; omega) (fun hb2 => ?_) (fun hb2 => ?_)
  all_goals rw [hn] at hb2
  · skip
    refine x_if_eq (p2 := 8) (t := 19) (by decide) rfl dX10_blockAt_5 (fun hc => absurd hc (by decide)) (fun _ => ?_)
    refine x_aload_n (p2 := 9) rfl dX10_blockAt_8 rfl ?_
    refine x_getr (p2 := 12) (kz := 5) rfl dX10_blockAt_9 f_10_16 rfl rfl hD.sh hD.r5 ?_
    refine x_iconst (p2 := 13) rfl dX10_blockAt_12 ⟨by decide, by decide⟩ ?_
    refine x_iload_n (p2 := 14) rfl dX10_blockAt_13 rfl ?_
    refine x_iadd (p2 := 15) rfl dX10_blockAt_14 ⟨by omega, by omega⟩ ?_
    refine x_iald (p2 := 16) rfl dX10_blockAt_15 hD.a5 (by omega) (by omega) ?_
    refine x_goto (t := 20) (by decide) dX10_blockAt_16 ?_
    refine x_iret dX10_blockAt_20 rfl ?_
    rw [hr.o hb2.1 hb2.2]; exact k1 hb2
  · skip
    refine x_if_eq (p2 := 8) (t := 19) (by decide) rfl dX10_blockAt_5 (fun _ => ?_) (fun hc => absurd hc (by decide))
    refine x_iconst (p2 := 20) rfl dX10_blockAt_19 ⟨by decide, by decide⟩ ?_
    refine x_iret dX10_blockAt_20 rfl ?_
    exact k0 (by omega)
set_option maxHeartbeats 4000000 in
theorem t_X10_hotCount {D : Nat} (hD : isMd σ ρ D) {n en : Int} {byt : Int → Int} {v : vV} (hM : mdI M D n en byt v) (hW : wfV n en byt v) (hq : Q (some (xI v.2.2.2.2.1)) (σ, ρ, M)) : xX G mX10_hotCount 0 0 0 [(0, xP D)] [] (σ, ρ, M) Q := by
  obtain ⟨hn, hen, hyb, hr⟩ := id hM
  have hG := hW.1
  have hO := hW.2.1
  have hA := hW.2.2.1
  have he : M D 4 = en ∧ 0 ≤ en ∧ en ≤ 99 := ⟨hen, hW.2.2.2.1⟩
  have hy : ∀ b, 0 ≤ b → b < n → M (D + 2) b = byt b ∧ 0 ≤ byt b ∧ byt b ≤ 9 := fun b a c => ⟨hyb b a c, hW.2.2.2.2 b a c⟩
  have h8 := hG.2.1
  have h1 := hG.1
  have hx2 : ∀ b, 0 ≤ b → b < n → v.1 b ≤ 2 := fun b a c => (hG.2.2 b a c).2.1
  have hO5 := hO.2.2.2
  refine x_aload_n (p2 := 1) rfl dX10_hotCount_0 rfl ?_
  refine x_getr (p2 := 4) (kz := 5) rfl dX10_hotCount_1 f_10_16 rfl rfl hD.sh hD.r5 ?_
  refine x_iconst (p2 := 5) rfl dX10_hotCount_4 ⟨by decide, by decide⟩ ?_
  refine x_iald (p2 := 6) rfl dX10_hotCount_5 hD.a5 (by omega) (by omega) ?_
  refine x_iret dX10_hotCount_6 rfl ?_
  rw [hr.h]; exact hq
set_option maxHeartbeats 4000000 in
theorem t_X10_cost {D : Nat} (hD : isMd σ ρ D) {n en : Int} {byt : Int → Int} {v : vV} (hM : mdI M D n en byt v) (hW : wfV n en byt v) (hq : Q (some (xI (tcs n v.1 v.2.1 v.2.2.1 v.2.2.2.1 v.2.2.2.2.1))) (σ, ρ, M)) : xX G mX10_cost 0 0 0 [(0, xP D)] [] (σ, ρ, M) Q := by
  obtain ⟨hn, hen, hyb, hr⟩ := id hM
  have hG := hW.1
  have hO := hW.2.1
  have hA := hW.2.2.1
  have he : M D 4 = en ∧ 0 ≤ en ∧ en ≤ 99 := ⟨hen, hW.2.2.2.1⟩
  have hy : ∀ b, 0 ≤ b → b < n → M (D + 2) b = byt b ∧ 0 ≤ byt b ∧ byt b ≤ 9 := fun b a c => ⟨hyb b a c, hW.2.2.2.2 b a c⟩
  have h8 := hG.2.1
  have h1 := hG.1
  have hx2 : ∀ b, 0 ≤ b → b < n → v.1 b ≤ 2 := fun b a c => (hG.2.2 b a c).2.1
  have hO5 := hO.2.2.2
  refine x_aload_n (p2 := 1) rfl dX10_cost_0 rfl ?_
  refine x_aload_n (p2 := 2) rfl dX10_cost_1 rfl ?_
  refine x_getr (p2 := 5) (kz := 5) rfl dX10_cost_2 f_10_16 rfl rfl hD.sh hD.r5 ?_
  refine x_v1 (p2 := 8) rfl dX10_cost_5 l_10_140 ok_X10_costOf rfl hD.sh rfl ?_
  refine t_X10_costOf hD hD.a5 hn hr hG hO ?_
  refine x_iret dX10_cost_8 rfl ?_
  exact hq
set_option maxHeartbeats 4000000 in
theorem t_X10_codeSize {D : Nat} (hD : isMd σ ρ D) {n en : Int} {byt : Int → Int} {v : vV} (hM : mdI M D n en byt v) (hW : wfV n en byt v) (hq : Q (some (xI (eoc n v.1 v.2.1 v.2.2.2.1 byt v.2.2.2.2.1 v.2.2.2.2.2 n.toNat 0 0))) (σ, ρ, xu M D 22 (eoc n v.1 v.2.1 v.2.2.2.1 byt v.2.2.2.2.1 v.2.2.2.2.2 n.toNat 0 0))) : xX G mX10_codeSize 0 0 0 [(0, xP D)] [] (σ, ρ, M) Q := by
  obtain ⟨hn, hen, hyb, hr⟩ := id hM
  have hG := hW.1
  have hO := hW.2.1
  have hA := hW.2.2.1
  have he : M D 4 = en ∧ 0 ≤ en ∧ en ≤ 99 := ⟨hen, hW.2.2.2.1⟩
  have hy : ∀ b, 0 ≤ b → b < n → M (D + 2) b = byt b ∧ 0 ≤ byt b ∧ byt b ≤ 9 := fun b a c => ⟨hyb b a c, hW.2.2.2.2 b a c⟩
  have h8 := hG.2.1
  have h1 := hG.1
  have hx2 : ∀ b, 0 ≤ b → b < n → v.1 b ≤ 2 := fun b a c => (hG.2.2 b a c).2.1
  have hO5 := hO.2.2.2
  refine x_aload_n (p2 := 1) rfl dX10_codeSize_0 rfl ?_
  refine x_aload_n (p2 := 2) rfl dX10_codeSize_1 rfl ?_
  refine x_getr (p2 := 5) (kz := 5) rfl dX10_codeSize_2 f_10_16 rfl rfl hD.sh hD.r5 ?_
  refine x_iconst (p2 := 6) rfl dX10_codeSize_5 ⟨by decide, by decide⟩ ?_
  refine x_v2 (p2 := 9) rfl dX10_codeSize_6 l_10_144 ok_X10_addressOf rfl hD.sh rfl ?_
  refine t_X10_addressOf hD hD.a5 hn hr hG hO hA hy (by omega) ?_
  refine x_istore_n (p2 := 10) (i := 1) (L2 := [(0, _), (1, _)]) rfl dX10_codeSize_9 rfl ⟨rfl, Nat.le_of_ble_eq_true rfl⟩ rfl ?_
  refine x_aload_n (p2 := 11) rfl dX10_codeSize_10 rfl ?_
  refine x_geti (p2 := 14) (kz := 22) rfl dX10_codeSize_11 f_10_134 rfl rfl hD.sh ?_
  refine x_iret dX10_codeSize_14 rfl ?_
  rw [xu_s]; exact hq
set_option maxHeartbeats 4000000 in
theorem t_X10_address {D : Nat} (hD : isMd σ ρ D) {n en : Int} {byt : Int → Int} {v : vV} (hM : mdI M D n en byt v) (hW : wfV n en byt v) {b : Int} (k1 : 0 ≤ b ∧ b < n → Q (some (xI (sof n v.1 v.2.1 v.2.2.2.1 byt v.2.2.2.2.1 v.2.2.2.2.2 b n.toNat 0 0))) (σ, ρ, xu M D 22 (eoc n v.1 v.2.1 v.2.2.2.1 byt v.2.2.2.2.1 v.2.2.2.2.2 n.toNat 0 0))) (k0 : ¬ (0 ≤ b ∧ b < n) → Q (some (xI (-1))) (σ, ρ, M)) : xX G mX10_address 0 0 0 [(0, xP D), (1, xI b)] [] (σ, ρ, M) Q := by
  obtain ⟨hn, hen, hyb, hr⟩ := id hM
  have hG := hW.1
  have hO := hW.2.1
  have hA := hW.2.2.1
  have he : M D 4 = en ∧ 0 ≤ en ∧ en ≤ 99 := ⟨hen, hW.2.2.2.1⟩
  have hy : ∀ b, 0 ≤ b → b < n → M (D + 2) b = byt b ∧ 0 ≤ byt b ∧ byt b ≤ 9 := fun b a c => ⟨hyb b a c, hW.2.2.2.2 b a c⟩
  have h8 := hG.2.1
  have h1 := hG.1
  have hx2 : ∀ b, 0 ≤ b → b < n → v.1 b ≤ 2 := fun b a c => (hG.2.2 b a c).2.1
  have hO5 := hO.2.2.2
  refine x_aload_n (p2 := 1) rfl dX10_address_0 rfl ?_
  refine x_iload_n (p2 := 2) rfl dX10_address_1 rfl ?_
  refine x_v1 (p2 := 5) rfl dX10_address_2 l_10_61 ok_X10_isBlock rfl hD.sh rfl ?_
  refine t_X10_isBlock hD (by rw [hn]; omega) (fun hb2 => ?_) (fun hb2 => ?_)
  all_goals rw [hn] at hb2
  · skip
    refine x_if_eq (p2 := 8) (t := 20) (by decide) rfl dX10_address_5 (fun hc => absurd hc (by decide)) (fun _ => ?_)
    refine x_aload_n (p2 := 9) rfl dX10_address_8 rfl ?_
    refine x_aload_n (p2 := 10) rfl dX10_address_9 rfl ?_
    refine x_getr (p2 := 13) (kz := 5) rfl dX10_address_10 f_10_16 rfl rfl hD.sh hD.r5 ?_
    refine x_iload_n (p2 := 14) rfl dX10_address_13 rfl ?_
    refine x_v2 (p2 := 17) rfl dX10_address_14 l_10_144 ok_X10_addressOf rfl hD.sh rfl ?_
    refine t_X10_addressOf hD hD.a5 hn hr hG hO hA hy (by omega) ?_
    refine x_goto (t := 21) (by decide) dX10_address_17 ?_
    refine x_iret dX10_address_21 rfl ?_
    exact k1 (by omega)
  · skip
    refine x_if_eq (p2 := 8) (t := 20) (by decide) rfl dX10_address_5 (fun _ => ?_) (fun hc => absurd hc (by decide))
    refine x_iconst (p2 := 21) rfl dX10_address_20 ⟨by decide, by decide⟩ ?_
    refine x_iret dX10_address_21 rfl ?_
    exact k0 (by omega)
set_option maxHeartbeats 4000000 in
theorem t_X10_branchBytes {D : Nat} (hD : isMd σ ρ D) {n en : Int} {byt : Int → Int} {v : vV} (hM : mdI M D n en byt v) (hW : wfV n en byt v) {b : Int} (k1 : 0 ≤ b ∧ b < n → Q (some (xI (bbf v.1 v.2.1 b (fob n v.2.2.2.1 v.2.2.2.2.1 b)))) (σ, ρ, M)) (k0 : ¬ (0 ≤ b ∧ b < n) → Q (some (xI (-1))) (σ, ρ, M)) : xX G mX10_branchBytes 0 0 0 [(0, xP D), (1, xI b)] [] (σ, ρ, M) Q := by
  obtain ⟨hn, hen, hyb, hr⟩ := id hM
  have hG := hW.1
  have hO := hW.2.1
  have hA := hW.2.2.1
  have he : M D 4 = en ∧ 0 ≤ en ∧ en ≤ 99 := ⟨hen, hW.2.2.2.1⟩
  have hy : ∀ b, 0 ≤ b → b < n → M (D + 2) b = byt b ∧ 0 ≤ byt b ∧ byt b ≤ 9 := fun b a c => ⟨hyb b a c, hW.2.2.2.2 b a c⟩
  have h8 := hG.2.1
  have h1 := hG.1
  have hx2 : ∀ b, 0 ≤ b → b < n → v.1 b ≤ 2 := fun b a c => (hG.2.2 b a c).2.1
  have hO5 := hO.2.2.2
  refine x_aload_n (p2 := 1) rfl dX10_branchBytes_0 rfl ?_
  refine x_iload_n (p2 := 2) rfl dX10_branchBytes_1 rfl ?_
  refine x_v1 (p2 := 5) rfl dX10_branchBytes_2 l_10_61 ok_X10_isBlock rfl hD.sh rfl ?_
  refine t_X10_isBlock hD (by rw [hn]; omega) (fun hb2 => ?_) (fun hb2 => ?_)
  all_goals rw [hn] at hb2
  · skip
    refine x_if_eq (p2 := 8) (t := 20) (by decide) rfl dX10_branchBytes_5 (fun hc => absurd hc (by decide)) (fun _ => ?_)
    refine x_aload_n (p2 := 9) rfl dX10_branchBytes_8 rfl ?_
    refine x_aload_n (p2 := 10) rfl dX10_branchBytes_9 rfl ?_
    refine x_getr (p2 := 13) (kz := 5) rfl dX10_branchBytes_10 f_10_16 rfl rfl hD.sh hD.r5 ?_
    refine x_iload_n (p2 := 14) rfl dX10_branchBytes_13 rfl ?_
    refine x_v2 (p2 := 17) rfl dX10_branchBytes_14 l_10_131 ok_X10_branchBytesOf rfl hD.sh rfl ?_
    refine t_X10_branchBytesOf hD hD.a5 hn hr hG hO (by omega) ?_
    refine x_goto (t := 21) (by decide) dX10_branchBytes_17 ?_
    refine x_iret dX10_branchBytes_21 rfl ?_
    exact k1 (by omega)
  · skip
    refine x_if_eq (p2 := 8) (t := 20) (by decide) rfl dX10_branchBytes_5 (fun _ => ?_) (fun hc => absurd hc (by decide))
    refine x_iconst (p2 := 21) rfl dX10_branchBytes_20 ⟨by decide, by decide⟩ ?_
    refine x_iret dX10_branchBytes_21 rfl ?_
    exact k0 (by omega)
set_option maxHeartbeats 4000000 in
theorem t_X10_edgeCost {D : Nat} (hD : isMd σ ρ D) {n en : Int} {byt : Int → Int} {v : vV} (hM : mdI M D n en byt v) (hW : wfV n en byt v) {b k : Int} (k1 : 0 ≤ b ∧ b < n ∧ 0 ≤ k ∧ k < v.1 b → Q (some (xI (pcst v.1 v.2.1 v.2.2.1 b k (fob n v.2.2.2.1 v.2.2.2.2.1 b)))) (σ, ρ, M)) (k0 : ¬ (0 ≤ b ∧ b < n ∧ 0 ≤ k ∧ k < v.1 b) → Q (some (xI (-1))) (σ, ρ, M)) : xX G mX10_edgeCost 0 0 0 [(0, xP D), (1, xI b), (2, xI k)] [] (σ, ρ, M) Q := by
  obtain ⟨hn, hen, hyb, hr⟩ := id hM
  have hG := hW.1
  have hO := hW.2.1
  have hA := hW.2.2.1
  have he : M D 4 = en ∧ 0 ≤ en ∧ en ≤ 99 := ⟨hen, hW.2.2.2.1⟩
  have hy : ∀ b, 0 ≤ b → b < n → M (D + 2) b = byt b ∧ 0 ≤ byt b ∧ byt b ≤ 9 := fun b a c => ⟨hyb b a c, hW.2.2.2.2 b a c⟩
  have h8 := hG.2.1
  have h1 := hG.1
  have hx2 : ∀ b, 0 ≤ b → b < n → v.1 b ≤ 2 := fun b a c => (hG.2.2 b a c).2.1
  have hO5 := hO.2.2.2
  refine x_aload_n (p2 := 1) rfl dX10_edgeCost_0 rfl ?_
  refine x_iload_n (p2 := 2) rfl dX10_edgeCost_1 rfl ?_
  refine x_iload_n (p2 := 3) rfl dX10_edgeCost_2 rfl ?_
  refine x_v2 (p2 := 6) rfl dX10_edgeCost_3 l_10_107 ok_X10_isEdge rfl hD.sh rfl ?_
  refine t_X10_isEdge hD hM hW (fun hb3 => ?_) (fun hb3 => ?_)
  · skip
    refine x_if_eq (p2 := 9) (t := 22) (by decide) rfl dX10_edgeCost_6 (fun hc => absurd hc (by decide)) (fun _ => ?_)
    have hxb := hx2 b (by omega) (by omega)
    refine x_aload_n (p2 := 10) rfl dX10_edgeCost_9 rfl ?_
    refine x_aload_n (p2 := 11) rfl dX10_edgeCost_10 rfl ?_
    refine x_getr (p2 := 14) (kz := 5) rfl dX10_edgeCost_11 f_10_16 rfl rfl hD.sh hD.r5 ?_
    refine x_iload_n (p2 := 15) rfl dX10_edgeCost_14 rfl ?_
    refine x_iload_n (p2 := 16) rfl dX10_edgeCost_15 rfl ?_
    refine x_v3 (p2 := 19) rfl dX10_edgeCost_16 l_10_120 ok_X10_edgeCostOf rfl hD.sh rfl ?_
    refine t_X10_edgeCostOf hD hD.a5 hn hr hG hO (by omega) (by omega) ?_
    refine x_goto (t := 23) (by decide) dX10_edgeCost_19 ?_
    refine x_iret dX10_edgeCost_23 rfl ?_
    exact k1 hb3
  · skip
    refine x_if_eq (p2 := 9) (t := 22) (by decide) rfl dX10_edgeCost_6 (fun _ => ?_) (fun hc => absurd hc (by decide))
    refine x_iconst (p2 := 23) rfl dX10_edgeCost_22 ⟨by decide, by decide⟩ ?_
    refine x_iret dX10_edgeCost_23 rfl ?_
    exact k0 hb3
set_option maxHeartbeats 4000000 in
theorem t_X10_swapError {D : Nat} (hD : isMd σ ρ D) {n en : Int} {byt : Int → Int} {v : vV} (hM : mdI M D n en byt v) (hW : wfV n en byt v) {i j : Int} (k1 : ¬ (0 ≤ i ∧ i < n ∧ 0 ≤ j ∧ j < n) → Q (some (xI (-1))) (σ, ρ, M)) (k3 : (0 ≤ i ∧ i < n ∧ 0 ≤ j ∧ j < n) ∧ (i = 0 ∨ j = 0) → Q (some (xI (-3))) (σ, ρ, M)) (k0 : 0 < i ∧ i < n ∧ 0 < j ∧ j < n → Q (some (xI 0)) (σ, ρ, M)) : xX G mX10_swapError 0 0 0 [(0, xP D), (1, xI i), (2, xI j)] [] (σ, ρ, M) Q := by
  obtain ⟨hn, hen, hyb, hr⟩ := id hM
  have hG := hW.1
  have hO := hW.2.1
  have hA := hW.2.2.1
  have he : M D 4 = en ∧ 0 ≤ en ∧ en ≤ 99 := ⟨hen, hW.2.2.2.1⟩
  have hy : ∀ b, 0 ≤ b → b < n → M (D + 2) b = byt b ∧ 0 ≤ byt b ∧ byt b ≤ 9 := fun b a c => ⟨hyb b a c, hW.2.2.2.2 b a c⟩
  have h8 := hG.2.1
  have h1 := hG.1
  have hx2 : ∀ b, 0 ≤ b → b < n → v.1 b ≤ 2 := fun b a c => (hG.2.2 b a c).2.1
  have hO5 := hO.2.2.2
  refine x_aload_n (p2 := 1) rfl dX10_swapError_0 rfl ?_
  refine x_iload_n (p2 := 2) rfl dX10_swapError_1 rfl ?_
  refine x_v1 (p2 := 5) rfl dX10_swapError_2 l_10_137 ok_X10_isPosition rfl hD.sh rfl ?_
  refine t_X10_isPosition hD (by rw [hn]; omega) (fun hb2 => ?_) (fun hb2 => ?_)
  all_goals rw [hn] at hb2
  · skip
    refine x_if_eq (p2 := 8) (t := 16) (by decide) rfl dX10_swapError_5 (fun hc => absurd hc (by decide)) (fun _ => ?_)
    refine x_aload_n (p2 := 9) rfl dX10_swapError_8 rfl ?_
    refine x_iload_n (p2 := 10) rfl dX10_swapError_9 rfl ?_
    refine x_v1 (p2 := 13) rfl dX10_swapError_10 l_10_137 ok_X10_isPosition rfl hD.sh rfl ?_
    refine t_X10_isPosition hD (by rw [hn]; omega) (fun hb10 => ?_) (fun hb10 => ?_)
    all_goals rw [hn] at hb10
    · skip
      refine x_if_ne (p2 := 16) (t := 18) (by decide) rfl dX10_swapError_13 (fun _ => ?_) (fun hc => absurd hc (by decide))
      refine x_iload_n (p2 := 19) rfl dX10_swapError_18 rfl ?_
      refine x_if_eq (p2 := 22) (t := 26) (by decide) rfl dX10_swapError_19 (fun hc19 => ?_) (fun hc19 => ?_)
      · skip
        refine x_bipush (p2 := 28) rfl dX10_swapError_26 ⟨by decide, ⟨by decide, by decide⟩⟩ ?_
        refine x_goto (t := 32) (by decide) dX10_swapError_28 ?_
        refine x_iret dX10_swapError_32 rfl ?_
        exact k3 (by omega)
      · skip
        refine x_iload_n (p2 := 23) rfl dX10_swapError_22 rfl ?_
        refine x_if_ne (p2 := 26) (t := 31) (by decide) rfl dX10_swapError_23 (fun hc23 => ?_) (fun hc23 => ?_)
        · skip
          refine x_iconst (p2 := 32) rfl dX10_swapError_31 ⟨by decide, by decide⟩ ?_
          refine x_iret dX10_swapError_32 rfl ?_
          exact k0 (by omega)
        · skip
          refine x_bipush (p2 := 28) rfl dX10_swapError_26 ⟨by decide, ⟨by decide, by decide⟩⟩ ?_
          refine x_goto (t := 32) (by decide) dX10_swapError_28 ?_
          refine x_iret dX10_swapError_32 rfl ?_
          exact k3 (by omega)
    · skip
      refine x_if_ne (p2 := 16) (t := 18) (by decide) rfl dX10_swapError_13 (fun hc => absurd hc (by decide)) (fun _ => ?_)
      refine x_iconst (p2 := 17) rfl dX10_swapError_16 ⟨by decide, by decide⟩ ?_
      refine x_iret dX10_swapError_17 rfl ?_
      exact k1 (by omega)
  · skip
    refine x_if_eq (p2 := 8) (t := 16) (by decide) rfl dX10_swapError_5 (fun _ => ?_) (fun hc => absurd hc (by decide))
    refine x_iconst (p2 := 17) rfl dX10_swapError_16 ⟨by decide, by decide⟩ ?_
    refine x_iret dX10_swapError_17 rfl ?_
    exact k1 (by omega)
set_option maxHeartbeats 4000000 in
theorem t_X10_rangeError {D R : Nat} (hD : isMd σ ρ D) (hR : σ[R]? = some (100, 50)) {n : Int} {v : vV} (hn : M D 2 = n) (hr : smr n v (M R)) (hG : wfG n v.1 v.2.1 v.2.2.1) {i j : Int} (k1 : ¬ (0 ≤ i ∧ i < n ∧ 0 ≤ j ∧ j < n) → Q (some (xI (-1))) (σ, ρ, M)) (k3 : (0 ≤ i ∧ i < n ∧ 0 ≤ j ∧ j < n) ∧ (i = 0 ∨ j < i ∨ v.2.2.2.2.1 ≤ j) → Q (some (xI (-3))) (σ, ρ, M)) (k0 : 0 < i ∧ i ≤ j ∧ j < n ∧ j < v.2.2.2.2.1 → Q (some (xI 0)) (σ, ρ, M)) : xX G mX10_rangeError 0 0 0 [(0, xP D), (1, xP R), (2, xI i), (3, xI j)] [] (σ, ρ, M) Q := by
  have h8 := hG.2.1
  have h1 := hG.1
  refine x_aload_n (p2 := 1) rfl dX10_rangeError_0 rfl ?_
  refine x_iload_n (p2 := 2) rfl dX10_rangeError_1 rfl ?_
  refine x_v1 (p2 := 5) rfl dX10_rangeError_2 l_10_137 ok_X10_isPosition rfl hD.sh rfl ?_
  refine t_X10_isPosition hD (by rw [hn]; omega) (fun hb2 => ?_) (fun hb2 => ?_)
  all_goals rw [hn] at hb2
  · skip
    refine x_if_eq (p2 := 8) (t := 16) (by decide) rfl dX10_rangeError_5 (fun hc => absurd hc (by decide)) (fun _ => ?_)
    refine x_aload_n (p2 := 9) rfl dX10_rangeError_8 rfl ?_
    refine x_iload_n (p2 := 10) rfl dX10_rangeError_9 rfl ?_
    refine x_v1 (p2 := 13) rfl dX10_rangeError_10 l_10_137 ok_X10_isPosition rfl hD.sh rfl ?_
    refine t_X10_isPosition hD (by rw [hn]; omega) (fun hb10 => ?_) (fun hb10 => ?_)
    all_goals rw [hn] at hb10
    · skip
      refine x_if_ne (p2 := 16) (t := 18) (by decide) rfl dX10_rangeError_13 (fun _ => ?_) (fun hc => absurd hc (by decide))
      refine x_iload_n (p2 := 19) rfl dX10_rangeError_18 rfl ?_
      refine x_if_eq (p2 := 22) (t := 34) (by decide) rfl dX10_rangeError_19 (fun hc19 => ?_) (fun hc19 => ?_)
      · skip
        refine x_bipush (p2 := 36) rfl dX10_rangeError_34 ⟨by decide, ⟨by decide, by decide⟩⟩ ?_
        refine x_goto (t := 40) (by decide) dX10_rangeError_36 ?_
        refine x_iret dX10_rangeError_40 rfl ?_
        exact k3 (by omega)
      · skip
        refine x_iload_n (p2 := 23) rfl dX10_rangeError_22 rfl ?_
        refine x_iload_n (p2 := 24) rfl dX10_rangeError_23 rfl ?_
        refine x_ic_gt (p2 := 27) (t := 34) (by decide) rfl dX10_rangeError_24 (fun hc24 => ?_) (fun hc24 => ?_)
        · skip
          refine x_bipush (p2 := 36) rfl dX10_rangeError_34 ⟨by decide, ⟨by decide, by decide⟩⟩ ?_
          refine x_goto (t := 40) (by decide) dX10_rangeError_36 ?_
          refine x_iret dX10_rangeError_40 rfl ?_
          exact k3 (by omega)
        · skip
          refine x_iload_n (p2 := 28) rfl dX10_rangeError_27 rfl ?_
          refine x_aload_n (p2 := 29) rfl dX10_rangeError_28 rfl ?_
          refine x_iconst (p2 := 30) rfl dX10_rangeError_29 ⟨by decide, by decide⟩ ?_
          refine x_iald (p2 := 31) rfl dX10_rangeError_30 hR (by omega) (by omega) ?_
          rw [hr.h]
          refine x_ic_lt (p2 := 34) (t := 39) (by decide) rfl dX10_rangeError_31 (fun hc31 => ?_) (fun hc31 => ?_)
          · skip
            refine x_iconst (p2 := 40) rfl dX10_rangeError_39 ⟨by decide, by decide⟩ ?_
            refine x_iret dX10_rangeError_40 rfl ?_
            exact k0 (by omega)
          · skip
            refine x_bipush (p2 := 36) rfl dX10_rangeError_34 ⟨by decide, ⟨by decide, by decide⟩⟩ ?_
            refine x_goto (t := 40) (by decide) dX10_rangeError_36 ?_
            refine x_iret dX10_rangeError_40 rfl ?_
            exact k3 (by omega)
    · skip
      refine x_if_ne (p2 := 16) (t := 18) (by decide) rfl dX10_rangeError_13 (fun hc => absurd hc (by decide)) (fun _ => ?_)
      refine x_iconst (p2 := 17) rfl dX10_rangeError_16 ⟨by decide, by decide⟩ ?_
      refine x_iret dX10_rangeError_17 rfl ?_
      exact k1 (by omega)
  · skip
    refine x_if_eq (p2 := 8) (t := 16) (by decide) rfl dX10_rangeError_5 (fun _ => ?_) (fun hc => absurd hc (by decide))
    refine x_iconst (p2 := 17) rfl dX10_rangeError_16 ⟨by decide, by decide⟩ ?_
    refine x_iret dX10_rangeError_17 rfl ?_
    exact k1 (by omega)
set_option maxHeartbeats 4000000 in
theorem t_X10_swapIn {R : Nat} (hR : σ[R]? = some (100, 50)) {n : Int} {v : vV} (h8 : n ≤ 8) (hr : smr n v (M R)) (hx2 : ∀ b, 0 ≤ b → b < n → v.1 b ≤ 2) {i j : Int} (hi : 0 < i ∧ i < n) (hj : 0 < j ∧ j < n) (hq : ∀ M2, (∀ c, c ≠ R → M2 c = M c) → smr n (vsw i j v) (M2 R) → Q none (σ, ρ, M2)) : xX G mX10_swapIn 0 0 0 [(0, xP R), (1, xI i), (2, xI j)] [] (σ, ρ, M) Q := by
  refine x_aload_n (p2 := 1) rfl dX10_swapIn_0 rfl ?_
  refine x_iconst (p2 := 2) rfl dX10_swapIn_1 ⟨by decide, by decide⟩ ?_
  refine x_iload_n (p2 := 3) rfl dX10_swapIn_2 rfl ?_
  refine x_iadd (p2 := 4) rfl dX10_swapIn_3 ⟨by omega, by omega⟩ ?_
  refine x_iald (p2 := 5) rfl dX10_swapIn_4 hR (by omega) (by omega) ?_
  refine x_istore_n (p2 := 6) (i := 3) (L2 := [(0, _), (1, _), (2, _), (3, _)]) rfl dX10_swapIn_5 rfl ⟨rfl, Nat.le_of_ble_eq_true rfl⟩ rfl ?_
  refine x_aload_n (p2 := 7) rfl dX10_swapIn_6 rfl ?_
  refine x_iconst (p2 := 8) rfl dX10_swapIn_7 ⟨by decide, by decide⟩ ?_
  refine x_iload_n (p2 := 9) rfl dX10_swapIn_8 rfl ?_
  refine x_iadd (p2 := 10) rfl dX10_swapIn_9 ⟨by omega, by omega⟩ ?_
  refine x_aload_n (p2 := 11) rfl dX10_swapIn_10 rfl ?_
  refine x_iconst (p2 := 12) rfl dX10_swapIn_11 ⟨by decide, by decide⟩ ?_
  refine x_iload_n (p2 := 13) rfl dX10_swapIn_12 rfl ?_
  refine x_iadd (p2 := 14) rfl dX10_swapIn_13 ⟨by omega, by omega⟩ ?_
  refine x_iald (p2 := 15) rfl dX10_swapIn_14 hR (by omega) (by omega) ?_
  refine x_iast (p2 := 16) rfl dX10_swapIn_15 hR (by omega) (by omega) ?_
  refine x_aload_n (p2 := 17) rfl dX10_swapIn_16 rfl ?_
  refine x_iconst (p2 := 18) rfl dX10_swapIn_17 ⟨by decide, by decide⟩ ?_
  refine x_iload_n (p2 := 19) rfl dX10_swapIn_18 rfl ?_
  refine x_iadd (p2 := 20) rfl dX10_swapIn_19 ⟨by omega, by omega⟩ ?_
  refine x_iload_n (p2 := 21) rfl dX10_swapIn_20 rfl ?_
  refine x_iast (p2 := 22) rfl dX10_swapIn_21 hR (by omega) (by omega) ?_
  refine x_vret dX10_swapIn_22 rfl ?_
  refine hq _ (fun c z => by rw [xu_c z, xu_c z]) (smr_o hr h8 (fun x z => ?_) (fun x x0 x1 => ?_) hx2)
  · rw [xu_j (by omega), xu_j (by omega)]
  · unfold upf
    by_cases h1 : x = j
    · rw [if_pos h1, h1, xu_s, hr.o (by omega) (by omega)]
    · rw [if_neg h1, xu_j (by omega)]
      by_cases h2 : x = i
      · rw [if_pos h2, h2, xu_s, hr.o (by omega) (by omega)]
      · rw [if_neg h2, xu_j (by omega), hr.o x0 x1]
set_option maxHeartbeats 4000000 in
theorem t_ri_l {R : Nat} (hR : σ[R]? = some (100, 50)) {f l u : Int} {r0 od : Int → Int} (hl : l < 8) (hf : 0 ≤ f) (hr0 : ∀ i, 0 ≤ i → i ≤ l → r0 (2 + i) = od i) (hq : ∀ M2, (∀ c, c ≠ R → M2 c = M c) → (∀ x, x < 2 + f ∨ 2 + l < x → M2 R x = r0 x) → (∀ x, f ≤ x → x < l → M2 R (2 + x) = od (x + 1)) → M2 R (2 + l) = u → Q none (σ, ρ, M2)) : ∀ (m : Nat) (i : Int) (M1 : Nat → Int → Int), f ≤ i → i + m = l → (∀ c, c ≠ R → M1 c = M c) → (∀ x, x < 2 + f ∨ 2 + i ≤ x → M1 R x = r0 x) → (∀ x, f ≤ x → x < i → M1 R (2 + x) = od (x + 1)) → xX G mX10_rotateIn 0 0 9 [(0, xP R), (1, xI f), (2, xI l), (3, xI u), (4, xI i)] [] (σ, ρ, M1) Q := by
  intro m
  induction m with
  | zero =>
    intro i M1 h0 hm g1 g2 g3
    refine x_iload (p2 := 11) rfl dX10_rotateIn_9 rfl ?_
    refine x_iload_n (p2 := 12) rfl dX10_rotateIn_11 rfl ?_
    refine x_ic_ge (p2 := 15) (t := 35) (by decide) rfl dX10_rotateIn_12 (fun hc12 => ?_) (fun hc12 => absurd hc12 (by omega))
    refine x_aload_n (p2 := 36) rfl dX10_rotateIn_35 rfl ?_
    refine x_iconst (p2 := 37) rfl dX10_rotateIn_36 ⟨by decide, by decide⟩ ?_
    refine x_iload_n (p2 := 38) rfl dX10_rotateIn_37 rfl ?_
    refine x_iadd (p2 := 39) rfl dX10_rotateIn_38 ⟨by omega, by omega⟩ ?_
    refine x_iload_n (p2 := 40) rfl dX10_rotateIn_39 rfl ?_
    refine x_iast (p2 := 41) rfl dX10_rotateIn_40 hR (by omega) (by omega) ?_
    refine x_vret dX10_rotateIn_41 rfl ?_
    refine hq _ (fun c z => by rw [xu_c z]; exact g1 c z) (fun x z => ?_) (fun x a b => ?_) (by rw [xu_s])
    · rw [xu_j (by omega)]; exact g2 x (by omega)
    · rw [xu_j (by omega)]; exact g3 x a (by omega)
  | succ m ih =>
    intro i M1 h0 hm g1 g2 g3
    refine x_iload (p2 := 11) rfl dX10_rotateIn_9 rfl ?_
    refine x_iload_n (p2 := 12) rfl dX10_rotateIn_11 rfl ?_
    refine x_ic_ge (p2 := 15) (t := 35) (by decide) rfl dX10_rotateIn_12 (fun hc12 => ?_) (fun hc12 => ?_)
    · exact absurd hc12 (by omega)
    refine x_aload_n (p2 := 16) rfl dX10_rotateIn_15 rfl ?_
    refine x_iconst (p2 := 17) rfl dX10_rotateIn_16 ⟨by decide, by decide⟩ ?_
    refine x_iload (p2 := 19) rfl dX10_rotateIn_17 rfl ?_
    refine x_iadd (p2 := 20) rfl dX10_rotateIn_19 ⟨by omega, by omega⟩ ?_
    refine x_aload_n (p2 := 21) rfl dX10_rotateIn_20 rfl ?_
    refine x_iconst (p2 := 22) rfl dX10_rotateIn_21 ⟨by decide, by decide⟩ ?_
    refine x_iload (p2 := 24) rfl dX10_rotateIn_22 rfl ?_
    refine x_iadd (p2 := 25) rfl dX10_rotateIn_24 ⟨by omega, by omega⟩ ?_
    refine x_iconst (p2 := 26) rfl dX10_rotateIn_25 ⟨by decide, by decide⟩ ?_
    refine x_iadd (p2 := 27) rfl dX10_rotateIn_26 ⟨by omega, by omega⟩ ?_
    refine x_iald (p2 := 28) rfl dX10_rotateIn_27 hR (by omega) (by omega) ?_
    rw [g2 (2 + i + 1) (by omega), show 2 + i + 1 = 2 + (i + 1) by omega, hr0 (i + 1) (by omega) (by omega)]
    refine x_iast (p2 := 29) rfl dX10_rotateIn_28 hR (by omega) (by omega) ?_
    refine x_iinc (p2 := 32) (L2 := [(0, _), (1, _), (2, _), (3, _), (4, _)]) rfl dX10_rotateIn_29 rfl ⟨by omega, by omega⟩ ⟨rfl, Nat.le_of_ble_eq_true rfl⟩ rfl ?_
    refine x_goto (t := 9) (by decide) dX10_rotateIn_32 ?_
    refine x_pick (L2 := [(0, _), (1, _), (2, _), (3, _), (4, _)]) [0, 1, 2, 3, 4] rfl ?_
    refine ih _ _ (by omega) (by omega) (fun c z => by rw [xu_c z]; exact g1 c z) (fun x z => ?_) (fun x a b => ?_)
    · rw [xu_j (by omega)]; exact g2 x (by omega)
    · by_cases hx : x = i
      · rw [hx, xu_s]
      · rw [xu_j (by omega)]; exact g3 x a (by omega)
set_option maxHeartbeats 4000000 in
theorem t_X10_rotateIn {R : Nat} (hR : σ[R]? = some (100, 50)) {n : Int} {v : vV} (h8 : n ≤ 8) (hr : smr n v (M R)) (hx2 : ∀ b, 0 ≤ b → b < n → v.1 b ≤ 2) {f l : Int} (hf : 0 < f ∧ f ≤ l) (hl : l < n) (hq : ∀ M2, (∀ c, c ≠ R → M2 c = M c) → smr n (vtn f l v) (M2 R) → Q none (σ, ρ, M2)) : xX G mX10_rotateIn 0 0 0 [(0, xP R), (1, xI f), (2, xI l)] [] (σ, ρ, M) Q := by
  refine x_aload_n (p2 := 1) rfl dX10_rotateIn_0 rfl ?_
  refine x_iconst (p2 := 2) rfl dX10_rotateIn_1 ⟨by decide, by decide⟩ ?_
  refine x_iload_n (p2 := 3) rfl dX10_rotateIn_2 rfl ?_
  refine x_iadd (p2 := 4) rfl dX10_rotateIn_3 ⟨by omega, by omega⟩ ?_
  refine x_iald (p2 := 5) rfl dX10_rotateIn_4 hR (by omega) (by omega) ?_
  rw [hr.o (by omega) (by omega)]
  refine x_istore_n (p2 := 6) (i := 3) (L2 := [(0, _), (1, _), (2, _), (3, _)]) rfl dX10_rotateIn_5 rfl ⟨rfl, Nat.le_of_ble_eq_true rfl⟩ rfl ?_
  refine x_iload_n (p2 := 7) rfl dX10_rotateIn_6 rfl ?_
  refine x_istore (p2 := 9) (i := 4) (L2 := [(0, _), (1, _), (2, _), (3, _), (4, _)]) rfl dX10_rotateIn_7 ⟨rfl, Nat.le_of_ble_eq_true rfl⟩ rfl ?_
  refine x_pick (L2 := [(0, _), (1, _), (2, _), (3, _), (4, _)]) [0, 1, 2, 3, 4] rfl ?_
  refine t_ri_l (r0 := M R) (od := v.2.2.2.1) hR (by omega) (by omega) (fun i a b => hr.o a (by omega)) (fun M2 q1 q2 q3 q4 => ?_) (l - f).toNat f M (by omega) (by omega) (fun _ _ => rfl) (fun _ _ => rfl) (fun x a b => by omega)
  refine hq M2 q1 (smr_o hr h8 (fun x z => q2 x (by omega)) (fun x x0 x1 => ?_) hx2)
  rw [trn_at hf.2]
  by_cases h1 : x = l
  · rw [if_pos h1, h1]; exact q4
  · rw [if_neg h1]
    by_cases h2 : f ≤ x ∧ x < l
    · rw [if_pos h2]; exact q3 x h2.1 h2.2
    · rw [if_neg h2, q2 _ (by omega)]; exact hr.o x0 x1
/-- the diary has one page more -/
def nt (M M2 : Nat → Int → Int) (D : Nat) : Prop := (∀ c, c ≠ D → c ≠ D + 6 → M2 c = M c) ∧ (∀ k, 0 ≤ k → k < 50 → M2 (D + 6) (50 * M D 10 + k) = M (D + 3) k) ∧ (∀ j, j < 50 * M D 10 ∨ 50 * M D 10 + 50 ≤ j → M2 (D + 6) j = M (D + 6) j) ∧ M2 D 10 = (M D 10 + 1) % 14 ∧ M2 D 9 = (if M D 9 < 14 then M D 9 + 1 else 14) ∧ ∀ f, f ≠ 9 → f ≠ 10 → M2 D f = M D f
set_option maxHeartbeats 4000000 in
theorem t_nt_l {D : Nat} (hD : isMd σ ρ D) (hx : 0 ≤ M D 10 ∧ M D 10 < 14) (hq : ∀ M1, (∀ c, c ≠ D + 6 → M1 c = M c) → (∀ x, 0 ≤ x → x < 50 → M1 (D + 6) (50 * M D 10 + x) = M (D + 3) x) → (∀ j, j < 50 * M D 10 ∨ 50 * M D 10 + 50 ≤ j → M1 (D + 6) j = M (D + 6) j) → xX G mX10_note 0 0 34 [(0, xP D)] [] (σ, ρ, M1) Q) : ∀ (m : Nat) (k : Int) (M1 : Nat → Int → Int), 0 ≤ k → k + m = 50 → (∀ c, c ≠ D + 6 → M1 c = M c) → (∀ x, 0 ≤ x → x < k → M1 (D + 6) (50 * M D 10 + x) = M (D + 3) x) → (∀ j, j < 50 * M D 10 ∨ 50 * M D 10 + 50 ≤ j → M1 (D + 6) j = M (D + 6) j) → xX G mX10_note 0 0 2 [(0, xP D), (1, xI k)] [] (σ, ρ, M1) Q := by
  intro m
  induction m with
  | zero =>
    intro k M1 h0 hm g1 g2 g3
    refine x_iload_n (p2 := 3) rfl dX10_note_2 rfl ?_
    refine x_bipush (p2 := 5) rfl dX10_note_3 ⟨by decide, ⟨by decide, by decide⟩⟩ ?_
    refine x_ic_ge (p2 := 8) (t := 34) (by decide) rfl dX10_note_5 (fun hc5 => ?_) (fun hc5 => absurd hc5 (by omega))
    refine x_pick (L2 := [(0, _)]) [0] rfl ?_
    exact hq M1 g1 (fun x a b => g2 x a (by omega)) g3
  | succ m ih =>
    intro k M1 h0 hm g1 g2 g3
    refine x_iload_n (p2 := 3) rfl dX10_note_2 rfl ?_
    refine x_bipush (p2 := 5) rfl dX10_note_3 ⟨by decide, ⟨by decide, by decide⟩⟩ ?_
    refine x_ic_ge (p2 := 8) (t := 34) (by decide) rfl dX10_note_5 (fun hc5 => ?_) (fun hc5 => ?_)
    · exact absurd hc5 (by omega)
    refine x_aload_n (p2 := 9) rfl dX10_note_8 rfl ?_
    refine x_getr (p2 := 12) (kz := 8) rfl dX10_note_9 f_10_25 rfl rfl hD.sh hD.r8 ?_
    refine x_bipush (p2 := 14) rfl dX10_note_12 ⟨by decide, ⟨by decide, by decide⟩⟩ ?_
    refine x_aload_n (p2 := 15) rfl dX10_note_14 rfl ?_
    refine x_geti (p2 := 18) (kz := 10) rfl dX10_note_15 f_10_171 rfl rfl hD.sh ?_
    rw [g1 D (by omega)]
    refine x_imul (p2 := 19) rfl dX10_note_18 ⟨by omega, by omega⟩ ?_
    refine x_iload_n (p2 := 20) rfl dX10_note_19 rfl ?_
    refine x_iadd (p2 := 21) rfl dX10_note_20 ⟨by omega, by omega⟩ ?_
    refine x_aload_n (p2 := 22) rfl dX10_note_21 rfl ?_
    refine x_getr (p2 := 25) (kz := 5) rfl dX10_note_22 f_10_16 rfl rfl hD.sh hD.r5 ?_
    refine x_iload_n (p2 := 26) rfl dX10_note_25 rfl ?_
    refine x_iald (p2 := 27) rfl dX10_note_26 hD.a5 (by omega) (by omega) ?_
    rw [g1 (D + 3) (by omega)]
    refine x_iast (p2 := 28) rfl dX10_note_27 hD.a8 (by omega) (by omega) ?_
    refine x_iinc (p2 := 31) (L2 := [(0, _), (1, _)]) rfl dX10_note_28 rfl ⟨by omega, by omega⟩ ⟨rfl, Nat.le_of_ble_eq_true rfl⟩ rfl ?_
    refine x_goto (t := 2) (by decide) dX10_note_31 ?_
    refine x_pick (L2 := [(0, _), (1, _)]) [0, 1] rfl ?_
    refine ih _ _ (by omega) (by omega) (fun c z => by rw [xu_c z]; exact g1 c z) (fun x a b => ?_) (fun j z => ?_)
    · by_cases hx2 : x = k
      · rw [hx2, xu_s]
      · rw [xu_j (by omega)]; exact g2 x a (by omega)
    · rw [xu_j (by omega)]; exact g3 j z
set_option maxHeartbeats 4000000 in
theorem t_X10_note {D : Nat} (hD : isMd σ ρ D) (hx : 0 ≤ M D 10 ∧ M D 10 < 14) (ha : 0 ≤ M D 9 ∧ M D 9 ≤ 14) (hq : ∀ M2, nt M M2 D → Q none (σ, ρ, M2)) : xX G mX10_note 0 0 0 [(0, xP D)] [] (σ, ρ, M) Q := by
  refine x_iconst (p2 := 1) rfl dX10_note_0 ⟨by decide, by decide⟩ ?_
  refine x_istore_n (p2 := 2) (i := 1) (L2 := [(0, _), (1, _)]) rfl dX10_note_1 rfl ⟨rfl, Nat.le_of_ble_eq_true rfl⟩ rfl ?_
  refine x_pick (L2 := [(0, _), (1, _)]) [0, 1] rfl ?_
  refine t_nt_l hD hx (fun M1 g1 g2 g3 => ?_) 50 0 M (by omega) (by omega) (fun _ _ => rfl) (fun x a b => by omega) (fun _ _ => rfl)
  have gD := g1 D (by omega)
  refine x_aload_n (p2 := 35) rfl dX10_note_34 rfl ?_
  refine x_aload_n (p2 := 36) rfl dX10_note_35 rfl ?_
  refine x_geti (p2 := 39) (kz := 10) rfl dX10_note_36 f_10_171 rfl rfl hD.sh ?_
  rw [gD]
  refine x_iconst (p2 := 40) rfl dX10_note_39 ⟨by decide, by decide⟩ ?_
  refine x_iadd (p2 := 41) rfl dX10_note_40 ⟨by omega, by omega⟩ ?_
  refine x_bipush (p2 := 43) rfl dX10_note_41 ⟨by decide, ⟨by decide, by decide⟩⟩ ?_
  refine x_irem (p2 := 44) rfl dX10_note_43 (by omega) (by omega) ?_
  refine x_puti (p2 := 47) (kz := 10) rfl dX10_note_44 f_10_171 rfl rfl rfl hD.sh ?_
  refine x_aload_n (p2 := 48) rfl dX10_note_47 rfl ?_
  refine x_aload_n (p2 := 49) rfl dX10_note_48 rfl ?_
  refine x_geti (p2 := 52) (kz := 9) rfl dX10_note_49 f_10_104 rfl rfl hD.sh ?_
  rw [xu_j (by omega), gD]
  refine x_bipush (p2 := 54) rfl dX10_note_52 ⟨by decide, ⟨by decide, by decide⟩⟩ ?_
  refine x_ic_ge (p2 := 57) (t := 66) (by decide) rfl dX10_note_54 (fun hc54 => ?_) (fun hc54 => ?_)
  · skip
    refine x_bipush (p2 := 68) rfl dX10_note_66 ⟨by decide, ⟨by decide, by decide⟩⟩ ?_
    refine x_puti (p2 := 71) (kz := 9) rfl dX10_note_68 f_10_104 rfl rfl rfl hD.sh ?_
    refine x_vret dX10_note_71 rfl ?_
    refine hq _ ⟨fun c z1 z2 => ?_, fun k a b => ?_, fun j z => ?_, ?_, ?_, fun f z1 z2 => ?_⟩
    · rw [xu_c z1, xu_c z1]; exact g1 c z2
    · rw [xu_c (by omega), xu_c (by omega)]; exact g2 k a b
    · rw [xu_c (by omega), xu_c (by omega)]; exact g3 j z
    · rw [xu_j (by omega), xu_s]
    · first
        | rw [xu_s, if_pos (show M D 9 < 14 by omega)]
        | rw [xu_s, if_neg (show ¬ M D 9 < 14 by omega)]
    · rw [xu_j z1, xu_j z2, gD]
  · skip
    refine x_aload_n (p2 := 58) rfl dX10_note_57 rfl ?_
    refine x_geti (p2 := 61) (kz := 9) rfl dX10_note_58 f_10_104 rfl rfl hD.sh ?_
    rw [xu_j (by omega), gD]
    refine x_iconst (p2 := 62) rfl dX10_note_61 ⟨by decide, by decide⟩ ?_
    refine x_iadd (p2 := 63) rfl dX10_note_62 ⟨by omega, by omega⟩ ?_
    refine x_goto (t := 68) (by decide) dX10_note_63 ?_
    refine x_puti (p2 := 71) (kz := 9) rfl dX10_note_68 f_10_104 rfl rfl rfl hD.sh ?_
    refine x_vret dX10_note_71 rfl ?_
    refine hq _ ⟨fun c z1 z2 => ?_, fun k a b => ?_, fun j z => ?_, ?_, ?_, fun f z1 z2 => ?_⟩
    · rw [xu_c z1, xu_c z1]; exact g1 c z2
    · rw [xu_c (by omega), xu_c (by omega)]; exact g2 k a b
    · rw [xu_c (by omega), xu_c (by omega)]; exact g3 j z
    · rw [xu_j (by omega), xu_s]
    · first
        | rw [xu_s, if_pos (show M D 9 < 14 by omega)]
        | rw [xu_s, if_neg (show ¬ M D 9 < 14 by omega)]
    · rw [xu_j z1, xu_j z2, gD]
end XMG
