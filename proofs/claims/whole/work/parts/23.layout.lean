section XBL
variable {G : xG} {σ : List (Nat × Nat)} {ρ : Nat → Int → Option Nat} {M : Nat → Int → Int} {Q : Option xV → xH → Prop}
/-- BlockLayout at B, and all that it holds -/
def isBL (σ : List (Nat × Nat)) (ρ : Nat → Int → Option Nat) (B F S T V Z H X C P : Nat) : Prop := (σ[B]? = some (6, xN 6)) ∧ (ρ B 0 = some F) ∧ (ρ B 1 = some S) ∧ (ρ B 2 = some T) ∧ (ρ B 3 = some V) ∧ (ρ B 4 = some Z) ∧ (ρ B 5 = some H) ∧ (ρ B 6 = some X) ∧ (ρ B 7 = some C) ∧ (ρ B 8 = some P) ∧ (isSt σ ρ S F) ∧ (isSt σ ρ T F) ∧ (σ[V]? = some (102, 2)) ∧ (∀ i, 0 ≤ i → i < 2 → ρ V i = some (V + 1 + 5 * Int.toNat i) ∧ isSt σ ρ (V + 1 + 5 * Int.toNat i) F) ∧ (σ[Z]? = some (101, 2)) ∧ (isHi σ ρ H F) ∧ (isTx σ ρ X) ∧ (isCh σ ρ C) ∧ (isOp σ ρ P) ∧ (B < F ∧ F + 1 < S ∧ S + 4 < T ∧ T + 4 < V ∧ V + 10 < Z ∧ Z < H ∧ H + 71 < X ∧ X + 8 < C ∧ C + 3 < P)
theorem isBL.sh {B F S T V Z H X C P : Nat} (h : isBL σ ρ B F S T V Z H X C P) : σ[B]? = some (6, xN 6) := h.1
theorem isBL.r0 {B F S T V Z H X C P : Nat} (h : isBL σ ρ B F S T V Z H X C P) : ρ B 0 = some F := h.2.1
theorem isBL.r1 {B F S T V Z H X C P : Nat} (h : isBL σ ρ B F S T V Z H X C P) : ρ B 1 = some S := h.2.2.1
theorem isBL.r2 {B F S T V Z H X C P : Nat} (h : isBL σ ρ B F S T V Z H X C P) : ρ B 2 = some T := h.2.2.2.1
theorem isBL.r3 {B F S T V Z H X C P : Nat} (h : isBL σ ρ B F S T V Z H X C P) : ρ B 3 = some V := h.2.2.2.2.1
theorem isBL.r4 {B F S T V Z H X C P : Nat} (h : isBL σ ρ B F S T V Z H X C P) : ρ B 4 = some Z := h.2.2.2.2.2.1
theorem isBL.r5 {B F S T V Z H X C P : Nat} (h : isBL σ ρ B F S T V Z H X C P) : ρ B 5 = some H := h.2.2.2.2.2.2.1
theorem isBL.r6 {B F S T V Z H X C P : Nat} (h : isBL σ ρ B F S T V Z H X C P) : ρ B 6 = some X := h.2.2.2.2.2.2.2.1
theorem isBL.r7 {B F S T V Z H X C P : Nat} (h : isBL σ ρ B F S T V Z H X C P) : ρ B 7 = some C := h.2.2.2.2.2.2.2.2.1
theorem isBL.r8 {B F S T V Z H X C P : Nat} (h : isBL σ ρ B F S T V Z H X C P) : ρ B 8 = some P := h.2.2.2.2.2.2.2.2.2.1
theorem isBL.s {B F S T V Z H X C P : Nat} (h : isBL σ ρ B F S T V Z H X C P) : isSt σ ρ S F := h.2.2.2.2.2.2.2.2.2.2.1
theorem isBL.t {B F S T V Z H X C P : Nat} (h : isBL σ ρ B F S T V Z H X C P) : isSt σ ρ T F := h.2.2.2.2.2.2.2.2.2.2.2.1
theorem isBL.va {B F S T V Z H X C P : Nat} (h : isBL σ ρ B F S T V Z H X C P) : σ[V]? = some (102, 2) := h.2.2.2.2.2.2.2.2.2.2.2.2.1
theorem isBL.vs {B F S T V Z H X C P : Nat} (h : isBL σ ρ B F S T V Z H X C P) : ∀ i, 0 ≤ i → i < 2 → ρ V i = some (V + 1 + 5 * Int.toNat i) ∧ isSt σ ρ (V + 1 + 5 * Int.toNat i) F := h.2.2.2.2.2.2.2.2.2.2.2.2.2.1
theorem isBL.za {B F S T V Z H X C P : Nat} (h : isBL σ ρ B F S T V Z H X C P) : σ[Z]? = some (101, 2) := h.2.2.2.2.2.2.2.2.2.2.2.2.2.2.1
theorem isBL.h {B F S T V Z H X C P : Nat} (h : isBL σ ρ B F S T V Z H X C P) : isHi σ ρ H F := h.2.2.2.2.2.2.2.2.2.2.2.2.2.2.2.1
theorem isBL.x {B F S T V Z H X C P : Nat} (h : isBL σ ρ B F S T V Z H X C P) : isTx σ ρ X := h.2.2.2.2.2.2.2.2.2.2.2.2.2.2.2.2.1
theorem isBL.c {B F S T V Z H X C P : Nat} (h : isBL σ ρ B F S T V Z H X C P) : isCh σ ρ C := h.2.2.2.2.2.2.2.2.2.2.2.2.2.2.2.2.2.1
theorem isBL.p {B F S T V Z H X C P : Nat} (h : isBL σ ρ B F S T V Z H X C P) : isOp σ ρ P := h.2.2.2.2.2.2.2.2.2.2.2.2.2.2.2.2.2.2.1
theorem isBL.lt {B F S T V Z H X C P : Nat} (h : isBL σ ρ B F S T V Z H X C P) : B < F ∧ F + 1 < S ∧ S + 4 < T ∧ T + 4 < V ∧ V + 10 < Z ∧ Z < H ∧ H + 71 < X ∧ X + 8 < C ∧ C + 3 < P := h.2.2.2.2.2.2.2.2.2.2.2.2.2.2.2.2.2.2.2
/-- what holds of the class between calls -/
def clI (M : Nat → Int → Int) (F S V Z H X : Nat) : Prop := wfV (M F 0) (M F 1) (M (F + 1)) (vw M S) ∧ (0 ≤ M H 1 ∧ M H 1 < 14) ∧ (0 ≤ M H 2 ∧ M H 2 ≤ 14) ∧ (∀ j, 0 ≤ j → j < M H 2 → wfV (M F 0) (M F 1) (M (F + 1)) (vw M (rg H ((M H 1 + j) % 14)))) ∧ (∀ i, 0 ≤ i → i < 2 → M Z i = 0 ∨ (M Z i = 1 ∧ wfV (M F 0) (M F 1) (M (F + 1)) (vw M (V + 1 + 5 * Int.toNat i)))) ∧ txL M X
/-- nothing that counts has changed -/
def cq (M M2 : Nat → Int → Int) (T X C P : Nat) : Prop := (∀ c, c ≠ X → (c < T ∨ T + 4 < c) → (c < X ∨ X + 7 < c) → (c < C ∨ P + 2 < c) → M2 c = M c) ∧ M2 X 3 = M X 3
theorem cq.rf {T X C P : Nat} : cq M M T X C P := ⟨fun _ _ _ _ _ => rfl, rfl⟩
/-- an action: the layout is v now, and the one before is remembered -/
def ca (M M2 : Nat → Int → Int) (S H C P : Nat) (v : vV) : Prop := (∀ c, (c < S ∨ S + 4 < c) → c ≠ H → (c < rg H ((M H 1 + M H 2) % 14) ∨ rg H ((M H 1 + M H 2) % 14) + 4 < c) → (c < C ∨ P + 2 < c) → M2 c = M c) ∧ sq M2 (rg H ((M H 1 + M H 2) % 14)) M S ∧ M2 H 1 = (if M H 2 = 14 then (M H 1 + 1) % 14 else M H 1) ∧ M2 H 2 = (if M H 2 = 14 then 14 else M H 2 + 1) ∧ vw M2 S = v
theorem vw_c {M1 M2 : Nat → Int → Int} {S : Nat} (h : ∀ c, S ≤ c → c ≤ S + 4 → M2 c = M1 c) : vw M2 S = vw M1 S := by
  unfold vw
  rw [h (S + 1) (by omega) (by omega), h (S + 2) (by omega) (by omega), h (S + 3) (by omega) (by omega), h (S + 4) (by omega) (by omega), h S (by omega) (by omega)]
set_option maxHeartbeats 4000000 in
theorem t_X9_append {B F S T V Z H X C P : Nat} (hB : isBL σ ρ B F S T V Z H X C P) (hI : clI M F S V Z H X) {x : Int} (k2 : ¬ (0 ≤ x ∧ x ≤ 255) → Q (some (xI (-2))) (σ, ρ, M)) (k4 : (0 ≤ x ∧ x ≤ 255) → M X 3 = 99 → Q (some (xI (-4))) (σ, ρ, M)) (k0 : (0 ≤ x ∧ x ≤ 255) → M X 3 < 99 → Q (some (xI (M X 3 + 1))) (σ, ρ, xu (xu M (X + 8) (M X 3) x) X 3 (M X 3 + 1))) : xX G mX9_append 0 0 0 [(0, xP B), (1, xI x)] [] (σ, ρ, M) Q := by
  have hl := hB.lt
  obtain ⟨hW, hho, hhh, hhs, hzs, htx⟩ := id hI
  have hG : wfG (M F 0) (M (S + 1)) (M (S + 2)) (M (S + 3)) := hW.1
  have hO : wfO (M F 0) (M (S + 4)) (M S 5) := hW.2.1
  have he := hW.2.2.2.1
  have h8 := hG.2.1
  have hrg : H + 2 ≤ rg H ((M H 1 + M H 2) % 14) ∧ rg H ((M H 1 + M H 2) % 14) + 4 ≤ H + 71 := by unfold rg; omega
  refine x_aload_n (p2 := 1) rfl dX9_append_0 rfl ?_
  refine x_getr (p2 := 4) (kz := 6) rfl dX9_append_1 f_9_46 rfl rfl hB.sh hB.r6 ?_
  refine x_iload_n (p2 := 5) rfl dX9_append_4 rfl ?_
  refine x_v1 (p2 := 8) rfl dX9_append_5 l_9_64 ok_X6_addSign rfl hB.x.sh rfl ?_
  refine t_X6_addSign hB.x htx (fun hb => ?_) (fun hb hb2 => ?_) (fun hb hb2 => ?_)
  · skip
    refine x_iret dX9_append_8 rfl ?_
    exact k2 hb
  · skip
    refine x_iret dX9_append_8 rfl ?_
    exact k4 hb hb2
  · skip
    refine x_iret dX9_append_8 rfl ?_
    exact k0 hb hb2
set_option maxHeartbeats 4000000 in
theorem t_X9_clearText {B F S T V Z H X C P : Nat} (hB : isBL σ ρ B F S T V Z H X C P) (hI : clI M F S V Z H X) (hq : Q (some (xI (M X 3))) (σ, ρ, xu M X 3 0)) : xX G mX9_clearText 0 0 0 [(0, xP B)] [] (σ, ρ, M) Q := by
  have hl := hB.lt
  obtain ⟨hW, hho, hhh, hhs, hzs, htx⟩ := id hI
  have hG : wfG (M F 0) (M (S + 1)) (M (S + 2)) (M (S + 3)) := hW.1
  have hO : wfO (M F 0) (M (S + 4)) (M S 5) := hW.2.1
  have he := hW.2.2.2.1
  have h8 := hG.2.1
  have hrg : H + 2 ≤ rg H ((M H 1 + M H 2) % 14) ∧ rg H ((M H 1 + M H 2) % 14) + 4 ≤ H + 71 := by unfold rg; omega
  refine x_aload_n (p2 := 1) rfl dX9_clearText_0 rfl ?_
  refine x_getr (p2 := 4) (kz := 6) rfl dX9_clearText_1 f_9_46 rfl rfl hB.sh hB.r6 ?_
  refine x_v0 (p2 := 7) rfl dX9_clearText_4 l_9_68 ok_X6_dropSigns rfl hB.x.sh rfl ?_
  refine t_X6_dropSigns hB.x ?_
  refine x_iret dX9_clearText_7 rfl ?_
  exact hq
set_option maxHeartbeats 4000000 in
theorem t_X9_errorPosition {B F S T V Z H X C P : Nat} (hB : isBL σ ρ B F S T V Z H X C P) (hI : clI M F S V Z H X) (hq : ∀ M2, cq M M2 T X C P → Q (some (xI (erp (M (X + 8)) (M X 3)))) (σ, ρ, M2)) : xX G mX9_errorPosition 0 0 0 [(0, xP B)] [] (σ, ρ, M) Q := by
  have hl := hB.lt
  obtain ⟨hW, hho, hhh, hhs, hzs, htx⟩ := id hI
  have hG : wfG (M F 0) (M (S + 1)) (M (S + 2)) (M (S + 3)) := hW.1
  have hO : wfO (M F 0) (M (S + 4)) (M S 5) := hW.2.1
  have he := hW.2.2.2.1
  have h8 := hG.2.1
  have hrg : H + 2 ≤ rg H ((M H 1 + M H 2) % 14) ∧ rg H ((M H 1 + M H 2) % 14) + 4 ≤ H + 71 := by unfold rg; omega
  refine x_aload_n (p2 := 1) rfl dX9_errorPosition_0 rfl ?_
  refine x_getr (p2 := 4) (kz := 6) rfl dX9_errorPosition_1 f_9_46 rfl rfl hB.sh hB.r6 ?_
  refine x_v0 (p2 := 7) rfl dX9_errorPosition_4 l_9_72 ok_X6_read rfl hB.x.sh rfl ?_
  refine t_X6_read hB.x htx (fun hb M2 hf q1 q2 q3 q4 q5 q6 => ?_) (fun hb M2 hf => ?_)
  · skip
    refine x_iret dX9_errorPosition_7 rfl ?_
    unfold erp at hq
    rw [if_pos hb] at hq
    exact hq M2 ⟨fun c z1 z2 z3 z4 => hf.1 c z3, hf.2⟩
  · skip
    refine x_iret dX9_errorPosition_7 rfl ?_
    unfold erp at hq
    rw [if_neg hb] at hq
    exact hq M2 ⟨fun c z1 z2 z3 z4 => hf.1 c z3, hf.2⟩
set_option maxHeartbeats 4000000 in
theorem t_X9_blockCount {B F S T V Z H X C P : Nat} (hB : isBL σ ρ B F S T V Z H X C P) (hI : clI M F S V Z H X) (hq : Q (some (xI (M F 0))) (σ, ρ, M)) : xX G mX9_blockCount 0 0 0 [(0, xP B)] [] (σ, ρ, M) Q := by
  have hl := hB.lt
  obtain ⟨hW, hho, hhh, hhs, hzs, htx⟩ := id hI
  have hG : wfG (M F 0) (M (S + 1)) (M (S + 2)) (M (S + 3)) := hW.1
  have hO : wfO (M F 0) (M (S + 4)) (M S 5) := hW.2.1
  have he := hW.2.2.2.1
  have h8 := hG.2.1
  have hrg : H + 2 ≤ rg H ((M H 1 + M H 2) % 14) ∧ rg H ((M H 1 + M H 2) % 14) + 4 ≤ H + 71 := by unfold rg; omega
  refine x_aload_n (p2 := 1) rfl dX9_blockCount_0 rfl ?_
  refine x_getr (p2 := 4) (kz := 0) rfl dX9_blockCount_1 f_9_12 rfl rfl hB.sh hB.r0 ?_
  refine x_geti (p2 := 7) (kz := 0) rfl dX9_blockCount_4 f_9_90 rfl rfl hB.s.fr.sh ?_
  refine x_iret dX9_blockCount_7 rfl ?_
  exact hq
set_option maxHeartbeats 4000000 in
theorem t_X9_size {B F S T V Z H X C P : Nat} (hB : isBL σ ρ B F S T V Z H X C P) (hI : clI M F S V Z H X) {b : Int} (k1 : 0 ≤ b ∧ b < M F 0 → Q (some (xI (M (F + 1) b))) (σ, ρ, M)) (k0 : ¬ (0 ≤ b ∧ b < M F 0) → Q (some (xI (-1))) (σ, ρ, M)) : xX G mX9_size 0 0 0 [(0, xP B), (1, xI b)] [] (σ, ρ, M) Q := by
  have hl := hB.lt
  obtain ⟨hW, hho, hhh, hhs, hzs, htx⟩ := id hI
  have hG : wfG (M F 0) (M (S + 1)) (M (S + 2)) (M (S + 3)) := hW.1
  have hO : wfO (M F 0) (M (S + 4)) (M S 5) := hW.2.1
  have he := hW.2.2.2.1
  have h8 := hG.2.1
  have hrg : H + 2 ≤ rg H ((M H 1 + M H 2) % 14) ∧ rg H ((M H 1 + M H 2) % 14) + 4 ≤ H + 71 := by unfold rg; omega
  refine x_aload_n (p2 := 1) rfl dX9_size_0 rfl ?_
  refine x_getr (p2 := 4) (kz := 0) rfl dX9_size_1 f_9_12 rfl rfl hB.sh hB.r0 ?_
  refine x_iload_n (p2 := 5) rfl dX9_size_4 rfl ?_
  refine x_v1 (p2 := 8) rfl dX9_size_5 l_9_94 ok_X1_hasBlock rfl hB.s.fr.sh rfl ?_
  refine t_X1_hasBlock hB.s.fr (fun hb5 => ?_) (fun hb5 => ?_)
  · skip
    refine x_if_eq (p2 := 11) (t := 23) (by decide) rfl dX9_size_8 (fun hc => absurd hc (by decide)) (fun _ => ?_)
    refine x_aload_n (p2 := 12) rfl dX9_size_11 rfl ?_
    refine x_getr (p2 := 15) (kz := 0) rfl dX9_size_12 f_9_12 rfl rfl hB.sh hB.r0 ?_
    refine x_getr (p2 := 18) (kz := 2) rfl dX9_size_15 f_9_98 rfl rfl hB.s.fr.sh hB.s.fr.r2 ?_
    refine x_iload_n (p2 := 19) rfl dX9_size_18 rfl ?_
    refine x_iald (p2 := 20) rfl dX9_size_19 hB.s.fr.a2 (by omega) (by omega) ?_
    refine x_goto (t := 24) (by decide) dX9_size_20 ?_
    refine x_iret dX9_size_24 rfl ?_
    exact k1 (by omega)
  · skip
    refine x_if_eq (p2 := 11) (t := 23) (by decide) rfl dX9_size_8 (fun _ => ?_) (fun hc => absurd hc (by decide))
    refine x_iconst (p2 := 24) rfl dX9_size_23 ⟨by decide, by decide⟩ ?_
    refine x_iret dX9_size_24 rfl ?_
    exact k0 (by omega)
set_option maxHeartbeats 4000000 in
theorem t_X9_successor {B F S T V Z H X C P : Nat} (hB : isBL σ ρ B F S T V Z H X C P) (hI : clI M F S V Z H X) {b k : Int} (k1 : 0 ≤ b ∧ b < M F 0 ∧ 0 ≤ k ∧ k < M (S + 1) b → Q (some (xI (M (S + 2) (2 * b + k)))) (σ, ρ, M)) (k0 : ¬ (0 ≤ b ∧ b < M F 0 ∧ 0 ≤ k ∧ k < M (S + 1) b) → Q (some (xI (-1))) (σ, ρ, M)) : xX G mX9_successor 0 0 0 [(0, xP B), (1, xI b), (2, xI k)] [] (σ, ρ, M) Q := by
  have hl := hB.lt
  obtain ⟨hW, hho, hhh, hhs, hzs, htx⟩ := id hI
  have hG : wfG (M F 0) (M (S + 1)) (M (S + 2)) (M (S + 3)) := hW.1
  have hO : wfO (M F 0) (M (S + 4)) (M S 5) := hW.2.1
  have he := hW.2.2.2.1
  have h8 := hG.2.1
  have hrg : H + 2 ≤ rg H ((M H 1 + M H 2) % 14) ∧ rg H ((M H 1 + M H 2) % 14) + 4 ≤ H + 71 := by unfold rg; omega
  refine x_aload_n (p2 := 1) rfl dX9_successor_0 rfl ?_
  refine x_getr (p2 := 4) (kz := 1) rfl dX9_successor_1 f_9_21 rfl rfl hB.sh hB.r1 ?_
  refine x_iload_n (p2 := 5) rfl dX9_successor_4 rfl ?_
  refine x_iload_n (p2 := 6) rfl dX9_successor_5 rfl ?_
  refine x_v2 (p2 := 9) rfl dX9_successor_6 l_9_102 ok_X7_hasEdge rfl hB.s.sh rfl ?_
  refine t_X7_hasEdge hB.s (by omega) (fun hb6 => ?_) (fun hb6 => ?_)
  · skip
    refine x_if_eq (p2 := 12) (t := 24) (by decide) rfl dX9_successor_9 (fun hc => absurd hc (by decide)) (fun _ => ?_)
    have hx := (hG.2.2 b (by omega) (by omega)).2.1
    refine x_aload_n (p2 := 13) rfl dX9_successor_12 rfl ?_
    refine x_getr (p2 := 16) (kz := 1) rfl dX9_successor_13 f_9_21 rfl rfl hB.sh hB.r1 ?_
    refine x_iload_n (p2 := 17) rfl dX9_successor_16 rfl ?_
    refine x_iload_n (p2 := 18) rfl dX9_successor_17 rfl ?_
    refine x_v2 (p2 := 21) rfl dX9_successor_18 l_9_106 ok_X7_target rfl hB.s.sh rfl ?_
    refine t_X7_target hB.s (by omega) (by omega) (by omega) (by omega) ?_
    refine x_goto (t := 25) (by decide) dX9_successor_21 ?_
    refine x_iret dX9_successor_25 rfl ?_
    exact k1 (by omega)
  · skip
    refine x_if_eq (p2 := 12) (t := 24) (by decide) rfl dX9_successor_9 (fun _ => ?_) (fun hc => absurd hc (by decide))
    refine x_iconst (p2 := 25) rfl dX9_successor_24 ⟨by decide, by decide⟩ ?_
    refine x_iret dX9_successor_25 rfl ?_
    exact k0 (by omega)
set_option maxHeartbeats 4000000 in
theorem t_X9_edgeCount {B F S T V Z H X C P : Nat} (hB : isBL σ ρ B F S T V Z H X C P) (hI : clI M F S V Z H X) {b k : Int} (k1 : 0 ≤ b ∧ b < M F 0 ∧ 0 ≤ k ∧ k < M (S + 1) b → Q (some (xI (M (S + 3) (2 * b + k)))) (σ, ρ, M)) (k0 : ¬ (0 ≤ b ∧ b < M F 0 ∧ 0 ≤ k ∧ k < M (S + 1) b) → Q (some (xI (-1))) (σ, ρ, M)) : xX G mX9_edgeCount 0 0 0 [(0, xP B), (1, xI b), (2, xI k)] [] (σ, ρ, M) Q := by
  have hl := hB.lt
  obtain ⟨hW, hho, hhh, hhs, hzs, htx⟩ := id hI
  have hG : wfG (M F 0) (M (S + 1)) (M (S + 2)) (M (S + 3)) := hW.1
  have hO : wfO (M F 0) (M (S + 4)) (M S 5) := hW.2.1
  have he := hW.2.2.2.1
  have h8 := hG.2.1
  have hrg : H + 2 ≤ rg H ((M H 1 + M H 2) % 14) ∧ rg H ((M H 1 + M H 2) % 14) + 4 ≤ H + 71 := by unfold rg; omega
  refine x_aload_n (p2 := 1) rfl dX9_edgeCount_0 rfl ?_
  refine x_getr (p2 := 4) (kz := 1) rfl dX9_edgeCount_1 f_9_21 rfl rfl hB.sh hB.r1 ?_
  refine x_iload_n (p2 := 5) rfl dX9_edgeCount_4 rfl ?_
  refine x_iload_n (p2 := 6) rfl dX9_edgeCount_5 rfl ?_
  refine x_v2 (p2 := 9) rfl dX9_edgeCount_6 l_9_102 ok_X7_hasEdge rfl hB.s.sh rfl ?_
  refine t_X7_hasEdge hB.s (by omega) (fun hb6 => ?_) (fun hb6 => ?_)
  · skip
    refine x_if_eq (p2 := 12) (t := 24) (by decide) rfl dX9_edgeCount_9 (fun hc => absurd hc (by decide)) (fun _ => ?_)
    have hx := (hG.2.2 b (by omega) (by omega)).2.1
    refine x_aload_n (p2 := 13) rfl dX9_edgeCount_12 rfl ?_
    refine x_getr (p2 := 16) (kz := 1) rfl dX9_edgeCount_13 f_9_21 rfl rfl hB.sh hB.r1 ?_
    refine x_iload_n (p2 := 17) rfl dX9_edgeCount_16 rfl ?_
    refine x_iload_n (p2 := 18) rfl dX9_edgeCount_17 rfl ?_
    refine x_v2 (p2 := 21) rfl dX9_edgeCount_18 l_9_110 ok_X7_count rfl hB.s.sh rfl ?_
    refine t_X7_count hB.s (by omega) (by omega) (by omega) (by omega) ?_
    refine x_goto (t := 25) (by decide) dX9_edgeCount_21 ?_
    refine x_iret dX9_edgeCount_25 rfl ?_
    exact k1 (by omega)
  · skip
    refine x_if_eq (p2 := 12) (t := 24) (by decide) rfl dX9_edgeCount_9 (fun _ => ?_) (fun hc => absurd hc (by decide))
    refine x_iconst (p2 := 25) rfl dX9_edgeCount_24 ⟨by decide, by decide⟩ ?_
    refine x_iret dX9_edgeCount_25 rfl ?_
    exact k0 (by omega)
set_option maxHeartbeats 4000000 in
theorem t_X9_executions {B F S T V Z H X C P : Nat} (hB : isBL σ ρ B F S T V Z H X C P) (hI : clI M F S V Z H X) {b : Int} (k1 : 0 ≤ b ∧ b < M F 0 → Q (some (xI (rns (M F 0) (M F 1) (M (S + 1)) (M (S + 2)) (M (S + 3)) b))) (σ, ρ, M)) (k0 : ¬ (0 ≤ b ∧ b < M F 0) → Q (some (xI (-1))) (σ, ρ, M)) : xX G mX9_executions 0 0 0 [(0, xP B), (1, xI b)] [] (σ, ρ, M) Q := by
  have hl := hB.lt
  obtain ⟨hW, hho, hhh, hhs, hzs, htx⟩ := id hI
  have hG : wfG (M F 0) (M (S + 1)) (M (S + 2)) (M (S + 3)) := hW.1
  have hO : wfO (M F 0) (M (S + 4)) (M S 5) := hW.2.1
  have he := hW.2.2.2.1
  have h8 := hG.2.1
  have hrg : H + 2 ≤ rg H ((M H 1 + M H 2) % 14) ∧ rg H ((M H 1 + M H 2) % 14) + 4 ≤ H + 71 := by unfold rg; omega
  refine x_aload_n (p2 := 1) rfl dX9_executions_0 rfl ?_
  refine x_getr (p2 := 4) (kz := 0) rfl dX9_executions_1 f_9_12 rfl rfl hB.sh hB.r0 ?_
  refine x_iload_n (p2 := 5) rfl dX9_executions_4 rfl ?_
  refine x_v1 (p2 := 8) rfl dX9_executions_5 l_9_94 ok_X1_hasBlock rfl hB.s.fr.sh rfl ?_
  refine t_X1_hasBlock hB.s.fr (fun hb5 => ?_) (fun hb5 => ?_)
  · skip
    refine x_if_eq (p2 := 11) (t := 22) (by decide) rfl dX9_executions_8 (fun hc => absurd hc (by decide)) (fun _ => ?_)
    refine x_aload_n (p2 := 12) rfl dX9_executions_11 rfl ?_
    refine x_getr (p2 := 15) (kz := 1) rfl dX9_executions_12 f_9_21 rfl rfl hB.sh hB.r1 ?_
    refine x_iload_n (p2 := 16) rfl dX9_executions_15 rfl ?_
    refine x_v1 (p2 := 19) rfl dX9_executions_16 l_9_113 ok_X7_runsOf rfl hB.s.sh rfl ?_
    refine t_X7_runsOf hB.s hG he ?_
    refine x_goto (t := 23) (by decide) dX9_executions_19 ?_
    refine x_iret dX9_executions_23 rfl ?_
    exact k1 (by omega)
  · skip
    refine x_if_eq (p2 := 11) (t := 22) (by decide) rfl dX9_executions_8 (fun _ => ?_) (fun hc => absurd hc (by decide))
    refine x_iconst (p2 := 23) rfl dX9_executions_22 ⟨by decide, by decide⟩ ?_
    refine x_iret dX9_executions_23 rfl ?_
    exact k0 (by omega)
set_option maxHeartbeats 4000000 in
theorem t_X9_blockAt {B F S T V Z H X C P : Nat} (hB : isBL σ ρ B F S T V Z H X C P) (hI : clI M F S V Z H X) {b : Int} (k1 : 0 ≤ b ∧ b < M F 0 → Q (some (xI (M (S + 4) b))) (σ, ρ, M)) (k0 : ¬ (0 ≤ b ∧ b < M F 0) → Q (some (xI (-1))) (σ, ρ, M)) : xX G mX9_blockAt 0 0 0 [(0, xP B), (1, xI b)] [] (σ, ρ, M) Q := by
  have hl := hB.lt
  obtain ⟨hW, hho, hhh, hhs, hzs, htx⟩ := id hI
  have hG : wfG (M F 0) (M (S + 1)) (M (S + 2)) (M (S + 3)) := hW.1
  have hO : wfO (M F 0) (M (S + 4)) (M S 5) := hW.2.1
  have he := hW.2.2.2.1
  have h8 := hG.2.1
  have hrg : H + 2 ≤ rg H ((M H 1 + M H 2) % 14) ∧ rg H ((M H 1 + M H 2) % 14) + 4 ≤ H + 71 := by unfold rg; omega
  refine x_aload_n (p2 := 1) rfl dX9_blockAt_0 rfl ?_
  refine x_getr (p2 := 4) (kz := 0) rfl dX9_blockAt_1 f_9_12 rfl rfl hB.sh hB.r0 ?_
  refine x_iload_n (p2 := 5) rfl dX9_blockAt_4 rfl ?_
  refine x_v1 (p2 := 8) rfl dX9_blockAt_5 l_9_116 ok_X1_hasPosition rfl hB.s.fr.sh rfl ?_
  refine t_X1_hasPosition hB.s.fr (fun hb5 => ?_) (fun hb5 => ?_)
  · skip
    refine x_if_eq (p2 := 11) (t := 23) (by decide) rfl dX9_blockAt_8 (fun hc => absurd hc (by decide)) (fun _ => ?_)
    refine x_aload_n (p2 := 12) rfl dX9_blockAt_11 rfl ?_
    refine x_getr (p2 := 15) (kz := 1) rfl dX9_blockAt_12 f_9_21 rfl rfl hB.sh hB.r1 ?_
    refine x_getr (p2 := 18) (kz := 4) rfl dX9_blockAt_15 f_9_119 rfl rfl hB.s.sh hB.s.r4 ?_
    refine x_iload_n (p2 := 19) rfl dX9_blockAt_18 rfl ?_
    refine x_iald (p2 := 20) rfl dX9_blockAt_19 hB.s.a4 (by omega) (by omega) ?_
    refine x_goto (t := 24) (by decide) dX9_blockAt_20 ?_
    refine x_iret dX9_blockAt_24 rfl ?_
    exact k1 (by omega)
  · skip
    refine x_if_eq (p2 := 11) (t := 23) (by decide) rfl dX9_blockAt_8 (fun _ => ?_) (fun hc => absurd hc (by decide))
    refine x_iconst (p2 := 24) rfl dX9_blockAt_23 ⟨by decide, by decide⟩ ?_
    refine x_iret dX9_blockAt_24 rfl ?_
    exact k0 (by omega)
set_option maxHeartbeats 4000000 in
theorem t_X9_hotCount {B F S T V Z H X C P : Nat} (hB : isBL σ ρ B F S T V Z H X C P) (hI : clI M F S V Z H X) (hq : Q (some (xI (M S 5))) (σ, ρ, M)) : xX G mX9_hotCount 0 0 0 [(0, xP B)] [] (σ, ρ, M) Q := by
  have hl := hB.lt
  obtain ⟨hW, hho, hhh, hhs, hzs, htx⟩ := id hI
  have hG : wfG (M F 0) (M (S + 1)) (M (S + 2)) (M (S + 3)) := hW.1
  have hO : wfO (M F 0) (M (S + 4)) (M S 5) := hW.2.1
  have he := hW.2.2.2.1
  have h8 := hG.2.1
  have hrg : H + 2 ≤ rg H ((M H 1 + M H 2) % 14) ∧ rg H ((M H 1 + M H 2) % 14) + 4 ≤ H + 71 := by unfold rg; omega
  refine x_aload_n (p2 := 1) rfl dX9_hotCount_0 rfl ?_
  refine x_getr (p2 := 4) (kz := 1) rfl dX9_hotCount_1 f_9_21 rfl rfl hB.sh hB.r1 ?_
  refine x_geti (p2 := 7) (kz := 5) rfl dX9_hotCount_4 f_9_122 rfl rfl hB.s.sh ?_
  refine x_iret dX9_hotCount_7 rfl ?_
  exact hq
set_option maxHeartbeats 4000000 in
theorem t_X9_cost {B F S T V Z H X C P : Nat} (hB : isBL σ ρ B F S T V Z H X C P) (hI : clI M F S V Z H X) (hq : Q (some (xI (tcs (M F 0) (M (S + 1)) (M (S + 2)) (M (S + 3)) (M (S + 4)) (M S 5)))) (σ, ρ, M)) : xX G mX9_cost 0 0 0 [(0, xP B)] [] (σ, ρ, M) Q := by
  have hl := hB.lt
  obtain ⟨hW, hho, hhh, hhs, hzs, htx⟩ := id hI
  have hG : wfG (M F 0) (M (S + 1)) (M (S + 2)) (M (S + 3)) := hW.1
  have hO : wfO (M F 0) (M (S + 4)) (M S 5) := hW.2.1
  have he := hW.2.2.2.1
  have h8 := hG.2.1
  have hrg : H + 2 ≤ rg H ((M H 1 + M H 2) % 14) ∧ rg H ((M H 1 + M H 2) % 14) + 4 ≤ H + 71 := by unfold rg; omega
  refine x_aload_n (p2 := 1) rfl dX9_cost_0 rfl ?_
  refine x_getr (p2 := 4) (kz := 1) rfl dX9_cost_1 f_9_21 rfl rfl hB.sh hB.r1 ?_
  refine x_v0 (p2 := 7) rfl dX9_cost_4 l_9_125 ok_X7_totalCost rfl hB.s.sh rfl ?_
  refine t_X7_totalCost hB.s hG hO ?_
  refine x_iret dX9_cost_7 rfl ?_
  exact hq
set_option maxHeartbeats 4000000 in
theorem t_X9_codeSize {B F S T V Z H X C P : Nat} (hB : isBL σ ρ B F S T V Z H X C P) (hI : clI M F S V Z H X) (hq : Q (some (xI (eoc (M F 0) (M (S + 1)) (M (S + 2)) (M (S + 4)) (M (F + 1)) (M S 5) (M S 6) (M F 0).toNat 0 0))) (σ, ρ, M)) : xX G mX9_codeSize 0 0 0 [(0, xP B)] [] (σ, ρ, M) Q := by
  have hl := hB.lt
  obtain ⟨hW, hho, hhh, hhs, hzs, htx⟩ := id hI
  have hG : wfG (M F 0) (M (S + 1)) (M (S + 2)) (M (S + 3)) := hW.1
  have hO : wfO (M F 0) (M (S + 4)) (M S 5) := hW.2.1
  have he := hW.2.2.2.1
  have h8 := hG.2.1
  have hrg : H + 2 ≤ rg H ((M H 1 + M H 2) % 14) ∧ rg H ((M H 1 + M H 2) % 14) + 4 ≤ H + 71 := by unfold rg; omega
  refine x_aload_n (p2 := 1) rfl dX9_codeSize_0 rfl ?_
  refine x_getr (p2 := 4) (kz := 1) rfl dX9_codeSize_1 f_9_21 rfl rfl hB.sh hB.r1 ?_
  refine x_s1 (p2 := 7) rfl dX9_codeSize_4 l_9_128 ok_X4_endOfCode rfl rfl ?_
  refine t_X4_endOfCode hB.s hW ?_
  refine x_iret dX9_codeSize_7 rfl ?_
  exact hq
set_option maxHeartbeats 4000000 in
theorem t_X9_address {B F S T V Z H X C P : Nat} (hB : isBL σ ρ B F S T V Z H X C P) (hI : clI M F S V Z H X) {b : Int} (k1 : 0 ≤ b ∧ b < M F 0 → Q (some (xI (sof (M F 0) (M (S + 1)) (M (S + 2)) (M (S + 4)) (M (F + 1)) (M S 5) (M S 6) b (M F 0).toNat 0 0))) (σ, ρ, M)) (k0 : ¬ (0 ≤ b ∧ b < M F 0) → Q (some (xI (-1))) (σ, ρ, M)) : xX G mX9_address 0 0 0 [(0, xP B), (1, xI b)] [] (σ, ρ, M) Q := by
  have hl := hB.lt
  obtain ⟨hW, hho, hhh, hhs, hzs, htx⟩ := id hI
  have hG : wfG (M F 0) (M (S + 1)) (M (S + 2)) (M (S + 3)) := hW.1
  have hO : wfO (M F 0) (M (S + 4)) (M S 5) := hW.2.1
  have he := hW.2.2.2.1
  have h8 := hG.2.1
  have hrg : H + 2 ≤ rg H ((M H 1 + M H 2) % 14) ∧ rg H ((M H 1 + M H 2) % 14) + 4 ≤ H + 71 := by unfold rg; omega
  refine x_aload_n (p2 := 1) rfl dX9_address_0 rfl ?_
  refine x_getr (p2 := 4) (kz := 0) rfl dX9_address_1 f_9_12 rfl rfl hB.sh hB.r0 ?_
  refine x_iload_n (p2 := 5) rfl dX9_address_4 rfl ?_
  refine x_v1 (p2 := 8) rfl dX9_address_5 l_9_94 ok_X1_hasBlock rfl hB.s.fr.sh rfl ?_
  refine t_X1_hasBlock hB.s.fr (fun hb5 => ?_) (fun hb5 => ?_)
  · skip
    refine x_if_eq (p2 := 11) (t := 22) (by decide) rfl dX9_address_8 (fun hc => absurd hc (by decide)) (fun _ => ?_)
    refine x_aload_n (p2 := 12) rfl dX9_address_11 rfl ?_
    refine x_getr (p2 := 15) (kz := 1) rfl dX9_address_12 f_9_21 rfl rfl hB.sh hB.r1 ?_
    refine x_iload_n (p2 := 16) rfl dX9_address_15 rfl ?_
    refine x_s2 (p2 := 19) rfl dX9_address_16 l_9_134 ok_X4_startOf rfl rfl ?_
    refine t_X4_startOf hB.s hW ?_
    refine x_goto (t := 23) (by decide) dX9_address_19 ?_
    refine x_iret dX9_address_23 rfl ?_
    exact k1 (by omega)
  · skip
    refine x_if_eq (p2 := 11) (t := 22) (by decide) rfl dX9_address_8 (fun _ => ?_) (fun hc => absurd hc (by decide))
    refine x_iconst (p2 := 23) rfl dX9_address_22 ⟨by decide, by decide⟩ ?_
    refine x_iret dX9_address_23 rfl ?_
    exact k0 (by omega)
set_option maxHeartbeats 4000000 in
theorem t_X9_branchBytes {B F S T V Z H X C P : Nat} (hB : isBL σ ρ B F S T V Z H X C P) (hI : clI M F S V Z H X) {b : Int} (k1 : 0 ≤ b ∧ b < M F 0 → Q (some (xI (bbf (M (S + 1)) (M (S + 2)) b (fob (M F 0) (M (S + 4)) (M S 5) b)))) (σ, ρ, M)) (k0 : ¬ (0 ≤ b ∧ b < M F 0) → Q (some (xI (-1))) (σ, ρ, M)) : xX G mX9_branchBytes 0 0 0 [(0, xP B), (1, xI b)] [] (σ, ρ, M) Q := by
  have hl := hB.lt
  obtain ⟨hW, hho, hhh, hhs, hzs, htx⟩ := id hI
  have hG : wfG (M F 0) (M (S + 1)) (M (S + 2)) (M (S + 3)) := hW.1
  have hO : wfO (M F 0) (M (S + 4)) (M S 5) := hW.2.1
  have he := hW.2.2.2.1
  have h8 := hG.2.1
  have hrg : H + 2 ≤ rg H ((M H 1 + M H 2) % 14) ∧ rg H ((M H 1 + M H 2) % 14) + 4 ≤ H + 71 := by unfold rg; omega
  refine x_aload_n (p2 := 1) rfl dX9_branchBytes_0 rfl ?_
  refine x_getr (p2 := 4) (kz := 0) rfl dX9_branchBytes_1 f_9_12 rfl rfl hB.sh hB.r0 ?_
  refine x_iload_n (p2 := 5) rfl dX9_branchBytes_4 rfl ?_
  refine x_v1 (p2 := 8) rfl dX9_branchBytes_5 l_9_94 ok_X1_hasBlock rfl hB.s.fr.sh rfl ?_
  refine t_X1_hasBlock hB.s.fr (fun hb5 => ?_) (fun hb5 => ?_)
  · skip
    refine x_if_eq (p2 := 11) (t := 30) (by decide) rfl dX9_branchBytes_8 (fun hc => absurd hc (by decide)) (fun _ => ?_)
    have hx := (hG.2.2 b (by omega) (by omega)).2.1
    have hx0 := (hG.2.2 b (by omega) (by omega)).1
    refine x_aload_n (p2 := 12) rfl dX9_branchBytes_11 rfl ?_
    refine x_getr (p2 := 15) (kz := 1) rfl dX9_branchBytes_12 f_9_21 rfl rfl hB.sh hB.r1 ?_
    refine x_iload_n (p2 := 16) rfl dX9_branchBytes_15 rfl ?_
    refine x_aload_n (p2 := 17) rfl dX9_branchBytes_16 rfl ?_
    refine x_getr (p2 := 20) (kz := 1) rfl dX9_branchBytes_17 f_9_21 rfl rfl hB.sh hB.r1 ?_
    refine x_iload_n (p2 := 21) rfl dX9_branchBytes_20 rfl ?_
    refine x_v1 (p2 := 24) rfl dX9_branchBytes_21 l_9_138 ok_X7_followerOf rfl hB.s.sh rfl ?_
    refine t_fob hB.s (by omega) hW.2.1 (by omega) ?_
    refine x_v2 (p2 := 27) rfl dX9_branchBytes_24 l_9_141 ok_X7_branchBytesBefore rfl hB.s.sh rfl ?_
    refine t_X7_branchBytesBefore hB.s (by omega) (by omega) ?_
    refine x_goto (t := 31) (by decide) dX9_branchBytes_27 ?_
    refine x_iret dX9_branchBytes_31 rfl ?_
    exact k1 (by omega)
  · skip
    refine x_if_eq (p2 := 11) (t := 30) (by decide) rfl dX9_branchBytes_8 (fun _ => ?_) (fun hc => absurd hc (by decide))
    refine x_iconst (p2 := 31) rfl dX9_branchBytes_30 ⟨by decide, by decide⟩ ?_
    refine x_iret dX9_branchBytes_31 rfl ?_
    exact k0 (by omega)
set_option maxHeartbeats 4000000 in
theorem t_X9_edgeCost {B F S T V Z H X C P : Nat} (hB : isBL σ ρ B F S T V Z H X C P) (hI : clI M F S V Z H X) {b k : Int} (k1 : 0 ≤ b ∧ b < M F 0 ∧ 0 ≤ k ∧ k < M (S + 1) b → Q (some (xI (pcst (M (S + 1)) (M (S + 2)) (M (S + 3)) b k (fob (M F 0) (M (S + 4)) (M S 5) b)))) (σ, ρ, M)) (k0 : ¬ (0 ≤ b ∧ b < M F 0 ∧ 0 ≤ k ∧ k < M (S + 1) b) → Q (some (xI (-1))) (σ, ρ, M)) : xX G mX9_edgeCost 0 0 0 [(0, xP B), (1, xI b), (2, xI k)] [] (σ, ρ, M) Q := by
  have hl := hB.lt
  obtain ⟨hW, hho, hhh, hhs, hzs, htx⟩ := id hI
  have hG : wfG (M F 0) (M (S + 1)) (M (S + 2)) (M (S + 3)) := hW.1
  have hO : wfO (M F 0) (M (S + 4)) (M S 5) := hW.2.1
  have he := hW.2.2.2.1
  have h8 := hG.2.1
  have hrg : H + 2 ≤ rg H ((M H 1 + M H 2) % 14) ∧ rg H ((M H 1 + M H 2) % 14) + 4 ≤ H + 71 := by unfold rg; omega
  refine x_aload_n (p2 := 1) rfl dX9_edgeCost_0 rfl ?_
  refine x_getr (p2 := 4) (kz := 1) rfl dX9_edgeCost_1 f_9_21 rfl rfl hB.sh hB.r1 ?_
  refine x_iload_n (p2 := 5) rfl dX9_edgeCost_4 rfl ?_
  refine x_iload_n (p2 := 6) rfl dX9_edgeCost_5 rfl ?_
  refine x_v2 (p2 := 9) rfl dX9_edgeCost_6 l_9_102 ok_X7_hasEdge rfl hB.s.sh rfl ?_
  refine t_X7_hasEdge hB.s (by omega) (fun hb6 => ?_) (fun hb6 => ?_)
  · skip
    refine x_if_eq (p2 := 12) (t := 32) (by decide) rfl dX9_edgeCost_9 (fun hc => absurd hc (by decide)) (fun _ => ?_)
    have hx := (hG.2.2 b (by omega) (by omega)).2.1
    refine x_aload_n (p2 := 13) rfl dX9_edgeCost_12 rfl ?_
    refine x_getr (p2 := 16) (kz := 1) rfl dX9_edgeCost_13 f_9_21 rfl rfl hB.sh hB.r1 ?_
    refine x_iload_n (p2 := 17) rfl dX9_edgeCost_16 rfl ?_
    refine x_iload_n (p2 := 18) rfl dX9_edgeCost_17 rfl ?_
    refine x_aload_n (p2 := 19) rfl dX9_edgeCost_18 rfl ?_
    refine x_getr (p2 := 22) (kz := 1) rfl dX9_edgeCost_19 f_9_21 rfl rfl hB.sh hB.r1 ?_
    refine x_iload_n (p2 := 23) rfl dX9_edgeCost_22 rfl ?_
    refine x_v1 (p2 := 26) rfl dX9_edgeCost_23 l_9_138 ok_X7_followerOf rfl hB.s.sh rfl ?_
    refine t_fob hB.s (by omega) hW.2.1 (by omega) ?_
    refine x_v3 (p2 := 29) rfl dX9_edgeCost_26 l_9_144 ok_X7_passCost rfl hB.s.sh rfl ?_
    refine t_X7_passCost hB.s (by omega) (by omega) ?_
    refine x_goto (t := 33) (by decide) dX9_edgeCost_29 ?_
    refine x_iret dX9_edgeCost_33 rfl ?_
    exact k1 (by omega)
  · skip
    refine x_if_eq (p2 := 12) (t := 32) (by decide) rfl dX9_edgeCost_9 (fun _ => ?_) (fun hc => absurd hc (by decide))
    refine x_iconst (p2 := 33) rfl dX9_edgeCost_32 ⟨by decide, by decide⟩ ?_
    refine x_iret dX9_edgeCost_33 rfl ?_
    exact k0 (by omega)
set_option maxHeartbeats 4000000 in
theorem t_X9_chainHead {B F S T V Z H X C P : Nat} (hB : isBL σ ρ B F S T V Z H X C P) (hI : clI M F S V Z H X) {b : Int} (k1 : 0 ≤ b ∧ b < M F 0 → ∀ M2 ed, cq M M2 T X C P → Q (some (xI ((mrg (M F 0) (M (S + 1)) (M (S + 2)) (M (S + 3)) ed).1 b))) (σ, ρ, M2)) (k0 : ¬ (0 ≤ b ∧ b < M F 0) → Q (some (xI (-1))) (σ, ρ, M)) : xX G mX9_chainHead 0 0 0 [(0, xP B), (1, xI b)] [] (σ, ρ, M) Q := by
  have hl := hB.lt
  obtain ⟨hW, hho, hhh, hhs, hzs, htx⟩ := id hI
  have hG : wfG (M F 0) (M (S + 1)) (M (S + 2)) (M (S + 3)) := hW.1
  have hO : wfO (M F 0) (M (S + 4)) (M S 5) := hW.2.1
  have he := hW.2.2.2.1
  have h8 := hG.2.1
  have hrg : H + 2 ≤ rg H ((M H 1 + M H 2) % 14) ∧ rg H ((M H 1 + M H 2) % 14) + 4 ≤ H + 71 := by unfold rg; omega
  refine x_aload_n (p2 := 1) rfl dX9_chainHead_0 rfl ?_
  refine x_getr (p2 := 4) (kz := 0) rfl dX9_chainHead_1 f_9_12 rfl rfl hB.sh hB.r0 ?_
  refine x_iload_n (p2 := 5) rfl dX9_chainHead_4 rfl ?_
  refine x_v1 (p2 := 8) rfl dX9_chainHead_5 l_9_94 ok_X1_hasBlock rfl hB.s.fr.sh rfl ?_
  refine t_X1_hasBlock hB.s.fr (fun hb5 => ?_) (fun hb5 => ?_)
  · skip
    refine x_if_ne (p2 := 11) (t := 13) (by decide) rfl dX9_chainHead_8 (fun _ => ?_) (fun hc => absurd hc (by decide))
    refine x_aload_n (p2 := 14) rfl dX9_chainHead_13 rfl ?_
    refine x_getr (p2 := 17) (kz := 7) rfl dX9_chainHead_14 f_9_53 rfl rfl hB.sh hB.r7 ?_
    refine x_aload_n (p2 := 18) rfl dX9_chainHead_17 rfl ?_
    refine x_getr (p2 := 21) (kz := 1) rfl dX9_chainHead_18 f_9_21 rfl rfl hB.sh hB.r1 ?_
    refine x_v1 (p2 := 24) rfl dX9_chainHead_21 l_9_148 ok_X0_merge rfl hB.c.sh rfl ?_
    refine t_X0_merge hB.c hB.s (by omega) hG (fun M2 ed hf hc h1 h2 => ?_)
    refine x_aload_n (p2 := 25) rfl dX9_chainHead_24 rfl ?_
    refine x_getr (p2 := 28) (kz := 7) rfl dX9_chainHead_25 f_9_53 rfl rfl hB.sh hB.r7 ?_
    refine x_getr (p2 := 31) (kz := 0) rfl dX9_chainHead_28 f_9_151 rfl rfl hB.c.sh hB.c.r0 ?_
    refine x_iload_n (p2 := 32) rfl dX9_chainHead_31 rfl ?_
    refine x_iald (p2 := 33) rfl dX9_chainHead_32 hB.c.a0 (by omega) (by omega) ?_
    refine x_iret dX9_chainHead_33 rfl ?_
    rw [h1 b (by omega) (by omega)]
    exact k1 hb5 M2 ed ⟨fun c z1 z2 z3 z4 => hf c (by omega), by rw [hf X (by omega)]⟩
  · skip
    refine x_if_ne (p2 := 11) (t := 13) (by decide) rfl dX9_chainHead_8 (fun hc => absurd hc (by decide)) (fun _ => ?_)
    refine x_iconst (p2 := 12) rfl dX9_chainHead_11 ⟨by decide, by decide⟩ ?_
    refine x_iret dX9_chainHead_12 rfl ?_
    exact k0 hb5
set_option maxHeartbeats 4000000 in
theorem t_X9_optimalCost {B F S T V Z H X C P : Nat} (hB : isBL σ ρ B F S T V Z H X C P) (hI : clI M F S V Z H X) (hq : ∀ M2, cq M M2 T X C P → Q (some (xI (lcs (M F 0) (M (S + 1)) (M (S + 2)) (M (S + 3)) (M (S + 4)) (M S 5)))) (σ, ρ, M2)) : xX G mX9_optimalCost 0 0 0 [(0, xP B)] [] (σ, ρ, M) Q := by
  have hl := hB.lt
  obtain ⟨hW, hho, hhh, hhs, hzs, htx⟩ := id hI
  have hG : wfG (M F 0) (M (S + 1)) (M (S + 2)) (M (S + 3)) := hW.1
  have hO : wfO (M F 0) (M (S + 4)) (M S 5) := hW.2.1
  have he := hW.2.2.2.1
  have h8 := hG.2.1
  have hrg : H + 2 ≤ rg H ((M H 1 + M H 2) % 14) ∧ rg H ((M H 1 + M H 2) % 14) + 4 ≤ H + 71 := by unfold rg; omega
  refine x_aload_n (p2 := 1) rfl dX9_optimalCost_0 rfl ?_
  refine x_getr (p2 := 4) (kz := 8) rfl dX9_optimalCost_1 f_9_60 rfl rfl hB.sh hB.r8 ?_
  refine x_aload_n (p2 := 5) rfl dX9_optimalCost_4 rfl ?_
  refine x_getr (p2 := 8) (kz := 1) rfl dX9_optimalCost_5 f_9_21 rfl rfl hB.sh hB.r1 ?_
  refine x_v1 (p2 := 11) rfl dX9_optimalCost_8 l_9_154 ok_X3_leastCost rfl hB.p.sh rfl ?_
  refine t_X3_leastCost hB.p hB.s (by omega) hG hO (fun M2 hf h1 h2 h3 => ?_)
  refine x_iret dX9_optimalCost_11 rfl ?_
  exact hq M2 ⟨fun c z1 z2 z3 z4 => hf c (by omega), by rw [hf X (by omega)]⟩
theorem ca.mk {M1 M2 : Nat → Int → Int} {S H C P : Nat} {v : vV} (h1 : ∀ c, c ≠ H → (c < rg H ((M H 1 + M H 2) % 14) ∨ rg H ((M H 1 + M H 2) % 14) + 4 < c) → M1 c = M c) (h2 : sq M1 (rg H ((M H 1 + M H 2) % 14)) M S) (h3 : M1 H 1 = (if M H 2 = 14 then (M H 1 + 1) % 14 else M H 1)) (h4 : M1 H 2 = (if M H 2 = 14 then 14 else M H 2 + 1)) (hd : S + 4 < H ∧ rg H ((M H 1 + M H 2) % 14) + 4 < C ∧ H < rg H ((M H 1 + M H 2) % 14)) (h5 : ∀ c, (c < S ∨ S + 4 < c) → (c < C ∨ P + 2 < c) → M2 c = M1 c) (h6 : vw M2 S = v) : ca M M2 S H C P v := by
  refine ⟨fun c z1 z2 z3 z4 => (h5 c z1 z4).trans (h1 c z2 z3), h2.mv (fun c z1 z2 => h5 c (by omega) (by omega)) (fun _ _ _ => rfl), ?_, ?_, h6⟩
  · rw [h5 H (by omega) (by omega)]; exact h3
  · rw [h5 H (by omega) (by omega)]; exact h4
set_option maxHeartbeats 4000000 in
theorem t_X9_swap {B F S T V Z H X C P : Nat} (hB : isBL σ ρ B F S T V Z H X C P) (hI : clI M F S V Z H X) {i j : Int} (k1 : ¬ (0 ≤ i ∧ i < M F 0 ∧ 0 ≤ j ∧ j < M F 0) → Q (some (xI (-1))) (σ, ρ, M)) (k3 : (0 ≤ i ∧ i < M F 0 ∧ 0 ≤ j ∧ j < M F 0) ∧ (i = 0 ∨ j = 0) → Q (some (xI (-3))) (σ, ρ, M)) (hq : (0 < i ∧ i < M F 0 ∧ 0 < j ∧ j < M F 0) → ∀ M2, ca M M2 S H C P (vsw i j (vw M S)) → Q (some (xI (tcs (M F 0) (vsw i j (vw M S)).1 (vsw i j (vw M S)).2.1 (vsw i j (vw M S)).2.2.1 (vsw i j (vw M S)).2.2.2.1 (vsw i j (vw M S)).2.2.2.2.1))) (σ, ρ, M2)) : xX G mX9_swap 0 0 0 [(0, xP B), (1, xI i), (2, xI j)] [] (σ, ρ, M) Q := by
  have hl := hB.lt
  obtain ⟨hW, hho, hhh, hhs, hzs, htx⟩ := id hI
  have hG : wfG (M F 0) (M (S + 1)) (M (S + 2)) (M (S + 3)) := hW.1
  have hO : wfO (M F 0) (M (S + 4)) (M S 5) := hW.2.1
  have he := hW.2.2.2.1
  have h8 := hG.2.1
  have hrg : H + 2 ≤ rg H ((M H 1 + M H 2) % 14) ∧ rg H ((M H 1 + M H 2) % 14) + 4 ≤ H + 71 := by unfold rg; omega
  refine x_aload_n (p2 := 1) rfl dX9_swap_0 rfl ?_
  refine x_getr (p2 := 4) (kz := 1) rfl dX9_swap_1 f_9_21 rfl rfl hB.sh hB.r1 ?_
  refine x_iload_n (p2 := 5) rfl dX9_swap_4 rfl ?_
  refine x_iload_n (p2 := 6) rfl dX9_swap_5 rfl ?_
  refine x_v2 (p2 := 9) rfl dX9_swap_6 l_9_171 ok_X7_refusalToExchange rfl hB.s.sh rfl ?_
  refine t_X7_refusalToExchange hB.s (fun hr6 => ?_) (fun hr6 => ?_) (fun hr6 => ?_)
  · skip
    refine x_istore_n (p2 := 10) (i := 3) (L2 := [(0, _), (1, _), (2, _), (3, _)]) rfl dX9_swap_9 rfl ⟨rfl, Nat.le_of_ble_eq_true rfl⟩ rfl ?_
    refine x_iload_n (p2 := 11) rfl dX9_swap_10 rfl ?_
    refine x_if_eq (p2 := 14) (t := 16) (by decide) rfl dX9_swap_11 (fun hc => absurd hc (by decide)) (fun _ => ?_)
    refine x_iload_n (p2 := 15) rfl dX9_swap_14 rfl ?_
    refine x_iret dX9_swap_15 rfl ?_
    exact k1 hr6
  · skip
    refine x_istore_n (p2 := 10) (i := 3) (L2 := [(0, _), (1, _), (2, _), (3, _)]) rfl dX9_swap_9 rfl ⟨rfl, Nat.le_of_ble_eq_true rfl⟩ rfl ?_
    refine x_iload_n (p2 := 11) rfl dX9_swap_10 rfl ?_
    refine x_if_eq (p2 := 14) (t := 16) (by decide) rfl dX9_swap_11 (fun hc => absurd hc (by decide)) (fun _ => ?_)
    refine x_iload_n (p2 := 15) rfl dX9_swap_14 rfl ?_
    refine x_iret dX9_swap_15 rfl ?_
    exact k3 hr6
  · skip
    refine x_istore_n (p2 := 10) (i := 3) (L2 := [(0, _), (1, _), (2, _), (3, _)]) rfl dX9_swap_9 rfl ⟨rfl, Nat.le_of_ble_eq_true rfl⟩ rfl ?_
    refine x_iload_n (p2 := 11) rfl dX9_swap_10 rfl ?_
    refine x_if_eq (p2 := 14) (t := 16) (by decide) rfl dX9_swap_11 (fun _ => ?_) (fun hc => absurd hc (by decide))
    refine x_aload_n (p2 := 17) rfl dX9_swap_16 rfl ?_
    refine x_getr (p2 := 20) (kz := 5) rfl dX9_swap_17 f_9_39 rfl rfl hB.sh hB.r5 ?_
    refine x_aload_n (p2 := 21) rfl dX9_swap_20 rfl ?_
    refine x_getr (p2 := 24) (kz := 1) rfl dX9_swap_21 f_9_21 rfl rfl hB.sh hB.r1 ?_
    refine x_v1 (p2 := 27) rfl dX9_swap_24 l_9_164 ok_X2_remember rfl hB.h.sh rfl ?_
    refine t_X2_remember hB.h hB.s (by omega) hho hhh (fun M24 hf24 hs24 h124 h224 => ?_)
    have hvs : vw M24 S = vw M S := vw_c (fun c z1 z2 => hf24 c (by omega) (by omega))
    have hF : M24 F = M F := hf24 F (by omega) (by omega)
    have hF1 : M24 (F + 1) = M (F + 1) := hf24 (F + 1) (by omega) (by omega)
    have e1 : M24 (S + 1) = M (S + 1) := hf24 _ (by omega) (by omega)
    have e2 : M24 (S + 2) = M (S + 2) := hf24 _ (by omega) (by omega)
    have e3 : M24 (S + 3) = M (S + 3) := hf24 _ (by omega) (by omega)
    have e4 : M24 (S + 4) = M (S + 4) := hf24 _ (by omega) (by omega)
    have e0 : M24 S = M S := hf24 _ (by omega) (by omega)
    refine x_aload_n (p2 := 28) rfl dX9_swap_27 rfl ?_
    refine x_getr (p2 := 31) (kz := 1) rfl dX9_swap_28 f_9_21 rfl rfl hB.sh hB.r1 ?_
    refine x_iload_n (p2 := 32) rfl dX9_swap_31 rfl ?_
    refine x_iload_n (p2 := 33) rfl dX9_swap_32 rfl ?_
    refine x_v2 (p2 := 36) rfl dX9_swap_33 l_9_174 ok_X7_exchange rfl hB.s.sh rfl ?_
    refine t_X7_exchange hB.s (by omega) (by omega) ?_
    refine x_aload_n (p2 := 37) rfl dX9_swap_36 rfl ?_
    refine x_getr (p2 := 40) (kz := 1) rfl dX9_swap_37 f_9_21 rfl rfl hB.sh hB.r1 ?_
    refine x_v0 (p2 := 43) rfl dX9_swap_40 l_9_125 ok_X7_totalCost rfl hB.s.sh rfl ?_
    have hWv := wfV_sw (i := i) (j := j) hW (by omega) (by omega)
    rw [e4]
    refine t_X7_totalCost hB.s ?_ ?_ ?_
    · rw [xw_n (show F ≠ S + 4 by omega), xw_n (show S + 1 ≠ S + 4 by omega), xw_n (show S + 2 ≠ S + 4 by omega), xw_n (show S + 3 ≠ S + 4 by omega), hF, e1, e2, e3]; exact hG
    · rw [xw_n (show F ≠ S + 4 by omega), xw_n (show S ≠ S + 4 by omega), xw_s, hF, e0]; exact hWv.2.1
    rw [xw_n (show F ≠ S + 4 by omega), xw_n (show S + 1 ≠ S + 4 by omega), xw_n (show S + 2 ≠ S + 4 by omega), xw_n (show S + 3 ≠ S + 4 by omega), xw_n (show S ≠ S + 4 by omega), xw_s, hF, e1, e2, e3, e0]
    refine x_iret dX9_swap_43 rfl ?_
    refine hq hr6 _ (ca.mk hf24 hs24 h124 h224 (by omega) (fun c z1 z2 => xw_n (by omega)) ?_)
    rw [vw_o, e1, e2, e3, e0]; rfl
set_option maxHeartbeats 4000000 in
theorem t_X9_rotate {B F S T V Z H X C P : Nat} (hB : isBL σ ρ B F S T V Z H X C P) (hI : clI M F S V Z H X) {i j : Int} (k1 : ¬ (0 ≤ i ∧ i < M F 0 ∧ 0 ≤ j ∧ j < M F 0) → Q (some (xI (-1))) (σ, ρ, M)) (k3 : (0 ≤ i ∧ i < M F 0 ∧ 0 ≤ j ∧ j < M F 0) ∧ (i = 0 ∨ j < i ∨ M S 5 ≤ j) → Q (some (xI (-3))) (σ, ρ, M)) (hq : (0 < i ∧ i ≤ j ∧ j < M F 0 ∧ j < M S 5) → ∀ M2, ca M M2 S H C P (vtn i j (vw M S)) → Q (some (xI (tcs (M F 0) (vtn i j (vw M S)).1 (vtn i j (vw M S)).2.1 (vtn i j (vw M S)).2.2.1 (vtn i j (vw M S)).2.2.2.1 (vtn i j (vw M S)).2.2.2.2.1))) (σ, ρ, M2)) : xX G mX9_rotate 0 0 0 [(0, xP B), (1, xI i), (2, xI j)] [] (σ, ρ, M) Q := by
  have hl := hB.lt
  obtain ⟨hW, hho, hhh, hhs, hzs, htx⟩ := id hI
  have hG : wfG (M F 0) (M (S + 1)) (M (S + 2)) (M (S + 3)) := hW.1
  have hO : wfO (M F 0) (M (S + 4)) (M S 5) := hW.2.1
  have he := hW.2.2.2.1
  have h8 := hG.2.1
  have hrg : H + 2 ≤ rg H ((M H 1 + M H 2) % 14) ∧ rg H ((M H 1 + M H 2) % 14) + 4 ≤ H + 71 := by unfold rg; omega
  refine x_aload_n (p2 := 1) rfl dX9_rotate_0 rfl ?_
  refine x_getr (p2 := 4) (kz := 1) rfl dX9_rotate_1 f_9_21 rfl rfl hB.sh hB.r1 ?_
  refine x_iload_n (p2 := 5) rfl dX9_rotate_4 rfl ?_
  refine x_iload_n (p2 := 6) rfl dX9_rotate_5 rfl ?_
  refine x_v2 (p2 := 9) rfl dX9_rotate_6 l_9_157 ok_X7_refusalToTurn rfl hB.s.sh rfl ?_
  refine t_X7_refusalToTurn hB.s (fun hr6 => ?_) (fun hr6 => ?_) (fun hr6 => ?_)
  · skip
    refine x_istore_n (p2 := 10) (i := 3) (L2 := [(0, _), (1, _), (2, _), (3, _)]) rfl dX9_rotate_9 rfl ⟨rfl, Nat.le_of_ble_eq_true rfl⟩ rfl ?_
    refine x_iload_n (p2 := 11) rfl dX9_rotate_10 rfl ?_
    refine x_if_eq (p2 := 14) (t := 16) (by decide) rfl dX9_rotate_11 (fun hc => absurd hc (by decide)) (fun _ => ?_)
    refine x_iload_n (p2 := 15) rfl dX9_rotate_14 rfl ?_
    refine x_iret dX9_rotate_15 rfl ?_
    exact k1 hr6
  · skip
    refine x_istore_n (p2 := 10) (i := 3) (L2 := [(0, _), (1, _), (2, _), (3, _)]) rfl dX9_rotate_9 rfl ⟨rfl, Nat.le_of_ble_eq_true rfl⟩ rfl ?_
    refine x_iload_n (p2 := 11) rfl dX9_rotate_10 rfl ?_
    refine x_if_eq (p2 := 14) (t := 16) (by decide) rfl dX9_rotate_11 (fun hc => absurd hc (by decide)) (fun _ => ?_)
    refine x_iload_n (p2 := 15) rfl dX9_rotate_14 rfl ?_
    refine x_iret dX9_rotate_15 rfl ?_
    exact k3 hr6
  · skip
    refine x_istore_n (p2 := 10) (i := 3) (L2 := [(0, _), (1, _), (2, _), (3, _)]) rfl dX9_rotate_9 rfl ⟨rfl, Nat.le_of_ble_eq_true rfl⟩ rfl ?_
    refine x_iload_n (p2 := 11) rfl dX9_rotate_10 rfl ?_
    refine x_if_eq (p2 := 14) (t := 16) (by decide) rfl dX9_rotate_11 (fun _ => ?_) (fun hc => absurd hc (by decide))
    refine x_aload_n (p2 := 17) rfl dX9_rotate_16 rfl ?_
    refine x_getr (p2 := 20) (kz := 5) rfl dX9_rotate_17 f_9_39 rfl rfl hB.sh hB.r5 ?_
    refine x_aload_n (p2 := 21) rfl dX9_rotate_20 rfl ?_
    refine x_getr (p2 := 24) (kz := 1) rfl dX9_rotate_21 f_9_21 rfl rfl hB.sh hB.r1 ?_
    refine x_v1 (p2 := 27) rfl dX9_rotate_24 l_9_164 ok_X2_remember rfl hB.h.sh rfl ?_
    refine t_X2_remember hB.h hB.s (by omega) hho hhh (fun M24 hf24 hs24 h124 h224 => ?_)
    have hvs : vw M24 S = vw M S := vw_c (fun c z1 z2 => hf24 c (by omega) (by omega))
    have hF : M24 F = M F := hf24 F (by omega) (by omega)
    have hF1 : M24 (F + 1) = M (F + 1) := hf24 (F + 1) (by omega) (by omega)
    have e1 : M24 (S + 1) = M (S + 1) := hf24 _ (by omega) (by omega)
    have e2 : M24 (S + 2) = M (S + 2) := hf24 _ (by omega) (by omega)
    have e3 : M24 (S + 3) = M (S + 3) := hf24 _ (by omega) (by omega)
    have e4 : M24 (S + 4) = M (S + 4) := hf24 _ (by omega) (by omega)
    have e0 : M24 S = M S := hf24 _ (by omega) (by omega)
    refine x_aload_n (p2 := 28) rfl dX9_rotate_27 rfl ?_
    refine x_getr (p2 := 31) (kz := 1) rfl dX9_rotate_28 f_9_21 rfl rfl hB.sh hB.r1 ?_
    refine x_iload_n (p2 := 32) rfl dX9_rotate_31 rfl ?_
    refine x_iload_n (p2 := 33) rfl dX9_rotate_32 rfl ?_
    refine x_v2 (p2 := 36) rfl dX9_rotate_33 l_9_160 ok_X7_turn rfl hB.s.sh rfl ?_
    refine t_X7_turn hB.s (by omega) (by omega) ?_
    refine x_aload_n (p2 := 37) rfl dX9_rotate_36 rfl ?_
    refine x_getr (p2 := 40) (kz := 1) rfl dX9_rotate_37 f_9_21 rfl rfl hB.sh hB.r1 ?_
    refine x_v0 (p2 := 43) rfl dX9_rotate_40 l_9_125 ok_X7_totalCost rfl hB.s.sh rfl ?_
    have hWv := wfV_tn (f := i) (l := j) hW (by omega) (by omega)
    rw [e4]
    refine t_X7_totalCost hB.s ?_ ?_ ?_
    · rw [xw_n (show F ≠ S + 4 by omega), xw_n (show S + 1 ≠ S + 4 by omega), xw_n (show S + 2 ≠ S + 4 by omega), xw_n (show S + 3 ≠ S + 4 by omega), hF, e1, e2, e3]; exact hG
    · rw [xw_n (show F ≠ S + 4 by omega), xw_n (show S ≠ S + 4 by omega), xw_s, hF, e0]; exact hWv.2.1
    rw [xw_n (show F ≠ S + 4 by omega), xw_n (show S + 1 ≠ S + 4 by omega), xw_n (show S + 2 ≠ S + 4 by omega), xw_n (show S + 3 ≠ S + 4 by omega), xw_n (show S ≠ S + 4 by omega), xw_s, hF, e1, e2, e3, e0]
    refine x_iret dX9_rotate_43 rfl ?_
    refine hq hr6 _ (ca.mk hf24 hs24 h124 h224 (by omega) (fun c z1 z2 => xw_n (by omega)) ?_)
    rw [vw_o, e1, e2, e3, e0]; rfl
set_option maxHeartbeats 4000000 in
theorem t_X9_split {B F S T V Z H X C P : Nat} (hB : isBL σ ρ B F S T V Z H X C P) (hI : clI M F S V Z H X) {t : Int} (k1 : ¬ (1 ≤ t ∧ t ≤ 99) → Q (some (xI (-2))) (σ, ρ, M)) (hq : (1 ≤ t ∧ t ≤ 99) → ∀ M2, ca M M2 S H C P (vdv (M F 0) (M F 1) t (vw M S)) → Q (some (xI (vdv (M F 0) (M F 1) t (vw M S)).2.2.2.2.1)) (σ, ρ, M2)) : xX G mX9_split 0 0 0 [(0, xP B), (1, xI t)] [] (σ, ρ, M) Q := by
  have hl := hB.lt
  obtain ⟨hW, hho, hhh, hhs, hzs, htx⟩ := id hI
  have hG : wfG (M F 0) (M (S + 1)) (M (S + 2)) (M (S + 3)) := hW.1
  have hO : wfO (M F 0) (M (S + 4)) (M S 5) := hW.2.1
  have he := hW.2.2.2.1
  have h8 := hG.2.1
  have hrg : H + 2 ≤ rg H ((M H 1 + M H 2) % 14) ∧ rg H ((M H 1 + M H 2) % 14) + 4 ≤ H + 71 := by unfold rg; omega
  refine x_iload_n (p2 := 1) rfl dX9_split_0 rfl ?_
  refine x_s1 (p2 := 4) rfl dX9_split_1 l_9_177 ok_X7_refusalToDivide rfl rfl ?_
  refine t_X7_refusalToDivide (fun hr1 => ?_) (fun hr1 => ?_)
  · skip
    refine x_istore_n (p2 := 5) (i := 2) (L2 := [(0, _), (1, _), (2, _)]) rfl dX9_split_4 rfl ⟨rfl, Nat.le_of_ble_eq_true rfl⟩ rfl ?_
    refine x_iload_n (p2 := 6) rfl dX9_split_5 rfl ?_
    refine x_if_eq (p2 := 9) (t := 11) (by decide) rfl dX9_split_6 (fun hc => absurd hc (by decide)) (fun _ => ?_)
    refine x_iload_n (p2 := 10) rfl dX9_split_9 rfl ?_
    refine x_iret dX9_split_10 rfl ?_
    exact k1 hr1
  · skip
    refine x_istore_n (p2 := 5) (i := 2) (L2 := [(0, _), (1, _), (2, _)]) rfl dX9_split_4 rfl ⟨rfl, Nat.le_of_ble_eq_true rfl⟩ rfl ?_
    refine x_iload_n (p2 := 6) rfl dX9_split_5 rfl ?_
    refine x_if_eq (p2 := 9) (t := 11) (by decide) rfl dX9_split_6 (fun _ => ?_) (fun hc => absurd hc (by decide))
    refine x_aload_n (p2 := 12) rfl dX9_split_11 rfl ?_
    refine x_getr (p2 := 15) (kz := 5) rfl dX9_split_12 f_9_39 rfl rfl hB.sh hB.r5 ?_
    refine x_aload_n (p2 := 16) rfl dX9_split_15 rfl ?_
    refine x_getr (p2 := 19) (kz := 1) rfl dX9_split_16 f_9_21 rfl rfl hB.sh hB.r1 ?_
    refine x_v1 (p2 := 22) rfl dX9_split_19 l_9_164 ok_X2_remember rfl hB.h.sh rfl ?_
    refine t_X2_remember hB.h hB.s (by omega) hho hhh (fun M19 hf19 hs19 h119 h219 => ?_)
    have hvs : vw M19 S = vw M S := vw_c (fun c z1 z2 => hf19 c (by omega) (by omega))
    have hF : M19 F = M F := hf19 F (by omega) (by omega)
    have hF1 : M19 (F + 1) = M (F + 1) := hf19 (F + 1) (by omega) (by omega)
    have e1 : M19 (S + 1) = M (S + 1) := hf19 _ (by omega) (by omega)
    have e2 : M19 (S + 2) = M (S + 2) := hf19 _ (by omega) (by omega)
    have e3 : M19 (S + 3) = M (S + 3) := hf19 _ (by omega) (by omega)
    have e4 : M19 (S + 4) = M (S + 4) := hf19 _ (by omega) (by omega)
    have e0 : M19 S = M S := hf19 _ (by omega) (by omega)
    refine x_aload_n (p2 := 23) rfl dX9_split_22 rfl ?_
    refine x_getr (p2 := 26) (kz := 1) rfl dX9_split_23 f_9_21 rfl rfl hB.sh hB.r1 ?_
    refine x_iload_n (p2 := 27) rfl dX9_split_26 rfl ?_
    refine x_v1 (p2 := 30) rfl dX9_split_27 l_9_180 ok_X7_divide rfl hB.s.sh rfl ?_
    refine t_X7_divide hB.s (by rw [hF, e1, e2, e3]; exact hG) (by rw [hF]; exact he) ?_
    rw [e4]
    refine x_aload_n (p2 := 31) rfl dX9_split_30 rfl ?_
    refine x_getr (p2 := 34) (kz := 1) rfl dX9_split_31 f_9_21 rfl rfl hB.sh hB.r1 ?_
    refine x_geti (p2 := 37) (kz := 5) rfl dX9_split_34 f_9_122 rfl rfl hB.s.sh ?_
    rw [xu_s, e1, e2, e3, hF]
    refine x_iret dX9_split_37 rfl ?_
    refine hq hr1 _ (ca.mk hf19 hs19 h119 h219 (by omega) (fun c z1 z2 => by rw [xu_c (by omega), xw_n (by omega)]) ?_)
    rw [vw_oh, e1, e2, e3, e0]; rfl
set_option maxHeartbeats 4000000 in
theorem t_X9_bypass {B F S T V Z H X C P : Nat} (hB : isBL σ ρ B F S T V Z H X C P) (hI : clI M F S V Z H X) {b : Int} (k1 : ¬ (0 ≤ b ∧ b < M F 0) → Q (some (xI (-1))) (σ, ρ, M)) (k3 : (0 ≤ b ∧ b < M F 0) ∧ (b = 0 ∨ M (F + 1) b ≠ 0 ∨ M (S + 1) b ≠ 1 ∨ M (S + 2) (2 * b + 0) = b) → Q (some (xI (-3))) (σ, ρ, M)) (hq : 0 < b ∧ b < M F 0 ∧ M (F + 1) b = 0 ∧ M (S + 1) b = 1 ∧ M (S + 2) (2 * b + 0) ≠ b → ∀ M2, ca M M2 S H C P (vga (M F 0) b (vw M S)) → Q (some (xI (vgc (M F 0) b (vw M S)))) (σ, ρ, M2)) : xX G mX9_bypass 0 0 0 [(0, xP B), (1, xI b)] [] (σ, ρ, M) Q := by
  have hl := hB.lt
  obtain ⟨hW, hho, hhh, hhs, hzs, htx⟩ := id hI
  have hG : wfG (M F 0) (M (S + 1)) (M (S + 2)) (M (S + 3)) := hW.1
  have hO : wfO (M F 0) (M (S + 4)) (M S 5) := hW.2.1
  have he := hW.2.2.2.1
  have h8 := hG.2.1
  have hrg : H + 2 ≤ rg H ((M H 1 + M H 2) % 14) ∧ rg H ((M H 1 + M H 2) % 14) + 4 ≤ H + 71 := by unfold rg; omega
  refine x_aload_n (p2 := 1) rfl dX9_bypass_0 rfl ?_
  refine x_getr (p2 := 4) (kz := 1) rfl dX9_bypass_1 f_9_21 rfl rfl hB.sh hB.r1 ?_
  refine x_iload_n (p2 := 5) rfl dX9_bypass_4 rfl ?_
  refine x_v1 (p2 := 8) rfl dX9_bypass_5 l_9_184 ok_X7_refusalToGoAround rfl hB.s.sh rfl ?_
  refine t_X7_refusalToGoAround hB.s (by omega) (fun hr5 => ?_) (fun hr5 => ?_) (fun hr5 => ?_)
  · skip
    refine x_istore_n (p2 := 9) (i := 2) (L2 := [(0, _), (1, _), (2, _)]) rfl dX9_bypass_8 rfl ⟨rfl, Nat.le_of_ble_eq_true rfl⟩ rfl ?_
    refine x_iload_n (p2 := 10) rfl dX9_bypass_9 rfl ?_
    refine x_if_eq (p2 := 13) (t := 15) (by decide) rfl dX9_bypass_10 (fun hc => absurd hc (by decide)) (fun _ => ?_)
    refine x_iload_n (p2 := 14) rfl dX9_bypass_13 rfl ?_
    refine x_iret dX9_bypass_14 rfl ?_
    exact k1 hr5
  · skip
    refine x_istore_n (p2 := 9) (i := 2) (L2 := [(0, _), (1, _), (2, _)]) rfl dX9_bypass_8 rfl ⟨rfl, Nat.le_of_ble_eq_true rfl⟩ rfl ?_
    refine x_iload_n (p2 := 10) rfl dX9_bypass_9 rfl ?_
    refine x_if_eq (p2 := 13) (t := 15) (by decide) rfl dX9_bypass_10 (fun hc => absurd hc (by decide)) (fun _ => ?_)
    refine x_iload_n (p2 := 14) rfl dX9_bypass_13 rfl ?_
    refine x_iret dX9_bypass_14 rfl ?_
    exact k3 hr5
  · skip
    refine x_istore_n (p2 := 9) (i := 2) (L2 := [(0, _), (1, _), (2, _)]) rfl dX9_bypass_8 rfl ⟨rfl, Nat.le_of_ble_eq_true rfl⟩ rfl ?_
    refine x_iload_n (p2 := 10) rfl dX9_bypass_9 rfl ?_
    refine x_if_eq (p2 := 13) (t := 15) (by decide) rfl dX9_bypass_10 (fun _ => ?_) (fun hc => absurd hc (by decide))
    refine x_aload_n (p2 := 16) rfl dX9_bypass_15 rfl ?_
    refine x_getr (p2 := 19) (kz := 5) rfl dX9_bypass_16 f_9_39 rfl rfl hB.sh hB.r5 ?_
    refine x_aload_n (p2 := 20) rfl dX9_bypass_19 rfl ?_
    refine x_getr (p2 := 23) (kz := 1) rfl dX9_bypass_20 f_9_21 rfl rfl hB.sh hB.r1 ?_
    refine x_v1 (p2 := 26) rfl dX9_bypass_23 l_9_164 ok_X2_remember rfl hB.h.sh rfl ?_
    refine t_X2_remember hB.h hB.s (by omega) hho hhh (fun M23 hf23 hs23 h123 h223 => ?_)
    have hvs : vw M23 S = vw M S := vw_c (fun c z1 z2 => hf23 c (by omega) (by omega))
    have hF : M23 F = M F := hf23 F (by omega) (by omega)
    have hF1 : M23 (F + 1) = M (F + 1) := hf23 (F + 1) (by omega) (by omega)
    have e1 : M23 (S + 1) = M (S + 1) := hf23 _ (by omega) (by omega)
    have e2 : M23 (S + 2) = M (S + 2) := hf23 _ (by omega) (by omega)
    have e3 : M23 (S + 3) = M (S + 3) := hf23 _ (by omega) (by omega)
    have e4 : M23 (S + 4) = M (S + 4) := hf23 _ (by omega) (by omega)
    have e0 : M23 S = M S := hf23 _ (by omega) (by omega)
    refine x_aload_n (p2 := 27) rfl dX9_bypass_26 rfl ?_
    refine x_getr (p2 := 30) (kz := 1) rfl dX9_bypass_27 f_9_21 rfl rfl hB.sh hB.r1 ?_
    refine x_iload_n (p2 := 31) rfl dX9_bypass_30 rfl ?_
    refine x_v1 (p2 := 34) rfl dX9_bypass_31 l_9_187 ok_X7_goAround rfl hB.s.sh rfl ?_
    refine t_X7_goAround hB.s (by rw [hF, e1, e2, e3]; exact hG) (by rw [hF]; omega) ?_
    refine x_iret dX9_bypass_34 rfl ?_
    rw [e1, e2, e3, hF]
    refine hq hr5 _ (ca.mk hf23 hs23 h123 h223 (by omega) (fun c z1 z2 => by rw [xu_c (by omega), st3_n (by omega) (by omega) (by omega)]) ?_)
    rw [vw_g, e4, e0]; rfl
set_option maxHeartbeats 4000000 in
theorem t_X9_setCount {B F S T V Z H X C P : Nat} (hB : isBL σ ρ B F S T V Z H X C P) (hI : clI M F S V Z H X) {b k x : Int} (k1 : ¬ (0 ≤ b ∧ b < M F 0 ∧ 0 ≤ k ∧ k < M (S + 1) b) → Q (some (xI (-1))) (σ, ρ, M)) (k2 : (0 ≤ b ∧ b < M F 0 ∧ 0 ≤ k ∧ k < M (S + 1) b) → ¬ (0 ≤ x ∧ x ≤ 99) → Q (some (xI (-2))) (σ, ρ, M)) (hq : (0 ≤ b ∧ b < M F 0 ∧ 0 ≤ k ∧ k < M (S + 1) b) → (0 ≤ x ∧ x ≤ 99) → ∀ M2, ca M M2 S H C P (M (S + 1), M (S + 2), upf (M (S + 3)) (2 * b + k) x, M (S + 4), M S 5, M S 6) → Q (some (xI (M (S + 3) (2 * b + k)))) (σ, ρ, M2)) : xX G mX9_setCount 0 0 0 [(0, xP B), (1, xI b), (2, xI k), (3, xI x)] [] (σ, ρ, M) Q := by
  have hl := hB.lt
  obtain ⟨hW, hho, hhh, hhs, hzs, htx⟩ := id hI
  have hG : wfG (M F 0) (M (S + 1)) (M (S + 2)) (M (S + 3)) := hW.1
  have hO : wfO (M F 0) (M (S + 4)) (M S 5) := hW.2.1
  have he := hW.2.2.2.1
  have h8 := hG.2.1
  have hrg : H + 2 ≤ rg H ((M H 1 + M H 2) % 14) ∧ rg H ((M H 1 + M H 2) % 14) + 4 ≤ H + 71 := by unfold rg; omega
  refine x_aload_n (p2 := 1) rfl dX9_setCount_0 rfl ?_
  refine x_getr (p2 := 4) (kz := 1) rfl dX9_setCount_1 f_9_21 rfl rfl hB.sh hB.r1 ?_
  refine x_iload_n (p2 := 5) rfl dX9_setCount_4 rfl ?_
  refine x_iload_n (p2 := 6) rfl dX9_setCount_5 rfl ?_
  refine x_v2 (p2 := 9) rfl dX9_setCount_6 l_9_102 ok_X7_hasEdge rfl hB.s.sh rfl ?_
  refine t_X7_hasEdge hB.s (by omega) (fun hb6 => ?_) (fun hb6 => ?_)
  · skip
    refine x_if_ne (p2 := 12) (t := 14) (by decide) rfl dX9_setCount_9 (fun _ => ?_) (fun hc => absurd hc (by decide))
    refine x_iload_n (p2 := 15) rfl dX9_setCount_14 rfl ?_
    refine x_if_lt (p2 := 18) (t := 24) (by decide) rfl dX9_setCount_15 (fun hc15 => ?_) (fun hc15 => ?_)
    · skip
      refine x_bipush (p2 := 26) rfl dX9_setCount_24 ⟨by decide, ⟨by decide, by decide⟩⟩ ?_
      refine x_iret dX9_setCount_26 rfl ?_
      exact k2 hb6 (by omega)
    · skip
      refine x_iload_n (p2 := 19) rfl dX9_setCount_18 rfl ?_
      refine x_bipush (p2 := 21) rfl dX9_setCount_19 ⟨by decide, ⟨by decide, by decide⟩⟩ ?_
      refine x_ic_le (p2 := 24) (t := 27) (by decide) rfl dX9_setCount_21 (fun hc21 => ?_) (fun hc21 => ?_)
      · skip
        have hx := (hG.2.2 b (by omega) (by omega)).2.1
        refine x_aload_n (p2 := 28) rfl dX9_setCount_27 rfl ?_
        refine x_getr (p2 := 31) (kz := 5) rfl dX9_setCount_28 f_9_39 rfl rfl hB.sh hB.r5 ?_
        refine x_aload_n (p2 := 32) rfl dX9_setCount_31 rfl ?_
        refine x_getr (p2 := 35) (kz := 1) rfl dX9_setCount_32 f_9_21 rfl rfl hB.sh hB.r1 ?_
        refine x_v1 (p2 := 38) rfl dX9_setCount_35 l_9_164 ok_X2_remember rfl hB.h.sh rfl ?_
        refine t_X2_remember hB.h hB.s (by omega) hho hhh (fun M35 hf35 hs35 h135 h235 => ?_)
        have hvs : vw M35 S = vw M S := vw_c (fun c z1 z2 => hf35 c (by omega) (by omega))
        have hF : M35 F = M F := hf35 F (by omega) (by omega)
        have hF1 : M35 (F + 1) = M (F + 1) := hf35 (F + 1) (by omega) (by omega)
        have e1 : M35 (S + 1) = M (S + 1) := hf35 _ (by omega) (by omega)
        have e2 : M35 (S + 2) = M (S + 2) := hf35 _ (by omega) (by omega)
        have e3 : M35 (S + 3) = M (S + 3) := hf35 _ (by omega) (by omega)
        have e4 : M35 (S + 4) = M (S + 4) := hf35 _ (by omega) (by omega)
        have e0 : M35 S = M S := hf35 _ (by omega) (by omega)
        refine x_aload_n (p2 := 39) rfl dX9_setCount_38 rfl ?_
        refine x_getr (p2 := 42) (kz := 1) rfl dX9_setCount_39 f_9_21 rfl rfl hB.sh hB.r1 ?_
        refine x_iload_n (p2 := 43) rfl dX9_setCount_42 rfl ?_
        refine x_iload_n (p2 := 44) rfl dX9_setCount_43 rfl ?_
        refine x_v2 (p2 := 47) rfl dX9_setCount_44 l_9_110 ok_X7_count rfl hB.s.sh rfl ?_
        refine t_X7_count hB.s (by omega) (by omega) (by omega) (by omega) ?_
        rw [e3]
        refine x_istore (p2 := 49) (i := 4) (L2 := [(0, _), (1, _), (2, _), (3, _), (4, _)]) rfl dX9_setCount_47 ⟨rfl, Nat.le_of_ble_eq_true rfl⟩ rfl ?_
        refine x_aload_n (p2 := 50) rfl dX9_setCount_49 rfl ?_
        refine x_getr (p2 := 53) (kz := 1) rfl dX9_setCount_50 f_9_21 rfl rfl hB.sh hB.r1 ?_
        refine x_iload_n (p2 := 54) rfl dX9_setCount_53 rfl ?_
        refine x_iload_n (p2 := 55) rfl dX9_setCount_54 rfl ?_
        refine x_iload_n (p2 := 56) rfl dX9_setCount_55 rfl ?_
        refine x_v3 (p2 := 59) rfl dX9_setCount_56 l_9_190 ok_X7_putCount rfl hB.s.sh rfl ?_
        refine t_X7_putCount hB.s (by omega) (by omega) (by omega) (by omega) ?_
        refine x_iload (p2 := 61) rfl dX9_setCount_59 rfl ?_
        refine x_iret dX9_setCount_61 rfl ?_
        refine hq hb6 (by omega) _ (ca.mk hf35 hs35 h135 h235 (by omega) (fun c z1 z2 => xu_c (by omega)) ?_)
        unfold vw
        rw [xu_c (show S + 1 ≠ S + 3 by omega), xu_c (show S + 2 ≠ S + 3 by omega), xu_eq, xw_s, xw_n (show S + 4 ≠ S + 3 by omega), xw_n (show S ≠ S + 3 by omega), e1, e2, e3, e4, e0]
      · skip
        refine x_bipush (p2 := 26) rfl dX9_setCount_24 ⟨by decide, ⟨by decide, by decide⟩⟩ ?_
        refine x_iret dX9_setCount_26 rfl ?_
        exact k2 hb6 (by omega)
  · skip
    refine x_if_ne (p2 := 12) (t := 14) (by decide) rfl dX9_setCount_9 (fun hc => absurd hc (by decide)) (fun _ => ?_)
    refine x_iconst (p2 := 13) rfl dX9_setCount_12 ⟨by decide, by decide⟩ ?_
    refine x_iret dX9_setCount_13 rfl ?_
    exact k1 hb6
end XBL
