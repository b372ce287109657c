section XMD
variable {G : xG} {σ : List (Nat × Nat)} {ρ : Nat → Int → Option Nat} {M : Nat → Int → Int} {Q : Option xV → xH → Prop}
theorem sg_add {f g : Int → Int} : ∀ (k : Nat) (i : Int), sg (fun j => f j + g j) i k = sg f i k + sg g i k
  | 0, i => by unfold sg; omega
  | k + 1, i => by unfold sg; rw [sg_add k (i + 1)]; omega
theorem sg_zero : ∀ (k : Nat) (i : Int), sg (fun _ => 0) i k = 0
  | 0, i => rfl
  | k + 1, i => by unfold sg; rw [sg_zero k (i + 1)]; omega
theorem sg_one {f : Int → Int} {j : Int} : ∀ (k : Nat) (i : Int), i ≤ j → j < i + k → (∀ x, i ≤ x → x < i + k → x ≠ j → f x = 0) → sg f i k = f j
  | 0, i, h0, h1, h => by omega
  | k + 1, i, h0, h1, h => by
    unfold sg
    by_cases hj : i = j
    · subst hj
      rw [sg_cong (g := fun _ => 0) k (i + 1) (fun x a b => h x (by omega) (by omega) (by omega)), sg_zero]; omega
    · rw [h i (by omega) (by omega) hj, sg_one k (i + 1) (by omega) (by omega) (fun x a b c => h x (by omega) (by omega) c)]; omega
theorem sg_comm {f : Int → Int → Int} {m : Nat} {j : Int} : ∀ (k : Nat) (i : Int), sg (fun x => sg (fun y => f x y) j m) i k = sg (fun y => sg (fun x => f x y) i k) j m
  | 0, i => (sg_zero m j).symm
  | k + 1, i => by
    rw [sg, sg_comm k (i + 1), ← sg_add]
    rfl
/-- a sum over an order is a sum over the blocks -/
theorem sg_od {n hot : Int} {od g : Int → Int} (hO : wfO n od hot) : sg (fun i => g (od i)) 0 n.toNat = sg g 0 n.toNat := by
  rw [sg_cong (g := fun i => sg (fun b => if od i = b then g b else 0) 0 n.toNat) n.toNat 0 (fun i a b => ?_), sg_comm]
  · refine sg_cong n.toNat 0 (fun b a c => ?_)
    have hp := pos_ok hO (b := b) (by omega) (by omega)
    rw [sg_one (j := pos n od b) n.toNat 0 (by omega) (by omega) (fun x x0 x1 x2 => if_neg (fun z => x2 (by rw [← z, pos_un hO (by omega) (by omega)]))), if_pos hp.2.2]
  · have h1 := hO.1 i (by omega) (by omega)
    rw [sg_one (j := od i) n.toNat 0 (by omega) (by omega) (fun x x0 x1 x2 => if_neg (fun z => x2 z.symm)), if_pos rfl]
/-- BlockLayoutModel at D -/
def isMd (σ : List (Nat × Nat)) (ρ : Nat → Int → Option Nat) (D : Nat) : Prop := σ[D]? = some (7, xN 7) ∧ ρ D 0 = some (D + 1) ∧ ρ D 3 = some (D + 2) ∧ ρ D 5 = some (D + 3) ∧ ρ D 6 = some (D + 4) ∧ ρ D 7 = some (D + 5) ∧ ρ D 8 = some (D + 6) ∧ ρ D 11 = some (D + 7) ∧ ρ D 12 = some (D + 8) ∧ ρ D 16 = some (D + 9) ∧ ρ D 17 = some (D + 10) ∧ ρ D 18 = some (D + 11) ∧ ρ D 19 = some (D + 12) ∧ ρ D 20 = some (D + 13) ∧ ρ D 21 = some (D + 14) ∧ σ[D + 1]? = some (100, 99) ∧ σ[D + 2]? = some (100, 8) ∧ σ[D + 3]? = some (100, 50) ∧ σ[D + 4]? = some (100, 50) ∧ σ[D + 5]? = some (100, 50) ∧ σ[D + 6]? = some (100, 700) ∧ σ[D + 7]? = some (100, 100) ∧ σ[D + 8]? = some (101, 2) ∧ σ[D + 9]? = some (100, 8) ∧ σ[D + 10]? = some (100, 50) ∧ σ[D + 11]? = some (100, 8) ∧ σ[D + 12]? = some (100, 8) ∧ σ[D + 13]? = some (101, 8) ∧ σ[D + 14]? = some (100, 8)
theorem isMd.sh {D : Nat} (h : isMd σ ρ D) : σ[D]? = some (7, xN 7) := h.1
theorem isMd.r0 {D : Nat} (h : isMd σ ρ D) : ρ D 0 = some (D + 1) := h.2.1
theorem isMd.r3 {D : Nat} (h : isMd σ ρ D) : ρ D 3 = some (D + 2) := h.2.2.1
theorem isMd.r5 {D : Nat} (h : isMd σ ρ D) : ρ D 5 = some (D + 3) := h.2.2.2.1
theorem isMd.r6 {D : Nat} (h : isMd σ ρ D) : ρ D 6 = some (D + 4) := h.2.2.2.2.1
theorem isMd.r7 {D : Nat} (h : isMd σ ρ D) : ρ D 7 = some (D + 5) := h.2.2.2.2.2.1
theorem isMd.r8 {D : Nat} (h : isMd σ ρ D) : ρ D 8 = some (D + 6) := h.2.2.2.2.2.2.1
theorem isMd.r11 {D : Nat} (h : isMd σ ρ D) : ρ D 11 = some (D + 7) := h.2.2.2.2.2.2.2.1
theorem isMd.r12 {D : Nat} (h : isMd σ ρ D) : ρ D 12 = some (D + 8) := h.2.2.2.2.2.2.2.2.1
theorem isMd.r16 {D : Nat} (h : isMd σ ρ D) : ρ D 16 = some (D + 9) := h.2.2.2.2.2.2.2.2.2.1
theorem isMd.r17 {D : Nat} (h : isMd σ ρ D) : ρ D 17 = some (D + 10) := h.2.2.2.2.2.2.2.2.2.2.1
theorem isMd.r18 {D : Nat} (h : isMd σ ρ D) : ρ D 18 = some (D + 11) := h.2.2.2.2.2.2.2.2.2.2.2.1
theorem isMd.r19 {D : Nat} (h : isMd σ ρ D) : ρ D 19 = some (D + 12) := h.2.2.2.2.2.2.2.2.2.2.2.2.1
theorem isMd.r20 {D : Nat} (h : isMd σ ρ D) : ρ D 20 = some (D + 13) := h.2.2.2.2.2.2.2.2.2.2.2.2.2.1
theorem isMd.r21 {D : Nat} (h : isMd σ ρ D) : ρ D 21 = some (D + 14) := h.2.2.2.2.2.2.2.2.2.2.2.2.2.2.1
theorem isMd.a0 {D : Nat} (h : isMd σ ρ D) : σ[D + 1]? = some (100, 99) := h.2.2.2.2.2.2.2.2.2.2.2.2.2.2.2.1
theorem isMd.a3 {D : Nat} (h : isMd σ ρ D) : σ[D + 2]? = some (100, 8) := h.2.2.2.2.2.2.2.2.2.2.2.2.2.2.2.2.1
theorem isMd.a5 {D : Nat} (h : isMd σ ρ D) : σ[D + 3]? = some (100, 50) := h.2.2.2.2.2.2.2.2.2.2.2.2.2.2.2.2.2.1
theorem isMd.a6 {D : Nat} (h : isMd σ ρ D) : σ[D + 4]? = some (100, 50) := h.2.2.2.2.2.2.2.2.2.2.2.2.2.2.2.2.2.2.1
theorem isMd.a7 {D : Nat} (h : isMd σ ρ D) : σ[D + 5]? = some (100, 50) := h.2.2.2.2.2.2.2.2.2.2.2.2.2.2.2.2.2.2.2.1
theorem isMd.a8 {D : Nat} (h : isMd σ ρ D) : σ[D + 6]? = some (100, 700) := h.2.2.2.2.2.2.2.2.2.2.2.2.2.2.2.2.2.2.2.2.1
theorem isMd.a11 {D : Nat} (h : isMd σ ρ D) : σ[D + 7]? = some (100, 100) := h.2.2.2.2.2.2.2.2.2.2.2.2.2.2.2.2.2.2.2.2.2.1
theorem isMd.a12 {D : Nat} (h : isMd σ ρ D) : σ[D + 8]? = some (101, 2) := h.2.2.2.2.2.2.2.2.2.2.2.2.2.2.2.2.2.2.2.2.2.2.1
theorem isMd.a16 {D : Nat} (h : isMd σ ρ D) : σ[D + 9]? = some (100, 8) := h.2.2.2.2.2.2.2.2.2.2.2.2.2.2.2.2.2.2.2.2.2.2.2.1
theorem isMd.a17 {D : Nat} (h : isMd σ ρ D) : σ[D + 10]? = some (100, 50) := h.2.2.2.2.2.2.2.2.2.2.2.2.2.2.2.2.2.2.2.2.2.2.2.2.1
theorem isMd.a18 {D : Nat} (h : isMd σ ρ D) : σ[D + 11]? = some (100, 8) := h.2.2.2.2.2.2.2.2.2.2.2.2.2.2.2.2.2.2.2.2.2.2.2.2.2.1
theorem isMd.a19 {D : Nat} (h : isMd σ ρ D) : σ[D + 12]? = some (100, 8) := h.2.2.2.2.2.2.2.2.2.2.2.2.2.2.2.2.2.2.2.2.2.2.2.2.2.2.1
theorem isMd.a20 {D : Nat} (h : isMd σ ρ D) : σ[D + 13]? = some (101, 8) := h.2.2.2.2.2.2.2.2.2.2.2.2.2.2.2.2.2.2.2.2.2.2.2.2.2.2.2.1
theorem isMd.a21 {D : Nat} (h : isMd σ ρ D) : σ[D + 14]? = some (100, 8) := h.2.2.2.2.2.2.2.2.2.2.2.2.2.2.2.2.2.2.2.2.2.2.2.2.2.2.2.2
/-- a row of the reference holds the layout v -/
def smr (n : Int) (v : vV) (r : Int → Int) : Prop := (∀ b, 0 ≤ b → b < n → r (10 + b) = v.1 b) ∧ (∀ b k, 0 ≤ b → b < n → 0 ≤ k → k < v.1 b → r (18 + 2 * b + k) = v.2.1 (2 * b + k) ∧ r (34 + 2 * b + k) = v.2.2.1 (2 * b + k)) ∧ (∀ i, 0 ≤ i → i < n → r (2 + i) = v.2.2.2.1 i) ∧ r 0 = v.2.2.2.2.1 ∧ r 1 = v.2.2.2.2.2
variable {n : Int} {v : vV} {r : Int → Int}
theorem smr.x {b : Int} (h : smr n v r) (h0 : 0 ≤ b) (h1 : b < n) : r (10 + b) = v.1 b := h.1 b h0 h1
theorem smr.t {b k : Int} (h : smr n v r) (h0 : 0 ≤ b) (h1 : b < n) (h2 : 0 ≤ k) (h3 : k < v.1 b) : r (18 + 2 * b + k) = v.2.1 (2 * b + k) := (h.2.1 b k h0 h1 h2 h3).1
theorem smr.c {b k : Int} (h : smr n v r) (h0 : 0 ≤ b) (h1 : b < n) (h2 : 0 ≤ k) (h3 : k < v.1 b) : r (34 + 2 * b + k) = v.2.2.1 (2 * b + k) := (h.2.1 b k h0 h1 h2 h3).2
theorem smr.o {i : Int} (h : smr n v r) (h0 : 0 ≤ i) (h1 : i < n) : r (2 + i) = v.2.2.2.1 i := h.2.2.1 i h0 h1
theorem smr.h (h : smr n v r) : r 0 = v.2.2.2.2.1 := h.2.2.2.1
theorem smr.a (h : smr n v r) : r 1 = v.2.2.2.2.2 := h.2.2.2.2
theorem smr.t0 {b : Int} (h : smr n v r) (h0 : 0 ≤ b) (h1 : b < n) (h3 : 0 < v.1 b) : r (18 + 2 * b) = v.2.1 (2 * b + 0) := by
  have := h.t h0 h1 (Int.le_refl 0) h3; rwa [Int.add_zero] at this
theorem smr.c0 {b : Int} (h : smr n v r) (h0 : 0 ≤ b) (h1 : b < n) (h3 : 0 < v.1 b) : r (34 + 2 * b) = v.2.2.1 (2 * b + 0) := by
  have := h.c h0 h1 (Int.le_refl 0) h3; rwa [Int.add_zero] at this
theorem smr.t' {b k : Int} (h : smr n v r) (h0 : 0 ≤ b) (h1 : b < n) (h2 : 0 ≤ k) (h3 : k ≤ 1) (h4 : v.1 b = 2) : r (18 + 2 * b + 1 - k) = v.2.1 (2 * b + (1 - k)) := by
  have := h.t (k := 1 - k) h0 h1 (by omega) (by omega)
  rwa [show 18 + 2 * b + (1 - k) = 18 + 2 * b + 1 - k by omega] at this
set_option maxHeartbeats 4000000 in
theorem t_X10_in {a b c : Int} (k1 : b ≤ a ∧ a ≤ c → Q (some (xI 1)) (σ, ρ, M)) (k0 : ¬ (b ≤ a ∧ a ≤ c) → Q (some (xI 0)) (σ, ρ, M)) : xX G mX10_in 0 0 0 [(0, xL a), (2, xL b), (4, xL c)] [] (σ, ρ, M) Q := by
  refine x_lload_n (p2 := 1) rfl dX10_in_0 rfl ?_
  refine x_lload_n (p2 := 2) rfl dX10_in_1 rfl ?_
  refine x_lcmp (p2 := 3) rfl dX10_in_2 (fun hc2 => ?_) (fun hc2 => ?_) (fun hc2 => ?_)
  · skip
    refine x_if_lt (p2 := 6) (t := 17) (by decide) rfl dX10_in_3 (fun hc => absurd hc (by decide)) (fun _ => ?_)
    refine x_lload_n (p2 := 7) rfl dX10_in_6 rfl ?_
    refine x_lload (p2 := 9) rfl dX10_in_7 rfl ?_
    refine x_lcmp (p2 := 10) rfl dX10_in_9 (fun hc9 => ?_) (fun hc9 => ?_) (fun hc9 => ?_)
    · skip
      refine x_if_gt (p2 := 13) (t := 17) (by decide) rfl dX10_in_10 (fun _ => ?_) (fun hc => absurd hc (by decide))
      refine x_iconst (p2 := 18) rfl dX10_in_17 ⟨by decide, by decide⟩ ?_
      refine x_zret dX10_in_18 rfl (by omega) ?_
      exact k0 (by omega)
    · skip
      refine x_if_gt (p2 := 13) (t := 17) (by decide) rfl dX10_in_10 (fun hc => absurd hc (by decide)) (fun _ => ?_)
      refine x_iconst (p2 := 14) rfl dX10_in_13 ⟨by decide, by decide⟩ ?_
      refine x_goto (t := 18) (by decide) dX10_in_14 ?_
      refine x_zret dX10_in_18 rfl (by omega) ?_
      exact k1 (by omega)
    · skip
      refine x_if_gt (p2 := 13) (t := 17) (by decide) rfl dX10_in_10 (fun hc => absurd hc (by decide)) (fun _ => ?_)
      refine x_iconst (p2 := 14) rfl dX10_in_13 ⟨by decide, by decide⟩ ?_
      refine x_goto (t := 18) (by decide) dX10_in_14 ?_
      refine x_zret dX10_in_18 rfl (by omega) ?_
      exact k1 (by omega)
  · skip
    refine x_if_lt (p2 := 6) (t := 17) (by decide) rfl dX10_in_3 (fun hc => absurd hc (by decide)) (fun _ => ?_)
    refine x_lload_n (p2 := 7) rfl dX10_in_6 rfl ?_
    refine x_lload (p2 := 9) rfl dX10_in_7 rfl ?_
    refine x_lcmp (p2 := 10) rfl dX10_in_9 (fun hc9 => ?_) (fun hc9 => ?_) (fun hc9 => ?_)
    · skip
      refine x_if_gt (p2 := 13) (t := 17) (by decide) rfl dX10_in_10 (fun _ => ?_) (fun hc => absurd hc (by decide))
      refine x_iconst (p2 := 18) rfl dX10_in_17 ⟨by decide, by decide⟩ ?_
      refine x_zret dX10_in_18 rfl (by omega) ?_
      exact k0 (by omega)
    · skip
      refine x_if_gt (p2 := 13) (t := 17) (by decide) rfl dX10_in_10 (fun hc => absurd hc (by decide)) (fun _ => ?_)
      refine x_iconst (p2 := 14) rfl dX10_in_13 ⟨by decide, by decide⟩ ?_
      refine x_goto (t := 18) (by decide) dX10_in_14 ?_
      refine x_zret dX10_in_18 rfl (by omega) ?_
      exact k1 (by omega)
    · skip
      refine x_if_gt (p2 := 13) (t := 17) (by decide) rfl dX10_in_10 (fun hc => absurd hc (by decide)) (fun _ => ?_)
      refine x_iconst (p2 := 14) rfl dX10_in_13 ⟨by decide, by decide⟩ ?_
      refine x_goto (t := 18) (by decide) dX10_in_14 ?_
      refine x_zret dX10_in_18 rfl (by omega) ?_
      exact k1 (by omega)
  · skip
    refine x_if_lt (p2 := 6) (t := 17) (by decide) rfl dX10_in_3 (fun _ => ?_) (fun hc => absurd hc (by decide))
    refine x_iconst (p2 := 18) rfl dX10_in_17 ⟨by decide, by decide⟩ ?_
    refine x_zret dX10_in_18 rfl (by omega) ?_
    exact k0 (by omega)
set_option maxHeartbeats 4000000 in
theorem t_X10_isBlock {D : Nat} (hD : isMd σ ρ D) {b : Int} (hn : 1 ≤ M D 2 ∧ M D 2 ≤ 8) (k1 : 0 ≤ b ∧ b < M D 2 → Q (some (xI 1)) (σ, ρ, M)) (k0 : ¬ (0 ≤ b ∧ b < M D 2) → Q (some (xI 0)) (σ, ρ, M)) : xX G mX10_isBlock 0 0 0 [(0, xP D), (1, xI b)] [] (σ, ρ, M) Q := by
  refine x_iload_n (p2 := 1) rfl dX10_isBlock_0 rfl ?_
  refine x_i2l (p2 := 2) rfl dX10_isBlock_1 ?_
  refine x_lconst (p2 := 3) (v := 0) rfl dX10_isBlock_2 ⟨by decide, ⟨by decide, by decide⟩⟩ ?_
  refine x_aload_n (p2 := 4) rfl dX10_isBlock_3 rfl ?_
  refine x_geti (p2 := 7) (kz := 2) rfl dX10_isBlock_4 f_10_53 rfl rfl hD.sh ?_
  refine x_iconst (p2 := 8) rfl dX10_isBlock_7 ⟨by decide, by decide⟩ ?_
  refine x_isub (p2 := 9) rfl dX10_isBlock_8 ⟨by omega, by omega⟩ ?_
  refine x_i2l (p2 := 10) rfl dX10_isBlock_9 ?_
  refine x_s3 (p2 := 13) rfl dX10_isBlock_10 l_10_57 ok_X10_in rfl rfl ?_
  refine t_X10_in (fun hb10 => ?_) (fun hb10 => ?_)
  · skip
    refine x_zret dX10_isBlock_13 rfl (by omega) ?_
    exact k1 (by omega)
  · skip
    refine x_zret dX10_isBlock_13 rfl (by omega) ?_
    exact k0 (by omega)
set_option maxHeartbeats 4000000 in
theorem t_X10_isPosition {D : Nat} (hD : isMd σ ρ D) {b : Int} (hn : 1 ≤ M D 2 ∧ M D 2 ≤ 8) (k1 : 0 ≤ b ∧ b < M D 2 → Q (some (xI 1)) (σ, ρ, M)) (k0 : ¬ (0 ≤ b ∧ b < M D 2) → Q (some (xI 0)) (σ, ρ, M)) : xX G mX10_isPosition 0 0 0 [(0, xP D), (1, xI b)] [] (σ, ρ, M) Q := by
  refine x_aload_n (p2 := 1) rfl dX10_isPosition_0 rfl ?_
  refine x_iload_n (p2 := 2) rfl dX10_isPosition_1 rfl ?_
  refine x_v1 (p2 := 5) rfl dX10_isPosition_2 l_10_61 ok_X10_isBlock rfl hD.sh rfl ?_
  refine t_X10_isBlock hD hn (fun hb2 => ?_) (fun hb2 => ?_)
  · skip
    refine x_zret dX10_isPosition_5 rfl (by omega) ?_
    exact k1 hb2
  · skip
    refine x_zret dX10_isPosition_5 rfl (by omega) ?_
    exact k0 hb2
set_option maxHeartbeats 4000000 in
theorem t_po_l {D R : Nat} (hD : isMd σ ρ D) (hR : σ[R]? = some (100, 50)) {n : Int} {v : vV} (hn : M D 2 = n) (hr : smr n v (M R)) (hG : wfG n v.1 v.2.1 v.2.2.1) (hO : wfO n v.2.2.2.1 v.2.2.2.2.1) {b : Int} (hb : 0 ≤ b ∧ b < n) (hq : Q (some (xI (pos n v.2.2.2.1 b))) (σ, ρ, M)) : ∀ (m : Nat) (i f : Int), 0 ≤ i → i + m = n → (pos n v.2.2.2.1 b < i → f = pos n v.2.2.2.1 b) → xX G mX10_positionOf 0 0 5 [(0, xP D), (1, xP R), (2, xI b), (3, xI f), (4, xI i)] [] (σ, ρ, M) Q := by
  have h8 := hG.2.1
  have h1 := hG.1
  have hp := pos_ok hO hb.1 hb.2
  intro m
  induction m with
  | zero =>
    intro i f h0 hm hf
    refine x_iload (p2 := 7) rfl dX10_positionOf_5 rfl ?_
    refine x_aload_n (p2 := 8) rfl dX10_positionOf_7 rfl ?_
    refine x_geti (p2 := 11) (kz := 2) rfl dX10_positionOf_8 f_10_53 rfl rfl hD.sh ?_
    rw [hn]
    refine x_ic_ge (p2 := 14) (t := 37) (by decide) rfl dX10_positionOf_11 (fun hc11 => ?_) (fun hc11 => absurd hc11 (by omega))
    refine x_iload_n (p2 := 38) rfl dX10_positionOf_37 rfl ?_
    refine x_iret dX10_positionOf_38 rfl ?_
    rw [hf (by omega)]; exact hq
  | succ m ih =>
    intro i f h0 hm hf
    refine x_iload (p2 := 7) rfl dX10_positionOf_5 rfl ?_
    refine x_aload_n (p2 := 8) rfl dX10_positionOf_7 rfl ?_
    refine x_geti (p2 := 11) (kz := 2) rfl dX10_positionOf_8 f_10_53 rfl rfl hD.sh ?_
    rw [hn]
    refine x_ic_ge (p2 := 14) (t := 37) (by decide) rfl dX10_positionOf_11 (fun hc11 => ?_) (fun hc11 => ?_)
    · exact absurd hc11 (by omega)
    refine x_aload_n (p2 := 15) rfl dX10_positionOf_14 rfl ?_
    refine x_iconst (p2 := 16) rfl dX10_positionOf_15 ⟨by decide, by decide⟩ ?_
    refine x_iload (p2 := 18) rfl dX10_positionOf_16 rfl ?_
    refine x_iadd (p2 := 19) rfl dX10_positionOf_18 ⟨by omega, by omega⟩ ?_
    refine x_iald (p2 := 20) rfl dX10_positionOf_19 hR (by omega) (by omega) ?_
    rw [hr.o h0 (by omega)]
    refine x_iload_n (p2 := 21) rfl dX10_positionOf_20 rfl ?_
    refine x_ic_ne (p2 := 24) (t := 29) (by decide) rfl dX10_positionOf_21 (fun hc21 => ?_) (fun hc21 => ?_)
    · skip
      refine x_iload_n (p2 := 30) rfl dX10_positionOf_29 rfl ?_
      refine x_istore_n (p2 := 31) (i := 3) (L2 := [(0, _), (1, _), (2, _), (3, _), (4, _)]) rfl dX10_positionOf_30 rfl ⟨rfl, Nat.le_of_ble_eq_true rfl⟩ rfl ?_
      refine x_iinc (p2 := 34) (L2 := [(0, _), (1, _), (2, _), (3, _), (4, _)]) rfl dX10_positionOf_31 rfl ⟨by omega, by omega⟩ ⟨rfl, Nat.le_of_ble_eq_true rfl⟩ rfl ?_
      refine x_goto (t := 5) (by decide) dX10_positionOf_34 ?_
      refine x_pick (L2 := [(0, _), (1, _), (2, _), (3, _), (4, _)]) [0, 1, 2, 3, 4] rfl ?_
      first
        | exact ih _ _ (by omega) (by omega) (fun z => hf (by
            have : pos n v.2.2.2.1 b ≠ i := fun y => hc21 (by rw [← y]; exact hp.2.2)
            omega))
        | exact ih _ _ (by omega) (by omega) (fun z => by rw [← hc21, pos_un hO h0 (by omega)])
    · skip
      refine x_iload (p2 := 26) rfl dX10_positionOf_24 rfl ?_
      refine x_goto (t := 30) (by decide) dX10_positionOf_26 ?_
      refine x_istore_n (p2 := 31) (i := 3) (L2 := [(0, _), (1, _), (2, _), (3, _), (4, _)]) rfl dX10_positionOf_30 rfl ⟨rfl, Nat.le_of_ble_eq_true rfl⟩ rfl ?_
      refine x_iinc (p2 := 34) (L2 := [(0, _), (1, _), (2, _), (3, _), (4, _)]) rfl dX10_positionOf_31 rfl ⟨by omega, by omega⟩ ⟨rfl, Nat.le_of_ble_eq_true rfl⟩ rfl ?_
      refine x_goto (t := 5) (by decide) dX10_positionOf_34 ?_
      refine x_pick (L2 := [(0, _), (1, _), (2, _), (3, _), (4, _)]) [0, 1, 2, 3, 4] rfl ?_
      first
        | exact ih _ _ (by omega) (by omega) (fun z => hf (by
            have : pos n v.2.2.2.1 b ≠ i := fun y => hc21 (by rw [← y]; exact hp.2.2)
            omega))
        | exact ih _ _ (by omega) (by omega) (fun z => by rw [← hc21, pos_un hO h0 (by omega)])
set_option maxHeartbeats 4000000 in
theorem t_X10_positionOf {D R : Nat} (hD : isMd σ ρ D) (hR : σ[R]? = some (100, 50)) {n : Int} {v : vV} (hn : M D 2 = n) (hr : smr n v (M R)) (hG : wfG n v.1 v.2.1 v.2.2.1) (hO : wfO n v.2.2.2.1 v.2.2.2.2.1) {b : Int} (hb : 0 ≤ b ∧ b < n) (hq : Q (some (xI (pos n v.2.2.2.1 b))) (σ, ρ, M)) : xX G mX10_positionOf 0 0 0 [(0, xP D), (1, xP R), (2, xI b)] [] (σ, ρ, M) Q := by
  have h8 := hG.2.1
  have h1 := hG.1
  refine x_iconst (p2 := 1) rfl dX10_positionOf_0 ⟨by decide, by decide⟩ ?_
  refine x_istore_n (p2 := 2) (i := 3) (L2 := [(0, _), (1, _), (2, _), (3, _)]) rfl dX10_positionOf_1 rfl ⟨rfl, Nat.le_of_ble_eq_true rfl⟩ rfl ?_
  refine x_iconst (p2 := 3) rfl dX10_positionOf_2 ⟨by decide, by decide⟩ ?_
  refine x_istore (p2 := 5) (i := 4) (L2 := [(0, _), (1, _), (2, _), (3, _), (4, _)]) rfl dX10_positionOf_3 ⟨rfl, Nat.le_of_ble_eq_true rfl⟩ rfl ?_
  refine x_pick (L2 := [(0, _), (1, _), (2, _), (3, _), (4, _)]) [0, 1, 2, 3, 4] rfl ?_
  exact t_po_l hD hR hn hr hG hO hb hq n.toNat 0 0 (by omega) (by omega) (fun z => by have := pos_ok hO hb.1 hb.2; omega)
/-- the reference says NONE where the class says NO_BLOCK -/
def rfo (f : Int) : Int := if f = -1 then -9 else f
theorem rfo_eq {t f : Int} (ht : 0 ≤ t) : t = rfo f ↔ t = f := by unfold rfo; split <;> omega
set_option maxHeartbeats 4000000 in
theorem t_X10_followerOf {D R : Nat} (hD : isMd σ ρ D) (hR : σ[R]? = some (100, 50)) {n : Int} {v : vV} (hn : M D 2 = n) (hr : smr n v (M R)) (hG : wfG n v.1 v.2.1 v.2.2.1) (hO : wfO n v.2.2.2.1 v.2.2.2.2.1) {b : Int} (hb : 0 ≤ b ∧ b < n) (hq : Q (some (xI (rfo (fob n v.2.2.2.1 v.2.2.2.2.1 b)))) (σ, ρ, M)) : xX G mX10_followerOf 0 0 0 [(0, xP D), (1, xP R), (2, xI b)] [] (σ, ρ, M) Q := by
  have h8 := hG.2.1
  have h1 := hG.1
  have hp := pos_ok hO hb.1 hb.2
  unfold fob fa at hq
  refine x_aload_n (p2 := 1) rfl dX10_followerOf_0 rfl ?_
  refine x_aload_n (p2 := 2) rfl dX10_followerOf_1 rfl ?_
  refine x_iload_n (p2 := 3) rfl dX10_followerOf_2 rfl ?_
  refine x_v2 (p2 := 6) rfl dX10_followerOf_3 l_10_114 ok_X10_positionOf rfl hD.sh rfl ?_
  refine t_X10_positionOf hD hR hn hr hG hO (by omega) ?_
  refine x_istore_n (p2 := 7) (i := 3) (L2 := [(0, _), (1, _), (2, _), (3, _)]) rfl dX10_followerOf_6 rfl ⟨rfl, Nat.le_of_ble_eq_true rfl⟩ rfl ?_
  refine x_iload_n (p2 := 8) rfl dX10_followerOf_7 rfl ?_
  refine x_iconst (p2 := 9) rfl dX10_followerOf_8 ⟨by decide, by decide⟩ ?_
  refine x_iadd (p2 := 10) rfl dX10_followerOf_9 ⟨by omega, by omega⟩ ?_
  refine x_aload_n (p2 := 11) rfl dX10_followerOf_10 rfl ?_
  refine x_geti (p2 := 14) (kz := 2) rfl dX10_followerOf_11 f_10_53 rfl rfl hD.sh ?_
  rw [hn]
  refine x_ic_ge (p2 := 17) (t := 50) (by decide) rfl dX10_followerOf_14 (fun hc14 => ?_) (fun hc14 => ?_)
  · skip
    refine x_iconst (p2 := 51) rfl dX10_followerOf_50 ⟨by decide, by decide⟩ ?_
    refine x_istore (p2 := 53) (i := 4) (L2 := [(0, _), (1, _), (2, _), (3, _), (4, _)]) rfl dX10_followerOf_51 ⟨rfl, Nat.le_of_ble_eq_true rfl⟩ rfl ?_
    refine x_iload (p2 := 55) rfl dX10_followerOf_53 rfl ?_
    refine x_if_eq (p2 := 58) (t := 68) (by decide) rfl dX10_followerOf_55 (fun _ => ?_) (fun hc => absurd hc (by decide))
    refine x_bipush (p2 := 70) rfl dX10_followerOf_68 ⟨by decide, ⟨by decide, by decide⟩⟩ ?_
    refine x_iret dX10_followerOf_70 rfl ?_
    rw [if_pos (by omega), rfo, if_pos rfl] at hq
    exact hq
  · skip
    refine x_iload_n (p2 := 18) rfl dX10_followerOf_17 rfl ?_
    refine x_aload_n (p2 := 19) rfl dX10_followerOf_18 rfl ?_
    refine x_iconst (p2 := 20) rfl dX10_followerOf_19 ⟨by decide, by decide⟩ ?_
    refine x_iald (p2 := 21) rfl dX10_followerOf_20 hR (by omega) (by omega) ?_
    rw [hr.h]
    refine x_ic_ge (p2 := 24) (t := 28) (by decide) rfl dX10_followerOf_21 (fun hc21 => ?_) (fun hc21 => ?_)
    · skip
      refine x_iconst (p2 := 29) rfl dX10_followerOf_28 ⟨by decide, by decide⟩ ?_
      refine x_iload_n (p2 := 30) rfl dX10_followerOf_29 rfl ?_
      refine x_iconst (p2 := 31) rfl dX10_followerOf_30 ⟨by decide, by decide⟩ ?_
      refine x_iadd (p2 := 32) rfl dX10_followerOf_31 ⟨by omega, by omega⟩ ?_
      refine x_aload_n (p2 := 33) rfl dX10_followerOf_32 rfl ?_
      refine x_iconst (p2 := 34) rfl dX10_followerOf_33 ⟨by decide, by decide⟩ ?_
      refine x_iald (p2 := 35) rfl dX10_followerOf_34 hR (by omega) (by omega) ?_
      rw [hr.h]
      refine x_ic_ge (p2 := 38) (t := 42) (by decide) rfl dX10_followerOf_35 (fun hc35 => ?_) (fun hc35 => ?_)
      · skip
        refine x_iconst (p2 := 43) rfl dX10_followerOf_42 ⟨by decide, by decide⟩ ?_
        refine x_ic_ne (p2 := 46) (t := 50) (by decide) rfl dX10_followerOf_43 (fun hc => absurd hc (by decide)) (fun _ => ?_)
        refine x_iconst (p2 := 47) rfl dX10_followerOf_46 ⟨by decide, by decide⟩ ?_
        refine x_goto (t := 51) (by decide) dX10_followerOf_47 ?_
        refine x_istore (p2 := 53) (i := 4) (L2 := [(0, _), (1, _), (2, _), (3, _), (4, _)]) rfl dX10_followerOf_51 ⟨rfl, Nat.le_of_ble_eq_true rfl⟩ rfl ?_
        refine x_iload (p2 := 55) rfl dX10_followerOf_53 rfl ?_
        refine x_if_eq (p2 := 58) (t := 68) (by decide) rfl dX10_followerOf_55 (fun hc => absurd hc (by decide)) (fun _ => ?_)
        refine x_aload_n (p2 := 59) rfl dX10_followerOf_58 rfl ?_
        refine x_iconst (p2 := 60) rfl dX10_followerOf_59 ⟨by decide, by decide⟩ ?_
        refine x_iload_n (p2 := 61) rfl dX10_followerOf_60 rfl ?_
        refine x_iadd (p2 := 62) rfl dX10_followerOf_61 ⟨by omega, by omega⟩ ?_
        refine x_iconst (p2 := 63) rfl dX10_followerOf_62 ⟨by decide, by decide⟩ ?_
        refine x_iadd (p2 := 64) rfl dX10_followerOf_63 ⟨by omega, by omega⟩ ?_
        refine x_iald (p2 := 65) rfl dX10_followerOf_64 hR (by omega) (by omega) ?_
        rw [show (2 : Int) + pos n v.2.2.2.1 b + 1 = 2 + (pos n v.2.2.2.1 b + 1) by omega, hr.o (by omega) (by omega)]
        refine x_goto (t := 70) (by decide) dX10_followerOf_65 ?_
        refine x_iret dX10_followerOf_70 rfl ?_
        have hx := hO.1 (pos n v.2.2.2.1 b + 1) (by omega) (by omega)
        rw [if_neg (by omega), rfo, if_neg (by omega)] at hq
        exact hq
      · skip
        refine x_iconst (p2 := 39) rfl dX10_followerOf_38 ⟨by decide, by decide⟩ ?_
        refine x_goto (t := 43) (by decide) dX10_followerOf_39 ?_
        refine x_ic_ne (p2 := 46) (t := 50) (by decide) rfl dX10_followerOf_43 (fun _ => ?_) (fun hc => absurd hc (by decide))
        refine x_iconst (p2 := 51) rfl dX10_followerOf_50 ⟨by decide, by decide⟩ ?_
        refine x_istore (p2 := 53) (i := 4) (L2 := [(0, _), (1, _), (2, _), (3, _), (4, _)]) rfl dX10_followerOf_51 ⟨rfl, Nat.le_of_ble_eq_true rfl⟩ rfl ?_
        refine x_iload (p2 := 55) rfl dX10_followerOf_53 rfl ?_
        refine x_if_eq (p2 := 58) (t := 68) (by decide) rfl dX10_followerOf_55 (fun _ => ?_) (fun hc => absurd hc (by decide))
        refine x_bipush (p2 := 70) rfl dX10_followerOf_68 ⟨by decide, ⟨by decide, by decide⟩⟩ ?_
        refine x_iret dX10_followerOf_70 rfl ?_
        rw [if_pos (by omega), rfo, if_pos rfl] at hq
        exact hq
    · skip
      refine x_iconst (p2 := 25) rfl dX10_followerOf_24 ⟨by decide, by decide⟩ ?_
      refine x_goto (t := 29) (by decide) dX10_followerOf_25 ?_
      refine x_iload_n (p2 := 30) rfl dX10_followerOf_29 rfl ?_
      refine x_iconst (p2 := 31) rfl dX10_followerOf_30 ⟨by decide, by decide⟩ ?_
      refine x_iadd (p2 := 32) rfl dX10_followerOf_31 ⟨by omega, by omega⟩ ?_
      refine x_aload_n (p2 := 33) rfl dX10_followerOf_32 rfl ?_
      refine x_iconst (p2 := 34) rfl dX10_followerOf_33 ⟨by decide, by decide⟩ ?_
      refine x_iald (p2 := 35) rfl dX10_followerOf_34 hR (by omega) (by omega) ?_
      rw [hr.h]
      refine x_ic_ge (p2 := 38) (t := 42) (by decide) rfl dX10_followerOf_35 (fun hc35 => ?_) (fun hc35 => ?_)
      · skip
        refine x_iconst (p2 := 43) rfl dX10_followerOf_42 ⟨by decide, by decide⟩ ?_
        refine x_ic_ne (p2 := 46) (t := 50) (by decide) rfl dX10_followerOf_43 (fun _ => ?_) (fun hc => absurd hc (by decide))
        refine x_iconst (p2 := 51) rfl dX10_followerOf_50 ⟨by decide, by decide⟩ ?_
        refine x_istore (p2 := 53) (i := 4) (L2 := [(0, _), (1, _), (2, _), (3, _), (4, _)]) rfl dX10_followerOf_51 ⟨rfl, Nat.le_of_ble_eq_true rfl⟩ rfl ?_
        refine x_iload (p2 := 55) rfl dX10_followerOf_53 rfl ?_
        refine x_if_eq (p2 := 58) (t := 68) (by decide) rfl dX10_followerOf_55 (fun _ => ?_) (fun hc => absurd hc (by decide))
        refine x_bipush (p2 := 70) rfl dX10_followerOf_68 ⟨by decide, ⟨by decide, by decide⟩⟩ ?_
        refine x_iret dX10_followerOf_70 rfl ?_
        rw [if_pos (by omega), rfo, if_pos rfl] at hq
        exact hq
      · skip
        refine x_iconst (p2 := 39) rfl dX10_followerOf_38 ⟨by decide, by decide⟩ ?_
        refine x_goto (t := 43) (by decide) dX10_followerOf_39 ?_
        refine x_ic_ne (p2 := 46) (t := 50) (by decide) rfl dX10_followerOf_43 (fun hc => absurd hc (by decide)) (fun _ => ?_)
        refine x_iconst (p2 := 47) rfl dX10_followerOf_46 ⟨by decide, by decide⟩ ?_
        refine x_goto (t := 51) (by decide) dX10_followerOf_47 ?_
        refine x_istore (p2 := 53) (i := 4) (L2 := [(0, _), (1, _), (2, _), (3, _), (4, _)]) rfl dX10_followerOf_51 ⟨rfl, Nat.le_of_ble_eq_true rfl⟩ rfl ?_
        refine x_iload (p2 := 55) rfl dX10_followerOf_53 rfl ?_
        refine x_if_eq (p2 := 58) (t := 68) (by decide) rfl dX10_followerOf_55 (fun hc => absurd hc (by decide)) (fun _ => ?_)
        refine x_aload_n (p2 := 59) rfl dX10_followerOf_58 rfl ?_
        refine x_iconst (p2 := 60) rfl dX10_followerOf_59 ⟨by decide, by decide⟩ ?_
        refine x_iload_n (p2 := 61) rfl dX10_followerOf_60 rfl ?_
        refine x_iadd (p2 := 62) rfl dX10_followerOf_61 ⟨by omega, by omega⟩ ?_
        refine x_iconst (p2 := 63) rfl dX10_followerOf_62 ⟨by decide, by decide⟩ ?_
        refine x_iadd (p2 := 64) rfl dX10_followerOf_63 ⟨by omega, by omega⟩ ?_
        refine x_iald (p2 := 65) rfl dX10_followerOf_64 hR (by omega) (by omega) ?_
        rw [show (2 : Int) + pos n v.2.2.2.1 b + 1 = 2 + (pos n v.2.2.2.1 b + 1) by omega, hr.o (by omega) (by omega)]
        refine x_goto (t := 70) (by decide) dX10_followerOf_65 ?_
        refine x_iret dX10_followerOf_70 rfl ?_
        have hx := hO.1 (pos n v.2.2.2.1 b + 1) (by omega) (by omega)
        rw [if_neg (by omega), rfo, if_neg (by omega)] at hq
        exact hq
set_option maxHeartbeats 4000000 in
theorem t_X10_edgeCostOf {D R : Nat} (hD : isMd σ ρ D) (hR : σ[R]? = some (100, 50)) {n : Int} {v : vV} (hn : M D 2 = n) (hr : smr n v (M R)) (hG : wfG n v.1 v.2.1 v.2.2.1) (hO : wfO n v.2.2.2.1 v.2.2.2.2.1) {b k : Int} (hb : 0 ≤ b ∧ b < n) (hk : 0 ≤ k ∧ k < v.1 b) (hq : Q (some (xI (pcst v.1 v.2.1 v.2.2.1 b k (fob n v.2.2.2.1 v.2.2.2.2.1 b)))) (σ, ρ, M)) : xX G mX10_edgeCostOf 0 0 0 [(0, xP D), (1, xP R), (2, xI b), (3, xI k)] [] (σ, ρ, M) Q := by
  have h8 := hG.2.1
  have h1 := hG.1
  obtain ⟨w1, w2, w3, w4⟩ := hG.2.2 b hb.1 hb.2
  have wk := w3 k hk.1 hk.2
  unfold pcst at hq
  refine x_aload_n (p2 := 1) rfl dX10_edgeCostOf_0 rfl ?_
  refine x_aload_n (p2 := 2) rfl dX10_edgeCostOf_1 rfl ?_
  refine x_iload_n (p2 := 3) rfl dX10_edgeCostOf_2 rfl ?_
  refine x_v2 (p2 := 6) rfl dX10_edgeCostOf_3 l_10_117 ok_X10_followerOf rfl hD.sh rfl ?_
  refine t_X10_followerOf hD hR hn hr hG hO (by omega) ?_
  refine x_istore (p2 := 8) (i := 4) (L2 := [(0, _), (1, _), (2, _), (3, _), (4, _)]) rfl dX10_edgeCostOf_6 ⟨rfl, Nat.le_of_ble_eq_true rfl⟩ rfl ?_
  refine x_aload_n (p2 := 9) rfl dX10_edgeCostOf_8 rfl ?_
  refine x_bipush (p2 := 11) rfl dX10_edgeCostOf_9 ⟨by decide, ⟨by decide, by decide⟩⟩ ?_
  refine x_iconst (p2 := 12) rfl dX10_edgeCostOf_11 ⟨by decide, by decide⟩ ?_
  refine x_iload_n (p2 := 13) rfl dX10_edgeCostOf_12 rfl ?_
  refine x_imul (p2 := 14) rfl dX10_edgeCostOf_13 ⟨by omega, by omega⟩ ?_
  refine x_iadd (p2 := 15) rfl dX10_edgeCostOf_14 ⟨by omega, by omega⟩ ?_
  refine x_iload_n (p2 := 16) rfl dX10_edgeCostOf_15 rfl ?_
  refine x_iadd (p2 := 17) rfl dX10_edgeCostOf_16 ⟨by omega, by omega⟩ ?_
  refine x_iald (p2 := 18) rfl dX10_edgeCostOf_17 hR (by omega) (by omega) ?_
  rw [hr.t hb.1 hb.2 hk.1 hk.2]
  refine x_iload (p2 := 20) rfl dX10_edgeCostOf_18 rfl ?_
  generalize hf : fob n v.2.2.2.1 v.2.2.2.2.1 b = f at hq ⊢
  have hff := rfo_eq (f := f) wk.1
  refine x_ic_ne (p2 := 23) (t := 25) (by decide) rfl dX10_edgeCostOf_20 (fun hc20 => ?_) (fun hc20 => ?_)
  · skip
    refine x_aload_n (p2 := 26) rfl dX10_edgeCostOf_25 rfl ?_
    refine x_bipush (p2 := 28) rfl dX10_edgeCostOf_26 ⟨by decide, ⟨by decide, by decide⟩⟩ ?_
    refine x_iload_n (p2 := 29) rfl dX10_edgeCostOf_28 rfl ?_
    refine x_iadd (p2 := 30) rfl dX10_edgeCostOf_29 ⟨by omega, by omega⟩ ?_
    refine x_iald (p2 := 31) rfl dX10_edgeCostOf_30 hR (by omega) (by omega) ?_
    rw [hr.x hb.1 hb.2]
    refine x_iconst (p2 := 32) rfl dX10_edgeCostOf_31 ⟨by decide, by decide⟩ ?_
    refine x_ic_ne (p2 := 35) (t := 37) (by decide) rfl dX10_edgeCostOf_32 (fun hc32 => ?_) (fun hc32 => ?_)
    · skip
      have hx2 : v.1 b = 2 := by omega
      have wo := w3 (1 - k) (by omega) (by omega)
      have hfo := rfo_eq (f := f) wo.1
      refine x_aload_n (p2 := 38) rfl dX10_edgeCostOf_37 rfl ?_
      refine x_bipush (p2 := 40) rfl dX10_edgeCostOf_38 ⟨by decide, ⟨by decide, by decide⟩⟩ ?_
      refine x_iconst (p2 := 41) rfl dX10_edgeCostOf_40 ⟨by decide, by decide⟩ ?_
      refine x_iload_n (p2 := 42) rfl dX10_edgeCostOf_41 rfl ?_
      refine x_imul (p2 := 43) rfl dX10_edgeCostOf_42 ⟨by omega, by omega⟩ ?_
      refine x_iadd (p2 := 44) rfl dX10_edgeCostOf_43 ⟨by omega, by omega⟩ ?_
      refine x_iconst (p2 := 45) rfl dX10_edgeCostOf_44 ⟨by decide, by decide⟩ ?_
      refine x_iadd (p2 := 46) rfl dX10_edgeCostOf_45 ⟨by omega, by omega⟩ ?_
      refine x_iload_n (p2 := 47) rfl dX10_edgeCostOf_46 rfl ?_
      refine x_isub (p2 := 48) rfl dX10_edgeCostOf_47 ⟨by omega, by omega⟩ ?_
      refine x_iald (p2 := 49) rfl dX10_edgeCostOf_48 hR (by omega) (by omega) ?_
      rw [hr.t' hb.1 hb.2 hk.1 (by omega) hx2]
      refine x_iload (p2 := 51) rfl dX10_edgeCostOf_49 rfl ?_
      refine x_ic_ne (p2 := 54) (t := 56) (by decide) rfl dX10_edgeCostOf_51 (fun hc51 => ?_) (fun hc51 => ?_)
      · skip
        refine x_aload_n (p2 := 57) rfl dX10_edgeCostOf_56 rfl ?_
        refine x_bipush (p2 := 59) rfl dX10_edgeCostOf_57 ⟨by decide, ⟨by decide, by decide⟩⟩ ?_
        refine x_iconst (p2 := 60) rfl dX10_edgeCostOf_59 ⟨by decide, by decide⟩ ?_
        refine x_iload_n (p2 := 61) rfl dX10_edgeCostOf_60 rfl ?_
        refine x_imul (p2 := 62) rfl dX10_edgeCostOf_61 ⟨by omega, by omega⟩ ?_
        refine x_iadd (p2 := 63) rfl dX10_edgeCostOf_62 ⟨by omega, by omega⟩ ?_
        refine x_iconst (p2 := 64) rfl dX10_edgeCostOf_63 ⟨by decide, by decide⟩ ?_
        refine x_iadd (p2 := 65) rfl dX10_edgeCostOf_64 ⟨by omega, by omega⟩ ?_
        refine x_iald (p2 := 66) rfl dX10_edgeCostOf_65 hR (by omega) (by omega) ?_
        rw [hr.c hb.1 hb.2 (by omega) (by omega)]
        refine x_aload_n (p2 := 67) rfl dX10_edgeCostOf_66 rfl ?_
        refine x_bipush (p2 := 69) rfl dX10_edgeCostOf_67 ⟨by decide, ⟨by decide, by decide⟩⟩ ?_
        refine x_iconst (p2 := 70) rfl dX10_edgeCostOf_69 ⟨by decide, by decide⟩ ?_
        refine x_iload_n (p2 := 71) rfl dX10_edgeCostOf_70 rfl ?_
        refine x_imul (p2 := 72) rfl dX10_edgeCostOf_71 ⟨by omega, by omega⟩ ?_
        refine x_iadd (p2 := 73) rfl dX10_edgeCostOf_72 ⟨by omega, by omega⟩ ?_
        refine x_iald (p2 := 74) rfl dX10_edgeCostOf_73 hR (by omega) (by omega) ?_
        rw [hr.c0 hb.1 hb.2 (by omega)]
        refine x_ic_le (p2 := 77) (t := 81) (by decide) rfl dX10_edgeCostOf_74 (fun hc74 => ?_) (fun hc74 => ?_)
        · skip
          refine x_iconst (p2 := 82) rfl dX10_edgeCostOf_81 ⟨by decide, by decide⟩ ?_
          refine x_istore (p2 := 84) (i := 5) (L2 := [(0, _), (1, _), (2, _), (3, _), (4, _), (5, _)]) rfl dX10_edgeCostOf_82 ⟨rfl, Nat.le_of_ble_eq_true rfl⟩ rfl ?_
          refine x_iload_n (p2 := 85) rfl dX10_edgeCostOf_84 rfl ?_
          refine x_iload (p2 := 87) rfl dX10_edgeCostOf_85 rfl ?_
          refine x_ic_ne (p2 := 90) (t := 94) (by decide) rfl dX10_edgeCostOf_87 (fun hc87 => ?_) (fun hc87 => ?_)
          · skip
            refine x_iconst (p2 := 95) rfl dX10_edgeCostOf_94 ⟨by decide, by decide⟩ ?_
            refine x_iret dX10_edgeCostOf_95 rfl ?_
            rw [if_neg (fun z => hc20 (hff.2 z)), if_neg hc32, if_neg (fun z => hc51 (hfo.2 z))] at hq
            first
              | (rw [if_pos (show v.2.2.1 (2 * b + 0) < v.2.2.1 (2 * b + 1) by omega)] at hq
                 first
                   | (rw [if_pos (by omega)] at hq; exact hq)
                   | (rw [if_neg (by omega)] at hq; exact hq))
              | (rw [if_neg (show ¬ v.2.2.1 (2 * b + 0) < v.2.2.1 (2 * b + 1) by omega)] at hq
                 first
                   | (rw [if_pos (by omega)] at hq; exact hq)
                   | (rw [if_neg (by omega)] at hq; exact hq))
          · skip
            refine x_iconst (p2 := 91) rfl dX10_edgeCostOf_90 ⟨by decide, by decide⟩ ?_
            refine x_goto (t := 95) (by decide) dX10_edgeCostOf_91 ?_
            refine x_iret dX10_edgeCostOf_95 rfl ?_
            rw [if_neg (fun z => hc20 (hff.2 z)), if_neg hc32, if_neg (fun z => hc51 (hfo.2 z))] at hq
            first
              | (rw [if_pos (show v.2.2.1 (2 * b + 0) < v.2.2.1 (2 * b + 1) by omega)] at hq
                 first
                   | (rw [if_pos (by omega)] at hq; exact hq)
                   | (rw [if_neg (by omega)] at hq; exact hq))
              | (rw [if_neg (show ¬ v.2.2.1 (2 * b + 0) < v.2.2.1 (2 * b + 1) by omega)] at hq
                 first
                   | (rw [if_pos (by omega)] at hq; exact hq)
                   | (rw [if_neg (by omega)] at hq; exact hq))
        · skip
          refine x_iconst (p2 := 78) rfl dX10_edgeCostOf_77 ⟨by decide, by decide⟩ ?_
          refine x_goto (t := 82) (by decide) dX10_edgeCostOf_78 ?_
          refine x_istore (p2 := 84) (i := 5) (L2 := [(0, _), (1, _), (2, _), (3, _), (4, _), (5, _)]) rfl dX10_edgeCostOf_82 ⟨rfl, Nat.le_of_ble_eq_true rfl⟩ rfl ?_
          refine x_iload_n (p2 := 85) rfl dX10_edgeCostOf_84 rfl ?_
          refine x_iload (p2 := 87) rfl dX10_edgeCostOf_85 rfl ?_
          refine x_ic_ne (p2 := 90) (t := 94) (by decide) rfl dX10_edgeCostOf_87 (fun hc87 => ?_) (fun hc87 => ?_)
          · skip
            refine x_iconst (p2 := 95) rfl dX10_edgeCostOf_94 ⟨by decide, by decide⟩ ?_
            refine x_iret dX10_edgeCostOf_95 rfl ?_
            rw [if_neg (fun z => hc20 (hff.2 z)), if_neg hc32, if_neg (fun z => hc51 (hfo.2 z))] at hq
            first
              | (rw [if_pos (show v.2.2.1 (2 * b + 0) < v.2.2.1 (2 * b + 1) by omega)] at hq
                 first
                   | (rw [if_pos (by omega)] at hq; exact hq)
                   | (rw [if_neg (by omega)] at hq; exact hq))
              | (rw [if_neg (show ¬ v.2.2.1 (2 * b + 0) < v.2.2.1 (2 * b + 1) by omega)] at hq
                 first
                   | (rw [if_pos (by omega)] at hq; exact hq)
                   | (rw [if_neg (by omega)] at hq; exact hq))
          · skip
            refine x_iconst (p2 := 91) rfl dX10_edgeCostOf_90 ⟨by decide, by decide⟩ ?_
            refine x_goto (t := 95) (by decide) dX10_edgeCostOf_91 ?_
            refine x_iret dX10_edgeCostOf_95 rfl ?_
            rw [if_neg (fun z => hc20 (hff.2 z)), if_neg hc32, if_neg (fun z => hc51 (hfo.2 z))] at hq
            first
              | (rw [if_pos (show v.2.2.1 (2 * b + 0) < v.2.2.1 (2 * b + 1) by omega)] at hq
                 first
                   | (rw [if_pos (by omega)] at hq; exact hq)
                   | (rw [if_neg (by omega)] at hq; exact hq))
              | (rw [if_neg (show ¬ v.2.2.1 (2 * b + 0) < v.2.2.1 (2 * b + 1) by omega)] at hq
                 first
                   | (rw [if_pos (by omega)] at hq; exact hq)
                   | (rw [if_neg (by omega)] at hq; exact hq))
      · skip
        refine x_iconst (p2 := 55) rfl dX10_edgeCostOf_54 ⟨by decide, by decide⟩ ?_
        refine x_iret dX10_edgeCostOf_55 rfl ?_
        rw [if_neg (fun z => hc20 (hff.2 z)), if_neg hc32, if_pos (hfo.1 hc51)] at hq; exact hq
    · skip
      refine x_iconst (p2 := 36) rfl dX10_edgeCostOf_35 ⟨by decide, by decide⟩ ?_
      refine x_iret dX10_edgeCostOf_36 rfl ?_
      rw [if_neg (fun z => hc20 (hff.2 z)), if_pos hc32] at hq; exact hq
  · skip
    refine x_iconst (p2 := 24) rfl dX10_edgeCostOf_23 ⟨by decide, by decide⟩ ?_
    refine x_iret dX10_edgeCostOf_24 rfl ?_
    rw [if_pos (hff.1 hc20)] at hq; exact hq
end XMD
