section XMH
variable {G : xG} {σ : List (Nat × Nat)} {ρ : Nat → Int → Option Nat} {M : Nat → Int → Int} {Q : Option xV → xH → Prop}
/-- nothing that counts has changed -/
def rq (M M2 : Nat → Int → Int) (D : Nat) : Prop := (∀ c, (c < D ∨ c = D + 1 ∨ c = D + 2 ∨ c = D + 3 ∨ c = D + 6 ∨ c = D + 7 ∨ c = D + 8 ∨ D + 14 < c) → M2 c = M c) ∧ (∀ f, f = 1 ∨ f = 2 ∨ f = 4 ∨ f = 9 ∨ f = 10 → M2 D f = M D f)
theorem rq.rf {D : Nat} : rq M M D := ⟨fun _ _ => rfl, fun _ _ => rfl⟩
/-- an action: the layout before is in the diary, and v stands -/
def ra (M M2 : Nat → Int → Int) (D : Nat) (n : Int) (v : vV) : Prop := (∀ c, (c < D ∨ c = D + 1 ∨ c = D + 2 ∨ c = D + 7 ∨ c = D + 8 ∨ D + 14 < c) → M2 c = M c) ∧ (∀ k, 0 ≤ k → k < 50 → M2 (D + 6) (50 * M D 10 + k) = M (D + 3) k) ∧ (∀ j, j < 50 * M D 10 ∨ 50 * M D 10 + 50 ≤ j → M2 (D + 6) j = M (D + 6) j) ∧ M2 D 10 = (M D 10 + 1) % 14 ∧ M2 D 9 = (if M D 9 < 14 then M D 9 + 1 else 14) ∧ (∀ f, f = 1 ∨ f = 2 ∨ f = 4 → M2 D f = M D f) ∧ smr n v (M2 (D + 3))
theorem ra.mk {M1 M2 : Nat → Int → Int} {D : Nat} {n : Int} {v : vV} (h : nt M M1 D) (h1 : ∀ c, (c < D ∨ c = D + 1 ∨ c = D + 2 ∨ c = D + 6 ∨ c = D + 7 ∨ c = D + 8 ∨ D + 14 < c) → M2 c = M1 c) (h2 : ∀ f, f = 1 ∨ f = 2 ∨ f = 4 ∨ f = 9 ∨ f = 10 → M2 D f = M1 D f) (h3 : smr n v (M2 (D + 3))) : ra M M2 D n v := by
  obtain ⟨a1, a2, a3, a4, a5, a6⟩ := h
  refine ⟨fun c z => (h1 c (by omega)).trans (a1 c (by omega) (by omega)), fun k k0 k1 => ?_, fun j z => ?_, ?_, ?_, fun f z => ?_, h3⟩
  · rw [h1 (D + 6) (by omega)]; exact a2 k k0 k1
  · rw [h1 (D + 6) (by omega)]; exact a3 j z
  · rw [h2 10 (by omega)]; exact a4
  · rw [h2 9 (by omega)]; exact a5
  · rw [h2 f (by omega)]; exact a6 f (by omega) (by omega)
theorem nt.i {M1 : Nat → Int → Int} {D : Nat} {n en : Int} {byt : Int → Int} {v : vV} (h : nt M M1 D) (hM : mdI M D n en byt v) : mdI M1 D n en byt v := by
  obtain ⟨a1, a2, a3, a4⟩ := hM
  refine ⟨by rw [h.2.2.2.2.2 2 (by omega) (by omega)]; exact a1, by rw [h.2.2.2.2.2 4 (by omega) (by omega)]; exact a2, ?_, ?_⟩
  · rw [h.1 (D + 2) (by omega) (by omega)]; exact a3
  · rw [h.1 (D + 3) (by omega) (by omega)]; exact a4
set_option maxHeartbeats 4000000 in
theorem t_X10_swap {D : Nat} (hD : isMd σ ρ D) {n en : Int} {byt : Int → Int} {v : vV} (hM : mdI M D n en byt v) (hW : wfV n en byt v) (hx : 0 ≤ M D 10 ∧ M D 10 < 14) (ha : 0 ≤ M D 9 ∧ M D 9 ≤ 14) {i j : Int} (k1 : ¬ (0 ≤ i ∧ i < n ∧ 0 ≤ j ∧ j < n) → Q (some (xI (-1))) (σ, ρ, M)) (k3 : (0 ≤ i ∧ i < n ∧ 0 ≤ j ∧ j < n) ∧ (i = 0 ∨ j = 0) → Q (some (xI (-3))) (σ, ρ, M)) (hq : 0 < i ∧ i < n ∧ 0 < j ∧ j < n → ∀ M2, ra M M2 D n (vsw i j v) → Q (some (xI (tcs n (vsw i j v).1 (vsw i j v).2.1 (vsw i j v).2.2.1 (vsw i j v).2.2.2.1 (vsw i j v).2.2.2.2.1))) (σ, ρ, M2)) : xX G mX10_swap 0 0 0 [(0, xP D), (1, xI i), (2, xI j)] [] (σ, ρ, M) Q := by
  obtain ⟨hn, hen, hyb, hr⟩ := id hM
  have hG := hW.1
  have hO := hW.2.1
  have hA := hW.2.2.1
  have he : M D 4 = en ∧ 0 ≤ en ∧ en ≤ 99 := ⟨hen, hW.2.2.2.1⟩
  have hy : ∀ b, 0 ≤ b → b < n → M (D + 2) b = byt b ∧ 0 ≤ byt b ∧ byt b ≤ 9 := fun b a c => ⟨hyb b a c, hW.2.2.2.2 b a c⟩
  have h8 := hG.2.1
  have h1 := hG.1
  have hx2 : ∀ b, 0 ≤ b → b < n → v.1 b ≤ 2 := fun b a c => (hG.2.2 b a c).2.1
  have hO5 := hO.2.2.2
  refine x_aload_n (p2 := 1) rfl dX10_swap_0 rfl ?_
  refine x_iload_n (p2 := 2) rfl dX10_swap_1 rfl ?_
  refine x_iload_n (p2 := 3) rfl dX10_swap_2 rfl ?_
  refine x_v2 (p2 := 6) rfl dX10_swap_3 l_10_174 ok_X10_swapError rfl hD.sh rfl ?_
  refine t_X10_swapError hD hM hW (fun hb3 => ?_) (fun hb3 => ?_) (fun hb3 => ?_)
  · skip
    refine x_istore_n (p2 := 7) (i := 3) (L2 := [(0, _), (1, _), (2, _), (3, _)]) rfl dX10_swap_6 rfl ⟨rfl, Nat.le_of_ble_eq_true rfl⟩ rfl ?_
    refine x_iload_n (p2 := 8) rfl dX10_swap_7 rfl ?_
    refine x_if_eq (p2 := 11) (t := 13) (by decide) rfl dX10_swap_8 (fun hc => absurd hc (by decide)) (fun _ => ?_)
    refine x_iload_n (p2 := 12) rfl dX10_swap_11 rfl ?_
    refine x_iret dX10_swap_12 rfl ?_
    exact k1 hb3
  · skip
    refine x_istore_n (p2 := 7) (i := 3) (L2 := [(0, _), (1, _), (2, _), (3, _)]) rfl dX10_swap_6 rfl ⟨rfl, Nat.le_of_ble_eq_true rfl⟩ rfl ?_
    refine x_iload_n (p2 := 8) rfl dX10_swap_7 rfl ?_
    refine x_if_eq (p2 := 11) (t := 13) (by decide) rfl dX10_swap_8 (fun hc => absurd hc (by decide)) (fun _ => ?_)
    refine x_iload_n (p2 := 12) rfl dX10_swap_11 rfl ?_
    refine x_iret dX10_swap_12 rfl ?_
    exact k3 hb3
  · skip
    refine x_istore_n (p2 := 7) (i := 3) (L2 := [(0, _), (1, _), (2, _), (3, _)]) rfl dX10_swap_6 rfl ⟨rfl, Nat.le_of_ble_eq_true rfl⟩ rfl ?_
    refine x_iload_n (p2 := 8) rfl dX10_swap_7 rfl ?_
    refine x_if_eq (p2 := 11) (t := 13) (by decide) rfl dX10_swap_8 (fun _ => ?_) (fun hc => absurd hc (by decide))
    refine x_aload_n (p2 := 14) rfl dX10_swap_13 rfl ?_
    refine x_v0 (p2 := 17) rfl dX10_swap_14 l_10_150 ok_X10_note rfl hD.sh rfl ?_
    refine t_X10_note hD hx ha (fun M1 hnt => ?_)
    have hM1 := hnt.i hM
    obtain ⟨hn1, hen1, hyb1, hr1⟩ := id hM1
    refine x_aload_n (p2 := 18) rfl dX10_swap_17 rfl ?_
    refine x_getr (p2 := 21) (kz := 5) rfl dX10_swap_18 f_10_16 rfl rfl hD.sh hD.r5 ?_
    refine x_iload_n (p2 := 22) rfl dX10_swap_21 rfl ?_
    refine x_iload_n (p2 := 23) rfl dX10_swap_22 rfl ?_
    refine x_s3 (p2 := 26) rfl dX10_swap_23 l_10_177 ok_X10_swapIn rfl rfl ?_
    refine t_X10_swapIn hD.a5 h8 hr1 hx2 (by omega) (by omega) (fun M23 hs23 hv23 => ?_)
    refine x_aload_n (p2 := 27) rfl dX10_swap_26 rfl ?_
    refine x_aload_n (p2 := 28) rfl dX10_swap_27 rfl ?_
    refine x_getr (p2 := 31) (kz := 5) rfl dX10_swap_28 f_10_16 rfl rfl hD.sh hD.r5 ?_
    refine x_v1 (p2 := 34) rfl dX10_swap_31 l_10_140 ok_X10_costOf rfl hD.sh rfl ?_
    have hWv := wfV_sw (i := i) (j := j) hW (by omega) (by omega)
    refine t_X10_costOf hD hD.a5 (v := (vsw i j v)) (by rw [hs23 D (by omega)]; exact hn1) hv23 hWv.1 hWv.2.1 ?_
    refine x_iret dX10_swap_34 rfl ?_
    exact hq hb3 _ (ra.mk hnt (fun c z => hs23 c (by omega)) (fun f z => by rw [hs23 D (by omega)]) hv23)
set_option maxHeartbeats 4000000 in
theorem t_X10_rotate {D : Nat} (hD : isMd σ ρ D) {n en : Int} {byt : Int → Int} {v : vV} (hM : mdI M D n en byt v) (hW : wfV n en byt v) (hx : 0 ≤ M D 10 ∧ M D 10 < 14) (ha : 0 ≤ M D 9 ∧ M D 9 ≤ 14) {i j : Int} (k1 : ¬ (0 ≤ i ∧ i < n ∧ 0 ≤ j ∧ j < n) → Q (some (xI (-1))) (σ, ρ, M)) (k3 : (0 ≤ i ∧ i < n ∧ 0 ≤ j ∧ j < n) ∧ (i = 0 ∨ j < i ∨ v.2.2.2.2.1 ≤ j) → Q (some (xI (-3))) (σ, ρ, M)) (hq : 0 < i ∧ i ≤ j ∧ j < n ∧ j < v.2.2.2.2.1 → ∀ M2, ra M M2 D n (vtn i j v) → Q (some (xI (tcs n (vtn i j v).1 (vtn i j v).2.1 (vtn i j v).2.2.1 (vtn i j v).2.2.2.1 (vtn i j v).2.2.2.2.1))) (σ, ρ, M2)) : xX G mX10_rotate 0 0 0 [(0, xP D), (1, xI i), (2, xI j)] [] (σ, ρ, M) Q := by
  obtain ⟨hn, hen, hyb, hr⟩ := id hM
  have hG := hW.1
  have hO := hW.2.1
  have hA := hW.2.2.1
  have he : M D 4 = en ∧ 0 ≤ en ∧ en ≤ 99 := ⟨hen, hW.2.2.2.1⟩
  have hy : ∀ b, 0 ≤ b → b < n → M (D + 2) b = byt b ∧ 0 ≤ byt b ∧ byt b ≤ 9 := fun b a c => ⟨hyb b a c, hW.2.2.2.2 b a c⟩
  have h8 := hG.2.1
  have h1 := hG.1
  have hx2 : ∀ b, 0 ≤ b → b < n → v.1 b ≤ 2 := fun b a c => (hG.2.2 b a c).2.1
  have hO5 := hO.2.2.2
  refine x_aload_n (p2 := 1) rfl dX10_rotate_0 rfl ?_
  refine x_aload_n (p2 := 2) rfl dX10_rotate_1 rfl ?_
  refine x_getr (p2 := 5) (kz := 5) rfl dX10_rotate_2 f_10_16 rfl rfl hD.sh hD.r5 ?_
  refine x_iload_n (p2 := 6) rfl dX10_rotate_5 rfl ?_
  refine x_iload_n (p2 := 7) rfl dX10_rotate_6 rfl ?_
  refine x_v3 (p2 := 10) rfl dX10_rotate_7 l_10_164 ok_X10_rangeError rfl hD.sh rfl ?_
  refine t_X10_rangeError hD hD.a5 hn hr hG (fun hb7 => ?_) (fun hb7 => ?_) (fun hb7 => ?_)
  · skip
    refine x_istore_n (p2 := 11) (i := 3) (L2 := [(0, _), (1, _), (2, _), (3, _)]) rfl dX10_rotate_10 rfl ⟨rfl, Nat.le_of_ble_eq_true rfl⟩ rfl ?_
    refine x_iload_n (p2 := 12) rfl dX10_rotate_11 rfl ?_
    refine x_if_eq (p2 := 15) (t := 17) (by decide) rfl dX10_rotate_12 (fun hc => absurd hc (by decide)) (fun _ => ?_)
    refine x_iload_n (p2 := 16) rfl dX10_rotate_15 rfl ?_
    refine x_iret dX10_rotate_16 rfl ?_
    exact k1 hb7
  · skip
    refine x_istore_n (p2 := 11) (i := 3) (L2 := [(0, _), (1, _), (2, _), (3, _)]) rfl dX10_rotate_10 rfl ⟨rfl, Nat.le_of_ble_eq_true rfl⟩ rfl ?_
    refine x_iload_n (p2 := 12) rfl dX10_rotate_11 rfl ?_
    refine x_if_eq (p2 := 15) (t := 17) (by decide) rfl dX10_rotate_12 (fun hc => absurd hc (by decide)) (fun _ => ?_)
    refine x_iload_n (p2 := 16) rfl dX10_rotate_15 rfl ?_
    refine x_iret dX10_rotate_16 rfl ?_
    exact k3 hb7
  · skip
    refine x_istore_n (p2 := 11) (i := 3) (L2 := [(0, _), (1, _), (2, _), (3, _)]) rfl dX10_rotate_10 rfl ⟨rfl, Nat.le_of_ble_eq_true rfl⟩ rfl ?_
    refine x_iload_n (p2 := 12) rfl dX10_rotate_11 rfl ?_
    refine x_if_eq (p2 := 15) (t := 17) (by decide) rfl dX10_rotate_12 (fun _ => ?_) (fun hc => absurd hc (by decide))
    refine x_aload_n (p2 := 18) rfl dX10_rotate_17 rfl ?_
    refine x_v0 (p2 := 21) rfl dX10_rotate_18 l_10_150 ok_X10_note rfl hD.sh rfl ?_
    refine t_X10_note hD hx ha (fun M1 hnt => ?_)
    have hM1 := hnt.i hM
    obtain ⟨hn1, hen1, hyb1, hr1⟩ := id hM1
    refine x_aload_n (p2 := 22) rfl dX10_rotate_21 rfl ?_
    refine x_getr (p2 := 25) (kz := 5) rfl dX10_rotate_22 f_10_16 rfl rfl hD.sh hD.r5 ?_
    refine x_iload_n (p2 := 26) rfl dX10_rotate_25 rfl ?_
    refine x_iload_n (p2 := 27) rfl dX10_rotate_26 rfl ?_
    refine x_s3 (p2 := 30) rfl dX10_rotate_27 l_10_181 ok_X10_rotateIn rfl rfl ?_
    refine t_X10_rotateIn hD.a5 h8 hr1 hx2 (by omega) (by omega) (fun M27 hs27 hv27 => ?_)
    refine x_aload_n (p2 := 31) rfl dX10_rotate_30 rfl ?_
    refine x_aload_n (p2 := 32) rfl dX10_rotate_31 rfl ?_
    refine x_getr (p2 := 35) (kz := 5) rfl dX10_rotate_32 f_10_16 rfl rfl hD.sh hD.r5 ?_
    refine x_v1 (p2 := 38) rfl dX10_rotate_35 l_10_140 ok_X10_costOf rfl hD.sh rfl ?_
    have hWv := wfV_tn (f := i) (l := j) hW (by omega) (by omega)
    refine t_X10_costOf hD hD.a5 (v := (vtn i j v)) (by rw [hs27 D (by omega)]; exact hn1) hv27 hWv.1 hWv.2.1 ?_
    refine x_iret dX10_rotate_38 rfl ?_
    exact hq hb7 _ (ra.mk hnt (fun c z => hs27 c (by omega)) (fun f z => by rw [hs27 D (by omega)]) hv27)
theorem smr_c {n b k x : Int} {v : vV} {r : Int → Int} (h : smr n v r) (h8 : n ≤ 8) (hx : ∀ b, 0 ≤ b → b < n → v.1 b ≤ 2) (hb : 0 ≤ b ∧ b < n ∧ 0 ≤ k ∧ k < v.1 b) : smr n (v.1, v.2.1, upf v.2.2.1 (2 * b + k) x, v.2.2.2.1, v.2.2.2.2.1, v.2.2.2.2.2) (upf r (34 + 2 * b + k) x) := by
  refine ⟨fun c a d => ?_, fun c j a d e f => ?_, fun i a d => ?_, ?_, ?_⟩
  · rw [upf_n (by omega)]; exact h.x a d
  · have g := hx c a d
    have f : j < v.1 c := f
    have gb := hx b hb.1 hb.2.1
    refine ⟨by rw [upf_n (by omega)]; exact h.t a d e f, ?_⟩
    by_cases hc : 2 * c + j = 2 * b + k
    · rw [show 34 + 2 * c + j = 34 + 2 * b + k by omega, upf_s]
      dsimp only
      rw [hc, upf_s]
    · rw [upf_n (by omega)]
      dsimp only
      rw [upf_n hc]; exact h.c a d e f
  · rw [upf_n (by omega)]; exact h.o a d
  · rw [upf_n (by omega)]; exact h.h
  · rw [upf_n (by omega)]; exact h.a
theorem smr_a {n x : Int} {v : vV} {r : Int → Int} (h : smr n v r) : smr n (v.1, v.2.1, v.2.2.1, v.2.2.2.1, v.2.2.2.2.1, x) (upf r 1 x) := by
  refine ⟨fun c a d => ?_, fun c j a d e f => ?_, fun i a d => ?_, ?_, ?_⟩
  · rw [upf_n (by omega)]; exact h.x a d
  · rw [upf_n (by omega), upf_n (by omega)]; exact ⟨h.t a d e f, h.c a d e f⟩
  · rw [upf_n (by omega)]; exact h.o a d
  · rw [upf_n (by omega)]; exact h.h
  · rw [upf_s]
set_option maxHeartbeats 4000000 in
theorem t_X10_setCount {D : Nat} (hD : isMd σ ρ D) {n en : Int} {byt : Int → Int} {v : vV} (hM : mdI M D n en byt v) (hW : wfV n en byt v) (hx : 0 ≤ M D 10 ∧ M D 10 < 14) (ha : 0 ≤ M D 9 ∧ M D 9 ≤ 14) {b k x : Int} (k1 : ¬ (0 ≤ b ∧ b < n ∧ 0 ≤ k ∧ k < v.1 b) → Q (some (xI (-1))) (σ, ρ, M)) (k2 : (0 ≤ b ∧ b < n ∧ 0 ≤ k ∧ k < v.1 b) → ¬ (0 ≤ x ∧ x ≤ 99) → Q (some (xI (-2))) (σ, ρ, M)) (hq : (0 ≤ b ∧ b < n ∧ 0 ≤ k ∧ k < v.1 b) → (0 ≤ x ∧ x ≤ 99) → ∀ M2, ra M M2 D n (v.1, v.2.1, upf v.2.2.1 (2 * b + k) x, v.2.2.2.1, v.2.2.2.2.1, v.2.2.2.2.2) → Q (some (xI (v.2.2.1 (2 * b + k)))) (σ, ρ, M2)) : xX G mX10_setCount 0 0 0 [(0, xP D), (1, xI b), (2, xI k), (3, xI x)] [] (σ, ρ, M) Q := by
  obtain ⟨hn, hen, hyb, hr⟩ := id hM
  have hG := hW.1
  have hO := hW.2.1
  have hA := hW.2.2.1
  have he : M D 4 = en ∧ 0 ≤ en ∧ en ≤ 99 := ⟨hen, hW.2.2.2.1⟩
  have hy : ∀ b, 0 ≤ b → b < n → M (D + 2) b = byt b ∧ 0 ≤ byt b ∧ byt b ≤ 9 := fun b a c => ⟨hyb b a c, hW.2.2.2.2 b a c⟩
  have h8 := hG.2.1
  have h1 := hG.1
  have hx2 : ∀ b, 0 ≤ b → b < n → v.1 b ≤ 2 := fun b a c => (hG.2.2 b a c).2.1
  have hO5 := hO.2.2.2
  refine x_aload_n (p2 := 1) rfl dX10_setCount_0 rfl ?_
  refine x_iload_n (p2 := 2) rfl dX10_setCount_1 rfl ?_
  refine x_iload_n (p2 := 3) rfl dX10_setCount_2 rfl ?_
  refine x_v2 (p2 := 6) rfl dX10_setCount_3 l_10_107 ok_X10_isEdge rfl hD.sh rfl ?_
  refine t_X10_isEdge hD hM hW (fun hb3 => ?_) (fun hb3 => ?_)
  · skip
    refine x_if_ne (p2 := 9) (t := 11) (by decide) rfl dX10_setCount_6 (fun _ => ?_) (fun hc => absurd hc (by decide))
    refine x_iload_n (p2 := 12) rfl dX10_setCount_11 rfl ?_
    refine x_i2l (p2 := 13) rfl dX10_setCount_12 ?_
    refine x_lconst (p2 := 14) (v := 0) rfl dX10_setCount_13 ⟨by decide, ⟨by decide, by decide⟩⟩ ?_
    refine x_ldc2 (p2 := 17) rfl dX10_setCount_14 q_10_184 ?_
    refine x_s3 (p2 := 20) rfl dX10_setCount_17 l_10_57 ok_X10_in rfl rfl ?_
    refine t_X10_in (fun hb17 => ?_) (fun hb17 => ?_)
    · skip
      refine x_if_ne (p2 := 23) (t := 26) (by decide) rfl dX10_setCount_20 (fun _ => ?_) (fun hc => absurd hc (by decide))
      have hxb := hx2 b (by omega) (by omega)
      refine x_aload_n (p2 := 27) rfl dX10_setCount_26 rfl ?_
      refine x_v0 (p2 := 30) rfl dX10_setCount_27 l_10_150 ok_X10_note rfl hD.sh rfl ?_
      refine t_X10_note hD hx ha (fun M1 hnt => ?_)
      have hM1 := hnt.i hM
      obtain ⟨hn1, hen1, hyb1, hr1⟩ := id hM1
      refine x_aload_n (p2 := 31) rfl dX10_setCount_30 rfl ?_
      refine x_getr (p2 := 34) (kz := 5) rfl dX10_setCount_31 f_10_16 rfl rfl hD.sh hD.r5 ?_
      refine x_bipush (p2 := 36) rfl dX10_setCount_34 ⟨by decide, ⟨by decide, by decide⟩⟩ ?_
      refine x_iconst (p2 := 37) rfl dX10_setCount_36 ⟨by decide, by decide⟩ ?_
      refine x_iload_n (p2 := 38) rfl dX10_setCount_37 rfl ?_
      refine x_imul (p2 := 39) rfl dX10_setCount_38 ⟨by omega, by omega⟩ ?_
      refine x_iadd (p2 := 40) rfl dX10_setCount_39 ⟨by omega, by omega⟩ ?_
      refine x_iload_n (p2 := 41) rfl dX10_setCount_40 rfl ?_
      refine x_iadd (p2 := 42) rfl dX10_setCount_41 ⟨by omega, by omega⟩ ?_
      refine x_iald (p2 := 43) rfl dX10_setCount_42 hD.a5 (by omega) (by omega) ?_
      rw [hr1.c hb3.1 hb3.2.1 hb3.2.2.1 hb3.2.2.2]
      refine x_istore (p2 := 45) (i := 4) (L2 := [(0, _), (1, _), (2, _), (3, _), (4, _)]) rfl dX10_setCount_43 ⟨rfl, Nat.le_of_ble_eq_true rfl⟩ rfl ?_
      refine x_aload_n (p2 := 46) rfl dX10_setCount_45 rfl ?_
      refine x_getr (p2 := 49) (kz := 5) rfl dX10_setCount_46 f_10_16 rfl rfl hD.sh hD.r5 ?_
      refine x_bipush (p2 := 51) rfl dX10_setCount_49 ⟨by decide, ⟨by decide, by decide⟩⟩ ?_
      refine x_iconst (p2 := 52) rfl dX10_setCount_51 ⟨by decide, by decide⟩ ?_
      refine x_iload_n (p2 := 53) rfl dX10_setCount_52 rfl ?_
      refine x_imul (p2 := 54) rfl dX10_setCount_53 ⟨by omega, by omega⟩ ?_
      refine x_iadd (p2 := 55) rfl dX10_setCount_54 ⟨by omega, by omega⟩ ?_
      refine x_iload_n (p2 := 56) rfl dX10_setCount_55 rfl ?_
      refine x_iadd (p2 := 57) rfl dX10_setCount_56 ⟨by omega, by omega⟩ ?_
      refine x_iload_n (p2 := 58) rfl dX10_setCount_57 rfl ?_
      refine x_iast (p2 := 59) rfl dX10_setCount_58 hD.a5 (by omega) (by omega) ?_
      refine x_iload (p2 := 61) rfl dX10_setCount_59 rfl ?_
      refine x_iret dX10_setCount_61 rfl ?_
      refine hq hb3 (by omega) _ (ra.mk hnt (fun c z => xu_c (by omega)) (fun f z => by rw [xu_c (by omega)]) ?_)
      rw [xu_eq, xw_s]
      exact smr_c hr1 h8 hx2 hb3
    · skip
      refine x_if_ne (p2 := 23) (t := 26) (by decide) rfl dX10_setCount_20 (fun hc => absurd hc (by decide)) (fun _ => ?_)
      refine x_bipush (p2 := 25) rfl dX10_setCount_23 ⟨by decide, ⟨by decide, by decide⟩⟩ ?_
      refine x_iret dX10_setCount_25 rfl ?_
      exact k2 hb3 (by omega)
  · skip
    refine x_if_ne (p2 := 9) (t := 11) (by decide) rfl dX10_setCount_6 (fun hc => absurd hc (by decide)) (fun _ => ?_)
    refine x_iconst (p2 := 10) rfl dX10_setCount_9 ⟨by decide, by decide⟩ ?_
    refine x_iret dX10_setCount_10 rfl ?_
    exact k1 hb3
set_option maxHeartbeats 4000000 in
theorem t_X10_setAlignment {D : Nat} (hD : isMd σ ρ D) {n en : Int} {byt : Int → Int} {v : vV} (hM : mdI M D n en byt v) (hW : wfV n en byt v) (hx : 0 ≤ M D 10 ∧ M D 10 < 14) (ha : 0 ≤ M D 9 ∧ M D 9 ≤ 14) {x : Int} (k2 : ¬ (x = 1 ∨ x = 2 ∨ x = 4 ∨ x = 8 ∨ x = 16) → Q (some (xI (-2))) (σ, ρ, M)) (hq : (x = 1 ∨ x = 2 ∨ x = 4 ∨ x = 8 ∨ x = 16) → ∀ M2, ra M M2 D n (v.1, v.2.1, v.2.2.1, v.2.2.2.1, v.2.2.2.2.1, x) → Q (some (xI v.2.2.2.2.2)) (σ, ρ, M2)) : xX G mX10_setAlignment 0 0 0 [(0, xP D), (1, xI x)] [] (σ, ρ, M) Q := by
  obtain ⟨hn, hen, hyb, hr⟩ := id hM
  have hG := hW.1
  have hO := hW.2.1
  have hA := hW.2.2.1
  have he : M D 4 = en ∧ 0 ≤ en ∧ en ≤ 99 := ⟨hen, hW.2.2.2.1⟩
  have hy : ∀ b, 0 ≤ b → b < n → M (D + 2) b = byt b ∧ 0 ≤ byt b ∧ byt b ≤ 9 := fun b a c => ⟨hyb b a c, hW.2.2.2.2 b a c⟩
  have h8 := hG.2.1
  have h1 := hG.1
  have hx2 : ∀ b, 0 ≤ b → b < n → v.1 b ≤ 2 := fun b a c => (hG.2.2 b a c).2.1
  have hO5 := hO.2.2.2
  refine x_iload_n (p2 := 1) rfl dX10_setAlignment_0 rfl ?_
  refine x_iconst (p2 := 2) rfl dX10_setAlignment_1 ⟨by decide, by decide⟩ ?_
  refine x_ic_eq (p2 := 5) (t := 30) (by decide) rfl dX10_setAlignment_2 (fun hc2 => ?_) (fun hc2 => ?_)
  · skip
    refine x_aload_n (p2 := 31) rfl dX10_setAlignment_30 rfl ?_
    refine x_v0 (p2 := 34) rfl dX10_setAlignment_31 l_10_150 ok_X10_note rfl hD.sh rfl ?_
    refine t_X10_note hD hx ha (fun M1 hnt => ?_)
    have hM1 := hnt.i hM
    obtain ⟨hn1, hen1, hyb1, hr1⟩ := id hM1
    refine x_aload_n (p2 := 35) rfl dX10_setAlignment_34 rfl ?_
    refine x_getr (p2 := 38) (kz := 5) rfl dX10_setAlignment_35 f_10_16 rfl rfl hD.sh hD.r5 ?_
    refine x_iconst (p2 := 39) rfl dX10_setAlignment_38 ⟨by decide, by decide⟩ ?_
    refine x_iald (p2 := 40) rfl dX10_setAlignment_39 hD.a5 (by omega) (by omega) ?_
    rw [hr1.a]
    refine x_istore_n (p2 := 41) (i := 2) (L2 := [(0, _), (1, _), (2, _)]) rfl dX10_setAlignment_40 rfl ⟨rfl, Nat.le_of_ble_eq_true rfl⟩ rfl ?_
    refine x_aload_n (p2 := 42) rfl dX10_setAlignment_41 rfl ?_
    refine x_getr (p2 := 45) (kz := 5) rfl dX10_setAlignment_42 f_10_16 rfl rfl hD.sh hD.r5 ?_
    refine x_iconst (p2 := 46) rfl dX10_setAlignment_45 ⟨by decide, by decide⟩ ?_
    refine x_iload_n (p2 := 47) rfl dX10_setAlignment_46 rfl ?_
    refine x_iast (p2 := 48) rfl dX10_setAlignment_47 hD.a5 (by omega) (by omega) ?_
    refine x_iload_n (p2 := 49) rfl dX10_setAlignment_48 rfl ?_
    refine x_iret dX10_setAlignment_49 rfl ?_
    refine hq (by omega) _ (ra.mk hnt (fun c z => xu_c (by omega)) (fun f z => by rw [xu_c (by omega)]) ?_)
    rw [xu_eq, xw_s]
    exact smr_a hr1
  · skip
    refine x_iload_n (p2 := 6) rfl dX10_setAlignment_5 rfl ?_
    refine x_iconst (p2 := 7) rfl dX10_setAlignment_6 ⟨by decide, by decide⟩ ?_
    refine x_ic_eq (p2 := 10) (t := 30) (by decide) rfl dX10_setAlignment_7 (fun hc7 => ?_) (fun hc7 => ?_)
    · skip
      refine x_aload_n (p2 := 31) rfl dX10_setAlignment_30 rfl ?_
      refine x_v0 (p2 := 34) rfl dX10_setAlignment_31 l_10_150 ok_X10_note rfl hD.sh rfl ?_
      refine t_X10_note hD hx ha (fun M1 hnt => ?_)
      have hM1 := hnt.i hM
      obtain ⟨hn1, hen1, hyb1, hr1⟩ := id hM1
      refine x_aload_n (p2 := 35) rfl dX10_setAlignment_34 rfl ?_
      refine x_getr (p2 := 38) (kz := 5) rfl dX10_setAlignment_35 f_10_16 rfl rfl hD.sh hD.r5 ?_
      refine x_iconst (p2 := 39) rfl dX10_setAlignment_38 ⟨by decide, by decide⟩ ?_
      refine x_iald (p2 := 40) rfl dX10_setAlignment_39 hD.a5 (by omega) (by omega) ?_
      rw [hr1.a]
      refine x_istore_n (p2 := 41) (i := 2) (L2 := [(0, _), (1, _), (2, _)]) rfl dX10_setAlignment_40 rfl ⟨rfl, Nat.le_of_ble_eq_true rfl⟩ rfl ?_
      refine x_aload_n (p2 := 42) rfl dX10_setAlignment_41 rfl ?_
      refine x_getr (p2 := 45) (kz := 5) rfl dX10_setAlignment_42 f_10_16 rfl rfl hD.sh hD.r5 ?_
      refine x_iconst (p2 := 46) rfl dX10_setAlignment_45 ⟨by decide, by decide⟩ ?_
      refine x_iload_n (p2 := 47) rfl dX10_setAlignment_46 rfl ?_
      refine x_iast (p2 := 48) rfl dX10_setAlignment_47 hD.a5 (by omega) (by omega) ?_
      refine x_iload_n (p2 := 49) rfl dX10_setAlignment_48 rfl ?_
      refine x_iret dX10_setAlignment_49 rfl ?_
      refine hq (by omega) _ (ra.mk hnt (fun c z => xu_c (by omega)) (fun f z => by rw [xu_c (by omega)]) ?_)
      rw [xu_eq, xw_s]
      exact smr_a hr1
    · skip
      refine x_iload_n (p2 := 11) rfl dX10_setAlignment_10 rfl ?_
      refine x_iconst (p2 := 12) rfl dX10_setAlignment_11 ⟨by decide, by decide⟩ ?_
      refine x_ic_eq (p2 := 15) (t := 30) (by decide) rfl dX10_setAlignment_12 (fun hc12 => ?_) (fun hc12 => ?_)
      · skip
        refine x_aload_n (p2 := 31) rfl dX10_setAlignment_30 rfl ?_
        refine x_v0 (p2 := 34) rfl dX10_setAlignment_31 l_10_150 ok_X10_note rfl hD.sh rfl ?_
        refine t_X10_note hD hx ha (fun M1 hnt => ?_)
        have hM1 := hnt.i hM
        obtain ⟨hn1, hen1, hyb1, hr1⟩ := id hM1
        refine x_aload_n (p2 := 35) rfl dX10_setAlignment_34 rfl ?_
        refine x_getr (p2 := 38) (kz := 5) rfl dX10_setAlignment_35 f_10_16 rfl rfl hD.sh hD.r5 ?_
        refine x_iconst (p2 := 39) rfl dX10_setAlignment_38 ⟨by decide, by decide⟩ ?_
        refine x_iald (p2 := 40) rfl dX10_setAlignment_39 hD.a5 (by omega) (by omega) ?_
        rw [hr1.a]
        refine x_istore_n (p2 := 41) (i := 2) (L2 := [(0, _), (1, _), (2, _)]) rfl dX10_setAlignment_40 rfl ⟨rfl, Nat.le_of_ble_eq_true rfl⟩ rfl ?_
        refine x_aload_n (p2 := 42) rfl dX10_setAlignment_41 rfl ?_
        refine x_getr (p2 := 45) (kz := 5) rfl dX10_setAlignment_42 f_10_16 rfl rfl hD.sh hD.r5 ?_
        refine x_iconst (p2 := 46) rfl dX10_setAlignment_45 ⟨by decide, by decide⟩ ?_
        refine x_iload_n (p2 := 47) rfl dX10_setAlignment_46 rfl ?_
        refine x_iast (p2 := 48) rfl dX10_setAlignment_47 hD.a5 (by omega) (by omega) ?_
        refine x_iload_n (p2 := 49) rfl dX10_setAlignment_48 rfl ?_
        refine x_iret dX10_setAlignment_49 rfl ?_
        refine hq (by omega) _ (ra.mk hnt (fun c z => xu_c (by omega)) (fun f z => by rw [xu_c (by omega)]) ?_)
        rw [xu_eq, xw_s]
        exact smr_a hr1
      · skip
        refine x_iload_n (p2 := 16) rfl dX10_setAlignment_15 rfl ?_
        refine x_bipush (p2 := 18) rfl dX10_setAlignment_16 ⟨by decide, ⟨by decide, by decide⟩⟩ ?_
        refine x_ic_eq (p2 := 21) (t := 30) (by decide) rfl dX10_setAlignment_18 (fun hc18 => ?_) (fun hc18 => ?_)
        · skip
          refine x_aload_n (p2 := 31) rfl dX10_setAlignment_30 rfl ?_
          refine x_v0 (p2 := 34) rfl dX10_setAlignment_31 l_10_150 ok_X10_note rfl hD.sh rfl ?_
          refine t_X10_note hD hx ha (fun M1 hnt => ?_)
          have hM1 := hnt.i hM
          obtain ⟨hn1, hen1, hyb1, hr1⟩ := id hM1
          refine x_aload_n (p2 := 35) rfl dX10_setAlignment_34 rfl ?_
          refine x_getr (p2 := 38) (kz := 5) rfl dX10_setAlignment_35 f_10_16 rfl rfl hD.sh hD.r5 ?_
          refine x_iconst (p2 := 39) rfl dX10_setAlignment_38 ⟨by decide, by decide⟩ ?_
          refine x_iald (p2 := 40) rfl dX10_setAlignment_39 hD.a5 (by omega) (by omega) ?_
          rw [hr1.a]
          refine x_istore_n (p2 := 41) (i := 2) (L2 := [(0, _), (1, _), (2, _)]) rfl dX10_setAlignment_40 rfl ⟨rfl, Nat.le_of_ble_eq_true rfl⟩ rfl ?_
          refine x_aload_n (p2 := 42) rfl dX10_setAlignment_41 rfl ?_
          refine x_getr (p2 := 45) (kz := 5) rfl dX10_setAlignment_42 f_10_16 rfl rfl hD.sh hD.r5 ?_
          refine x_iconst (p2 := 46) rfl dX10_setAlignment_45 ⟨by decide, by decide⟩ ?_
          refine x_iload_n (p2 := 47) rfl dX10_setAlignment_46 rfl ?_
          refine x_iast (p2 := 48) rfl dX10_setAlignment_47 hD.a5 (by omega) (by omega) ?_
          refine x_iload_n (p2 := 49) rfl dX10_setAlignment_48 rfl ?_
          refine x_iret dX10_setAlignment_49 rfl ?_
          refine hq (by omega) _ (ra.mk hnt (fun c z => xu_c (by omega)) (fun f z => by rw [xu_c (by omega)]) ?_)
          rw [xu_eq, xw_s]
          exact smr_a hr1
        · skip
          refine x_iload_n (p2 := 22) rfl dX10_setAlignment_21 rfl ?_
          refine x_bipush (p2 := 24) rfl dX10_setAlignment_22 ⟨by decide, ⟨by decide, by decide⟩⟩ ?_
          refine x_ic_eq (p2 := 27) (t := 30) (by decide) rfl dX10_setAlignment_24 (fun hc24 => ?_) (fun hc24 => ?_)
          · skip
            refine x_aload_n (p2 := 31) rfl dX10_setAlignment_30 rfl ?_
            refine x_v0 (p2 := 34) rfl dX10_setAlignment_31 l_10_150 ok_X10_note rfl hD.sh rfl ?_
            refine t_X10_note hD hx ha (fun M1 hnt => ?_)
            have hM1 := hnt.i hM
            obtain ⟨hn1, hen1, hyb1, hr1⟩ := id hM1
            refine x_aload_n (p2 := 35) rfl dX10_setAlignment_34 rfl ?_
            refine x_getr (p2 := 38) (kz := 5) rfl dX10_setAlignment_35 f_10_16 rfl rfl hD.sh hD.r5 ?_
            refine x_iconst (p2 := 39) rfl dX10_setAlignment_38 ⟨by decide, by decide⟩ ?_
            refine x_iald (p2 := 40) rfl dX10_setAlignment_39 hD.a5 (by omega) (by omega) ?_
            rw [hr1.a]
            refine x_istore_n (p2 := 41) (i := 2) (L2 := [(0, _), (1, _), (2, _)]) rfl dX10_setAlignment_40 rfl ⟨rfl, Nat.le_of_ble_eq_true rfl⟩ rfl ?_
            refine x_aload_n (p2 := 42) rfl dX10_setAlignment_41 rfl ?_
            refine x_getr (p2 := 45) (kz := 5) rfl dX10_setAlignment_42 f_10_16 rfl rfl hD.sh hD.r5 ?_
            refine x_iconst (p2 := 46) rfl dX10_setAlignment_45 ⟨by decide, by decide⟩ ?_
            refine x_iload_n (p2 := 47) rfl dX10_setAlignment_46 rfl ?_
            refine x_iast (p2 := 48) rfl dX10_setAlignment_47 hD.a5 (by omega) (by omega) ?_
            refine x_iload_n (p2 := 49) rfl dX10_setAlignment_48 rfl ?_
            refine x_iret dX10_setAlignment_49 rfl ?_
            refine hq (by omega) _ (ra.mk hnt (fun c z => xu_c (by omega)) (fun f z => by rw [xu_c (by omega)]) ?_)
            rw [xu_eq, xw_s]
            exact smr_a hr1
          · skip
            refine x_bipush (p2 := 29) rfl dX10_setAlignment_27 ⟨by decide, ⟨by decide, by decide⟩⟩ ?_
            refine x_iret dX10_setAlignment_29 rfl ?_
            exact k2 (by omega)
set_option maxHeartbeats 4000000 in
theorem t_un_l {D : Nat} (hD : isMd σ ρ D) (hx : 0 ≤ M D 10 ∧ M D 10 < 14) (hq : ∀ M2, (∀ c, c ≠ D + 3 → M2 c = M c) → (∀ x, 0 ≤ x → x < 50 → M2 (D + 3) x = M (D + 6) (50 * M D 10 + x)) → Q (some (xI (M D 9))) (σ, ρ, M2)) : ∀ (m : Nat) (k : Int) (M1 : Nat → Int → Int), 0 ≤ k → k + m = 50 → (∀ c, c ≠ D + 3 → M1 c = M c) → (∀ x, 0 ≤ x → x < k → M1 (D + 3) x = M (D + 6) (50 * M D 10 + x)) → xX G mX10_undo 0 0 38 [(0, xP D), (1, xI k)] [] (σ, ρ, M1) Q := by
  intro m
  induction m with
  | zero =>
    intro k M1 h0 hm g1 g2
    refine x_iload_n (p2 := 39) rfl dX10_undo_38 rfl ?_
    refine x_bipush (p2 := 41) rfl dX10_undo_39 ⟨by decide, ⟨by decide, by decide⟩⟩ ?_
    refine x_ic_ge (p2 := 44) (t := 70) (by decide) rfl dX10_undo_41 (fun hc41 => ?_) (fun hc41 => absurd hc41 (by omega))
    refine x_aload_n (p2 := 71) rfl dX10_undo_70 rfl ?_
    refine x_geti (p2 := 74) (kz := 9) rfl dX10_undo_71 f_10_104 rfl rfl hD.sh ?_
    rw [g1 D (by omega)]
    refine x_iret dX10_undo_74 rfl ?_
    exact hq M1 g1 (fun x a b => g2 x a (by omega))
  | succ m ih =>
    intro k M1 h0 hm g1 g2
    refine x_iload_n (p2 := 39) rfl dX10_undo_38 rfl ?_
    refine x_bipush (p2 := 41) rfl dX10_undo_39 ⟨by decide, ⟨by decide, by decide⟩⟩ ?_
    refine x_ic_ge (p2 := 44) (t := 70) (by decide) rfl dX10_undo_41 (fun hc41 => ?_) (fun hc41 => ?_)
    · exact absurd hc41 (by omega)
    refine x_aload_n (p2 := 45) rfl dX10_undo_44 rfl ?_
    refine x_getr (p2 := 48) (kz := 5) rfl dX10_undo_45 f_10_16 rfl rfl hD.sh hD.r5 ?_
    refine x_iload_n (p2 := 49) rfl dX10_undo_48 rfl ?_
    refine x_aload_n (p2 := 50) rfl dX10_undo_49 rfl ?_
    refine x_getr (p2 := 53) (kz := 8) rfl dX10_undo_50 f_10_25 rfl rfl hD.sh hD.r8 ?_
    refine x_bipush (p2 := 55) rfl dX10_undo_53 ⟨by decide, ⟨by decide, by decide⟩⟩ ?_
    refine x_aload_n (p2 := 56) rfl dX10_undo_55 rfl ?_
    refine x_geti (p2 := 59) (kz := 10) rfl dX10_undo_56 f_10_171 rfl rfl hD.sh ?_
    rw [g1 D (by omega)]
    refine x_imul (p2 := 60) rfl dX10_undo_59 ⟨by omega, by omega⟩ ?_
    refine x_iload_n (p2 := 61) rfl dX10_undo_60 rfl ?_
    refine x_iadd (p2 := 62) rfl dX10_undo_61 ⟨by omega, by omega⟩ ?_
    refine x_iald (p2 := 63) rfl dX10_undo_62 hD.a8 (by omega) (by omega) ?_
    rw [g1 (D + 6) (by omega)]
    refine x_iast (p2 := 64) rfl dX10_undo_63 hD.a5 (by omega) (by omega) ?_
    refine x_iinc (p2 := 67) (L2 := [(0, _), (1, _)]) rfl dX10_undo_64 rfl ⟨by omega, by omega⟩ ⟨rfl, Nat.le_of_ble_eq_true rfl⟩ rfl ?_
    refine x_goto (t := 38) (by decide) dX10_undo_67 ?_
    refine x_pick (L2 := [(0, _), (1, _)]) [0, 1] rfl ?_
    refine ih _ _ (by omega) (by omega) (fun c z => by rw [xu_c z]; exact g1 c z) (fun x a b => ?_)
    by_cases hx2 : x = k
    · rw [hx2, xu_s]
    · rw [xu_j (by omega)]; exact g2 x a (by omega)
set_option maxHeartbeats 4000000 in
theorem t_X10_undo {D : Nat} (hD : isMd σ ρ D) (hx : 0 ≤ M D 10 ∧ M D 10 < 14) (ha : 0 ≤ M D 9 ∧ M D 9 ≤ 14) (k3 : M D 9 = 0 → Q (some (xI (-3))) (σ, ρ, M)) (hq : 0 < M D 9 → ∀ M2, (∀ c, c ≠ D → c ≠ D + 3 → M2 c = M c) → (∀ f, f ≠ 9 → f ≠ 10 → M2 D f = M D f) → M2 D 9 = M D 9 - 1 → M2 D 10 = (M D 10 + 13) % 14 → (∀ x, 0 ≤ x → x < 50 → M2 (D + 3) x = M (D + 6) (50 * ((M D 10 + 13) % 14) + x)) → Q (some (xI (M D 9 - 1))) (σ, ρ, M2)) : xX G mX10_undo 0 0 0 [(0, xP D)] [] (σ, ρ, M) Q := by
  refine x_aload_n (p2 := 1) rfl dX10_undo_0 rfl ?_
  refine x_geti (p2 := 4) (kz := 9) rfl dX10_undo_1 f_10_104 rfl rfl hD.sh ?_
  refine x_if_ne (p2 := 7) (t := 10) (by decide) rfl dX10_undo_4 (fun hc4 => ?_) (fun hc4 => ?_)
  · skip
    refine x_aload_n (p2 := 11) rfl dX10_undo_10 rfl ?_
    refine x_dup (p2 := 12) rfl dX10_undo_11 rfl ?_
    refine x_geti (p2 := 15) (kz := 9) rfl dX10_undo_12 f_10_104 rfl rfl hD.sh ?_
    refine x_iconst (p2 := 16) rfl dX10_undo_15 ⟨by decide, by decide⟩ ?_
    refine x_isub (p2 := 17) rfl dX10_undo_16 ⟨by omega, by omega⟩ ?_
    refine x_puti (p2 := 20) (kz := 9) rfl dX10_undo_17 f_10_104 rfl rfl rfl hD.sh ?_
    refine x_aload_n (p2 := 21) rfl dX10_undo_20 rfl ?_
    refine x_aload_n (p2 := 22) rfl dX10_undo_21 rfl ?_
    refine x_geti (p2 := 25) (kz := 10) rfl dX10_undo_22 f_10_171 rfl rfl hD.sh ?_
    rw [xu_j (by omega)]
    refine x_bipush (p2 := 27) rfl dX10_undo_25 ⟨by decide, ⟨by decide, by decide⟩⟩ ?_
    refine x_iadd (p2 := 28) rfl dX10_undo_27 ⟨by omega, by omega⟩ ?_
    refine x_iconst (p2 := 29) rfl dX10_undo_28 ⟨by decide, by decide⟩ ?_
    refine x_isub (p2 := 30) rfl dX10_undo_29 ⟨by omega, by omega⟩ ?_
    refine x_bipush (p2 := 32) rfl dX10_undo_30 ⟨by decide, ⟨by decide, by decide⟩⟩ ?_
    refine x_irem (p2 := 33) rfl dX10_undo_32 (by omega) (by omega) ?_
    refine x_puti (p2 := 36) (kz := 10) rfl dX10_undo_33 f_10_171 rfl rfl rfl hD.sh ?_
    refine x_iconst (p2 := 37) rfl dX10_undo_36 ⟨by decide, by decide⟩ ?_
    refine x_istore_n (p2 := 38) (i := 1) (L2 := [(0, _), (1, _)]) rfl dX10_undo_37 rfl ⟨rfl, Nat.le_of_ble_eq_true rfl⟩ rfl ?_
    refine x_pick (L2 := [(0, _), (1, _)]) [0, 1] rfl ?_
    generalize hM5 : xu (xu M D 9 (M D 9 - 1)) D 10 ((M D 10 + 14 - 1) % 14) = M5
    have e9 : M5 D 9 = M D 9 - 1 := by rw [← hM5, xu_j (by omega), xu_s]
    have e10 : M5 D 10 = (M D 10 + 13) % 14 := by rw [← hM5, xu_s]; congr 1; omega
    have ec : ∀ c, c ≠ D → M5 c = M c := fun c z => by rw [← hM5, xu_c z, xu_c z]
    refine t_un_l hD (by rw [e10]; omega) (fun M2 q1 q2 => ?_) 50 0 M5 (by omega) (by omega) (fun _ _ => rfl) (fun x a b => by omega)
    rw [e9]
    refine hq (by omega) M2 (fun c z1 z2 => (q1 c z2).trans (ec c z1)) (fun f z1 z2 => ?_) ?_ ?_ (fun x a b => ?_)
    · rw [q1 D (by omega), ← hM5, xu_j z2, xu_j z1]
    · rw [q1 D (by omega), e9]
    · rw [q1 D (by omega), e10]
    · rw [q2 x a b, ec _ (by omega), e10]
  · skip
    refine x_bipush (p2 := 9) rfl dX10_undo_7 ⟨by decide, ⟨by decide, by decide⟩⟩ ?_
    refine x_iret dX10_undo_9 rfl ?_
    exact k3 (by omega)
set_option maxHeartbeats 4000000 in
theorem t_sv_l {D : Nat} (hD : isMd σ ρ D) {s : Int} (hs : 0 ≤ s ∧ s < 2) (hq : ∀ M2, (∀ c, c ≠ D + 7 → M2 c = M c) → (∀ x, 0 ≤ x → x < 50 → M2 (D + 7) (50 * s + x) = M (D + 3) x) → (∀ j, j < 50 * s ∨ 50 * s + 50 ≤ j → M2 (D + 7) j = M (D + 7) j) → Q (some (xI (M (D + 3) 0))) (σ, ρ, M2)) : ∀ (m : Nat) (k : Int) (M1 : Nat → Int → Int), 0 ≤ k → k + m = 50 → (∀ c, c ≠ D + 7 → M1 c = M c) → (∀ x, 0 ≤ x → x < k → M1 (D + 7) (50 * s + x) = M (D + 3) x) → (∀ j, j < 50 * s ∨ 50 * s + 50 ≤ j → M1 (D + 7) j = M (D + 7) j) → xX G mX10_save 0 0 21 [(0, xP D), (1, xI s), (2, xI k)] [] (σ, ρ, M1) Q := by
  intro m
  induction m with
  | zero =>
    intro k M1 h0 hm g1 g2 g3
    refine x_iload_n (p2 := 22) rfl dX10_save_21 rfl ?_
    refine x_bipush (p2 := 24) rfl dX10_save_22 ⟨by decide, ⟨by decide, by decide⟩⟩ ?_
    refine x_ic_ge (p2 := 27) (t := 50) (by decide) rfl dX10_save_24 (fun hc24 => ?_) (fun hc24 => absurd hc24 (by omega))
    refine x_aload_n (p2 := 51) rfl dX10_save_50 rfl ?_
    refine x_getr (p2 := 54) (kz := 5) rfl dX10_save_51 f_10_16 rfl rfl hD.sh hD.r5 ?_
    refine x_iconst (p2 := 55) rfl dX10_save_54 ⟨by decide, by decide⟩ ?_
    refine x_iald (p2 := 56) rfl dX10_save_55 hD.a5 (by omega) (by omega) ?_
    rw [g1 (D + 3) (by omega)]
    refine x_iret dX10_save_56 rfl ?_
    exact hq M1 g1 (fun x a b => g2 x a (by omega)) g3
  | succ m ih =>
    intro k M1 h0 hm g1 g2 g3
    refine x_iload_n (p2 := 22) rfl dX10_save_21 rfl ?_
    refine x_bipush (p2 := 24) rfl dX10_save_22 ⟨by decide, ⟨by decide, by decide⟩⟩ ?_
    refine x_ic_ge (p2 := 27) (t := 50) (by decide) rfl dX10_save_24 (fun hc24 => ?_) (fun hc24 => ?_)
    · exact absurd hc24 (by omega)
    refine x_aload_n (p2 := 28) rfl dX10_save_27 rfl ?_
    refine x_getr (p2 := 31) (kz := 11) rfl dX10_save_28 f_10_28 rfl rfl hD.sh hD.r11 ?_
    refine x_bipush (p2 := 33) rfl dX10_save_31 ⟨by decide, ⟨by decide, by decide⟩⟩ ?_
    refine x_iload_n (p2 := 34) rfl dX10_save_33 rfl ?_
    refine x_imul (p2 := 35) rfl dX10_save_34 ⟨by omega, by omega⟩ ?_
    refine x_iload_n (p2 := 36) rfl dX10_save_35 rfl ?_
    refine x_iadd (p2 := 37) rfl dX10_save_36 ⟨by omega, by omega⟩ ?_
    refine x_aload_n (p2 := 38) rfl dX10_save_37 rfl ?_
    refine x_getr (p2 := 41) (kz := 5) rfl dX10_save_38 f_10_16 rfl rfl hD.sh hD.r5 ?_
    refine x_iload_n (p2 := 42) rfl dX10_save_41 rfl ?_
    refine x_iald (p2 := 43) rfl dX10_save_42 hD.a5 (by omega) (by omega) ?_
    rw [g1 (D + 3) (by omega)]
    refine x_iast (p2 := 44) rfl dX10_save_43 hD.a11 (by omega) (by omega) ?_
    refine x_iinc (p2 := 47) (L2 := [(0, _), (1, _), (2, _)]) rfl dX10_save_44 rfl ⟨by omega, by omega⟩ ⟨rfl, Nat.le_of_ble_eq_true rfl⟩ rfl ?_
    refine x_goto (t := 21) (by decide) dX10_save_47 ?_
    refine x_pick (L2 := [(0, _), (1, _), (2, _)]) [0, 1, 2] rfl ?_
    refine ih _ _ (by omega) (by omega) (fun c z => by rw [xu_c z]; exact g1 c z) (fun x a b => ?_) (fun j z => by rw [xu_j (by omega)]; exact g3 j z)
    by_cases hx2 : x = k
    · rw [hx2, xu_s]
    · rw [xu_j (by omega)]; exact g2 x a (by omega)
set_option maxHeartbeats 4000000 in
theorem t_X10_save {D : Nat} (hD : isMd σ ρ D) {s : Int} (k1 : ¬ (0 ≤ s ∧ s < 2) → Q (some (xI (-1))) (σ, ρ, M)) (hq : (0 ≤ s ∧ s < 2) → ∀ M2, (∀ c, c ≠ D + 7 → c ≠ D + 8 → M2 c = M c) → M2 (D + 8) = upf (M (D + 8)) s 1 → (∀ x, 0 ≤ x → x < 50 → M2 (D + 7) (50 * s + x) = M (D + 3) x) → (∀ j, j < 50 * s ∨ 50 * s + 50 ≤ j → M2 (D + 7) j = M (D + 7) j) → Q (some (xI (M (D + 3) 0))) (σ, ρ, M2)) : xX G mX10_save 0 0 0 [(0, xP D), (1, xI s)] [] (σ, ρ, M) Q := by
  refine x_iload_n (p2 := 1) rfl dX10_save_0 rfl ?_
  refine x_i2l (p2 := 2) rfl dX10_save_1 ?_
  refine x_lconst (p2 := 3) (v := 0) rfl dX10_save_2 ⟨by decide, ⟨by decide, by decide⟩⟩ ?_
  refine x_lconst (p2 := 4) (v := 1) rfl dX10_save_3 ⟨by decide, ⟨by decide, by decide⟩⟩ ?_
  refine x_s3 (p2 := 7) rfl dX10_save_4 l_10_57 ok_X10_in rfl rfl ?_
  refine t_X10_in (fun hb4 => ?_) (fun hb4 => ?_)
  · skip
    refine x_if_ne (p2 := 10) (t := 12) (by decide) rfl dX10_save_7 (fun _ => ?_) (fun hc => absurd hc (by decide))
    refine x_aload_n (p2 := 13) rfl dX10_save_12 rfl ?_
    refine x_getr (p2 := 16) (kz := 12) rfl dX10_save_13 f_10_31 rfl rfl hD.sh hD.r12 ?_
    refine x_iload_n (p2 := 17) rfl dX10_save_16 rfl ?_
    refine x_iconst (p2 := 18) rfl dX10_save_17 ⟨by decide, by decide⟩ ?_
    refine x_zast (p2 := 19) rfl dX10_save_18 hD.a12 (by omega) (by omega) (by omega) ?_
    refine x_iconst (p2 := 20) rfl dX10_save_19 ⟨by decide, by decide⟩ ?_
    refine x_istore_n (p2 := 21) (i := 2) (L2 := [(0, _), (1, _), (2, _)]) rfl dX10_save_20 rfl ⟨rfl, Nat.le_of_ble_eq_true rfl⟩ rfl ?_
    refine x_pick (L2 := [(0, _), (1, _), (2, _)]) [0, 1, 2] rfl ?_
    refine t_sv_l hD (by omega) (fun M2 q1 q2 q3 => ?_) 50 0 _ (by omega) (by omega) (fun _ _ => rfl) (fun x a b => by omega) (fun _ _ => rfl)
    rw [xu_c (by omega)]
    refine hq (by omega) M2 (fun c z1 z2 => (q1 c z1).trans (xu_c z2)) ?_ (fun x a b => ?_) (fun j z => ?_)
    · rw [q1 _ (by omega), xu_eq, xw_s]
    · rw [q2 x a b, xu_c (by omega)]
    · rw [q3 j z, xu_c (by omega)]
  · skip
    refine x_if_ne (p2 := 10) (t := 12) (by decide) rfl dX10_save_7 (fun hc => absurd hc (by decide)) (fun _ => ?_)
    refine x_iconst (p2 := 11) rfl dX10_save_10 ⟨by decide, by decide⟩ ?_
    refine x_iret dX10_save_11 rfl ?_
    exact k1 (by omega)
set_option maxHeartbeats 4000000 in
theorem t_rs_l {D : Nat} (hD : isMd σ ρ D) {s : Int} (hs : 0 ≤ s ∧ s < 2) (hq : ∀ M2, (∀ c, c ≠ D → c ≠ D + 3 → M2 c = M c) → (∀ f, f ≠ 9 → M2 D f = M D f) → M2 D 9 = 0 → (∀ x, 0 ≤ x → x < 50 → M2 (D + 3) x = M (D + 7) (50 * s + x)) → Q (some (xI (M (D + 7) (50 * s)))) (σ, ρ, M2)) : ∀ (m : Nat) (k : Int) (M1 : Nat → Int → Int), 0 ≤ k → k + m = 50 → (∀ c, c ≠ D + 3 → M1 c = M c) → (∀ x, 0 ≤ x → x < k → M1 (D + 3) x = M (D + 7) (50 * s + x)) → xX G mX10_restore 0 0 26 [(0, xP D), (1, xI s), (2, xI k)] [] (σ, ρ, M1) Q := by
  intro m
  induction m with
  | zero =>
    intro k M1 h0 hm g1 g2
    refine x_iload_n (p2 := 27) rfl dX10_restore_26 rfl ?_
    refine x_bipush (p2 := 29) rfl dX10_restore_27 ⟨by decide, ⟨by decide, by decide⟩⟩ ?_
    refine x_ic_ge (p2 := 32) (t := 55) (by decide) rfl dX10_restore_29 (fun hc29 => ?_) (fun hc29 => absurd hc29 (by omega))
    refine x_aload_n (p2 := 56) rfl dX10_restore_55 rfl ?_
    refine x_iconst (p2 := 57) rfl dX10_restore_56 ⟨by decide, by decide⟩ ?_
    refine x_puti (p2 := 60) (kz := 9) rfl dX10_restore_57 f_10_104 rfl rfl rfl hD.sh ?_
    refine x_aload_n (p2 := 61) rfl dX10_restore_60 rfl ?_
    refine x_getr (p2 := 64) (kz := 5) rfl dX10_restore_61 f_10_16 rfl rfl hD.sh hD.r5 ?_
    refine x_iconst (p2 := 65) rfl dX10_restore_64 ⟨by decide, by decide⟩ ?_
    refine x_iald (p2 := 66) rfl dX10_restore_65 hD.a5 (by omega) (by omega) ?_
    rw [xu_c (by omega), g2 0 (by omega) (by omega), Int.add_zero]
    refine x_iret dX10_restore_66 rfl ?_
    refine hq _ (fun c z1 z2 => by rw [xu_c z1]; exact g1 c z2) (fun f z => by rw [xu_j z, g1 D (by omega)]) (by rw [xu_s]) (fun x a b => ?_)
    rw [xu_c (by omega)]; exact g2 x a (by omega)
  | succ m ih =>
    intro k M1 h0 hm g1 g2
    refine x_iload_n (p2 := 27) rfl dX10_restore_26 rfl ?_
    refine x_bipush (p2 := 29) rfl dX10_restore_27 ⟨by decide, ⟨by decide, by decide⟩⟩ ?_
    refine x_ic_ge (p2 := 32) (t := 55) (by decide) rfl dX10_restore_29 (fun hc29 => ?_) (fun hc29 => ?_)
    · exact absurd hc29 (by omega)
    refine x_aload_n (p2 := 33) rfl dX10_restore_32 rfl ?_
    refine x_getr (p2 := 36) (kz := 5) rfl dX10_restore_33 f_10_16 rfl rfl hD.sh hD.r5 ?_
    refine x_iload_n (p2 := 37) rfl dX10_restore_36 rfl ?_
    refine x_aload_n (p2 := 38) rfl dX10_restore_37 rfl ?_
    refine x_getr (p2 := 41) (kz := 11) rfl dX10_restore_38 f_10_28 rfl rfl hD.sh hD.r11 ?_
    refine x_bipush (p2 := 43) rfl dX10_restore_41 ⟨by decide, ⟨by decide, by decide⟩⟩ ?_
    refine x_iload_n (p2 := 44) rfl dX10_restore_43 rfl ?_
    refine x_imul (p2 := 45) rfl dX10_restore_44 ⟨by omega, by omega⟩ ?_
    refine x_iload_n (p2 := 46) rfl dX10_restore_45 rfl ?_
    refine x_iadd (p2 := 47) rfl dX10_restore_46 ⟨by omega, by omega⟩ ?_
    refine x_iald (p2 := 48) rfl dX10_restore_47 hD.a11 (by omega) (by omega) ?_
    rw [g1 (D + 7) (by omega)]
    refine x_iast (p2 := 49) rfl dX10_restore_48 hD.a5 (by omega) (by omega) ?_
    refine x_iinc (p2 := 52) (L2 := [(0, _), (1, _), (2, _)]) rfl dX10_restore_49 rfl ⟨by omega, by omega⟩ ⟨rfl, Nat.le_of_ble_eq_true rfl⟩ rfl ?_
    refine x_goto (t := 26) (by decide) dX10_restore_52 ?_
    refine x_pick (L2 := [(0, _), (1, _), (2, _)]) [0, 1, 2] rfl ?_
    refine ih _ _ (by omega) (by omega) (fun c z => by rw [xu_c z]; exact g1 c z) (fun x a b => ?_)
    by_cases hx2 : x = k
    · rw [hx2, xu_s]
    · rw [xu_j (by omega)]; exact g2 x a (by omega)
set_option maxHeartbeats 4000000 in
theorem t_X10_restore {D : Nat} (hD : isMd σ ρ D) {s : Int} (k1 : ¬ (0 ≤ s ∧ s < 2) → Q (some (xI (-1))) (σ, ρ, M)) (k3 : (0 ≤ s ∧ s < 2) → M (D + 8) s = 0 → Q (some (xI (-3))) (σ, ρ, M)) (hq : (0 ≤ s ∧ s < 2) → M (D + 8) s ≠ 0 → ∀ M2, (∀ c, c ≠ D → c ≠ D + 3 → M2 c = M c) → (∀ f, f ≠ 9 → M2 D f = M D f) → M2 D 9 = 0 → (∀ x, 0 ≤ x → x < 50 → M2 (D + 3) x = M (D + 7) (50 * s + x)) → Q (some (xI (M (D + 7) (50 * s)))) (σ, ρ, M2)) : xX G mX10_restore 0 0 0 [(0, xP D), (1, xI s)] [] (σ, ρ, M) Q := by
  refine x_iload_n (p2 := 1) rfl dX10_restore_0 rfl ?_
  refine x_i2l (p2 := 2) rfl dX10_restore_1 ?_
  refine x_lconst (p2 := 3) (v := 0) rfl dX10_restore_2 ⟨by decide, ⟨by decide, by decide⟩⟩ ?_
  refine x_lconst (p2 := 4) (v := 1) rfl dX10_restore_3 ⟨by decide, ⟨by decide, by decide⟩⟩ ?_
  refine x_s3 (p2 := 7) rfl dX10_restore_4 l_10_57 ok_X10_in rfl rfl ?_
  refine t_X10_in (fun hb4 => ?_) (fun hb4 => ?_)
  · skip
    refine x_if_ne (p2 := 10) (t := 12) (by decide) rfl dX10_restore_7 (fun _ => ?_) (fun hc => absurd hc (by decide))
    refine x_aload_n (p2 := 13) rfl dX10_restore_12 rfl ?_
    refine x_getr (p2 := 16) (kz := 12) rfl dX10_restore_13 f_10_31 rfl rfl hD.sh hD.r12 ?_
    refine x_iload_n (p2 := 17) rfl dX10_restore_16 rfl ?_
    refine x_zald (p2 := 18) rfl dX10_restore_17 hD.a12 (by omega) (by omega) ?_
    refine x_if_ne (p2 := 21) (t := 24) (by decide) rfl dX10_restore_18 (fun hc18 => ?_) (fun hc18 => ?_)
    · skip
      refine x_iconst (p2 := 25) rfl dX10_restore_24 ⟨by decide, by decide⟩ ?_
      refine x_istore_n (p2 := 26) (i := 2) (L2 := [(0, _), (1, _), (2, _)]) rfl dX10_restore_25 rfl ⟨rfl, Nat.le_of_ble_eq_true rfl⟩ rfl ?_
      refine x_pick (L2 := [(0, _), (1, _), (2, _)]) [0, 1, 2] rfl ?_
      exact t_rs_l hD (by omega) (hq (by omega) (by omega)) 50 0 M (by omega) (by omega) (fun _ _ => rfl) (fun x a b => by omega)
    · skip
      refine x_bipush (p2 := 23) rfl dX10_restore_21 ⟨by decide, ⟨by decide, by decide⟩⟩ ?_
      refine x_iret dX10_restore_23 rfl ?_
      exact k3 (by omega) (by omega)
  · skip
    refine x_if_ne (p2 := 10) (t := 12) (by decide) rfl dX10_restore_7 (fun hc => absurd hc (by decide)) (fun _ => ?_)
    refine x_iconst (p2 := 11) rfl dX10_restore_10 ⟨by decide, by decide⟩ ?_
    refine x_iret dX10_restore_11 rfl ?_
    exact k1 (by omega)
end XMH
