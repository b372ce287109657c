section XMK
variable {G : xG} {σ : List (Nat × Nat)} {ρ : Nat → Int → Option Nat} {M : Nat → Int → Int} {Q : Option xV → xH → Prop}
theorem ga2_x {n b to : Int} (hb : 0 ≤ b ∧ b < n) (hn : to ≠ b) : ∀ (m : Nat) (f : Int) (ex tg ct : Int → Int) (c : Int), 0 ≤ f → f + m = n → wfG n ex tg ct → tg (2 * b + 0) = to → ex b = 1 → (ga2 b m f ex tg ct c).1 b = 1
  | 0, f, ex, tg, ct, c, h0, h1, hG, ht, hx => by unfold ga2; exact hx
  | m + 1, f, ex, tg, ct, c, h0, h1, hG, ht, hx => by
    unfold ga2
    have := ga_step (c := c) hG hb (f := f) (by omega) ht hn hx
    exact ga2_x hb hn m (f + 1) _ _ _ _ (by omega) (by omega) this.1 this.2.1 this.2.2
set_option maxHeartbeats 4000000 in
theorem t_bp3 {D R : Nat} (hD : isMd σ ρ D) (hR : σ[R]? = some (100, 50)) (hRD : R ≠ D) {n b to : Int} {od : Int → Int} {ht al : Int} (hn : M D 2 = n) (hb : 0 ≤ b ∧ b < n) (hto : to ≠ b) : ∀ (m : Nat) (f c : Int) (ex tg ct : Int → Int) (M1 : Nat → Int → Int), 0 ≤ f → f + m = n → 0 ≤ c → c ≤ 2 * f → wfG n ex tg ct → tg (2 * b + 0) = to → ex b = 1 → smr n (ex, tg, ct, od, ht, al) (M1 R) → (∀ a, a ≠ R → M1 a = M a) → (∀ M2, smr n ((ga2 b m f ex tg ct c).1, (ga2 b m f ex tg ct c).2.1, upf (ga2 b m f ex tg ct c).2.2.1 (2 * b + 0) 0, od, ht, al) (M2 R) → (∀ a, a ≠ R → M2 a = M a) → Q (some (xI (ga2 b m f ex tg ct c).2.2.2)) (σ, ρ, M2)) → xX G mX10_bypassIn 0 0 15 [(0, xP D), (1, xP R), (2, xI b), (3, xI to), (4, xI c), (5, xI f)] [] (σ, ρ, M1) Q := by
  intro m
  induction m with
  | zero =>
    intro f c ex tg ct M1 h0 hm c0 c1 hG ht1 hx1 g1 g2 hq
    have h8 := hG.2.1
    unfold ga2 at hq
    refine x_iload (p2 := 17) rfl dX10_bypassIn_15 rfl ?_
    refine x_aload_n (p2 := 18) rfl dX10_bypassIn_17 rfl ?_
    refine x_geti (p2 := 21) (kz := 2) rfl dX10_bypassIn_18 f_10_53 rfl rfl hD.sh ?_
    rw [g2 D (fun z => hRD z.symm), hn]
    refine x_ic_ge (p2 := 24) (t := 195) (by decide) rfl dX10_bypassIn_21 (fun hc21 => ?_) (fun hc21 => absurd hc21 (by omega))
    refine x_aload_n (p2 := 196) rfl dX10_bypassIn_195 rfl ?_
    refine x_bipush (p2 := 198) rfl dX10_bypassIn_196 ⟨by decide, ⟨by decide, by decide⟩⟩ ?_
    refine x_iconst (p2 := 199) rfl dX10_bypassIn_198 ⟨by decide, by decide⟩ ?_
    refine x_iload_n (p2 := 200) rfl dX10_bypassIn_199 rfl ?_
    refine x_imul (p2 := 201) rfl dX10_bypassIn_200 ⟨by omega, by omega⟩ ?_
    refine x_iadd (p2 := 202) rfl dX10_bypassIn_201 ⟨by omega, by omega⟩ ?_
    refine x_iconst (p2 := 203) rfl dX10_bypassIn_202 ⟨by decide, by decide⟩ ?_
    refine x_iast (p2 := 204) rfl dX10_bypassIn_203 hR (by omega) (by omega) ?_
    refine x_iload (p2 := 206) rfl dX10_bypassIn_204 rfl ?_
    refine x_iret dX10_bypassIn_206 rfl ?_
    refine hq _ ?_ (fun a z => by rw [xu_c z]; exact g2 a z)
    rw [xu_eq, xw_s, show 34 + 2 * b = 34 + 2 * b + 0 by omega]
    exact smr_c g1 h8 (fun b a c => (hG.2.2 b a c).2.1) ⟨hb.1, hb.2, by omega, show 0 < ex b by omega⟩
  | succ m ih =>
    intro f c ex tg ct M1 h0 hm c0 c1 hG ht1 hx1 g1 g2 hq
    have h8 := hG.2.1
    have h1 := hG.1
    have hw := hG.2.2 f h0 (by omega)
    have hw0 := hw.1
    have hw2 := hw.2.1
    have hst := ga_step (c := c) hG hb (f := f) (by omega) ht1 hto hx1
    have hgc := ga1_c (b := b) (f := f) (ex f).toNat 0 tg c
    unfold ga2 at hq
    refine x_iload (p2 := 17) rfl dX10_bypassIn_15 rfl ?_
    refine x_aload_n (p2 := 18) rfl dX10_bypassIn_17 rfl ?_
    refine x_geti (p2 := 21) (kz := 2) rfl dX10_bypassIn_18 f_10_53 rfl rfl hD.sh ?_
    rw [g2 D (fun z => hRD z.symm), hn]
    refine x_ic_ge (p2 := 24) (t := 195) (by decide) rfl dX10_bypassIn_21 (fun hc21 => ?_) (fun hc21 => ?_)
    · exact absurd hc21 (by omega)
    refine x_iconst (p2 := 25) rfl dX10_bypassIn_24 ⟨by decide, by decide⟩ ?_
    refine x_istore (p2 := 27) (i := 6) (L2 := [(0, _), (1, _), (2, _), (3, _), (4, _), (5, _), (6, _)]) rfl dX10_bypassIn_25 ⟨rfl, Nat.le_of_ble_eq_true rfl⟩ rfl ?_
    refine x_pick (L2 := [(0, _), (1, _), (2, _), (3, _), (4, _), (5, _), (6, _)]) [0, 1, 2, 3, 4, 5, 6] rfl ?_
    refine t_bp1 (ct := ct) hD hR h8 ⟨h0, by omega⟩ (fun b a c => (hG.2.2 b a c).2.1) hto (ex f).toNat 0 c tg M1 (by omega) (by omega) c0 (by omega) ht1 g1 g2 (fun M2 q1 q2 => ?_)
    refine t_bp2 hD hR ⟨h1, h8⟩ ⟨h0, by omega⟩ (fun b a c => (hG.2.2 b a c).2.1) (fun z => ?_) q1 (fun M3 L r1 r2 hL => ?_)
    · have z0 := hw.2.2.1 0 (by omega) (by omega)
      have z1 := hw.2.2.1 1 (by omega) (by omega)
      omega
    rcases hL with rfl | ⟨z, rfl⟩
    · rw [List.append_nil]
      refine x_iinc (p2 := 192) (L2 := [(0, _), (1, _), (2, _), (3, _), (4, _), (5, _)]) rfl dX10_bypassIn_189 rfl ⟨by omega, by omega⟩ ⟨rfl, Nat.le_of_ble_eq_true rfl⟩ rfl ?_
      refine x_goto (t := 15) (by decide) dX10_bypassIn_192 ?_
      refine x_pick (L2 := [(0, _), (1, _), (2, _), (3, _), (4, _), (5, _)]) [0, 1, 2, 3, 4, 5] rfl ?_
      exact ih _ _ _ _ _ _ (by omega) (by omega) (by omega) (by omega) hst.1 hst.2.1 hst.2.2 r1 (fun a z => (r2 a z).trans (q2 a z)) hq
    · dsimp only [List.cons_append, List.nil_append]
      refine x_iinc (p2 := 192) (L2 := [(0, _), (1, _), (2, _), (3, _), (4, _), (5, _), (6, _)]) rfl dX10_bypassIn_189 rfl ⟨by omega, by omega⟩ ⟨rfl, Nat.le_of_ble_eq_true rfl⟩ rfl ?_
      refine x_goto (t := 15) (by decide) dX10_bypassIn_192 ?_
      refine x_pick (L2 := [(0, _), (1, _), (2, _), (3, _), (4, _), (5, _)]) [0, 1, 2, 3, 4, 5] rfl ?_
      exact ih _ _ _ _ _ _ (by omega) (by omega) (by omega) (by omega) hst.1 hst.2.1 hst.2.2 r1 (fun a z => (r2 a z).trans (q2 a z)) hq
set_option maxHeartbeats 4000000 in
theorem t_X10_bypassIn {D R : Nat} (hD : isMd σ ρ D) (hR : σ[R]? = some (100, 50)) (hRD : R ≠ D) {n b : Int} {v : vV} (hn : M D 2 = n) (hr : smr n v (M R)) (hG : wfG n v.1 v.2.1 v.2.2.1) (hb : 0 ≤ b ∧ b < n) (hx1 : v.1 b = 1) (ht : v.2.1 (2 * b + 0) ≠ b) (hq : ∀ M2, smr n (vga n b v) (M2 R) → (∀ a, a ≠ R → M2 a = M a) → Q (some (xI (vgc n b v))) (σ, ρ, M2)) : xX G mX10_bypassIn 0 0 0 [(0, xP D), (1, xP R), (2, xI b)] [] (σ, ρ, M) Q := by
  have h8 := hG.2.1
  have h1 := hG.1
  refine x_aload_n (p2 := 1) rfl dX10_bypassIn_0 rfl ?_
  refine x_bipush (p2 := 3) rfl dX10_bypassIn_1 ⟨by decide, ⟨by decide, by decide⟩⟩ ?_
  refine x_iconst (p2 := 4) rfl dX10_bypassIn_3 ⟨by decide, by decide⟩ ?_
  refine x_iload_n (p2 := 5) rfl dX10_bypassIn_4 rfl ?_
  refine x_imul (p2 := 6) rfl dX10_bypassIn_5 ⟨by omega, by omega⟩ ?_
  refine x_iadd (p2 := 7) rfl dX10_bypassIn_6 ⟨by omega, by omega⟩ ?_
  refine x_iald (p2 := 8) rfl dX10_bypassIn_7 hR (by omega) (by omega) ?_
  rw [hr.t0 hb.1 hb.2 (by omega)]
  refine x_istore_n (p2 := 9) (i := 3) (L2 := [(0, _), (1, _), (2, _), (3, _)]) rfl dX10_bypassIn_8 rfl ⟨rfl, Nat.le_of_ble_eq_true rfl⟩ rfl ?_
  refine x_iconst (p2 := 10) rfl dX10_bypassIn_9 ⟨by decide, by decide⟩ ?_
  refine x_istore (p2 := 12) (i := 4) (L2 := [(0, _), (1, _), (2, _), (3, _), (4, _)]) rfl dX10_bypassIn_10 ⟨rfl, Nat.le_of_ble_eq_true rfl⟩ rfl ?_
  refine x_iconst (p2 := 13) rfl dX10_bypassIn_12 ⟨by decide, by decide⟩ ?_
  refine x_istore (p2 := 15) (i := 5) (L2 := [(0, _), (1, _), (2, _), (3, _), (4, _), (5, _)]) rfl dX10_bypassIn_13 ⟨rfl, Nat.le_of_ble_eq_true rfl⟩ rfl ?_
  refine x_pick (L2 := [(0, _), (1, _), (2, _), (3, _), (4, _), (5, _)]) [0, 1, 2, 3, 4, 5] rfl ?_
  exact t_bp3 hD hR hRD hn hb ht n.toNat 0 0 _ _ _ M (by omega) (by omega) (by omega) (by omega) hG rfl hx1 hr (fun _ _ => rfl) hq
set_option maxHeartbeats 4000000 in
theorem t_X10_bypass {D : Nat} (hD : isMd σ ρ D) {n en : Int} {byt : Int → Int} {v : vV} (hM : mdI M D n en byt v) (hW : wfV n en byt v) (hx : 0 ≤ M D 10 ∧ M D 10 < 14) (ha : 0 ≤ M D 9 ∧ M D 9 ≤ 14) {b : Int} (k1 : ¬ (0 ≤ b ∧ b < n) → Q (some (xI (-1))) (σ, ρ, M)) (k3 : (0 ≤ b ∧ b < n) ∧ (b = 0 ∨ byt b ≠ 0 ∨ v.1 b ≠ 1 ∨ v.2.1 (2 * b + 0) = b) → Q (some (xI (-3))) (σ, ρ, M)) (hq : (0 < b ∧ b < n ∧ byt b = 0 ∧ v.1 b = 1 ∧ v.2.1 (2 * b + 0) ≠ b) → ∀ M2, ra M M2 D n (vga n b v) → Q (some (xI (vgc n b v))) (σ, ρ, M2)) : xX G mX10_bypass 0 0 0 [(0, xP D), (1, xI b)] [] (σ, ρ, M) Q := by
  obtain ⟨hn, hen, hyb, hr⟩ := id hM
  have hG := hW.1
  have hO := hW.2.1
  have hA := hW.2.2.1
  have he : M D 4 = en ∧ 0 ≤ en ∧ en ≤ 99 := ⟨hen, hW.2.2.2.1⟩
  have hy : ∀ b, 0 ≤ b → b < n → M (D + 2) b = byt b ∧ 0 ≤ byt b ∧ byt b ≤ 9 := fun b a c => ⟨hyb b a c, hW.2.2.2.2 b a c⟩
  have h8 := hG.2.1
  have h1 := hG.1
  have hx2 : ∀ b, 0 ≤ b → b < n → v.1 b ≤ 2 := fun b a c => (hG.2.2 b a c).2.1
  have hO5 := hO.2.2.2
  refine x_aload_n (p2 := 1) rfl dX10_bypass_0 rfl ?_
  refine x_aload_n (p2 := 2) rfl dX10_bypass_1 rfl ?_
  refine x_getr (p2 := 5) (kz := 5) rfl dX10_bypass_2 f_10_16 rfl rfl hD.sh hD.r5 ?_
  refine x_iload_n (p2 := 6) rfl dX10_bypass_5 rfl ?_
  refine x_v2 (p2 := 9) rfl dX10_bypass_6 l_10_189 ok_X10_bypassError rfl hD.sh rfl ?_
  refine t_X10_bypassError hD hD.a5 hn hr hG hyb (fun hb6 => ?_) (fun hb6 => ?_) (fun hb6 => ?_)
  · skip
    refine x_istore_n (p2 := 10) (i := 2) (L2 := [(0, _), (1, _), (2, _)]) rfl dX10_bypass_9 rfl ⟨rfl, Nat.le_of_ble_eq_true rfl⟩ rfl ?_
    refine x_iload_n (p2 := 11) rfl dX10_bypass_10 rfl ?_
    refine x_if_eq (p2 := 14) (t := 16) (by decide) rfl dX10_bypass_11 (fun hc => absurd hc (by decide)) (fun _ => ?_)
    refine x_iload_n (p2 := 15) rfl dX10_bypass_14 rfl ?_
    refine x_iret dX10_bypass_15 rfl ?_
    exact k1 hb6
  · skip
    refine x_istore_n (p2 := 10) (i := 2) (L2 := [(0, _), (1, _), (2, _)]) rfl dX10_bypass_9 rfl ⟨rfl, Nat.le_of_ble_eq_true rfl⟩ rfl ?_
    refine x_iload_n (p2 := 11) rfl dX10_bypass_10 rfl ?_
    refine x_if_eq (p2 := 14) (t := 16) (by decide) rfl dX10_bypass_11 (fun hc => absurd hc (by decide)) (fun _ => ?_)
    refine x_iload_n (p2 := 15) rfl dX10_bypass_14 rfl ?_
    refine x_iret dX10_bypass_15 rfl ?_
    exact k3 hb6
  · skip
    refine x_istore_n (p2 := 10) (i := 2) (L2 := [(0, _), (1, _), (2, _)]) rfl dX10_bypass_9 rfl ⟨rfl, Nat.le_of_ble_eq_true rfl⟩ rfl ?_
    refine x_iload_n (p2 := 11) rfl dX10_bypass_10 rfl ?_
    refine x_if_eq (p2 := 14) (t := 16) (by decide) rfl dX10_bypass_11 (fun _ => ?_) (fun hc => absurd hc (by decide))
    refine x_aload_n (p2 := 17) rfl dX10_bypass_16 rfl ?_
    refine x_v0 (p2 := 20) rfl dX10_bypass_17 l_10_150 ok_X10_note rfl hD.sh rfl ?_
    refine t_X10_note hD hx ha (fun M1 hnt => ?_)
    have hM1 := hnt.i hM
    obtain ⟨hn1, hen1, hyb1, hr1⟩ := id hM1
    refine x_aload_n (p2 := 21) rfl dX10_bypass_20 rfl ?_
    refine x_aload_n (p2 := 22) rfl dX10_bypass_21 rfl ?_
    refine x_getr (p2 := 25) (kz := 5) rfl dX10_bypass_22 f_10_16 rfl rfl hD.sh hD.r5 ?_
    refine x_iload_n (p2 := 26) rfl dX10_bypass_25 rfl ?_
    refine x_v2 (p2 := 29) rfl dX10_bypass_26 l_10_192 ok_X10_bypassIn rfl hD.sh rfl ?_
    refine t_X10_bypassIn hD hD.a5 (by omega) hn1 hr1 hG (by omega) hb6.2.2.2.1 hb6.2.2.2.2 (fun M2 hv hs => ?_)
    refine x_iret dX10_bypass_29 rfl ?_
    exact hq hb6 _ (ra.mk hnt (fun c z => hs c (by omega)) (fun f z => by rw [hs D (by omega)]) hv)
set_option maxHeartbeats 4000000 in
theorem t_cp_l {A B : Nat} (hA : σ[A]? = some (100, 50)) (hB : σ[B]? = some (100, 50)) (hAB : A ≠ B) (hq : ∀ M2, (∀ a, a ≠ B → M2 a = M a) → (∀ x, 0 ≤ x → x < 50 → M2 B x = M A x) → Q none (σ, ρ, M2)) : ∀ (m : Nat) (k : Int) (M1 : Nat → Int → Int), 0 ≤ k → k + m = 50 → (∀ a, a ≠ B → M1 a = M a) → (∀ x, 0 ≤ x → x < k → M1 B x = M A x) → xX G mX10_copy 0 0 2 [(0, xP A), (1, xP B), (2, xI k)] [] (σ, ρ, M1) Q := by
  intro m
  induction m with
  | zero =>
    intro k M1 h0 hm g1 g2
    refine x_iload_n (p2 := 3) rfl dX10_copy_2 rfl ?_
    refine x_bipush (p2 := 5) rfl dX10_copy_3 ⟨by decide, ⟨by decide, by decide⟩⟩ ?_
    refine x_ic_ge (p2 := 8) (t := 20) (by decide) rfl dX10_copy_5 (fun hc5 => ?_) (fun hc5 => absurd hc5 (by omega))
    refine x_vret dX10_copy_20 rfl ?_
    exact hq M1 g1 (fun x a b => g2 x a (by omega))
  | succ m ih =>
    intro k M1 h0 hm g1 g2
    refine x_iload_n (p2 := 3) rfl dX10_copy_2 rfl ?_
    refine x_bipush (p2 := 5) rfl dX10_copy_3 ⟨by decide, ⟨by decide, by decide⟩⟩ ?_
    refine x_ic_ge (p2 := 8) (t := 20) (by decide) rfl dX10_copy_5 (fun hc5 => ?_) (fun hc5 => ?_)
    · exact absurd hc5 (by omega)
    refine x_aload_n (p2 := 9) rfl dX10_copy_8 rfl ?_
    refine x_iload_n (p2 := 10) rfl dX10_copy_9 rfl ?_
    refine x_aload_n (p2 := 11) rfl dX10_copy_10 rfl ?_
    refine x_iload_n (p2 := 12) rfl dX10_copy_11 rfl ?_
    refine x_iald (p2 := 13) rfl dX10_copy_12 hA (by omega) (by omega) ?_
    rw [g1 A hAB]
    refine x_iast (p2 := 14) rfl dX10_copy_13 hB (by omega) (by omega) ?_
    refine x_iinc (p2 := 17) (L2 := [(0, _), (1, _), (2, _)]) rfl dX10_copy_14 rfl ⟨by omega, by omega⟩ ⟨rfl, Nat.le_of_ble_eq_true rfl⟩ rfl ?_
    refine x_goto (t := 2) (by decide) dX10_copy_17 ?_
    refine x_pick (L2 := [(0, _), (1, _), (2, _)]) [0, 1, 2] rfl ?_
    refine ih _ _ (by omega) (by omega) (fun a z => by rw [xu_c z]; exact g1 a z) (fun x a b => ?_)
    by_cases hx : x = k
    · rw [hx, xu_s]
    · rw [xu_j hx]; exact g2 x a (by omega)
set_option maxHeartbeats 4000000 in
theorem t_X10_copy {A B : Nat} (hA : σ[A]? = some (100, 50)) (hB : σ[B]? = some (100, 50)) (hAB : A ≠ B) (hq : ∀ M2, (∀ a, a ≠ B → M2 a = M a) → (∀ x, 0 ≤ x → x < 50 → M2 B x = M A x) → Q none (σ, ρ, M2)) : xX G mX10_copy 0 0 0 [(0, xP A), (1, xP B)] [] (σ, ρ, M) Q := by
  refine x_iconst (p2 := 1) rfl dX10_copy_0 ⟨by decide, by decide⟩ ?_
  refine x_istore_n (p2 := 2) (i := 2) (L2 := [(0, _), (1, _), (2, _)]) rfl dX10_copy_1 rfl ⟨rfl, Nat.le_of_ble_eq_true rfl⟩ rfl ?_
  refine x_pick (L2 := [(0, _), (1, _), (2, _)]) [0, 1, 2] rfl ?_
  exact t_cp_l hA hB hAB hq 50 0 M (by omega) (by omega) (fun _ _ => rfl) (fun x a b => by omega)
theorem smr_cp {n : Int} {v : vV} {r r2 : Int → Int} (h : smr n v r) (h8 : n ≤ 8) (hx : ∀ b, 0 ≤ b → b < n → v.1 b ≤ 2) (h1 : ∀ x, 0 ≤ x → x < 50 → r2 x = r x) : smr n v r2 := by
  refine ⟨fun b a c => ?_, fun b k a c d e => ?_, fun i a c => ?_, ?_, ?_⟩
  · rw [h1 _ (by omega) (by omega)]; exact h.x a c
  · have := hx b a c
    rw [h1 _ (by omega) (by omega), h1 _ (by omega) (by omega)]; exact ⟨h.t a c d e, h.c a c d e⟩
  · rw [h1 _ (by omega) (by omega)]; exact h.o a c
  · rw [h1 _ (by omega) (by omega)]; exact h.h
  · rw [h1 _ (by omega) (by omega)]; exact h.a
end XMK
