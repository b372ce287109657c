section XCH
variable {G : xG} {σ : List (Nat × Nat)} {ρ : Nat → Int → Option Nat} {M : Nat → Int → Int} {Q : Option xV → xH → Prop}
/-- Chains at C: head, next, edges behind it -/
def isCh (σ : List (Nat × Nat)) (ρ : Nat → Int → Option Nat) (C : Nat) : Prop := σ[C]? = some (0, xN 0) ∧ ρ C 0 = some (C + 1) ∧ ρ C 1 = some (C + 2) ∧ ρ C 2 = some (C + 3) ∧ σ[C + 1]? = some (100, 8) ∧ σ[C + 2]? = some (100, 8) ∧ σ[C + 3]? = some (100, 16)
theorem isCh.sh {C : Nat} (h : isCh σ ρ C) : σ[C]? = some (0, xN 0) := h.1
theorem isCh.r0 {C : Nat} (h : isCh σ ρ C) : ρ C 0 = some (C + 1) := h.2.1
theorem isCh.r1 {C : Nat} (h : isCh σ ρ C) : ρ C 1 = some (C + 2) := h.2.2.1
theorem isCh.r2 {C : Nat} (h : isCh σ ρ C) : ρ C 2 = some (C + 3) := h.2.2.2.1
theorem isCh.a0 {C : Nat} (h : isCh σ ρ C) : σ[C + 1]? = some (100, 8) := h.2.2.2.2.1
theorem isCh.a1 {C : Nat} (h : isCh σ ρ C) : σ[C + 2]? = some (100, 8) := h.2.2.2.2.2.1
theorem isCh.a2 {C : Nat} (h : isCh σ ρ C) : σ[C + 3]? = some (100, 16) := h.2.2.2.2.2.2
/-- cells outside stay -/
def smo (M M' : Nat → Int → Int) (lo hi : Nat) : Prop := ∀ c, c < lo ∨ hi < c → M' c = M c
def ief (ct : Int → Int) (e : Int) : Nat → (Int → Int) → Int → Int
  | 0, ed => upf ed 0 e
  | i + 1, ed => if ct (ed i) < ct e then ief ct e i (upf ed (i + 1 : Nat) (ed i)) else upf ed (i + 1 : Nat) e
set_option maxHeartbeats 4000000 in
theorem t_ie_l {C S F : Nat} {e m : Int} (hC : isCh σ ρ C) (hS : isSt σ ρ S F) (hd : S + 4 < C) (he : 0 ≤ e ∧ e < 16) (hm : M C 3 = m ∧ 0 ≤ m ∧ m < 16) {R : Int → Int} (hq : Q none (σ, ρ, xu (xw M (C + 3) R) C 3 (m + 1))) : ∀ (i : Nat) (ed : Int → Int), i < 16 → (∀ j : Nat, j < i → 0 ≤ ed j ∧ ed j < 16) → ief (M (S + 3)) e i ed = R → xX G mX0_insertEdge 0 0 5 [(0, xP C), (1, xP S), (2, xI e), (3, xI (i : Nat))] [] (σ, ρ, xw M (C + 3) ed) Q := by
  have fin : ∀ (i : Nat) (ed : Int → Int), i < 16 → upf ed i e = R → xX G mX0_insertEdge 0 0 51 [(0, xP C), (1, xP S), (2, xI e), (3, xI (i : Nat))] [] (σ, ρ, xw M (C + 3) ed) Q := by
    intro i ed hi hE
    refine x_aload_n (p2 := 52) rfl dX0_insertEdge_51 rfl ?_
    refine x_getr (p2 := 55) (kz := 2) rfl dX0_insertEdge_52 f_0_18 rfl rfl hC.sh hC.r2 ?_
    refine x_iload_n (p2 := 56) rfl dX0_insertEdge_55 rfl ?_
    refine x_iload_n (p2 := 57) rfl dX0_insertEdge_56 rfl ?_
    refine x_iast (p2 := 58) rfl dX0_insertEdge_57 hC.a2 (by omega) (by omega) ?_
    rw [xu_xw]
    refine x_aload_n (p2 := 59) rfl dX0_insertEdge_58 rfl ?_
    refine x_dup (p2 := 60) rfl dX0_insertEdge_59 rfl ?_
    refine x_geti (p2 := 63) (kz := 3) rfl dX0_insertEdge_60 f_0_21 rfl rfl hC.sh ?_
    rw [xw_n (by omega), hm.1]
    refine x_iconst (p2 := 64) rfl dX0_insertEdge_63 ⟨by decide, by decide⟩ ?_
    refine x_iadd (p2 := 65) rfl dX0_insertEdge_64 ⟨by omega, by omega⟩ ?_
    refine x_puti (p2 := 68) (kz := 3) rfl dX0_insertEdge_65 f_0_21 rfl rfl rfl hC.sh ?_
    refine x_vret dX0_insertEdge_68 rfl ?_
    rw [hE]; exact hq
  intro i
  induction i with
  | zero =>
    intro ed hi hr hE
    have e3 : xw M (C + 3) ed (S + 3) = M (S + 3) := xw_n (by omega)
    refine x_iload_n (p2 := 6) rfl dX0_insertEdge_5 rfl ?_
    refine x_if_le (p2 := 9) (t := 51) (by decide) rfl dX0_insertEdge_6 (fun hc6 => ?_) (fun hc6 => absurd hc6 (by omega))
    refine x_pick (L2 := [(0, _), (1, _), (2, _), (3, _)]) [0, 1, 2, 3] rfl ?_
    exact fin 0 ed hi hE
  | succ i ih =>
    intro ed hi hr hE
    have e3 : xw M (C + 3) ed (S + 3) = M (S + 3) := xw_n (by omega)
    have hri := hr i (by omega)
    have ei : ((i + 1 : Nat) : Int) - 1 = (i : Int) := by omega
    unfold ief at hE
    refine x_iload_n (p2 := 6) rfl dX0_insertEdge_5 rfl ?_
    refine x_if_le (p2 := 9) (t := 51) (by decide) rfl dX0_insertEdge_6 (fun hc6 => ?_) (fun hc6 => ?_)
    · exact absurd hc6 (by omega)
    refine x_aload_n (p2 := 10) rfl dX0_insertEdge_9 rfl ?_
    refine x_getr (p2 := 13) (kz := 3) rfl dX0_insertEdge_10 f_0_61 rfl rfl hS.sh hS.r3 ?_
    refine x_aload_n (p2 := 14) rfl dX0_insertEdge_13 rfl ?_
    refine x_getr (p2 := 17) (kz := 2) rfl dX0_insertEdge_14 f_0_18 rfl rfl hC.sh hC.r2 ?_
    refine x_iload_n (p2 := 18) rfl dX0_insertEdge_17 rfl ?_
    refine x_iconst (p2 := 19) rfl dX0_insertEdge_18 ⟨by decide, by decide⟩ ?_
    refine x_isub (p2 := 20) rfl dX0_insertEdge_19 ⟨by omega, by omega⟩ ?_
    rw [ei]
    refine x_iald (p2 := 21) rfl dX0_insertEdge_20 hC.a2 (by omega) (by omega) ?_
    rw [xw_s]
    refine x_iald (p2 := 22) rfl dX0_insertEdge_21 hS.a3 (by omega) (by omega) ?_
    rw [e3]
    refine x_aload_n (p2 := 23) rfl dX0_insertEdge_22 rfl ?_
    refine x_getr (p2 := 26) (kz := 3) rfl dX0_insertEdge_23 f_0_61 rfl rfl hS.sh hS.r3 ?_
    refine x_iload_n (p2 := 27) rfl dX0_insertEdge_26 rfl ?_
    refine x_iald (p2 := 28) rfl dX0_insertEdge_27 hS.a3 (by omega) (by omega) ?_
    rw [e3]
    refine x_ic_ge (p2 := 31) (t := 51) (by decide) rfl dX0_insertEdge_28 (fun hc28 => ?_) (fun hc28 => ?_)
    · skip
      refine x_pick (L2 := [(0, _), (1, _), (2, _), (3, _)]) [0, 1, 2, 3] rfl ?_
      rw [if_neg (by omega)] at hE
      exact fin (i + 1) ed hi hE
    · skip
      refine x_aload_n (p2 := 32) rfl dX0_insertEdge_31 rfl ?_
      refine x_getr (p2 := 35) (kz := 2) rfl dX0_insertEdge_32 f_0_18 rfl rfl hC.sh hC.r2 ?_
      refine x_iload_n (p2 := 36) rfl dX0_insertEdge_35 rfl ?_
      refine x_aload_n (p2 := 37) rfl dX0_insertEdge_36 rfl ?_
      refine x_getr (p2 := 40) (kz := 2) rfl dX0_insertEdge_37 f_0_18 rfl rfl hC.sh hC.r2 ?_
      refine x_iload_n (p2 := 41) rfl dX0_insertEdge_40 rfl ?_
      refine x_iconst (p2 := 42) rfl dX0_insertEdge_41 ⟨by decide, by decide⟩ ?_
      refine x_isub (p2 := 43) rfl dX0_insertEdge_42 ⟨by omega, by omega⟩ ?_
      rw [ei]
      refine x_iald (p2 := 44) rfl dX0_insertEdge_43 hC.a2 (by omega) (by omega) ?_
      rw [xw_s]
      refine x_iast (p2 := 45) rfl dX0_insertEdge_44 hC.a2 (by omega) (by omega) ?_
      rw [xu_xw]
      refine x_iinc (p2 := 48) (L2 := [(0, _), (1, _), (2, _), (3, _)]) rfl dX0_insertEdge_45 rfl ⟨by omega, by omega⟩ ⟨rfl, Nat.le_of_ble_eq_true rfl⟩ rfl ?_
      rw [show ((i + 1 : Nat) : Int) + -1 = (i : Int) by omega]
      refine x_goto (t := 5) (by decide) dX0_insertEdge_48 ?_
      refine x_pick (L2 := [(0, _), (1, _), (2, _), (3, _)]) [0, 1, 2, 3] rfl ?_
      rw [if_pos hc28] at hE
      refine ih _ (by omega) (fun j hj => ?_) hE
      rw [upf_n (by omega)]; exact hr j (by omega)
set_option maxHeartbeats 4000000 in
theorem t_X0_insertEdge {C S F : Nat} {e m : Int} (hC : isCh σ ρ C) (hS : isSt σ ρ S F) (hd : S + 4 < C) (he : 0 ≤ e ∧ e < 16) (hm : M C 3 = m ∧ 0 ≤ m ∧ m < 16) (hr : ∀ j : Nat, j < m → 0 ≤ M (C + 3) j ∧ M (C + 3) j < 16) (hq : ∀ M2, (∀ c, c ≠ C → c ≠ C + 3 → M2 c = M c) → M2 (C + 3) = ief (M (S + 3)) e m.toNat (M (C + 3)) → M2 C 3 = m + 1 → M2 C 4 = M C 4 → Q none (σ, ρ, M2)) : xX G mX0_insertEdge 0 0 0 [(0, xP C), (1, xP S), (2, xI e)] [] (σ, ρ, M) Q := by
  refine x_aload_n (p2 := 1) rfl dX0_insertEdge_0 rfl ?_
  refine x_geti (p2 := 4) (kz := 3) rfl dX0_insertEdge_1 f_0_21 rfl rfl hC.sh ?_
  refine x_istore_n (p2 := 5) (i := 3) (L2 := [(0, _), (1, _), (2, _), (3, _)]) rfl dX0_insertEdge_4 rfl ⟨rfl, Nat.le_of_ble_eq_true rfl⟩ rfl ?_
  refine x_pick (L2 := [(0, _), (1, _), (2, _), (3, _)]) [0, 1, 2, 3] rfl ?_
  rw [show (σ, ρ, M) = (σ, ρ, xw M (C + 3) (M (C + 3))) by rw [xw_id], show M C 3 = ((m.toNat : Nat) : Int) by omega]
  refine t_ie_l hC hS hd he hm ?_ m.toNat _ (by omega) (fun j hj => hr j (by omega)) rfl
  refine hq _ (fun c h1 h2 => ?_) ?_ ?_ ?_
  · rw [xu_c h1, xw_n h2]
  · rw [xu_c (by omega), xw_s]
  · rw [xu_s]
  · rw [xu_j (by omega), xw_n (by omega)]
/-- what the row of edges holds: edges that are there -/
def edOK (n : Int) (ex ed : Int → Int) (m : Int) : Prop := ∀ j, 0 ≤ j → j < m → ∃ b k, 0 ≤ b ∧ b < n ∧ 0 ≤ k ∧ k < ex b ∧ ed j = 2 * b + k
theorem ief_all {ct : Int → Int} {e : Int} {P : Int → Prop} (he : P e) : ∀ (i : Nat) (ed : Int → Int) (m : Int), (∀ j, 0 ≤ j → j < m → j ≠ i → P (ed j)) → (i : Int) < m → ∀ j, 0 ≤ j → j < m → P (ief ct e i ed j)
  | 0, ed, m, h, hm, j, h0, h1 => by
    unfold ief
    by_cases hj : j = 0
    · rw [hj, upf_s]; exact he
    · rw [upf_n hj]; exact h j h0 h1 hj
  | i + 1, ed, m, h, hm, j, h0, h1 => by
    unfold ief
    split
    · refine ief_all he i _ m (fun x a b c => ?_) (by omega) j h0 h1
      by_cases hx : x = ((i + 1 : Nat) : Int)
      · rw [hx, upf_s]; exact h i (by omega) (by omega) (by omega)
      · rw [upf_n hx]; exact h x a b hx
    · by_cases hj : j = ((i + 1 : Nat) : Int)
      · rw [hj, upf_s]; exact he
      · rw [upf_n hj]; exact h j h0 h1 hj
theorem edOK_ins {n : Int} {ex ct ed : Int → Int} {m b k : Int} (h : edOK n ex ed m) (h0 : 0 ≤ m) (hb : 0 ≤ b ∧ b < n ∧ 0 ≤ k ∧ k < ex b) : edOK n ex (ief ct (2 * b + k) m.toNat ed) (m + 1) := by
  refine ief_all (P := fun v => ∃ b k, 0 ≤ b ∧ b < n ∧ 0 ≤ k ∧ k < ex b ∧ v = 2 * b + k) ⟨b, k, hb.1, hb.2.1, hb.2.2.1, hb.2.2.2, rfl⟩ _ _ _ (fun j a c d => h j a (by omega)) (by omega)
def se1 (ct : Int → Int) (b : Int) : Nat → Int → (Int → Int) → Int → (Int → Int) × Int
  | 0, _, ed, m => (ed, m)
  | x + 1, k, ed, m => if 0 < ct (2 * b + k) then se1 ct b x (k + 1) (ief ct (2 * b + k) m.toNat ed) (m + 1) else se1 ct b x (k + 1) ed m
def se2 (ex ct : Int → Int) : Nat → Int → (Int → Int) → Int → (Int → Int) × Int
  | 0, _, ed, m => (ed, m)
  | x + 1, b, ed, m => se2 ex ct x (b + 1) (se1 ct b (ex b).toNat 0 ed m).1 (se1 ct b (ex b).toNat 0 ed m).2
set_option maxHeartbeats 4000000 in
theorem t_se_l1 {C S F : Nat} {b : Int} (hC : isCh σ ρ C) (hS : isSt σ ρ S F) (hd : S + 4 < C) : ∀ (n : Nat) (k m : Int) (M1 : Nat → Int → Int), wfG (M1 F 0) (M1 (S + 1)) (M1 (S + 2)) (M1 (S + 3)) → 0 ≤ b → b < M1 F 0 → 0 ≤ k → k + n = M1 (S + 1) b → M1 C 3 = m → 0 ≤ m → m ≤ 2 * b + k → edOK (M1 F 0) (M1 (S + 1)) (M1 (C + 3)) m → (∀ M2, (∀ c, c ≠ C → c ≠ C + 3 → M2 c = M1 c) → M2 C 3 = (se1 (M1 (S + 3)) b n k (M1 (C + 3)) m).2 → M2 (C + 3) = (se1 (M1 (S + 3)) b n k (M1 (C + 3)) m).1 → M2 C 4 = M1 C 4 → edOK (M1 F 0) (M1 (S + 1)) (M2 (C + 3)) (M2 C 3) → M2 C 3 ≤ 2 * b + k + n → 0 ≤ M2 C 3 → xX G mX0_sortEdges 0 0 55 [(0, xP C), (1, xP S), (2, xI b)] [] (σ, ρ, M2) Q) → xX G mX0_sortEdges 0 0 20 [(0, xP C), (1, xP S), (2, xI b), (3, xI k)] [] (σ, ρ, M1) Q := by
  have hlt := hS.lt
  intro n
  induction n with
  | zero =>
    intro k m M1 hG h0 h1 h2 h3 h4 h5 h6 hE hq
    have hx := (hG.2.2 b h0 h1).2.1
    have hn8 := hG.2.1
    refine x_iload_n (p2 := 21) rfl dX0_sortEdges_20 rfl ?_
    refine x_aload_n (p2 := 22) rfl dX0_sortEdges_21 rfl ?_
    refine x_getr (p2 := 25) (kz := 1) rfl dX0_sortEdges_22 f_0_50 rfl rfl hS.sh hS.r1 ?_
    refine x_iload_n (p2 := 26) rfl dX0_sortEdges_25 rfl ?_
    refine x_iald (p2 := 27) rfl dX0_sortEdges_26 hS.a1 (by omega) (by omega) ?_
    refine x_ic_ge (p2 := 30) (t := 55) (by decide) rfl dX0_sortEdges_27 (fun hc27 => ?_) (fun hc27 => absurd hc27 (by omega))
    refine x_pick (L2 := [(0, _), (1, _), (2, _)]) [0, 1, 2] rfl ?_
    exact hq M1 (fun _ _ _ => rfl) h4 rfl rfl (by rw [h4]; exact hE) (by omega) (by omega)
  | succ n ih =>
    intro k m M1 hG h0 h1 h2 h3 h4 h5 h6 hE hq
    have hx := (hG.2.2 b h0 h1).2.1
    have hn8 := hG.2.1
    unfold se1 at hq
    refine x_iload_n (p2 := 21) rfl dX0_sortEdges_20 rfl ?_
    refine x_aload_n (p2 := 22) rfl dX0_sortEdges_21 rfl ?_
    refine x_getr (p2 := 25) (kz := 1) rfl dX0_sortEdges_22 f_0_50 rfl rfl hS.sh hS.r1 ?_
    refine x_iload_n (p2 := 26) rfl dX0_sortEdges_25 rfl ?_
    refine x_iald (p2 := 27) rfl dX0_sortEdges_26 hS.a1 (by omega) (by omega) ?_
    refine x_ic_ge (p2 := 30) (t := 55) (by decide) rfl dX0_sortEdges_27 (fun hc27 => ?_) (fun hc27 => ?_)
    · exact absurd hc27 (by omega)
    refine x_aload_n (p2 := 31) rfl dX0_sortEdges_30 rfl ?_
    refine x_iload_n (p2 := 32) rfl dX0_sortEdges_31 rfl ?_
    refine x_iload_n (p2 := 33) rfl dX0_sortEdges_32 rfl ?_
    refine x_v2 (p2 := 36) rfl dX0_sortEdges_33 l_0_53 ok_X7_count rfl hS.sh rfl ?_
    refine t_X7_count hS (by omega) (by omega) (by omega) (by omega) ?_
    refine x_if_le (p2 := 39) (t := 49) (by decide) rfl dX0_sortEdges_36 (fun hc36 => ?_) (fun hc36 => ?_)
    · skip
      refine x_iinc (p2 := 52) (L2 := [(0, _), (1, _), (2, _), (3, _)]) rfl dX0_sortEdges_49 rfl ⟨by omega, by omega⟩ ⟨rfl, Nat.le_of_ble_eq_true rfl⟩ rfl ?_
      refine x_goto (t := 20) (by decide) dX0_sortEdges_52 ?_
      refine x_pick (L2 := [(0, _), (1, _), (2, _), (3, _)]) [0, 1, 2, 3] rfl ?_
      first
        | (rw [if_neg (by omega)] at hq
           exact ih (k + 1) m M1 hG h0 h1 (by omega) (by omega) h4 h5 (by omega) hE (fun M2 a1 a2 a3 a4 a5 a6 => hq M2 a1 a2 a3 a4 a5 (by omega)))
        | (rw [if_pos (by omega)] at hq
           have eF := hf9 F (by omega) (by omega)
           have e1 := hf9 (S + 1) (by omega) (by omega)
           have e2 := hf9 (S + 2) (by omega) (by omega)
           have e3 := hf9 (S + 3) (by omega) (by omega)
           have hE2 := edOK_ins (ct := M1 (S + 3)) hE h5 (⟨h0, h1, h2, by omega⟩ : 0 ≤ b ∧ b < M1 F 0 ∧ 0 ≤ k ∧ k < M1 (S + 1) b)
           refine ih (k + 1) (m + 1) M9 (by rw [eF, e1, e2, e3]; exact hG) h0 (by rw [eF]; exact h1) (by omega) (by rw [e1]; omega) hm9 (by omega) (by omega) (by rw [eF, e1, hr9]; exact hE2) (fun M2 a1 a2 a3 a4 a5 a6 => ?_)
           rw [e3, hr9] at a2 a3
           rw [eF, e1] at a5
           exact hq M2 (fun c z1 z2 => (a1 c z1 z2).trans (hf9 c z1 z2)) a2 a3 (a4.trans hp9) a5 (by omega))
    · skip
      refine x_aload_n (p2 := 40) rfl dX0_sortEdges_39 rfl ?_
      refine x_aload_n (p2 := 41) rfl dX0_sortEdges_40 rfl ?_
      refine x_iconst (p2 := 42) rfl dX0_sortEdges_41 ⟨by decide, by decide⟩ ?_
      refine x_iload_n (p2 := 43) rfl dX0_sortEdges_42 rfl ?_
      refine x_imul (p2 := 44) rfl dX0_sortEdges_43 ⟨by omega, by omega⟩ ?_
      refine x_iload_n (p2 := 45) rfl dX0_sortEdges_44 rfl ?_
      refine x_iadd (p2 := 46) rfl dX0_sortEdges_45 ⟨by omega, by omega⟩ ?_
      refine x_v2 (p2 := 49) rfl dX0_sortEdges_46 l_0_57 ok_X0_insertEdge rfl hC.sh rfl ?_
      refine t_X0_insertEdge (m := m) hC hS hd (by omega) (by omega) (fun j hj => ?_) (fun M9 hf9 hr9 hm9 hp9 => ?_)
      · obtain ⟨x1, x2, q1, q2, q3, q4, q5⟩ := hE j (by omega) (by omega)
        have hz := (hG.2.2 x1 q1 q2).2.1
        omega
      refine x_iinc (p2 := 52) (L2 := [(0, _), (1, _), (2, _), (3, _)]) rfl dX0_sortEdges_49 rfl ⟨by omega, by omega⟩ ⟨rfl, Nat.le_of_ble_eq_true rfl⟩ rfl ?_
      refine x_goto (t := 20) (by decide) dX0_sortEdges_52 ?_
      refine x_pick (L2 := [(0, _), (1, _), (2, _), (3, _)]) [0, 1, 2, 3] rfl ?_
      first
        | (rw [if_neg (by omega)] at hq
           exact ih (k + 1) m M1 hG h0 h1 (by omega) (by omega) h4 h5 (by omega) hE (fun M2 a1 a2 a3 a4 a5 a6 => hq M2 a1 a2 a3 a4 a5 (by omega)))
        | (rw [if_pos (by omega)] at hq
           have eF := hf9 F (by omega) (by omega)
           have e1 := hf9 (S + 1) (by omega) (by omega)
           have e2 := hf9 (S + 2) (by omega) (by omega)
           have e3 := hf9 (S + 3) (by omega) (by omega)
           have hE2 := edOK_ins (ct := M1 (S + 3)) hE h5 (⟨h0, h1, h2, by omega⟩ : 0 ≤ b ∧ b < M1 F 0 ∧ 0 ≤ k ∧ k < M1 (S + 1) b)
           refine ih (k + 1) (m + 1) M9 (by rw [eF, e1, e2, e3]; exact hG) h0 (by rw [eF]; exact h1) (by omega) (by rw [e1]; omega) hm9 (by omega) (by omega) (by rw [eF, e1, hr9]; exact hE2) (fun M2 a1 a2 a3 a4 a5 a6 => ?_)
           rw [e3, hr9] at a2 a3
           rw [eF, e1] at a5
           exact hq M2 (fun c z1 z2 => (a1 c z1 z2).trans (hf9 c z1 z2)) a2 a3 (a4.trans hp9) a5 (by omega))
set_option maxHeartbeats 4000000 in
theorem t_se_l2 {C S F : Nat} (hC : isCh σ ρ C) (hS : isSt σ ρ S F) (hd : S + 4 < C) : ∀ (n : Nat) (b m : Int) (M1 : Nat → Int → Int), wfG (M1 F 0) (M1 (S + 1)) (M1 (S + 2)) (M1 (S + 3)) → 0 ≤ b → b + n = M1 F 0 → M1 C 3 = m → 0 ≤ m → m ≤ 2 * b → edOK (M1 F 0) (M1 (S + 1)) (M1 (C + 3)) m → (∀ M2, (∀ c, c ≠ C → c ≠ C + 3 → M2 c = M1 c) → M2 C 3 = (se2 (M1 (S + 1)) (M1 (S + 3)) n b (M1 (C + 3)) m).2 → M2 (C + 3) = (se2 (M1 (S + 1)) (M1 (S + 3)) n b (M1 (C + 3)) m).1 → M2 C 4 = M1 C 4 → edOK (M1 F 0) (M1 (S + 1)) (M2 (C + 3)) (M2 C 3) → M2 C 3 ≤ 16 → 0 ≤ M2 C 3 → Q none (σ, ρ, M2)) → xX G mX0_sortEdges 0 0 7 [(0, xP C), (1, xP S), (2, xI b)] [] (σ, ρ, M1) Q := by
  have hlt := hS.lt
  intro n
  induction n with
  | zero =>
    intro b m M1 hG h0 h1 h4 h5 h6 hE hq
    have hn8 := hG.2.1
    refine x_iload_n (p2 := 8) rfl dX0_sortEdges_7 rfl ?_
    refine x_aload_n (p2 := 9) rfl dX0_sortEdges_8 rfl ?_
    refine x_getr (p2 := 12) (kz := 0) rfl dX0_sortEdges_9 f_0_28 rfl rfl hS.sh hS.r0 ?_
    refine x_geti (p2 := 15) (kz := 0) rfl dX0_sortEdges_12 f_0_34 rfl rfl hS.fr.sh ?_
    refine x_ic_ge (p2 := 18) (t := 61) (by decide) rfl dX0_sortEdges_15 (fun hc15 => ?_) (fun hc15 => absurd hc15 (by omega))
    refine x_vret dX0_sortEdges_61 rfl ?_
    exact hq M1 (fun _ _ _ => rfl) h4 rfl rfl (by rw [h4]; exact hE) (by omega) (by omega)
  | succ n ih =>
    intro b m M1 hG h0 h1 h4 h5 h6 hE hq
    have hx := (hG.2.2 b h0 (by omega)).2.1
    have hx0 := (hG.2.2 b h0 (by omega)).1
    have hn8 := hG.2.1
    unfold se2 at hq
    refine x_iload_n (p2 := 8) rfl dX0_sortEdges_7 rfl ?_
    refine x_aload_n (p2 := 9) rfl dX0_sortEdges_8 rfl ?_
    refine x_getr (p2 := 12) (kz := 0) rfl dX0_sortEdges_9 f_0_28 rfl rfl hS.sh hS.r0 ?_
    refine x_geti (p2 := 15) (kz := 0) rfl dX0_sortEdges_12 f_0_34 rfl rfl hS.fr.sh ?_
    refine x_ic_ge (p2 := 18) (t := 61) (by decide) rfl dX0_sortEdges_15 (fun hc15 => ?_) (fun hc15 => ?_)
    · exact absurd hc15 (by omega)
    refine x_iconst (p2 := 19) rfl dX0_sortEdges_18 ⟨by decide, by decide⟩ ?_
    refine x_istore_n (p2 := 20) (i := 3) (L2 := [(0, _), (1, _), (2, _), (3, _)]) rfl dX0_sortEdges_19 rfl ⟨rfl, Nat.le_of_ble_eq_true rfl⟩ rfl ?_
    refine x_pick (L2 := [(0, _), (1, _), (2, _), (3, _)]) [0, 1, 2, 3] rfl ?_
    refine t_se_l1 hC hS hd (M1 (S + 1) b).toNat 0 m M1 hG h0 (by omega) (by omega) (by omega) h4 h5 (by omega) hE (fun M9 hf9 hm9 hr9 hp9 hE9 hl9 hk9 => ?_)
    have eF := hf9 F (by omega) (by omega)
    have e1 := hf9 (S + 1) (by omega) (by omega)
    have e2 := hf9 (S + 2) (by omega) (by omega)
    have e3 := hf9 (S + 3) (by omega) (by omega)
    refine x_iinc (p2 := 58) (L2 := [(0, _), (1, _), (2, _)]) rfl dX0_sortEdges_55 rfl ⟨by omega, by omega⟩ ⟨rfl, Nat.le_of_ble_eq_true rfl⟩ rfl ?_
    refine x_goto (t := 7) (by decide) dX0_sortEdges_58 ?_
    refine x_pick (L2 := [(0, _), (1, _), (2, _)]) [0, 1, 2] rfl ?_
    refine ih (b + 1) (M9 C 3) M9 (by rw [eF, e1, e2, e3]; exact hG) (by omega) (by rw [eF]; omega) rfl hk9 (by omega) (by rw [eF, e1]; exact hE9) (fun M2 a1 a2 a3 a4 a5 a6 => ?_)
    rw [e1, e3, hr9, hm9] at a2 a3
    rw [eF, e1] at a5
    exact hq M2 (fun c z1 z2 => (a1 c z1 z2).trans (hf9 c z1 z2)) a2 a3 (a4.trans hp9) a5 a6
set_option maxHeartbeats 4000000 in
theorem t_X0_sortEdges {C S F : Nat} (hC : isCh σ ρ C) (hS : isSt σ ρ S F) (hd : S + 4 < C) (hG : wfG (M F 0) (M (S + 1)) (M (S + 2)) (M (S + 3))) (hq : ∀ M2, (∀ c, c ≠ C → c ≠ C + 3 → M2 c = M c) → M2 C 3 = (se2 (M (S + 1)) (M (S + 3)) (M F 0).toNat 0 (M (C + 3)) 0).2 → M2 (C + 3) = (se2 (M (S + 1)) (M (S + 3)) (M F 0).toNat 0 (M (C + 3)) 0).1 → M2 C 4 = M C 4 → edOK (M F 0) (M (S + 1)) (M2 (C + 3)) (M2 C 3) → M2 C 3 ≤ 16 → 0 ≤ M2 C 3 → Q none (σ, ρ, M2)) : xX G mX0_sortEdges 0 0 0 [(0, xP C), (1, xP S)] [] (σ, ρ, M) Q := by
  have hn1 := hG.1
  have hlt := hS.lt
  refine x_aload_n (p2 := 1) rfl dX0_sortEdges_0 rfl ?_
  refine x_iconst (p2 := 2) rfl dX0_sortEdges_1 ⟨by decide, by decide⟩ ?_
  refine x_puti (p2 := 5) (kz := 3) rfl dX0_sortEdges_2 f_0_21 rfl rfl rfl hC.sh ?_
  refine x_iconst (p2 := 6) rfl dX0_sortEdges_5 ⟨by decide, by decide⟩ ?_
  refine x_istore_n (p2 := 7) (i := 2) (L2 := [(0, _), (1, _), (2, _)]) rfl dX0_sortEdges_6 rfl ⟨rfl, Nat.le_of_ble_eq_true rfl⟩ rfl ?_
  refine x_pick (L2 := [(0, _), (1, _), (2, _)]) [0, 1, 2] rfl ?_
  have eF := xu_c (M := M) (j := 3) (v := 0) (show F ≠ C by omega)
  have e1 := xu_c (M := M) (j := 3) (v := 0) (show S + 1 ≠ C by omega)
  have e2 := xu_c (M := M) (j := 3) (v := 0) (show S + 2 ≠ C by omega)
  have e3 := xu_c (M := M) (j := 3) (v := 0) (show S + 3 ≠ C by omega)
  have e9 := xu_c (M := M) (j := 3) (v := 0) (show C + 3 ≠ C by omega)
  refine t_se_l2 hC hS hd (M F 0).toNat 0 0 _ (by rw [eF, e1, e2, e3]; exact hG) (by omega) (by rw [eF]; omega) xu_s (by omega) (by omega) (fun j a b => by omega) (fun M2 a1 a2 a3 a4 a5 a6 => ?_)
  rw [e1, e3, e9] at a2 a3
  rw [eF, e1] at a5
  rw [xu_j (by omega)] at a4
  exact hq M2 (fun c z1 z2 => (a1 c z1 z2).trans (xu_c z1)) a2 a3 a4 a5 a6
def jfit (hd nx : Int → Int) (b s : Int) : Prop := nx b = -1 ∧ hd s = s ∧ hd b ≠ s ∧ s ≠ 0
def agr (n : Int) (f g : Int → Int) : Prop := ∀ x, 0 ≤ x → x < n → f x = g x
set_option maxHeartbeats 4000000 in
theorem t_jb_l {C S F : Nat} {b s z h0 : Int} {hd0 : Int → Int} (hC : isCh σ ρ C) (hS : isSt σ ρ S F) (hd : S + 4 < C) (hb : hd0 b = h0 ∧ h0 ≠ s) : ∀ (n : Nat) (x : Int) (M1 : Nat → Int → Int), M1 F 0 ≤ 8 → 0 ≤ b → b < M1 F 0 → 0 ≤ x → x + n = M1 F 0 → (∀ y, 0 ≤ y → y < M1 F 0 → M1 (C + 1) y = if y < x then (if hd0 y = s then h0 else hd0 y) else hd0 y) → (∀ M2, (∀ c, c ≠ C + 1 → M2 c = M1 c) → agr (M1 F 0) (M2 (C + 1)) (fun y => if hd0 y = s then h0 else hd0 y) → Q none (σ, ρ, M2)) → xX G mX0_joinBehind 0 0 57 [(0, xP C), (1, xP S), (2, xI b), (3, xI s), (4, xI z), (5, xI x)] [] (σ, ρ, M1) Q := by
  have hlt := hS.lt
  intro n
  induction n with
  | zero =>
    intro x M1 h8 hb1 hb2 hx hk hI hq
    refine x_iload (p2 := 59) rfl dX0_joinBehind_57 rfl ?_
    refine x_aload_n (p2 := 60) rfl dX0_joinBehind_59 rfl ?_
    refine x_getr (p2 := 63) (kz := 0) rfl dX0_joinBehind_60 f_0_28 rfl rfl hS.sh hS.r0 ?_
    refine x_geti (p2 := 66) (kz := 0) rfl dX0_joinBehind_63 f_0_34 rfl rfl hS.fr.sh ?_
    refine x_ic_ge (p2 := 69) (t := 99) (by decide) rfl dX0_joinBehind_66 (fun hc66 => ?_) (fun hc66 => absurd hc66 (by omega))
    refine x_vret dX0_joinBehind_99 rfl ?_
    exact hq M1 (fun _ _ => rfl) (fun y a1 a2 => by rw [hI y a1 a2, if_pos (by omega)])
  | succ n ih =>
    intro x M1 h8 hb1 hb2 hx hk hI hq
    have hIx := hI x hx (by omega)
    rw [if_neg (by omega)] at hIx
    have hIb := hI b hb1 hb2
    have hIb2 : M1 (C + 1) b = h0 := by
      rw [hIb, hb.1]
      split
      · rw [if_neg hb.2]
      · rfl
    refine x_iload (p2 := 59) rfl dX0_joinBehind_57 rfl ?_
    refine x_aload_n (p2 := 60) rfl dX0_joinBehind_59 rfl ?_
    refine x_getr (p2 := 63) (kz := 0) rfl dX0_joinBehind_60 f_0_28 rfl rfl hS.sh hS.r0 ?_
    refine x_geti (p2 := 66) (kz := 0) rfl dX0_joinBehind_63 f_0_34 rfl rfl hS.fr.sh ?_
    refine x_ic_ge (p2 := 69) (t := 99) (by decide) rfl dX0_joinBehind_66 (fun hc66 => ?_) (fun hc66 => ?_)
    · exact absurd hc66 (by omega)
    refine x_aload_n (p2 := 70) rfl dX0_joinBehind_69 rfl ?_
    refine x_getr (p2 := 73) (kz := 0) rfl dX0_joinBehind_70 f_0_9 rfl rfl hC.sh hC.r0 ?_
    refine x_iload (p2 := 75) rfl dX0_joinBehind_73 rfl ?_
    refine x_iald (p2 := 76) rfl dX0_joinBehind_75 hC.a0 (by omega) (by omega) ?_
    refine x_iload_n (p2 := 77) rfl dX0_joinBehind_76 rfl ?_
    refine x_ic_ne (p2 := 80) (t := 93) (by decide) rfl dX0_joinBehind_77 (fun hc77 => ?_) (fun hc77 => ?_)
    · skip
      refine x_iinc (p2 := 96) (L2 := [(0, _), (1, _), (2, _), (3, _), (4, _), (5, _)]) rfl dX0_joinBehind_93 rfl ⟨by omega, by omega⟩ ⟨rfl, Nat.le_of_ble_eq_true rfl⟩ rfl ?_
      refine x_goto (t := 57) (by decide) dX0_joinBehind_96 ?_
      refine x_pick (L2 := [(0, _), (1, _), (2, _), (3, _), (4, _), (5, _)]) [0, 1, 2, 3, 4, 5] rfl ?_
      first
        | (refine ih (x + 1) M1 h8 hb1 hb2 (by omega) (by omega) (fun y a1 a2 => ?_) hq
           by_cases hy : y = x
           · subst hy
             rw [if_pos (show y < y + 1 by omega), if_neg (by rw [← hIx]; exact hc77)]
             exact hIx
           · rw [hI y a1 a2]
             by_cases hy2 : y < x
             · rw [if_pos hy2, if_pos (show y < x + 1 by omega)]
             · rw [if_neg hy2, if_neg (show ¬ y < x + 1 by omega)])
        | (have eF : xu M1 (C + 1) x (M1 (C + 1) b) F = M1 F := xu_c (by omega)
           refine ih (x + 1) _ (by rw [eF]; exact h8) hb1 (by rw [eF]; exact hb2) (by omega) (by rw [eF]; omega) (fun y a1 a2 => ?_) (fun M2 b1 b2 => ?_)
           · rw [eF] at a2
             by_cases hy : y = x
             · subst hy
               rw [xu_s, if_pos (show y < y + 1 by omega), if_pos (by rw [← hIx]; exact hc77)]
               exact hIb2
             · rw [xu_j hy, hI y a1 a2]
               by_cases hy2 : y < x
               · rw [if_pos hy2, if_pos (show y < x + 1 by omega)]
               · rw [if_neg hy2, if_neg (show ¬ y < x + 1 by omega)]
           · rw [eF] at b2
             exact hq M2 (fun c z1 => (b1 c z1).trans (xu_c z1)) b2)
    · skip
      refine x_aload_n (p2 := 81) rfl dX0_joinBehind_80 rfl ?_
      refine x_getr (p2 := 84) (kz := 0) rfl dX0_joinBehind_81 f_0_9 rfl rfl hC.sh hC.r0 ?_
      refine x_iload (p2 := 86) rfl dX0_joinBehind_84 rfl ?_
      refine x_aload_n (p2 := 87) rfl dX0_joinBehind_86 rfl ?_
      refine x_getr (p2 := 90) (kz := 0) rfl dX0_joinBehind_87 f_0_9 rfl rfl hC.sh hC.r0 ?_
      refine x_iload_n (p2 := 91) rfl dX0_joinBehind_90 rfl ?_
      refine x_iald (p2 := 92) rfl dX0_joinBehind_91 hC.a0 (by omega) (by omega) ?_
      refine x_iast (p2 := 93) rfl dX0_joinBehind_92 hC.a0 (by omega) (by omega) ?_
      refine x_iinc (p2 := 96) (L2 := [(0, _), (1, _), (2, _), (3, _), (4, _), (5, _)]) rfl dX0_joinBehind_93 rfl ⟨by omega, by omega⟩ ⟨rfl, Nat.le_of_ble_eq_true rfl⟩ rfl ?_
      refine x_goto (t := 57) (by decide) dX0_joinBehind_96 ?_
      refine x_pick (L2 := [(0, _), (1, _), (2, _), (3, _), (4, _), (5, _)]) [0, 1, 2, 3, 4, 5] rfl ?_
      first
        | (refine ih (x + 1) M1 h8 hb1 hb2 (by omega) (by omega) (fun y a1 a2 => ?_) hq
           by_cases hy : y = x
           · subst hy
             rw [if_pos (show y < y + 1 by omega), if_neg (by rw [← hIx]; exact hc77)]
             exact hIx
           · rw [hI y a1 a2]
             by_cases hy2 : y < x
             · rw [if_pos hy2, if_pos (show y < x + 1 by omega)]
             · rw [if_neg hy2, if_neg (show ¬ y < x + 1 by omega)])
        | (have eF : xu M1 (C + 1) x (M1 (C + 1) b) F = M1 F := xu_c (by omega)
           refine ih (x + 1) _ (by rw [eF]; exact h8) hb1 (by rw [eF]; exact hb2) (by omega) (by rw [eF]; omega) (fun y a1 a2 => ?_) (fun M2 b1 b2 => ?_)
           · rw [eF] at a2
             by_cases hy : y = x
             · subst hy
               rw [xu_s, if_pos (show y < y + 1 by omega), if_pos (by rw [← hIx]; exact hc77)]
               exact hIb2
             · rw [xu_j hy, hI y a1 a2]
               by_cases hy2 : y < x
               · rw [if_pos hy2, if_pos (show y < x + 1 by omega)]
               · rw [if_neg hy2, if_neg (show ¬ y < x + 1 by omega)]
           · rw [eF] at b2
             exact hq M2 (fun c z1 => (b1 c z1).trans (xu_c z1)) b2)
set_option maxHeartbeats 4000000 in
theorem t_X0_joinBehind {C S F : Nat} {b s : Int} (hC : isCh σ ρ C) (hS : isSt σ ρ S F) (hd : S + 4 < C) (h8 : M F 0 ≤ 8) (hb : 0 ≤ b ∧ b < M F 0) (hs : 0 ≤ s ∧ s < M F 0) (k1 : jfit (M (C + 1)) (M (C + 2)) b s → ∀ M2, (∀ c, c ≠ C + 1 → c ≠ C + 2 → M2 c = M c) → agr (M F 0) (M2 (C + 1)) (fun y => if M (C + 1) y = s then M (C + 1) b else M (C + 1) y) → M2 (C + 2) = upf (M (C + 2)) b s → Q none (σ, ρ, M2)) (k0 : ¬ jfit (M (C + 1)) (M (C + 2)) b s → Q none (σ, ρ, M)) : xX G mX0_joinBehind 0 0 0 [(0, xP C), (1, xP S), (2, xI b), (3, xI s)] [] (σ, ρ, M) Q := by
  have hlt := hS.lt
  refine x_aload_n (p2 := 1) rfl dX0_joinBehind_0 rfl ?_
  refine x_getr (p2 := 4) (kz := 1) rfl dX0_joinBehind_1 f_0_15 rfl rfl hC.sh hC.r1 ?_
  refine x_iload_n (p2 := 5) rfl dX0_joinBehind_4 rfl ?_
  refine x_iald (p2 := 6) rfl dX0_joinBehind_5 hC.a1 (by omega) (by omega) ?_
  refine x_iconst (p2 := 7) rfl dX0_joinBehind_6 ⟨by decide, by decide⟩ ?_
  refine x_ic_ne (p2 := 10) (t := 38) (by decide) rfl dX0_joinBehind_7 (fun hc7 => ?_) (fun hc7 => ?_)
  · skip
    refine x_iconst (p2 := 39) rfl dX0_joinBehind_38 ⟨by decide, by decide⟩ ?_
    refine x_istore (p2 := 41) (i := 4) (L2 := [(0, _), (1, _), (2, _), (3, _), (4, _)]) rfl dX0_joinBehind_39 ⟨rfl, Nat.le_of_ble_eq_true rfl⟩ rfl ?_
    refine x_iload (p2 := 43) rfl dX0_joinBehind_41 rfl ?_
    refine x_if_ne (p2 := 46) (t := 47) (by decide) rfl dX0_joinBehind_43 (fun hc => absurd hc (by decide)) (fun _ => ?_)
    refine x_vret dX0_joinBehind_46 rfl ?_
    first
      | exact k0 (fun z => hc7 z.1)
      | exact k0 (fun z => hc17 z.2.1)
      | exact k0 (fun z => z.2.2.1 hc27)
      | exact k0 (fun z => z.2.2.2 hc31)
  · skip
    refine x_aload_n (p2 := 11) rfl dX0_joinBehind_10 rfl ?_
    refine x_getr (p2 := 14) (kz := 0) rfl dX0_joinBehind_11 f_0_9 rfl rfl hC.sh hC.r0 ?_
    refine x_iload_n (p2 := 15) rfl dX0_joinBehind_14 rfl ?_
    refine x_iald (p2 := 16) rfl dX0_joinBehind_15 hC.a0 (by omega) (by omega) ?_
    refine x_iload_n (p2 := 17) rfl dX0_joinBehind_16 rfl ?_
    refine x_ic_ne (p2 := 20) (t := 38) (by decide) rfl dX0_joinBehind_17 (fun hc17 => ?_) (fun hc17 => ?_)
    · skip
      refine x_iconst (p2 := 39) rfl dX0_joinBehind_38 ⟨by decide, by decide⟩ ?_
      refine x_istore (p2 := 41) (i := 4) (L2 := [(0, _), (1, _), (2, _), (3, _), (4, _)]) rfl dX0_joinBehind_39 ⟨rfl, Nat.le_of_ble_eq_true rfl⟩ rfl ?_
      refine x_iload (p2 := 43) rfl dX0_joinBehind_41 rfl ?_
      refine x_if_ne (p2 := 46) (t := 47) (by decide) rfl dX0_joinBehind_43 (fun hc => absurd hc (by decide)) (fun _ => ?_)
      refine x_vret dX0_joinBehind_46 rfl ?_
      first
        | exact k0 (fun z => hc7 z.1)
        | exact k0 (fun z => hc17 z.2.1)
        | exact k0 (fun z => z.2.2.1 hc27)
        | exact k0 (fun z => z.2.2.2 hc31)
    · skip
      refine x_aload_n (p2 := 21) rfl dX0_joinBehind_20 rfl ?_
      refine x_getr (p2 := 24) (kz := 0) rfl dX0_joinBehind_21 f_0_9 rfl rfl hC.sh hC.r0 ?_
      refine x_iload_n (p2 := 25) rfl dX0_joinBehind_24 rfl ?_
      refine x_iald (p2 := 26) rfl dX0_joinBehind_25 hC.a0 (by omega) (by omega) ?_
      refine x_iload_n (p2 := 27) rfl dX0_joinBehind_26 rfl ?_
      refine x_ic_eq (p2 := 30) (t := 38) (by decide) rfl dX0_joinBehind_27 (fun hc27 => ?_) (fun hc27 => ?_)
      · skip
        refine x_iconst (p2 := 39) rfl dX0_joinBehind_38 ⟨by decide, by decide⟩ ?_
        refine x_istore (p2 := 41) (i := 4) (L2 := [(0, _), (1, _), (2, _), (3, _), (4, _)]) rfl dX0_joinBehind_39 ⟨rfl, Nat.le_of_ble_eq_true rfl⟩ rfl ?_
        refine x_iload (p2 := 43) rfl dX0_joinBehind_41 rfl ?_
        refine x_if_ne (p2 := 46) (t := 47) (by decide) rfl dX0_joinBehind_43 (fun hc => absurd hc (by decide)) (fun _ => ?_)
        refine x_vret dX0_joinBehind_46 rfl ?_
        first
          | exact k0 (fun z => hc7 z.1)
          | exact k0 (fun z => hc17 z.2.1)
          | exact k0 (fun z => z.2.2.1 hc27)
          | exact k0 (fun z => z.2.2.2 hc31)
      · skip
        refine x_iload_n (p2 := 31) rfl dX0_joinBehind_30 rfl ?_
        refine x_if_eq (p2 := 34) (t := 38) (by decide) rfl dX0_joinBehind_31 (fun hc31 => ?_) (fun hc31 => ?_)
        · skip
          refine x_iconst (p2 := 39) rfl dX0_joinBehind_38 ⟨by decide, by decide⟩ ?_
          refine x_istore (p2 := 41) (i := 4) (L2 := [(0, _), (1, _), (2, _), (3, _), (4, _)]) rfl dX0_joinBehind_39 ⟨rfl, Nat.le_of_ble_eq_true rfl⟩ rfl ?_
          refine x_iload (p2 := 43) rfl dX0_joinBehind_41 rfl ?_
          refine x_if_ne (p2 := 46) (t := 47) (by decide) rfl dX0_joinBehind_43 (fun hc => absurd hc (by decide)) (fun _ => ?_)
          refine x_vret dX0_joinBehind_46 rfl ?_
          first
            | exact k0 (fun z => hc7 z.1)
            | exact k0 (fun z => hc17 z.2.1)
            | exact k0 (fun z => z.2.2.1 hc27)
            | exact k0 (fun z => z.2.2.2 hc31)
        · skip
          refine x_iconst (p2 := 35) rfl dX0_joinBehind_34 ⟨by decide, by decide⟩ ?_
          refine x_goto (t := 39) (by decide) dX0_joinBehind_35 ?_
          refine x_istore (p2 := 41) (i := 4) (L2 := [(0, _), (1, _), (2, _), (3, _), (4, _)]) rfl dX0_joinBehind_39 ⟨rfl, Nat.le_of_ble_eq_true rfl⟩ rfl ?_
          refine x_iload (p2 := 43) rfl dX0_joinBehind_41 rfl ?_
          refine x_if_ne (p2 := 46) (t := 47) (by decide) rfl dX0_joinBehind_43 (fun _ => ?_) (fun hc => absurd hc (by decide))
          refine x_aload_n (p2 := 48) rfl dX0_joinBehind_47 rfl ?_
          refine x_getr (p2 := 51) (kz := 1) rfl dX0_joinBehind_48 f_0_15 rfl rfl hC.sh hC.r1 ?_
          refine x_iload_n (p2 := 52) rfl dX0_joinBehind_51 rfl ?_
          refine x_iload_n (p2 := 53) rfl dX0_joinBehind_52 rfl ?_
          refine x_iast (p2 := 54) rfl dX0_joinBehind_53 hC.a1 (by omega) (by omega) ?_
          refine x_iconst (p2 := 55) rfl dX0_joinBehind_54 ⟨by decide, by decide⟩ ?_
          refine x_istore (p2 := 57) (i := 5) (L2 := [(0, _), (1, _), (2, _), (3, _), (4, _), (5, _)]) rfl dX0_joinBehind_55 ⟨rfl, Nat.le_of_ble_eq_true rfl⟩ rfl ?_
          refine x_pick (L2 := [(0, _), (1, _), (2, _), (3, _), (4, _), (5, _)]) [0, 1, 2, 3, 4, 5] rfl ?_
          have eF : xu M (C + 2) b s F = M F := xu_c (by omega)
          have e1 : xu M (C + 2) b s (C + 1) = M (C + 1) := xu_c (by omega)
          refine t_jb_l (hd0 := M (C + 1)) (h0 := M (C + 1) b) hC hS hd ⟨rfl, hc27⟩ (M F 0).toNat 0 _ (by rw [eF]; exact h8) hb.1 (by rw [eF]; exact hb.2) (by omega) (by rw [eF]; omega) (fun y a1 a2 => by rw [e1, if_neg (by omega)]) (fun M2 b1 b2 => ?_)
          rw [eF] at b2
          exact k1 ⟨hc7, hc17, hc27, hc31⟩ M2 (fun c z1 z2 => (b1 c z1).trans (xu_c z2)) b2 (by rw [b1 (C + 2) (by omega), xu_eq, xw_s])
def jn (b s : Int) (z : (Int → Int) × (Int → Int)) : (Int → Int) × (Int → Int) := if z.2 b = -1 ∧ z.1 s = s ∧ z.1 b ≠ s ∧ s ≠ 0 then (fun y => if z.1 y = s then z.1 b else z.1 y, upf z.2 b s) else z
def mgf (tg ed : Int → Int) : Nat → Int → (Int → Int) × (Int → Int) → (Int → Int) × (Int → Int)
  | 0, _, z => z
  | k + 1, i, z => mgf tg ed k (i + 1) (jn (ed i / 2) (tg (ed i)) z)
/-- heads and nexts of blocks 0 .. n - 1 -/
def chI (n : Int) (z : (Int → Int) × (Int → Int)) : Prop := ∀ x, 0 ≤ x → x < n → 0 ≤ z.1 x ∧ z.1 x < n ∧ -1 ≤ z.2 x ∧ z.2 x < n
theorem jn_I {n b s : Int} {z : (Int → Int) × (Int → Int)} (h : chI n z) (hb : 0 ≤ b ∧ b < n) (hs : 0 ≤ s ∧ s < n) : chI n (jn b s z) := by
  intro x h0 h1
  have hx := h x h0 h1
  have hbb := h b hb.1 hb.2
  unfold jn
  split
  · dsimp only
    refine ⟨?_, ?_, ?_, ?_⟩
    · split <;> omega
    · split <;> omega
    · unfold upf; split <;> omega
    · unfold upf; split <;> omega
  · exact hx
def mrg (n : Int) (ex tg ct ed : Int → Int) : (Int → Int) × (Int → Int) := mgf tg (se2 ex ct n.toNat 0 ed 0).1 (se2 ex ct n.toNat 0 ed 0).2.toNat 0 (fun x => x, fun _ => -1)
set_option maxHeartbeats 4000000 in
theorem t_mg_l2 {C S F : Nat} (hC : isCh σ ρ C) (hS : isSt σ ρ S F) (hd : S + 4 < C) : ∀ (n : Nat) (i : Int) (M1 : Nat → Int → Int) (z : (Int → Int) × (Int → Int)), wfG (M1 F 0) (M1 (S + 1)) (M1 (S + 2)) (M1 (S + 3)) → 0 ≤ i → i + n = M1 C 3 → M1 C 3 ≤ 16 → edOK (M1 F 0) (M1 (S + 1)) (M1 (C + 3)) (M1 C 3) → chI (M1 F 0) z → agr (M1 F 0) (M1 (C + 1)) z.1 → agr (M1 F 0) (M1 (C + 2)) z.2 → (∀ M2, (∀ c, c ≠ C + 1 → c ≠ C + 2 → M2 c = M1 c) → chI (M1 F 0) (mgf (M1 (S + 2)) (M1 (C + 3)) n i z) → agr (M1 F 0) (M2 (C + 1)) (mgf (M1 (S + 2)) (M1 (C + 3)) n i z).1 → agr (M1 F 0) (M2 (C + 2)) (mgf (M1 (S + 2)) (M1 (C + 3)) n i z).2 → Q none (σ, ρ, M2)) → xX G mX0_merge 0 0 40 [(0, xP C), (1, xP S), (2, xI i)] [] (σ, ρ, M1) Q := by
  have hlt := hS.lt
  intro n
  induction n with
  | zero =>
    intro i M1 z hG h0 hk h16 hE hI hA hB hq
    refine x_iload_n (p2 := 41) rfl dX0_merge_40 rfl ?_
    refine x_aload_n (p2 := 42) rfl dX0_merge_41 rfl ?_
    refine x_geti (p2 := 45) (kz := 3) rfl dX0_merge_42 f_0_21 rfl rfl hC.sh ?_
    refine x_ic_ge (p2 := 48) (t := 80) (by decide) rfl dX0_merge_45 (fun hc45 => ?_) (fun hc45 => absurd hc45 (by omega))
    refine x_vret dX0_merge_80 rfl ?_
    exact hq M1 (fun _ _ _ => rfl) hI hA hB
  | succ n ih =>
    intro i M1 z hG h0 hk h16 hE hI hA hB hq
    have hn8 := hG.2.1
    unfold mgf at hq
    refine x_iload_n (p2 := 41) rfl dX0_merge_40 rfl ?_
    refine x_aload_n (p2 := 42) rfl dX0_merge_41 rfl ?_
    refine x_geti (p2 := 45) (kz := 3) rfl dX0_merge_42 f_0_21 rfl rfl hC.sh ?_
    refine x_ic_ge (p2 := 48) (t := 80) (by decide) rfl dX0_merge_45 (fun hc45 => ?_) (fun hc45 => ?_)
    · exact absurd hc45 (by omega)
    obtain ⟨b, k, q1, q2, q3, q4, q5⟩ := hE i h0 (by omega)
    have hw := hG.2.2 b q1 q2
    have hwx := hw.2.1
    have hwk := hw.2.2.1 k q3 q4
    have hdiv : M1 (C + 3) i / 2 = b := by omega
    rw [← q5] at hwk
    refine x_aload_n (p2 := 49) rfl dX0_merge_48 rfl ?_
    refine x_getr (p2 := 52) (kz := 2) rfl dX0_merge_49 f_0_18 rfl rfl hC.sh hC.r2 ?_
    refine x_iload_n (p2 := 53) rfl dX0_merge_52 rfl ?_
    refine x_iald (p2 := 54) rfl dX0_merge_53 hC.a2 (by omega) (by omega) ?_
    refine x_iconst (p2 := 55) rfl dX0_merge_54 ⟨by decide, by decide⟩ ?_
    refine x_idiv (p2 := 56) rfl dX0_merge_55 (by omega) (by omega) ?_
    refine x_istore_n (p2 := 57) (i := 3) (L2 := [(0, _), (1, _), (2, _), (3, _)]) rfl dX0_merge_56 rfl ⟨rfl, Nat.le_of_ble_eq_true rfl⟩ rfl ?_
    refine x_aload_n (p2 := 58) rfl dX0_merge_57 rfl ?_
    refine x_aload_n (p2 := 59) rfl dX0_merge_58 rfl ?_
    refine x_iload_n (p2 := 60) rfl dX0_merge_59 rfl ?_
    refine x_aload_n (p2 := 61) rfl dX0_merge_60 rfl ?_
    refine x_getr (p2 := 64) (kz := 2) rfl dX0_merge_61 f_0_43 rfl rfl hS.sh hS.r2 ?_
    refine x_aload_n (p2 := 65) rfl dX0_merge_64 rfl ?_
    refine x_getr (p2 := 68) (kz := 2) rfl dX0_merge_65 f_0_18 rfl rfl hC.sh hC.r2 ?_
    refine x_iload_n (p2 := 69) rfl dX0_merge_68 rfl ?_
    refine x_iald (p2 := 70) rfl dX0_merge_69 hC.a2 (by omega) (by omega) ?_
    refine x_iald (p2 := 71) rfl dX0_merge_70 hS.a2 (by omega) (by omega) ?_
    refine x_v3 (p2 := 74) rfl dX0_merge_71 l_0_46 ok_X0_joinBehind rfl hC.sh rfl ?_
    refine t_X0_joinBehind hC hS hd (by omega) (by omega) (by omega) (fun hj M9 hf9 ha9 hn9 => ?_) (fun hj => ?_)
    · skip
      refine x_iinc (p2 := 77) (L2 := [(0, _), (1, _), (2, _), (3, _)]) rfl dX0_merge_74 rfl ⟨by omega, by omega⟩ ⟨rfl, Nat.le_of_ble_eq_true rfl⟩ rfl ?_
      refine x_goto (t := 40) (by decide) dX0_merge_77 ?_
      refine x_pick (L2 := [(0, _), (1, _), (2, _)]) [0, 1, 2] rfl ?_
      have hb := q1
      rw [hdiv] at hj hq
      have zA := hA b q1 q2
      have zS := hA (M1 (S + 2) (M1 (C + 3) i)) hwk.1 hwk.2.1
      have zN := hB b q1 q2
      have hI2 := jn_I hI (⟨q1, q2⟩ : 0 ≤ b ∧ b < M1 F 0) (⟨hwk.1, hwk.2.1⟩ : 0 ≤ M1 (S + 2) (M1 (C + 3) i) ∧ M1 (S + 2) (M1 (C + 3) i) < M1 F 0)
      unfold jfit at hj
      rw [zA, zS, zN] at hj
      first
        | (have ej : jn b (M1 (S + 2) (M1 (C + 3) i)) z = z := if_neg hj
           rw [ej] at hq
           exact ih (i + 1) M1 z hG (by omega) (by omega) h16 hE hI hA hB hq)
        | (have ej : jn b (M1 (S + 2) (M1 (C + 3) i)) z = _ := if_pos hj
           rw [ej] at hq hI2
           rw [hdiv] at ha9 hn9
           have eF := hf9 F (by omega) (by omega)
           have e1 := hf9 (S + 1) (by omega) (by omega)
           have e2 := hf9 (S + 2) (by omega) (by omega)
           have e3 := hf9 (S + 3) (by omega) (by omega)
           have e4 := hf9 C (by omega) (by omega)
           have e5 := hf9 (C + 3) (by omega) (by omega)
           refine ih (i + 1) M9 _ (by rw [eF, e1, e2, e3]; exact hG) (by omega) (by rw [e4]; omega) (by rw [e4]; exact h16) (by rw [eF, e1, e4, e5]; exact hE) (by rw [eF]; exact hI2) (fun x a1 a2 => ?_) (fun x a1 a2 => ?_) (fun M2 c1 c2 c3 c4 => ?_)
           · rw [eF] at a2
             rw [ha9 x a1 a2]
             dsimp only
             rw [hA x a1 a2, zA]
           · rw [eF] at a2
             rw [hn9]
             unfold upf
             rw [hB x a1 a2]
           · rw [eF, e2, e5] at c2 c3 c4
             exact hq M2 (fun c z1 z2 => (c1 c z1 z2).trans (hf9 c z1 z2)) c2 c3 c4)
    · skip
      refine x_iinc (p2 := 77) (L2 := [(0, _), (1, _), (2, _), (3, _)]) rfl dX0_merge_74 rfl ⟨by omega, by omega⟩ ⟨rfl, Nat.le_of_ble_eq_true rfl⟩ rfl ?_
      refine x_goto (t := 40) (by decide) dX0_merge_77 ?_
      refine x_pick (L2 := [(0, _), (1, _), (2, _)]) [0, 1, 2] rfl ?_
      have hb := q1
      rw [hdiv] at hj hq
      have zA := hA b q1 q2
      have zS := hA (M1 (S + 2) (M1 (C + 3) i)) hwk.1 hwk.2.1
      have zN := hB b q1 q2
      have hI2 := jn_I hI (⟨q1, q2⟩ : 0 ≤ b ∧ b < M1 F 0) (⟨hwk.1, hwk.2.1⟩ : 0 ≤ M1 (S + 2) (M1 (C + 3) i) ∧ M1 (S + 2) (M1 (C + 3) i) < M1 F 0)
      unfold jfit at hj
      rw [zA, zS, zN] at hj
      first
        | (have ej : jn b (M1 (S + 2) (M1 (C + 3) i)) z = z := if_neg hj
           rw [ej] at hq
           exact ih (i + 1) M1 z hG (by omega) (by omega) h16 hE hI hA hB hq)
        | (have ej : jn b (M1 (S + 2) (M1 (C + 3) i)) z = _ := if_pos hj
           rw [ej] at hq hI2
           rw [hdiv] at ha9 hn9
           have eF := hf9 F (by omega) (by omega)
           have e1 := hf9 (S + 1) (by omega) (by omega)
           have e2 := hf9 (S + 2) (by omega) (by omega)
           have e3 := hf9 (S + 3) (by omega) (by omega)
           have e4 := hf9 C (by omega) (by omega)
           have e5 := hf9 (C + 3) (by omega) (by omega)
           refine ih (i + 1) M9 _ (by rw [eF, e1, e2, e3]; exact hG) (by omega) (by rw [e4]; omega) (by rw [e4]; exact h16) (by rw [eF, e1, e4, e5]; exact hE) (by rw [eF]; exact hI2) (fun x a1 a2 => ?_) (fun x a1 a2 => ?_) (fun M2 c1 c2 c3 c4 => ?_)
           · rw [eF] at a2
             rw [ha9 x a1 a2]
             dsimp only
             rw [hA x a1 a2, zA]
           · rw [eF] at a2
             rw [hn9]
             unfold upf
             rw [hB x a1 a2]
           · rw [eF, e2, e5] at c2 c3 c4
             exact hq M2 (fun c z1 z2 => (c1 c z1 z2).trans (hf9 c z1 z2)) c2 c3 c4)
set_option maxHeartbeats 4000000 in
theorem t_mg_l1 {C S F : Nat} (hC : isCh σ ρ C) (hS : isSt σ ρ S F) (hd : S + 4 < C) : ∀ (n : Nat) (i : Int) (M1 : Nat → Int → Int), M1 F 0 ≤ 8 → 0 ≤ i → i + n = M1 F 0 → agr i (M1 (C + 1)) (fun x => x) → agr i (M1 (C + 2)) (fun _ => -1) → (∀ M2, (∀ c, c ≠ C + 1 → c ≠ C + 2 → M2 c = M1 c) → agr (M1 F 0) (M2 (C + 1)) (fun x => x) → agr (M1 F 0) (M2 (C + 2)) (fun _ => -1) → xX G mX0_merge 0 0 33 [(0, xP C), (1, xP S)] [] (σ, ρ, M2) Q) → xX G mX0_merge 0 0 2 [(0, xP C), (1, xP S), (2, xI i)] [] (σ, ρ, M1) Q := by
  have hlt := hS.lt
  intro n
  induction n with
  | zero =>
    intro i M1 h8 h0 hk hA hB hq
    refine x_iload_n (p2 := 3) rfl dX0_merge_2 rfl ?_
    refine x_aload_n (p2 := 4) rfl dX0_merge_3 rfl ?_
    refine x_getr (p2 := 7) (kz := 0) rfl dX0_merge_4 f_0_28 rfl rfl hS.sh hS.r0 ?_
    refine x_geti (p2 := 10) (kz := 0) rfl dX0_merge_7 f_0_34 rfl rfl hS.fr.sh ?_
    refine x_ic_ge (p2 := 13) (t := 33) (by decide) rfl dX0_merge_10 (fun hc10 => ?_) (fun hc10 => absurd hc10 (by omega))
    refine x_pick (L2 := [(0, _), (1, _)]) [0, 1] rfl ?_
    exact hq M1 (fun _ _ _ => rfl) (fun x a b => hA x a (by omega)) (fun x a b => hB x a (by omega))
  | succ n ih =>
    intro i M1 h8 h0 hk hA hB hq
    refine x_iload_n (p2 := 3) rfl dX0_merge_2 rfl ?_
    refine x_aload_n (p2 := 4) rfl dX0_merge_3 rfl ?_
    refine x_getr (p2 := 7) (kz := 0) rfl dX0_merge_4 f_0_28 rfl rfl hS.sh hS.r0 ?_
    refine x_geti (p2 := 10) (kz := 0) rfl dX0_merge_7 f_0_34 rfl rfl hS.fr.sh ?_
    refine x_ic_ge (p2 := 13) (t := 33) (by decide) rfl dX0_merge_10 (fun hc10 => ?_) (fun hc10 => ?_)
    · exact absurd hc10 (by omega)
    refine x_aload_n (p2 := 14) rfl dX0_merge_13 rfl ?_
    refine x_getr (p2 := 17) (kz := 0) rfl dX0_merge_14 f_0_9 rfl rfl hC.sh hC.r0 ?_
    refine x_iload_n (p2 := 18) rfl dX0_merge_17 rfl ?_
    refine x_iload_n (p2 := 19) rfl dX0_merge_18 rfl ?_
    refine x_iast (p2 := 20) rfl dX0_merge_19 hC.a0 (by omega) (by omega) ?_
    refine x_aload_n (p2 := 21) rfl dX0_merge_20 rfl ?_
    refine x_getr (p2 := 24) (kz := 1) rfl dX0_merge_21 f_0_15 rfl rfl hC.sh hC.r1 ?_
    refine x_iload_n (p2 := 25) rfl dX0_merge_24 rfl ?_
    refine x_iconst (p2 := 26) rfl dX0_merge_25 ⟨by decide, by decide⟩ ?_
    refine x_iast (p2 := 27) rfl dX0_merge_26 hC.a1 (by omega) (by omega) ?_
    refine x_iinc (p2 := 30) (L2 := [(0, _), (1, _), (2, _)]) rfl dX0_merge_27 rfl ⟨by omega, by omega⟩ ⟨rfl, Nat.le_of_ble_eq_true rfl⟩ rfl ?_
    refine x_goto (t := 2) (by decide) dX0_merge_30 ?_
    refine x_pick (L2 := [(0, _), (1, _), (2, _)]) [0, 1, 2] rfl ?_
    have eF : xu (xu M1 (C + 1) i i) (C + 2) i (-1) F = M1 F := by rw [xu_c (by omega), xu_c (by omega)]
    refine ih (i + 1) _ (by rw [eF]; exact h8) (by omega) (by rw [eF]; omega) (fun x a b => ?_) (fun x a b => ?_) (fun M2 c1 c2 c3 => ?_)
    · by_cases hx : x = i
      · rw [hx, xu_c (by omega), xu_s]
      · rw [xu_c (by omega), xu_j hx]; exact hA x a (by omega)
    · by_cases hx : x = i
      · rw [hx, xu_s]
      · rw [xu_j hx, xu_c (by omega)]; exact hB x a (by omega)
    · rw [eF] at c2 c3
      exact hq M2 (fun c z1 z2 => by rw [c1 c z1 z2, xu_c z2, xu_c z1]) c2 c3
set_option maxHeartbeats 4000000 in
theorem t_X0_merge {C S F : Nat} (hC : isCh σ ρ C) (hS : isSt σ ρ S F) (hd : S + 4 < C) (hG : wfG (M F 0) (M (S + 1)) (M (S + 2)) (M (S + 3))) (hq : ∀ M2 ed, (∀ c, c < C ∨ C + 3 < c → M2 c = M c) → chI (M F 0) (mrg (M F 0) (M (S + 1)) (M (S + 2)) (M (S + 3)) ed) → agr (M F 0) (M2 (C + 1)) (mrg (M F 0) (M (S + 1)) (M (S + 2)) (M (S + 3)) ed).1 → agr (M F 0) (M2 (C + 2)) (mrg (M F 0) (M (S + 1)) (M (S + 2)) (M (S + 3)) ed).2 → Q none (σ, ρ, M2)) : xX G mX0_merge 0 0 0 [(0, xP C), (1, xP S)] [] (σ, ρ, M) Q := by
  have hn1 := hG.1
  have hn8 := hG.2.1
  have hlt := hS.lt
  refine x_iconst (p2 := 1) rfl dX0_merge_0 ⟨by decide, by decide⟩ ?_
  refine x_istore_n (p2 := 2) (i := 2) (L2 := [(0, _), (1, _), (2, _)]) rfl dX0_merge_1 rfl ⟨rfl, Nat.le_of_ble_eq_true rfl⟩ rfl ?_
  refine x_pick (L2 := [(0, _), (1, _), (2, _)]) [0, 1, 2] rfl ?_
  refine t_mg_l1 hC hS hd (M F 0).toNat 0 M hn8 (by omega) (by omega) (fun x a b => by omega) (fun x a b => by omega) (fun M5 f5 a5 b5 => ?_)
  have eF := f5 F (by omega) (by omega)
  have e1 := f5 (S + 1) (by omega) (by omega)
  have e2 := f5 (S + 2) (by omega) (by omega)
  have e3 := f5 (S + 3) (by omega) (by omega)
  have hG35 : wfG (M5 F 0) (M5 (S + 1)) (M5 (S + 2)) (M5 (S + 3)) := by rw [eF, e1, e2, e3]; exact hG
  refine x_aload_n (p2 := 34) rfl dX0_merge_33 rfl ?_
  refine x_aload_n (p2 := 35) rfl dX0_merge_34 rfl ?_
  refine x_v1 (p2 := 38) rfl dX0_merge_35 l_0_39 ok_X0_sortEdges rfl hC.sh rfl ?_
  refine t_X0_sortEdges hC hS hd hG35 (fun M35 hf35 hm35 hr35 hp35 hE35 hl35 hk35 => ?_)
  refine x_iconst (p2 := 39) rfl dX0_merge_38 ⟨by decide, by decide⟩ ?_
  refine x_istore_n (p2 := 40) (i := 2) (L2 := [(0, _), (1, _), (2, _)]) rfl dX0_merge_39 rfl ⟨rfl, Nat.le_of_ble_eq_true rfl⟩ rfl ?_
  refine x_pick (L2 := [(0, _), (1, _), (2, _)]) [0, 1, 2] rfl ?_
  have eF2 := hf35 F (by omega) (by omega)
  have e12 := hf35 (S + 1) (by omega) (by omega)
  have e22 := hf35 (S + 2) (by omega) (by omega)
  have e32 := hf35 (S + 3) (by omega) (by omega)
  have e42 := hf35 (C + 1) (by omega) (by omega)
  have e52 := hf35 (C + 2) (by omega) (by omega)
  refine t_mg_l2 (z := (fun x => x, fun _ => -1)) hC hS hd (M35 C 3).toNat 0 M35 (by rw [eF2, e12, e22, e32]; exact hG35) (by omega) (by omega) hl35 (by rw [eF2, e12]; exact hE35) (fun x a b => ?_) (by rw [eF2, e42, eF]; exact a5) (by rw [eF2, e52, eF]; exact b5) (fun M6 c1 c2 c3 c4 => ?_)
  · rw [eF2, eF] at b
    exact ⟨a, by rw [eF2, eF]; exact b, (show (-1 : Int) ≤ -1 by decide), by rw [eF2, eF]; dsimp only; omega⟩
  · have em : mgf (M35 (S + 2)) (M35 (C + 3)) (M35 C 3).toNat 0 (fun x => x, fun _ => -1) = mrg (M F 0) (M (S + 1)) (M (S + 2)) (M (S + 3)) (M5 (C + 3)) := by
      unfold mrg
      rw [hr35, hm35, e22, e2, e1, e3, eF]
    rw [em, eF2, eF] at c2 c3 c4
    exact hq M6 (M5 (C + 3)) (fun c hc => by rw [c1 c (by omega) (by omega), hf35 c (by omega) (by omega), f5 c (by omega) (by omega)]) c2 c3 c4
end XCH
