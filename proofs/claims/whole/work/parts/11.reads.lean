section XT
variable {G : xG} {σ : List (Nat × Nat)} {ρ : Nat → Int → Option Nat} {M : Nat → Int → Int} {Q : Option xV → xH → Prop}
/-- f i + f (i + 1) + .. , k of them -/
def sg (f : Int → Int) : Int → Nat → Int
  | _, 0 => 0
  | i, k + 1 => f i + sg f (i + 1) k
def fa (n : Int) (od : Int → Int) (hot i : Int) : Int := if i + 1 = hot ∨ n ≤ i + 1 then -1 else od (i + 1)
def pcst (ex tg ct : Int → Int) (b k f : Int) : Int := if tg (2 * b + k) = f then 0 else if ex b = 1 then 2 else if tg (2 * b + (1 - k)) = f then 3 else if k = (if ct (2 * b + 0) < ct (2 * b + 1) then 1 else 0) then 3 else 2
def shr (ex tg ct : Int → Int) (b f : Int) : Int := sg (fun k => ct (2 * b + k) * pcst ex tg ct b k f) 0 (ex b).toNat
def tcs (n : Int) (ex tg ct od : Int → Int) (hot : Int) : Int := sg (fun i => shr ex tg ct (od i) (fa n od hot i)) 0 n.toNat
def rnf (ex tg ct : Int → Int) (b f : Int) : Int := sg (fun k => if tg (2 * f + k) = b then ct (2 * f + k) else 0) 0 (ex f).toNat
def rns (n en : Int) (ex tg ct : Int → Int) (b : Int) : Int := (if b = 0 then en else 0) + sg (rnf ex tg ct b) 0 n.toNat
def bbf (ex tg : Int → Int) (b f : Int) : Int := sg (fun k => if tg (2 * b + k) = f then 0 else 2) 0 (ex b).toNat
def wfB (n : Int) (ex tg ct : Int → Int) (b : Int) : Prop := 0 ≤ ex b ∧ ex b ≤ 2 ∧ (∀ k, 0 ≤ k → k < ex b → 0 ≤ tg (2 * b + k) ∧ tg (2 * b + k) < n ∧ 0 ≤ ct (2 * b + k) ∧ ct (2 * b + k) ≤ 99) ∧ (ex b = 2 → tg (2 * b + 0) ≠ tg (2 * b + 1))
def wfG (n : Int) (ex tg ct : Int → Int) : Prop := 1 ≤ n ∧ n ≤ 8 ∧ ∀ b, 0 ≤ b → b < n → wfB n ex tg ct b
def wfO (n : Int) (od : Int → Int) (hot : Int) : Prop := (∀ i, 0 ≤ i → i < n → 0 ≤ od i ∧ od i < n) ∧ (∀ i j, 0 ≤ i → i < n → 0 ≤ j → j < n → od i = od j → i = j) ∧ od 0 = 0 ∧ 1 ≤ hot ∧ hot ≤ n
theorem sg_bd {f : Int → Int} {c : Int} : ∀ (k : Nat) (i : Int), (∀ j, i ≤ j → j < i + k → 0 ≤ f j ∧ f j ≤ c) → 0 ≤ sg f i k ∧ sg f i k ≤ c * k
  | 0, i, h => by simp [sg]
  | k + 1, i, h => by
    have h1 := h i (by omega) (by omega)
    have h2 := sg_bd k (i + 1) (fun j a b => h j (by omega) (by omega))
    unfold sg
    have e : c * ((k + 1 : Nat) : Int) = c * (k : Int) + c := by
      rw [Int.natCast_add, Int.mul_add]; simp
    rw [e]
    omega
theorem sg_cong {f g : Int → Int} : ∀ (k : Nat) (i : Int), (∀ j, i ≤ j → j < i + k → f j = g j) → sg f i k = sg g i k
  | 0, i, h => rfl
  | k + 1, i, h => by
    unfold sg
    rw [h i (by omega) (by omega), sg_cong k (i + 1) (fun j a b => h j (by omega) (by omega))]
theorem pcst_bd {ex tg ct : Int → Int} {b k f : Int} : 0 ≤ pcst ex tg ct b k f ∧ pcst ex tg ct b k f ≤ 3 := by
  unfold pcst
  repeat' split
  all_goals omega
theorem mul_bd {a b : Int} (h1 : 0 ≤ a) (h2 : a ≤ 99) (h3 : 0 ≤ b) (h4 : b ≤ 3) : 0 ≤ a * b ∧ a * b ≤ 297 := by
  rcases (by omega : b = 0 ∨ b = 1 ∨ b = 2 ∨ b = 3) with rfl | rfl | rfl | rfl <;> omega
theorem shr_bd {n : Int} {ex tg ct : Int → Int} {b f : Int} (h : wfB n ex tg ct b) : 0 ≤ shr ex tg ct b f ∧ shr ex tg ct b f ≤ 594 := by
  obtain ⟨h0, h1, h2, -⟩ := h
  have := sg_bd (f := fun k => ct (2 * b + k) * pcst ex tg ct b k f) (c := 297) (ex b).toNat 0 (fun j a c => by
    have h3 := h2 j a (by omega)
    have h4 := pcst_bd (ex := ex) (tg := tg) (ct := ct) (b := b) (k := j) (f := f)
    exact mul_bd h3.2.2.1 h3.2.2.2 h4.1 h4.2)
  unfold shr
  omega
theorem rnf_bd {n : Int} {ex tg ct : Int → Int} {b f : Int} (h : wfB n ex tg ct f) : 0 ≤ rnf ex tg ct b f ∧ rnf ex tg ct b f ≤ 198 := by
  obtain ⟨h0, h1, h2, -⟩ := h
  have := sg_bd (f := fun k => if tg (2 * f + k) = b then ct (2 * f + k) else 0) (c := 99) (ex f).toNat 0 (fun j a c => by
    have h3 := h2 j a (by omega)
    split <;> omega)
  unfold rnf
  omega
set_option maxHeartbeats 4000000 in
theorem t_X7_hasEdge {S F : Nat} {b k : Int} (hS : isSt σ ρ S F) (hn : M F 0 ≤ 8) (k1 : 0 ≤ b ∧ b < M F 0 ∧ 0 ≤ k ∧ k < M (S + 1) b → Q (some (xI 1)) (σ, ρ, M)) (k0 : ¬ (0 ≤ b ∧ b < M F 0 ∧ 0 ≤ k ∧ k < M (S + 1) b) → Q (some (xI 0)) (σ, ρ, M)) : xX G mX7_hasEdge 0 0 0 [(0, xP S), (1, xI b), (2, xI k)] [] (σ, ρ, M) Q := by
  refine x_aload_n (p2 := 1) rfl dX7_hasEdge_0 rfl ?_
  refine x_getr (p2 := 4) (kz := 0) rfl dX7_hasEdge_1 f_7_31 rfl rfl hS.sh hS.r0 ?_
  refine x_iload_n (p2 := 5) rfl dX7_hasEdge_4 rfl ?_
  refine x_v1 (p2 := 8) rfl dX7_hasEdge_5 l_7_46 ok_X1_hasBlock rfl hS.fr.sh rfl ?_
  refine t_X1_hasBlock hS.fr (fun hb5 => ?_) (fun hb5 => ?_)
  · skip
    refine x_if_eq (p2 := 11) (t := 29) (by decide) rfl dX7_hasEdge_8 (fun hc => absurd hc (by decide)) (fun _ => ?_)
    refine x_iload_n (p2 := 12) rfl dX7_hasEdge_11 rfl ?_
    refine x_if_lt (p2 := 15) (t := 29) (by decide) rfl dX7_hasEdge_12 (fun hc12 => ?_) (fun hc12 => ?_)
    · skip
      refine x_iconst (p2 := 30) rfl dX7_hasEdge_29 ⟨by decide, by decide⟩ ?_
      refine x_zret dX7_hasEdge_30 rfl (by omega) ?_
      exact k0 (by omega)
    · skip
      refine x_iload_n (p2 := 16) rfl dX7_hasEdge_15 rfl ?_
      refine x_aload_n (p2 := 17) rfl dX7_hasEdge_16 rfl ?_
      refine x_getr (p2 := 20) (kz := 1) rfl dX7_hasEdge_17 f_7_9 rfl rfl hS.sh hS.r1 ?_
      refine x_iload_n (p2 := 21) rfl dX7_hasEdge_20 rfl ?_
      refine x_iald (p2 := 22) rfl dX7_hasEdge_21 hS.a1 (by omega) (by omega) ?_
      refine x_ic_ge (p2 := 25) (t := 29) (by decide) rfl dX7_hasEdge_22 (fun hc22 => ?_) (fun hc22 => ?_)
      · skip
        refine x_iconst (p2 := 30) rfl dX7_hasEdge_29 ⟨by decide, by decide⟩ ?_
        refine x_zret dX7_hasEdge_30 rfl (by omega) ?_
        exact k0 (by omega)
      · skip
        refine x_iconst (p2 := 26) rfl dX7_hasEdge_25 ⟨by decide, by decide⟩ ?_
        refine x_goto (t := 30) (by decide) dX7_hasEdge_26 ?_
        refine x_zret dX7_hasEdge_30 rfl (by omega) ?_
        exact k1 (by omega)
  · skip
    refine x_if_eq (p2 := 11) (t := 29) (by decide) rfl dX7_hasEdge_8 (fun _ => ?_) (fun hc => absurd hc (by decide))
    refine x_iconst (p2 := 30) rfl dX7_hasEdge_29 ⟨by decide, by decide⟩ ?_
    refine x_zret dX7_hasEdge_30 rfl (by omega) ?_
    exact k0 (by omega)
set_option maxHeartbeats 4000000 in
theorem t_leadsTo_l {S F : Nat} {b c : Int} (hS : isSt σ ρ S F) (hb : 0 ≤ b ∧ b < 8) (hx : M (S + 1) b ≤ 2) (k1 : (∃ j, 0 ≤ j ∧ j < M (S + 1) b ∧ M (S + 2) (2 * b + j) = c) → Q (some (xI 1)) (σ, ρ, M)) (k0 : (∀ j, 0 ≤ j → j < M (S + 1) b → M (S + 2) (2 * b + j) ≠ c) → Q (some (xI 0)) (σ, ρ, M)) : ∀ (n : Nat) (k : Int), 0 ≤ k → k + n = M (S + 1) b → (∀ j, 0 ≤ j → j < k → M (S + 2) (2 * b + j) ≠ c) → xX G mX7_leadsTo 0 0 2 [(0, xP S), (1, xI b), (2, xI c), (3, xI k)] [] (σ, ρ, M) Q := by
  intro n
  induction n with
  | zero =>
    intro k h0 hk hp
    refine x_iload_n (p2 := 3) rfl dX7_leadsTo_2 rfl ?_
    refine x_aload_n (p2 := 4) rfl dX7_leadsTo_3 rfl ?_
    refine x_getr (p2 := 7) (kz := 1) rfl dX7_leadsTo_4 f_7_9 rfl rfl hS.sh hS.r1 ?_
    refine x_iload_n (p2 := 8) rfl dX7_leadsTo_7 rfl ?_
    refine x_iald (p2 := 9) rfl dX7_leadsTo_8 hS.a1 (by omega) (by omega) ?_
    refine x_ic_ge (p2 := 12) (t := 34) (by decide) rfl dX7_leadsTo_9 (fun hc9 => ?_) (fun hc9 => absurd hc9 (by omega))
    refine x_iconst (p2 := 35) rfl dX7_leadsTo_34 ⟨by decide, by decide⟩ ?_
    refine x_zret dX7_leadsTo_35 rfl (by omega) ?_
    exact k0 (fun j a1 a2 => hp j a1 (by omega))
  | succ n ih =>
    intro k h0 hk hp
    refine x_iload_n (p2 := 3) rfl dX7_leadsTo_2 rfl ?_
    refine x_aload_n (p2 := 4) rfl dX7_leadsTo_3 rfl ?_
    refine x_getr (p2 := 7) (kz := 1) rfl dX7_leadsTo_4 f_7_9 rfl rfl hS.sh hS.r1 ?_
    refine x_iload_n (p2 := 8) rfl dX7_leadsTo_7 rfl ?_
    refine x_iald (p2 := 9) rfl dX7_leadsTo_8 hS.a1 (by omega) (by omega) ?_
    refine x_ic_ge (p2 := 12) (t := 34) (by decide) rfl dX7_leadsTo_9 (fun hc9 => ?_) (fun hc9 => ?_)
    · exact absurd hc9 (by omega)
    refine x_aload_n (p2 := 13) rfl dX7_leadsTo_12 rfl ?_
    refine x_getr (p2 := 16) (kz := 2) rfl dX7_leadsTo_13 f_7_15 rfl rfl hS.sh hS.r2 ?_
    refine x_iconst (p2 := 17) rfl dX7_leadsTo_16 ⟨by decide, by decide⟩ ?_
    refine x_iload_n (p2 := 18) rfl dX7_leadsTo_17 rfl ?_
    refine x_imul (p2 := 19) rfl dX7_leadsTo_18 ⟨by omega, by omega⟩ ?_
    refine x_iload_n (p2 := 20) rfl dX7_leadsTo_19 rfl ?_
    refine x_iadd (p2 := 21) rfl dX7_leadsTo_20 ⟨by omega, by omega⟩ ?_
    refine x_iald (p2 := 22) rfl dX7_leadsTo_21 hS.a2 (by omega) (by omega) ?_
    refine x_iload_n (p2 := 23) rfl dX7_leadsTo_22 rfl ?_
    refine x_ic_ne (p2 := 26) (t := 28) (by decide) rfl dX7_leadsTo_23 (fun hc23 => ?_) (fun hc23 => ?_)
    · skip
      refine x_iinc (p2 := 31) (L2 := [(0, _), (1, _), (2, _), (3, _)]) rfl dX7_leadsTo_28 rfl ⟨by omega, by omega⟩ ⟨rfl, Nat.le_of_ble_eq_true rfl⟩ rfl ?_
      refine x_goto (t := 2) (by decide) dX7_leadsTo_31 ?_
      refine x_pick (L2 := [(0, _), (1, _), (2, _), (3, _)]) [0, 1, 2, 3] rfl ?_
      exact ih (k + 1) (by omega) (by omega) (fun j a1 a2 => by
        rcases Int.lt_or_eq_of_le (show j ≤ k by omega) with q | q
        · exact hp j a1 q
        · rw [q]; exact hc23)
    · skip
      refine x_iconst (p2 := 27) rfl dX7_leadsTo_26 ⟨by decide, by decide⟩ ?_
      refine x_zret dX7_leadsTo_27 rfl (by omega) ?_
      exact k1 ⟨k, h0, by omega, hc23⟩
set_option maxHeartbeats 4000000 in
theorem t_X7_leadsTo {S F : Nat} {b c : Int} (hS : isSt σ ρ S F) (hb : 0 ≤ b ∧ b < 8) (hx : 0 ≤ M (S + 1) b ∧ M (S + 1) b ≤ 2) (k1 : (∃ j, 0 ≤ j ∧ j < M (S + 1) b ∧ M (S + 2) (2 * b + j) = c) → Q (some (xI 1)) (σ, ρ, M)) (k0 : (∀ j, 0 ≤ j → j < M (S + 1) b → M (S + 2) (2 * b + j) ≠ c) → Q (some (xI 0)) (σ, ρ, M)) : xX G mX7_leadsTo 0 0 0 [(0, xP S), (1, xI b), (2, xI c)] [] (σ, ρ, M) Q := by
  refine x_iconst (p2 := 1) rfl dX7_leadsTo_0 ⟨by decide, by decide⟩ ?_
  refine x_istore_n (p2 := 2) (i := 3) (L2 := [(0, _), (1, _), (2, _), (3, _)]) rfl dX7_leadsTo_1 rfl ⟨rfl, Nat.le_of_ble_eq_true rfl⟩ rfl ?_
  refine x_pick (L2 := [(0, _), (1, _), (2, _), (3, _)]) [0, 1, 2, 3] rfl ?_
  exact t_leadsTo_l hS hb hx.2 k1 k0 (M (S + 1) b).toNat 0 (by omega) (by omega) (fun j a1 a2 => by omega)
set_option maxHeartbeats 4000000 in
theorem t_X7_followerAt {S F : Nat} {i : Int} (hS : isSt σ ρ S F) (hn : M F 0 ≤ 8) (hi : 0 ≤ i ∧ i < 8) (hq : Q (some (xI (fa (M F 0) (M (S + 4)) (M S 5) i))) (σ, ρ, M)) : xX G mX7_followerAt 0 0 0 [(0, xP S), (1, xI i)] [] (σ, ρ, M) Q := by
  refine x_iload_n (p2 := 1) rfl dX7_followerAt_0 rfl ?_
  refine x_iconst (p2 := 2) rfl dX7_followerAt_1 ⟨by decide, by decide⟩ ?_
  refine x_iadd (p2 := 3) rfl dX7_followerAt_2 ⟨by omega, by omega⟩ ?_
  refine x_istore_n (p2 := 4) (i := 2) (L2 := [(0, _), (1, _), (2, _)]) rfl dX7_followerAt_3 rfl ⟨rfl, Nat.le_of_ble_eq_true rfl⟩ rfl ?_
  refine x_iload_n (p2 := 5) rfl dX7_followerAt_4 rfl ?_
  refine x_aload_n (p2 := 6) rfl dX7_followerAt_5 rfl ?_
  refine x_geti (p2 := 9) (kz := 5) rfl dX7_followerAt_6 f_7_24 rfl rfl hS.sh ?_
  refine x_ic_eq (p2 := 12) (t := 23) (by decide) rfl dX7_followerAt_9 (fun hc9 => ?_) (fun hc9 => ?_)
  · skip
    refine x_iconst (p2 := 24) rfl dX7_followerAt_23 ⟨by decide, by decide⟩ ?_
    refine x_goto (t := 33) (by decide) dX7_followerAt_24 ?_
    refine x_iret dX7_followerAt_33 rfl ?_
    have e : fa (M F 0) (M (S + 4)) (M S 5) i = -1 := if_pos (by omega)
    rw [e] at hq; exact hq
  · skip
    refine x_iload_n (p2 := 13) rfl dX7_followerAt_12 rfl ?_
    refine x_aload_n (p2 := 14) rfl dX7_followerAt_13 rfl ?_
    refine x_getr (p2 := 17) (kz := 0) rfl dX7_followerAt_14 f_7_31 rfl rfl hS.sh hS.r0 ?_
    refine x_geti (p2 := 20) (kz := 0) rfl dX7_followerAt_17 f_7_41 rfl rfl hS.fr.sh ?_
    refine x_ic_lt (p2 := 23) (t := 27) (by decide) rfl dX7_followerAt_20 (fun hc20 => ?_) (fun hc20 => ?_)
    · skip
      refine x_aload_n (p2 := 28) rfl dX7_followerAt_27 rfl ?_
      refine x_getr (p2 := 31) (kz := 4) rfl dX7_followerAt_28 f_7_21 rfl rfl hS.sh hS.r4 ?_
      refine x_iload_n (p2 := 32) rfl dX7_followerAt_31 rfl ?_
      refine x_iald (p2 := 33) rfl dX7_followerAt_32 hS.a4 (by omega) (by omega) ?_
      refine x_iret dX7_followerAt_33 rfl ?_
      have e : fa (M F 0) (M (S + 4)) (M S 5) i = M (S + 4) (i + 1) := if_neg (by omega)
      rw [e] at hq; exact hq
    · skip
      refine x_iconst (p2 := 24) rfl dX7_followerAt_23 ⟨by decide, by decide⟩ ?_
      refine x_goto (t := 33) (by decide) dX7_followerAt_24 ?_
      refine x_iret dX7_followerAt_33 rfl ?_
      have e : fa (M F 0) (M (S + 4)) (M S 5) i = -1 := if_pos (by omega)
      rw [e] at hq; exact hq
set_option maxHeartbeats 4000000 in
theorem t_followerOf_l {S F : Nat} {b i : Int} (hS : isSt σ ρ S F) (hn : M F 0 ≤ 8) (hi : 0 ≤ i ∧ i < M F 0) (he : M (S + 4) i = b) (hj : ∀ j, 0 ≤ j → j < M F 0 → M (S + 4) j = b → j = i) (hq : Q (some (xI (fa (M F 0) (M (S + 4)) (M S 5) i))) (σ, ρ, M)) : ∀ (n : Nat) (k : Int), 0 ≤ k → k + n = i → xX G mX7_followerOf 0 0 2 [(0, xP S), (1, xI b), (2, xI k)] [] (σ, ρ, M) Q := by
  intro n
  induction n with
  | zero =>
    intro k h0 hk
    have ek : k = i := by omega
    subst ek
    refine x_iload_n (p2 := 3) rfl dX7_followerOf_2 rfl ?_
    refine x_aload_n (p2 := 4) rfl dX7_followerOf_3 rfl ?_
    refine x_getr (p2 := 7) (kz := 0) rfl dX7_followerOf_4 f_7_31 rfl rfl hS.sh hS.r0 ?_
    refine x_geti (p2 := 10) (kz := 0) rfl dX7_followerOf_7 f_7_41 rfl rfl hS.fr.sh ?_
    refine x_ic_ge (p2 := 13) (t := 35) (by decide) rfl dX7_followerOf_10 (fun hc10 => ?_) (fun hc10 => ?_)
    · exact absurd hc10 (by omega)
    refine x_aload_n (p2 := 14) rfl dX7_followerOf_13 rfl ?_
    refine x_getr (p2 := 17) (kz := 4) rfl dX7_followerOf_14 f_7_21 rfl rfl hS.sh hS.r4 ?_
    refine x_iload_n (p2 := 18) rfl dX7_followerOf_17 rfl ?_
    refine x_iald (p2 := 19) rfl dX7_followerOf_18 hS.a4 (by omega) (by omega) ?_
    refine x_iload_n (p2 := 20) rfl dX7_followerOf_19 rfl ?_
    refine x_ic_ne (p2 := 23) (t := 29) (by decide) rfl dX7_followerOf_20 (fun hc20 => ?_) (fun hc20 => ?_)
    · exact absurd hc20 (fun z => z he)
    refine x_aload_n (p2 := 24) rfl dX7_followerOf_23 rfl ?_
    refine x_iload_n (p2 := 25) rfl dX7_followerOf_24 rfl ?_
    refine x_v1 (p2 := 28) rfl dX7_followerOf_25 l_7_60 ok_X7_followerAt rfl hS.sh rfl ?_
    refine t_X7_followerAt hS (by omega) (by omega) ?_
    refine x_iret dX7_followerOf_28 rfl ?_
    exact hq
  | succ n ih =>
    intro k h0 hk
    refine x_iload_n (p2 := 3) rfl dX7_followerOf_2 rfl ?_
    refine x_aload_n (p2 := 4) rfl dX7_followerOf_3 rfl ?_
    refine x_getr (p2 := 7) (kz := 0) rfl dX7_followerOf_4 f_7_31 rfl rfl hS.sh hS.r0 ?_
    refine x_geti (p2 := 10) (kz := 0) rfl dX7_followerOf_7 f_7_41 rfl rfl hS.fr.sh ?_
    refine x_ic_ge (p2 := 13) (t := 35) (by decide) rfl dX7_followerOf_10 (fun hc10 => ?_) (fun hc10 => ?_)
    · exact absurd hc10 (by omega)
    refine x_aload_n (p2 := 14) rfl dX7_followerOf_13 rfl ?_
    refine x_getr (p2 := 17) (kz := 4) rfl dX7_followerOf_14 f_7_21 rfl rfl hS.sh hS.r4 ?_
    refine x_iload_n (p2 := 18) rfl dX7_followerOf_17 rfl ?_
    refine x_iald (p2 := 19) rfl dX7_followerOf_18 hS.a4 (by omega) (by omega) ?_
    refine x_iload_n (p2 := 20) rfl dX7_followerOf_19 rfl ?_
    refine x_ic_ne (p2 := 23) (t := 29) (by decide) rfl dX7_followerOf_20 (fun hc20 => ?_) (fun hc20 => absurd hc20 (fun z => absurd (hj k (by omega) (by omega) z) (by omega)))
    refine x_iinc (p2 := 32) (L2 := [(0, _), (1, _), (2, _)]) rfl dX7_followerOf_29 rfl ⟨by omega, by omega⟩ ⟨rfl, Nat.le_of_ble_eq_true rfl⟩ rfl ?_
    refine x_goto (t := 2) (by decide) dX7_followerOf_32 ?_
    refine x_pick (L2 := [(0, _), (1, _), (2, _)]) [0, 1, 2] rfl ?_
    exact ih (k + 1) (by omega) (by omega)
set_option maxHeartbeats 4000000 in
theorem t_X7_followerOf {S F : Nat} {b i : Int} (hS : isSt σ ρ S F) (hn : M F 0 ≤ 8) (hi : 0 ≤ i ∧ i < M F 0) (he : M (S + 4) i = b) (hj : ∀ j, 0 ≤ j → j < M F 0 → M (S + 4) j = b → j = i) (hq : Q (some (xI (fa (M F 0) (M (S + 4)) (M S 5) i))) (σ, ρ, M)) : xX G mX7_followerOf 0 0 0 [(0, xP S), (1, xI b)] [] (σ, ρ, M) Q := by
  refine x_iconst (p2 := 1) rfl dX7_followerOf_0 ⟨by decide, by decide⟩ ?_
  refine x_istore_n (p2 := 2) (i := 2) (L2 := [(0, _), (1, _), (2, _)]) rfl dX7_followerOf_1 rfl ⟨rfl, Nat.le_of_ble_eq_true rfl⟩ rfl ?_
  refine x_pick (L2 := [(0, _), (1, _), (2, _)]) [0, 1, 2] rfl ?_
  exact t_followerOf_l hS hn hi he hj hq i.toNat 0 (by omega) (by omega)
set_option maxHeartbeats 4000000 in
theorem t_bbb_l {S F : Nat} {b f : Int} (hS : isSt σ ρ S F) (hb : 0 ≤ b ∧ b < 8) (hx : M (S + 1) b ≤ 2) : ∀ (n : Nat) (k s : Int), 0 ≤ k → k + n = M (S + 1) b → 0 ≤ s → s ≤ 2 * k → Q (some (xI (s + sg (fun k => if M (S + 2) (2 * b + k) = f then 0 else 2) k n))) (σ, ρ, M) → xX G mX7_branchBytesBefore 0 0 5 [(0, xP S), (1, xI b), (2, xI f), (3, xI s), (4, xI k)] [] (σ, ρ, M) Q := by
  intro n
  induction n with
  | zero =>
    intro k s h0 hk hs1 hs2 hq
    rw [show sg (fun k => if M (S + 2) (2 * b + k) = f then 0 else 2) k 0 = 0 from rfl, Int.add_zero] at hq
    refine x_iload (p2 := 7) rfl dX7_branchBytesBefore_5 rfl ?_
    refine x_aload_n (p2 := 8) rfl dX7_branchBytesBefore_7 rfl ?_
    refine x_getr (p2 := 11) (kz := 1) rfl dX7_branchBytesBefore_8 f_7_9 rfl rfl hS.sh hS.r1 ?_
    refine x_iload_n (p2 := 12) rfl dX7_branchBytesBefore_11 rfl ?_
    refine x_iald (p2 := 13) rfl dX7_branchBytesBefore_12 hS.a1 (by omega) (by omega) ?_
    refine x_ic_ge (p2 := 16) (t := 36) (by decide) rfl dX7_branchBytesBefore_13 (fun hc13 => ?_) (fun hc13 => absurd hc13 (by omega))
    refine x_iload_n (p2 := 37) rfl dX7_branchBytesBefore_36 rfl ?_
    refine x_iret dX7_branchBytesBefore_37 rfl ?_
    exact hq
  | succ n ih =>
    intro k s h0 hk hs1 hs2 hq
    refine x_iload (p2 := 7) rfl dX7_branchBytesBefore_5 rfl ?_
    refine x_aload_n (p2 := 8) rfl dX7_branchBytesBefore_7 rfl ?_
    refine x_getr (p2 := 11) (kz := 1) rfl dX7_branchBytesBefore_8 f_7_9 rfl rfl hS.sh hS.r1 ?_
    refine x_iload_n (p2 := 12) rfl dX7_branchBytesBefore_11 rfl ?_
    refine x_iald (p2 := 13) rfl dX7_branchBytesBefore_12 hS.a1 (by omega) (by omega) ?_
    refine x_ic_ge (p2 := 16) (t := 36) (by decide) rfl dX7_branchBytesBefore_13 (fun hc13 => ?_) (fun hc13 => ?_)
    · exact absurd hc13 (by omega)
    refine x_aload_n (p2 := 17) rfl dX7_branchBytesBefore_16 rfl ?_
    refine x_iload_n (p2 := 18) rfl dX7_branchBytesBefore_17 rfl ?_
    refine x_iload (p2 := 20) rfl dX7_branchBytesBefore_18 rfl ?_
    refine x_v2 (p2 := 23) rfl dX7_branchBytesBefore_20 l_7_53 ok_X7_target rfl hS.sh rfl ?_
    refine t_X7_target hS (by omega) (by omega) (by omega) (by omega) ?_
    refine x_iload_n (p2 := 24) rfl dX7_branchBytesBefore_23 rfl ?_
    refine x_ic_eq (p2 := 27) (t := 30) (by decide) rfl dX7_branchBytesBefore_24 (fun hc24 => ?_) (fun hc24 => ?_)
    · skip
      refine x_iinc (p2 := 33) (L2 := [(0, _), (1, _), (2, _), (3, _), (4, _)]) rfl dX7_branchBytesBefore_30 rfl ⟨by omega, by omega⟩ ⟨rfl, Nat.le_of_ble_eq_true rfl⟩ rfl ?_
      refine x_goto (t := 5) (by decide) dX7_branchBytesBefore_33 ?_
      refine x_pick (L2 := [(0, _), (1, _), (2, _), (3, _), (4, _)]) [0, 1, 2, 3, 4] rfl ?_
      refine ih _ _ (by omega) (by omega) (by omega) (by omega) ?_
      unfold sg at hq
      first
        | (rw [if_pos hc24, Int.zero_add] at hq; exact hq)
        | (rw [if_neg hc24, ← Int.add_assoc] at hq; exact hq)
    · skip
      refine x_iinc (p2 := 30) (L2 := [(0, _), (1, _), (2, _), (3, _), (4, _)]) rfl dX7_branchBytesBefore_27 rfl ⟨by omega, by omega⟩ ⟨rfl, Nat.le_of_ble_eq_true rfl⟩ rfl ?_
      refine x_iinc (p2 := 33) (L2 := [(0, _), (1, _), (2, _), (3, _), (4, _)]) rfl dX7_branchBytesBefore_30 rfl ⟨by omega, by omega⟩ ⟨rfl, Nat.le_of_ble_eq_true rfl⟩ rfl ?_
      refine x_goto (t := 5) (by decide) dX7_branchBytesBefore_33 ?_
      refine x_pick (L2 := [(0, _), (1, _), (2, _), (3, _), (4, _)]) [0, 1, 2, 3, 4] rfl ?_
      refine ih _ _ (by omega) (by omega) (by omega) (by omega) ?_
      unfold sg at hq
      first
        | (rw [if_pos hc24, Int.zero_add] at hq; exact hq)
        | (rw [if_neg hc24, ← Int.add_assoc] at hq; exact hq)
set_option maxHeartbeats 4000000 in
theorem t_X7_branchBytesBefore {S F : Nat} {b f : Int} (hS : isSt σ ρ S F) (hb : 0 ≤ b ∧ b < 8) (hx : 0 ≤ M (S + 1) b ∧ M (S + 1) b ≤ 2) (hq : Q (some (xI (bbf (M (S + 1)) (M (S + 2)) b f))) (σ, ρ, M)) : xX G mX7_branchBytesBefore 0 0 0 [(0, xP S), (1, xI b), (2, xI f)] [] (σ, ρ, M) Q := by
  refine x_iconst (p2 := 1) rfl dX7_branchBytesBefore_0 ⟨by decide, by decide⟩ ?_
  refine x_istore_n (p2 := 2) (i := 3) (L2 := [(0, _), (1, _), (2, _), (3, _)]) rfl dX7_branchBytesBefore_1 rfl ⟨rfl, Nat.le_of_ble_eq_true rfl⟩ rfl ?_
  refine x_iconst (p2 := 3) rfl dX7_branchBytesBefore_2 ⟨by decide, by decide⟩ ?_
  refine x_istore (p2 := 5) (i := 4) (L2 := [(0, _), (1, _), (2, _), (3, _), (4, _)]) rfl dX7_branchBytesBefore_3 ⟨rfl, Nat.le_of_ble_eq_true rfl⟩ rfl ?_
  refine x_pick (L2 := [(0, _), (1, _), (2, _), (3, _), (4, _)]) [0, 1, 2, 3, 4] rfl ?_
  refine t_bbb_l hS hb hx.2 (M (S + 1) b).toNat 0 0 (by omega) (by omega) (by omega) (by omega) ?_
  rw [Int.zero_add]; exact hq
set_option maxHeartbeats 4000000 in
theorem t_X7_passCost {S F : Nat} {b k f : Int} (hS : isSt σ ρ S F) (hb : 0 ≤ b ∧ b < 8) (hk : 0 ≤ k ∧ k < 2) (hq : Q (some (xI (pcst (M (S + 1)) (M (S + 2)) (M (S + 3)) b k f))) (σ, ρ, M)) : xX G mX7_passCost 0 0 0 [(0, xP S), (1, xI b), (2, xI k), (3, xI f)] [] (σ, ρ, M) Q := by
  unfold pcst at hq
  refine x_aload_n (p2 := 1) rfl dX7_passCost_0 rfl ?_
  refine x_iload_n (p2 := 2) rfl dX7_passCost_1 rfl ?_
  refine x_iload_n (p2 := 3) rfl dX7_passCost_2 rfl ?_
  refine x_v2 (p2 := 6) rfl dX7_passCost_3 l_7_53 ok_X7_target rfl hS.sh rfl ?_
  refine t_X7_target hS (by omega) (by omega) (by omega) (by omega) ?_
  refine x_iload_n (p2 := 7) rfl dX7_passCost_6 rfl ?_
  refine x_ic_ne (p2 := 10) (t := 12) (by decide) rfl dX7_passCost_7 (fun hc7 => ?_) (fun hc7 => ?_)
  · skip
    refine x_aload_n (p2 := 13) rfl dX7_passCost_12 rfl ?_
    refine x_getr (p2 := 16) (kz := 1) rfl dX7_passCost_13 f_7_9 rfl rfl hS.sh hS.r1 ?_
    refine x_iload_n (p2 := 17) rfl dX7_passCost_16 rfl ?_
    refine x_iald (p2 := 18) rfl dX7_passCost_17 hS.a1 (by omega) (by omega) ?_
    refine x_iconst (p2 := 19) rfl dX7_passCost_18 ⟨by decide, by decide⟩ ?_
    refine x_ic_ne (p2 := 22) (t := 24) (by decide) rfl dX7_passCost_19 (fun hc19 => ?_) (fun hc19 => ?_)
    · skip
      refine x_aload_n (p2 := 25) rfl dX7_passCost_24 rfl ?_
      refine x_iload_n (p2 := 26) rfl dX7_passCost_25 rfl ?_
      refine x_iconst (p2 := 27) rfl dX7_passCost_26 ⟨by decide, by decide⟩ ?_
      refine x_iload_n (p2 := 28) rfl dX7_passCost_27 rfl ?_
      refine x_isub (p2 := 29) rfl dX7_passCost_28 ⟨by omega, by omega⟩ ?_
      refine x_v2 (p2 := 32) rfl dX7_passCost_29 l_7_53 ok_X7_target rfl hS.sh rfl ?_
      refine t_X7_target hS (by omega) (by omega) (by omega) (by omega) ?_
      refine x_iload_n (p2 := 33) rfl dX7_passCost_32 rfl ?_
      refine x_ic_ne (p2 := 36) (t := 38) (by decide) rfl dX7_passCost_33 (fun hc33 => ?_) (fun hc33 => ?_)
      · skip
        refine x_aload_n (p2 := 39) rfl dX7_passCost_38 rfl ?_
        refine x_iload_n (p2 := 40) rfl dX7_passCost_39 rfl ?_
        refine x_iconst (p2 := 41) rfl dX7_passCost_40 ⟨by decide, by decide⟩ ?_
        refine x_v2 (p2 := 44) rfl dX7_passCost_41 l_7_57 ok_X7_count rfl hS.sh rfl ?_
        refine t_X7_count hS (by omega) (by omega) (by omega) (by omega) ?_
        refine x_aload_n (p2 := 45) rfl dX7_passCost_44 rfl ?_
        refine x_iload_n (p2 := 46) rfl dX7_passCost_45 rfl ?_
        refine x_iconst (p2 := 47) rfl dX7_passCost_46 ⟨by decide, by decide⟩ ?_
        refine x_v2 (p2 := 50) rfl dX7_passCost_47 l_7_57 ok_X7_count rfl hS.sh rfl ?_
        refine t_X7_count hS (by omega) (by omega) (by omega) (by omega) ?_
        refine x_ic_le (p2 := 53) (t := 57) (by decide) rfl dX7_passCost_50 (fun hc50 => ?_) (fun hc50 => ?_)
        · skip
          refine x_iconst (p2 := 58) rfl dX7_passCost_57 ⟨by decide, by decide⟩ ?_
          refine x_istore (p2 := 60) (i := 4) (L2 := [(0, _), (1, _), (2, _), (3, _), (4, _)]) rfl dX7_passCost_58 ⟨rfl, Nat.le_of_ble_eq_true rfl⟩ rfl ?_
          refine x_iload_n (p2 := 61) rfl dX7_passCost_60 rfl ?_
          refine x_iload (p2 := 63) rfl dX7_passCost_61 rfl ?_
          refine x_ic_ne (p2 := 66) (t := 70) (by decide) rfl dX7_passCost_63 (fun hc63 => ?_) (fun hc63 => ?_)
          · skip
            refine x_iconst (p2 := 71) rfl dX7_passCost_70 ⟨by decide, by decide⟩ ?_
            refine x_iret dX7_passCost_71 rfl ?_
            rw [if_neg hc7, if_neg hc19, if_neg hc33] at hq
            first
              | (rw [if_pos (show M (S + 3) (2 * b + 0) < M (S + 3) (2 * b + 1) by omega)] at hq; first | (rw [if_pos hc63] at hq; exact hq) | (rw [if_neg hc63] at hq; exact hq))
              | (rw [if_neg (show ¬ M (S + 3) (2 * b + 0) < M (S + 3) (2 * b + 1) by omega)] at hq; first | (rw [if_pos hc63] at hq; exact hq) | (rw [if_neg hc63] at hq; exact hq))
          · skip
            refine x_iconst (p2 := 67) rfl dX7_passCost_66 ⟨by decide, by decide⟩ ?_
            refine x_goto (t := 71) (by decide) dX7_passCost_67 ?_
            refine x_iret dX7_passCost_71 rfl ?_
            rw [if_neg hc7, if_neg hc19, if_neg hc33] at hq
            first
              | (rw [if_pos (show M (S + 3) (2 * b + 0) < M (S + 3) (2 * b + 1) by omega)] at hq; first | (rw [if_pos hc63] at hq; exact hq) | (rw [if_neg hc63] at hq; exact hq))
              | (rw [if_neg (show ¬ M (S + 3) (2 * b + 0) < M (S + 3) (2 * b + 1) by omega)] at hq; first | (rw [if_pos hc63] at hq; exact hq) | (rw [if_neg hc63] at hq; exact hq))
        · skip
          refine x_iconst (p2 := 54) rfl dX7_passCost_53 ⟨by decide, by decide⟩ ?_
          refine x_goto (t := 58) (by decide) dX7_passCost_54 ?_
          refine x_istore (p2 := 60) (i := 4) (L2 := [(0, _), (1, _), (2, _), (3, _), (4, _)]) rfl dX7_passCost_58 ⟨rfl, Nat.le_of_ble_eq_true rfl⟩ rfl ?_
          refine x_iload_n (p2 := 61) rfl dX7_passCost_60 rfl ?_
          refine x_iload (p2 := 63) rfl dX7_passCost_61 rfl ?_
          refine x_ic_ne (p2 := 66) (t := 70) (by decide) rfl dX7_passCost_63 (fun hc63 => ?_) (fun hc63 => ?_)
          · skip
            refine x_iconst (p2 := 71) rfl dX7_passCost_70 ⟨by decide, by decide⟩ ?_
            refine x_iret dX7_passCost_71 rfl ?_
            rw [if_neg hc7, if_neg hc19, if_neg hc33] at hq
            first
              | (rw [if_pos (show M (S + 3) (2 * b + 0) < M (S + 3) (2 * b + 1) by omega)] at hq; first | (rw [if_pos hc63] at hq; exact hq) | (rw [if_neg hc63] at hq; exact hq))
              | (rw [if_neg (show ¬ M (S + 3) (2 * b + 0) < M (S + 3) (2 * b + 1) by omega)] at hq; first | (rw [if_pos hc63] at hq; exact hq) | (rw [if_neg hc63] at hq; exact hq))
          · skip
            refine x_iconst (p2 := 67) rfl dX7_passCost_66 ⟨by decide, by decide⟩ ?_
            refine x_goto (t := 71) (by decide) dX7_passCost_67 ?_
            refine x_iret dX7_passCost_71 rfl ?_
            rw [if_neg hc7, if_neg hc19, if_neg hc33] at hq
            first
              | (rw [if_pos (show M (S + 3) (2 * b + 0) < M (S + 3) (2 * b + 1) by omega)] at hq; first | (rw [if_pos hc63] at hq; exact hq) | (rw [if_neg hc63] at hq; exact hq))
              | (rw [if_neg (show ¬ M (S + 3) (2 * b + 0) < M (S + 3) (2 * b + 1) by omega)] at hq; first | (rw [if_pos hc63] at hq; exact hq) | (rw [if_neg hc63] at hq; exact hq))
      · skip
        refine x_iconst (p2 := 37) rfl dX7_passCost_36 ⟨by decide, by decide⟩ ?_
        refine x_iret dX7_passCost_37 rfl ?_
        rw [if_neg hc7, if_neg hc19, if_pos hc33] at hq; exact hq
    · skip
      refine x_iconst (p2 := 23) rfl dX7_passCost_22 ⟨by decide, by decide⟩ ?_
      refine x_iret dX7_passCost_23 rfl ?_
      rw [if_neg hc7, if_pos hc19] at hq; exact hq
  · skip
    refine x_iconst (p2 := 11) rfl dX7_passCost_10 ⟨by decide, by decide⟩ ?_
    refine x_iret dX7_passCost_11 rfl ?_
    rw [if_pos hc7] at hq; exact hq
set_option maxHeartbeats 4000000 in
theorem t_share_l {S F : Nat} {b f n0 : Int} (hS : isSt σ ρ S F) (hb : 0 ≤ b ∧ b < 8) (hx : wfB n0 (M (S + 1)) (M (S + 2)) (M (S + 3)) b) : ∀ (n : Nat) (k s : Int), 0 ≤ k → k + n = M (S + 1) b → 0 ≤ s → s ≤ 297 * k → Q (some (xI (s + sg (fun k => M (S + 3) (2 * b + k) * pcst (M (S + 1)) (M (S + 2)) (M (S + 3)) b k f) k n))) (σ, ρ, M) → xX G mX7_shareOfCost 0 0 5 [(0, xP S), (1, xI b), (2, xI f), (3, xI s), (4, xI k)] [] (σ, ρ, M) Q := by
  have hx2 := hx.2.1
  intro n
  induction n with
  | zero =>
    intro k s h0 hk hs1 hs2 hq
    rw [show sg (fun k => M (S + 3) (2 * b + k) * pcst (M (S + 1)) (M (S + 2)) (M (S + 3)) b k f) k 0 = 0 from rfl, Int.add_zero] at hq
    refine x_iload (p2 := 7) rfl dX7_shareOfCost_5 rfl ?_
    refine x_aload_n (p2 := 8) rfl dX7_shareOfCost_7 rfl ?_
    refine x_getr (p2 := 11) (kz := 1) rfl dX7_shareOfCost_8 f_7_9 rfl rfl hS.sh hS.r1 ?_
    refine x_iload_n (p2 := 12) rfl dX7_shareOfCost_11 rfl ?_
    refine x_iald (p2 := 13) rfl dX7_shareOfCost_12 hS.a1 (by omega) (by omega) ?_
    refine x_ic_ge (p2 := 16) (t := 41) (by decide) rfl dX7_shareOfCost_13 (fun hc13 => ?_) (fun hc13 => absurd hc13 (by omega))
    refine x_iload_n (p2 := 42) rfl dX7_shareOfCost_41 rfl ?_
    refine x_iret dX7_shareOfCost_42 rfl ?_
    exact hq
  | succ n ih =>
    intro k s h0 hk hs1 hs2 hq
    refine x_iload (p2 := 7) rfl dX7_shareOfCost_5 rfl ?_
    refine x_aload_n (p2 := 8) rfl dX7_shareOfCost_7 rfl ?_
    refine x_getr (p2 := 11) (kz := 1) rfl dX7_shareOfCost_8 f_7_9 rfl rfl hS.sh hS.r1 ?_
    refine x_iload_n (p2 := 12) rfl dX7_shareOfCost_11 rfl ?_
    refine x_iald (p2 := 13) rfl dX7_shareOfCost_12 hS.a1 (by omega) (by omega) ?_
    refine x_ic_ge (p2 := 16) (t := 41) (by decide) rfl dX7_shareOfCost_13 (fun hc13 => ?_) (fun hc13 => ?_)
    · exact absurd hc13 (by omega)
    have hw := hx.2.2.1 k h0 (by omega)
    have hp := pcst_bd (ex := M (S + 1)) (tg := M (S + 2)) (ct := M (S + 3)) (b := b) (k := k) (f := f)
    have hm := mul_bd hw.2.2.1 hw.2.2.2 hp.1 hp.2
    refine x_iload_n (p2 := 17) rfl dX7_shareOfCost_16 rfl ?_
    refine x_aload_n (p2 := 18) rfl dX7_shareOfCost_17 rfl ?_
    refine x_iload_n (p2 := 19) rfl dX7_shareOfCost_18 rfl ?_
    refine x_iload (p2 := 21) rfl dX7_shareOfCost_19 rfl ?_
    refine x_v2 (p2 := 24) rfl dX7_shareOfCost_21 l_7_57 ok_X7_count rfl hS.sh rfl ?_
    refine t_X7_count hS (by omega) (by omega) (by omega) (by omega) ?_
    refine x_aload_n (p2 := 25) rfl dX7_shareOfCost_24 rfl ?_
    refine x_iload_n (p2 := 26) rfl dX7_shareOfCost_25 rfl ?_
    refine x_iload (p2 := 28) rfl dX7_shareOfCost_26 rfl ?_
    refine x_iload_n (p2 := 29) rfl dX7_shareOfCost_28 rfl ?_
    refine x_v3 (p2 := 32) rfl dX7_shareOfCost_29 l_7_64 ok_X7_passCost rfl hS.sh rfl ?_
    refine t_X7_passCost hS (by omega) (by omega) ?_
    refine x_imul (p2 := 33) rfl dX7_shareOfCost_32 ⟨by omega, by omega⟩ ?_
    refine x_iadd (p2 := 34) rfl dX7_shareOfCost_33 ⟨by omega, by omega⟩ ?_
    refine x_istore_n (p2 := 35) (i := 3) (L2 := [(0, _), (1, _), (2, _), (3, _), (4, _)]) rfl dX7_shareOfCost_34 rfl ⟨rfl, Nat.le_of_ble_eq_true rfl⟩ rfl ?_
    refine x_iinc (p2 := 38) (L2 := [(0, _), (1, _), (2, _), (3, _), (4, _)]) rfl dX7_shareOfCost_35 rfl ⟨by omega, by omega⟩ ⟨rfl, Nat.le_of_ble_eq_true rfl⟩ rfl ?_
    refine x_goto (t := 5) (by decide) dX7_shareOfCost_38 ?_
    refine x_pick (L2 := [(0, _), (1, _), (2, _), (3, _), (4, _)]) [0, 1, 2, 3, 4] rfl ?_
    refine ih _ _ (by omega) (by omega) (by omega) (by omega) ?_
    unfold sg at hq
    rw [← Int.add_assoc] at hq
    exact hq
set_option maxHeartbeats 4000000 in
theorem t_X7_shareOfCost {S F : Nat} {b f n0 : Int} (hS : isSt σ ρ S F) (hb : 0 ≤ b ∧ b < 8) (hx : wfB n0 (M (S + 1)) (M (S + 2)) (M (S + 3)) b) (hq : Q (some (xI (shr (M (S + 1)) (M (S + 2)) (M (S + 3)) b f))) (σ, ρ, M)) : xX G mX7_shareOfCost 0 0 0 [(0, xP S), (1, xI b), (2, xI f)] [] (σ, ρ, M) Q := by
  have hx0 := hx.1
  refine x_iconst (p2 := 1) rfl dX7_shareOfCost_0 ⟨by decide, by decide⟩ ?_
  refine x_istore_n (p2 := 2) (i := 3) (L2 := [(0, _), (1, _), (2, _), (3, _)]) rfl dX7_shareOfCost_1 rfl ⟨rfl, Nat.le_of_ble_eq_true rfl⟩ rfl ?_
  refine x_iconst (p2 := 3) rfl dX7_shareOfCost_2 ⟨by decide, by decide⟩ ?_
  refine x_istore (p2 := 5) (i := 4) (L2 := [(0, _), (1, _), (2, _), (3, _), (4, _)]) rfl dX7_shareOfCost_3 ⟨rfl, Nat.le_of_ble_eq_true rfl⟩ rfl ?_
  refine x_pick (L2 := [(0, _), (1, _), (2, _), (3, _), (4, _)]) [0, 1, 2, 3, 4] rfl ?_
  refine t_share_l hS hb hx (M (S + 1) b).toNat 0 0 (by omega) (by omega) (by omega) (by omega) ?_
  rw [Int.zero_add]; exact hq
set_option maxHeartbeats 4000000 in
theorem t_total_l {S F : Nat} (hS : isSt σ ρ S F) (hG : wfG (M F 0) (M (S + 1)) (M (S + 2)) (M (S + 3))) (hO : wfO (M F 0) (M (S + 4)) (M S 5)) : ∀ (n : Nat) (i s : Int), 0 ≤ i → i + n = M F 0 → 0 ≤ s → s ≤ 594 * i → Q (some (xI (s + sg (fun i => shr (M (S + 1)) (M (S + 2)) (M (S + 3)) (M (S + 4) i) (fa (M F 0) (M (S + 4)) (M S 5) i)) i n))) (σ, ρ, M) → xX G mX7_totalCost 0 0 4 [(0, xP S), (1, xI s), (2, xI i)] [] (σ, ρ, M) Q := by
  have hn1 := hG.1
  have hn8 := hG.2.1
  intro n
  induction n with
  | zero =>
    intro i s h0 hk hs1 hs2 hq
    rw [show sg (fun i => shr (M (S + 1)) (M (S + 2)) (M (S + 3)) (M (S + 4) i) (fa (M F 0) (M (S + 4)) (M S 5) i)) i 0 = 0 from rfl, Int.add_zero] at hq
    refine x_iload_n (p2 := 5) rfl dX7_totalCost_4 rfl ?_
    refine x_aload_n (p2 := 6) rfl dX7_totalCost_5 rfl ?_
    refine x_getr (p2 := 9) (kz := 0) rfl dX7_totalCost_6 f_7_31 rfl rfl hS.sh hS.r0 ?_
    refine x_geti (p2 := 12) (kz := 0) rfl dX7_totalCost_9 f_7_41 rfl rfl hS.fr.sh ?_
    refine x_ic_ge (p2 := 15) (t := 39) (by decide) rfl dX7_totalCost_12 (fun hc12 => ?_) (fun hc12 => absurd hc12 (by omega))
    refine x_iload_n (p2 := 40) rfl dX7_totalCost_39 rfl ?_
    refine x_iret dX7_totalCost_40 rfl ?_
    exact hq
  | succ n ih =>
    intro i s h0 hk hs1 hs2 hq
    refine x_iload_n (p2 := 5) rfl dX7_totalCost_4 rfl ?_
    refine x_aload_n (p2 := 6) rfl dX7_totalCost_5 rfl ?_
    refine x_getr (p2 := 9) (kz := 0) rfl dX7_totalCost_6 f_7_31 rfl rfl hS.sh hS.r0 ?_
    refine x_geti (p2 := 12) (kz := 0) rfl dX7_totalCost_9 f_7_41 rfl rfl hS.fr.sh ?_
    refine x_ic_ge (p2 := 15) (t := 39) (by decide) rfl dX7_totalCost_12 (fun hc12 => ?_) (fun hc12 => ?_)
    · exact absurd hc12 (by omega)
    have ho := hO.1 i h0 (by omega)
    have hw := hG.2.2 _ ho.1 ho.2
    have hsh := shr_bd (f := fa (M F 0) (M (S + 4)) (M S 5) i) hw
    refine x_iload_n (p2 := 16) rfl dX7_totalCost_15 rfl ?_
    refine x_aload_n (p2 := 17) rfl dX7_totalCost_16 rfl ?_
    refine x_aload_n (p2 := 18) rfl dX7_totalCost_17 rfl ?_
    refine x_getr (p2 := 21) (kz := 4) rfl dX7_totalCost_18 f_7_21 rfl rfl hS.sh hS.r4 ?_
    refine x_iload_n (p2 := 22) rfl dX7_totalCost_21 rfl ?_
    refine x_iald (p2 := 23) rfl dX7_totalCost_22 hS.a4 (by omega) (by omega) ?_
    refine x_aload_n (p2 := 24) rfl dX7_totalCost_23 rfl ?_
    refine x_iload_n (p2 := 25) rfl dX7_totalCost_24 rfl ?_
    refine x_v1 (p2 := 28) rfl dX7_totalCost_25 l_7_60 ok_X7_followerAt rfl hS.sh rfl ?_
    refine t_X7_followerAt hS (by omega) (by omega) ?_
    refine x_v2 (p2 := 31) rfl dX7_totalCost_28 l_7_68 ok_X7_shareOfCost rfl hS.sh rfl ?_
    refine t_X7_shareOfCost hS (by omega) hw ?_
    refine x_iadd (p2 := 32) rfl dX7_totalCost_31 ⟨by omega, by omega⟩ ?_
    refine x_istore_n (p2 := 33) (i := 1) (L2 := [(0, _), (1, _), (2, _)]) rfl dX7_totalCost_32 rfl ⟨rfl, Nat.le_of_ble_eq_true rfl⟩ rfl ?_
    refine x_iinc (p2 := 36) (L2 := [(0, _), (1, _), (2, _)]) rfl dX7_totalCost_33 rfl ⟨by omega, by omega⟩ ⟨rfl, Nat.le_of_ble_eq_true rfl⟩ rfl ?_
    refine x_goto (t := 4) (by decide) dX7_totalCost_36 ?_
    refine x_pick (L2 := [(0, _), (1, _), (2, _)]) [0, 1, 2] rfl ?_
    refine ih _ _ (by omega) (by omega) (by omega) (by omega) ?_
    unfold sg at hq
    rw [← Int.add_assoc] at hq
    exact hq
set_option maxHeartbeats 4000000 in
theorem t_X7_totalCost {S F : Nat} (hS : isSt σ ρ S F) (hG : wfG (M F 0) (M (S + 1)) (M (S + 2)) (M (S + 3))) (hO : wfO (M F 0) (M (S + 4)) (M S 5)) (hq : Q (some (xI (tcs (M F 0) (M (S + 1)) (M (S + 2)) (M (S + 3)) (M (S + 4)) (M S 5)))) (σ, ρ, M)) : xX G mX7_totalCost 0 0 0 [(0, xP S)] [] (σ, ρ, M) Q := by
  have hn1 := hG.1
  refine x_iconst (p2 := 1) rfl dX7_totalCost_0 ⟨by decide, by decide⟩ ?_
  refine x_istore_n (p2 := 2) (i := 1) (L2 := [(0, _), (1, _)]) rfl dX7_totalCost_1 rfl ⟨rfl, Nat.le_of_ble_eq_true rfl⟩ rfl ?_
  refine x_iconst (p2 := 3) rfl dX7_totalCost_2 ⟨by decide, by decide⟩ ?_
  refine x_istore_n (p2 := 4) (i := 2) (L2 := [(0, _), (1, _), (2, _)]) rfl dX7_totalCost_3 rfl ⟨rfl, Nat.le_of_ble_eq_true rfl⟩ rfl ?_
  refine x_pick (L2 := [(0, _), (1, _), (2, _)]) [0, 1, 2] rfl ?_
  refine t_total_l hS hG hO (M F 0).toNat 0 0 (by omega) (by omega) (by omega) (by omega) ?_
  rw [Int.zero_add]; exact hq
set_option maxHeartbeats 4000000 in
theorem t_runs_l1 {S F : Nat} {b f n0 : Int} (hS : isSt σ ρ S F) (hb : 0 ≤ f ∧ f < 8) (hx : wfB n0 (M (S + 1)) (M (S + 2)) (M (S + 3)) f) : ∀ (n : Nat) (k s : Int), 0 ≤ k → k + n = M (S + 1) f → 0 ≤ s → s ≤ 99 + 198 * f + 99 * k → xX G mX7_runsOf 0 0 70 [(0, xP S), (1, xI b), (2, xI (s + sg (fun k => if M (S + 2) (2 * f + k) = b then M (S + 3) (2 * f + k) else 0) k n)), (3, xI f)] [] (σ, ρ, M) Q → xX G mX7_runsOf 0 0 32 [(0, xP S), (1, xI b), (2, xI s), (3, xI f), (4, xI k)] [] (σ, ρ, M) Q := by
  have hx2 := hx.2.1
  intro n
  induction n with
  | zero =>
    intro k s h0 hk hs1 hs2 hq
    rw [show sg (fun k => if M (S + 2) (2 * f + k) = b then M (S + 3) (2 * f + k) else 0) k 0 = 0 from rfl, Int.add_zero] at hq
    refine x_iload (p2 := 34) rfl dX7_runsOf_32 rfl ?_
    refine x_aload_n (p2 := 35) rfl dX7_runsOf_34 rfl ?_
    refine x_getr (p2 := 38) (kz := 1) rfl dX7_runsOf_35 f_7_9 rfl rfl hS.sh hS.r1 ?_
    refine x_iload_n (p2 := 39) rfl dX7_runsOf_38 rfl ?_
    refine x_iald (p2 := 40) rfl dX7_runsOf_39 hS.a1 (by omega) (by omega) ?_
    refine x_ic_ge (p2 := 43) (t := 70) (by decide) rfl dX7_runsOf_40 (fun hc40 => ?_) (fun hc40 => absurd hc40 (by omega))
    refine x_pick (L2 := [(0, _), (1, _), (2, _), (3, _)]) [0, 1, 2, 3] rfl ?_
    exact hq
  | succ n ih =>
    intro k s h0 hk hs1 hs2 hq
    refine x_iload (p2 := 34) rfl dX7_runsOf_32 rfl ?_
    refine x_aload_n (p2 := 35) rfl dX7_runsOf_34 rfl ?_
    refine x_getr (p2 := 38) (kz := 1) rfl dX7_runsOf_35 f_7_9 rfl rfl hS.sh hS.r1 ?_
    refine x_iload_n (p2 := 39) rfl dX7_runsOf_38 rfl ?_
    refine x_iald (p2 := 40) rfl dX7_runsOf_39 hS.a1 (by omega) (by omega) ?_
    refine x_ic_ge (p2 := 43) (t := 70) (by decide) rfl dX7_runsOf_40 (fun hc40 => ?_) (fun hc40 => ?_)
    · exact absurd hc40 (by omega)
    have hw := hx.2.2.1 k h0 (by omega)
    refine x_aload_n (p2 := 44) rfl dX7_runsOf_43 rfl ?_
    refine x_iload_n (p2 := 45) rfl dX7_runsOf_44 rfl ?_
    refine x_iload (p2 := 47) rfl dX7_runsOf_45 rfl ?_
    refine x_v2 (p2 := 50) rfl dX7_runsOf_47 l_7_53 ok_X7_target rfl hS.sh rfl ?_
    refine t_X7_target hS (by omega) (by omega) (by omega) (by omega) ?_
    refine x_iload_n (p2 := 51) rfl dX7_runsOf_50 rfl ?_
    refine x_ic_ne (p2 := 54) (t := 64) (by decide) rfl dX7_runsOf_51 (fun hc51 => ?_) (fun hc51 => ?_)
    · skip
      refine x_iinc (p2 := 67) (L2 := [(0, _), (1, _), (2, _), (3, _), (4, _)]) rfl dX7_runsOf_64 rfl ⟨by omega, by omega⟩ ⟨rfl, Nat.le_of_ble_eq_true rfl⟩ rfl ?_
      refine x_goto (t := 32) (by decide) dX7_runsOf_67 ?_
      refine x_pick (L2 := [(0, _), (1, _), (2, _), (3, _), (4, _)]) [0, 1, 2, 3, 4] rfl ?_
      refine ih _ _ (by omega) (by omega) (by omega) (by omega) ?_
      unfold sg at hq
      first
        | (rw [if_pos hc51, ← Int.add_assoc] at hq; exact hq)
        | (rw [if_neg hc51, Int.zero_add] at hq; exact hq)
    · skip
      refine x_iload_n (p2 := 55) rfl dX7_runsOf_54 rfl ?_
      refine x_aload_n (p2 := 56) rfl dX7_runsOf_55 rfl ?_
      refine x_iload_n (p2 := 57) rfl dX7_runsOf_56 rfl ?_
      refine x_iload (p2 := 59) rfl dX7_runsOf_57 rfl ?_
      refine x_v2 (p2 := 62) rfl dX7_runsOf_59 l_7_57 ok_X7_count rfl hS.sh rfl ?_
      refine t_X7_count hS (by omega) (by omega) (by omega) (by omega) ?_
      refine x_iadd (p2 := 63) rfl dX7_runsOf_62 ⟨by omega, by omega⟩ ?_
      refine x_istore_n (p2 := 64) (i := 2) (L2 := [(0, _), (1, _), (2, _), (3, _), (4, _)]) rfl dX7_runsOf_63 rfl ⟨rfl, Nat.le_of_ble_eq_true rfl⟩ rfl ?_
      refine x_iinc (p2 := 67) (L2 := [(0, _), (1, _), (2, _), (3, _), (4, _)]) rfl dX7_runsOf_64 rfl ⟨by omega, by omega⟩ ⟨rfl, Nat.le_of_ble_eq_true rfl⟩ rfl ?_
      refine x_goto (t := 32) (by decide) dX7_runsOf_67 ?_
      refine x_pick (L2 := [(0, _), (1, _), (2, _), (3, _), (4, _)]) [0, 1, 2, 3, 4] rfl ?_
      refine ih _ _ (by omega) (by omega) (by omega) (by omega) ?_
      unfold sg at hq
      first
        | (rw [if_pos hc51, ← Int.add_assoc] at hq; exact hq)
        | (rw [if_neg hc51, Int.zero_add] at hq; exact hq)
set_option maxHeartbeats 4000000 in
theorem t_runs_l2 {S F : Nat} {b : Int} (hS : isSt σ ρ S F) (hG : wfG (M F 0) (M (S + 1)) (M (S + 2)) (M (S + 3))) : ∀ (n : Nat) (f s : Int), 0 ≤ f → f + n = M F 0 → 0 ≤ s → s ≤ 99 + 198 * f → Q (some (xI (s + sg (rnf (M (S + 1)) (M (S + 2)) (M (S + 3)) b) f n))) (σ, ρ, M) → xX G mX7_runsOf 0 0 18 [(0, xP S), (1, xI b), (2, xI s), (3, xI f)] [] (σ, ρ, M) Q := by
  have hn1 := hG.1
  have hn8 := hG.2.1
  intro n
  induction n with
  | zero =>
    intro f s h0 hk hs1 hs2 hq
    rw [show sg (rnf (M (S + 1)) (M (S + 2)) (M (S + 3)) b) f 0 = 0 from rfl, Int.add_zero] at hq
    refine x_iload_n (p2 := 19) rfl dX7_runsOf_18 rfl ?_
    refine x_aload_n (p2 := 20) rfl dX7_runsOf_19 rfl ?_
    refine x_getr (p2 := 23) (kz := 0) rfl dX7_runsOf_20 f_7_31 rfl rfl hS.sh hS.r0 ?_
    refine x_geti (p2 := 26) (kz := 0) rfl dX7_runsOf_23 f_7_41 rfl rfl hS.fr.sh ?_
    refine x_ic_ge (p2 := 29) (t := 76) (by decide) rfl dX7_runsOf_26 (fun hc26 => ?_) (fun hc26 => absurd hc26 (by omega))
    refine x_iload_n (p2 := 77) rfl dX7_runsOf_76 rfl ?_
    refine x_iret dX7_runsOf_77 rfl ?_
    exact hq
  | succ n ih =>
    intro f s h0 hk hs1 hs2 hq
    refine x_iload_n (p2 := 19) rfl dX7_runsOf_18 rfl ?_
    refine x_aload_n (p2 := 20) rfl dX7_runsOf_19 rfl ?_
    refine x_getr (p2 := 23) (kz := 0) rfl dX7_runsOf_20 f_7_31 rfl rfl hS.sh hS.r0 ?_
    refine x_geti (p2 := 26) (kz := 0) rfl dX7_runsOf_23 f_7_41 rfl rfl hS.fr.sh ?_
    refine x_ic_ge (p2 := 29) (t := 76) (by decide) rfl dX7_runsOf_26 (fun hc26 => ?_) (fun hc26 => ?_)
    · exact absurd hc26 (by omega)
    have hw := hG.2.2 f h0 (by omega)
    have hw0 := hw.1
    have hr := rnf_bd (b := b) hw
    refine x_iconst (p2 := 30) rfl dX7_runsOf_29 ⟨by decide, by decide⟩ ?_
    refine x_istore (p2 := 32) (i := 4) (L2 := [(0, _), (1, _), (2, _), (3, _), (4, _)]) rfl dX7_runsOf_30 ⟨rfl, Nat.le_of_ble_eq_true rfl⟩ rfl ?_
    refine x_pick (L2 := [(0, _), (1, _), (2, _), (3, _), (4, _)]) [0, 1, 2, 3, 4] rfl ?_
    refine t_runs_l1 hS (by omega) hw (M (S + 1) f).toNat 0 s (by omega) (by omega) (by omega) (by omega) ?_
    refine x_iinc (p2 := 73) (L2 := [(0, _), (1, _), (2, _), (3, _)]) rfl dX7_runsOf_70 rfl ⟨by omega, by omega⟩ ⟨rfl, Nat.le_of_ble_eq_true rfl⟩ rfl ?_
    refine x_goto (t := 18) (by decide) dX7_runsOf_73 ?_
    refine x_pick (L2 := [(0, _), (1, _), (2, _), (3, _)]) [0, 1, 2, 3] rfl ?_
    refine ih _ _ (by omega) (by omega) (by unfold rnf at hr; omega) (by unfold rnf at hr; omega) ?_
    unfold sg at hq
    rw [← Int.add_assoc] at hq
    exact hq
set_option maxHeartbeats 4000000 in
theorem t_X7_runsOf {S F : Nat} {b : Int} (hS : isSt σ ρ S F) (hG : wfG (M F 0) (M (S + 1)) (M (S + 2)) (M (S + 3))) (he : 0 ≤ M F 1 ∧ M F 1 ≤ 99) (hq : Q (some (xI (rns (M F 0) (M F 1) (M (S + 1)) (M (S + 2)) (M (S + 3)) b))) (σ, ρ, M)) : xX G mX7_runsOf 0 0 0 [(0, xP S), (1, xI b)] [] (σ, ρ, M) Q := by
  have hn1 := hG.1
  unfold rns at hq
  refine x_iload_n (p2 := 1) rfl dX7_runsOf_0 rfl ?_
  refine x_if_ne (p2 := 4) (t := 14) (by decide) rfl dX7_runsOf_1 (fun hc1 => ?_) (fun hc1 => ?_)
  · skip
    refine x_iconst (p2 := 15) rfl dX7_runsOf_14 ⟨by decide, by decide⟩ ?_
    refine x_istore_n (p2 := 16) (i := 2) (L2 := [(0, _), (1, _), (2, _)]) rfl dX7_runsOf_15 rfl ⟨rfl, Nat.le_of_ble_eq_true rfl⟩ rfl ?_
    refine x_iconst (p2 := 17) rfl dX7_runsOf_16 ⟨by decide, by decide⟩ ?_
    refine x_istore_n (p2 := 18) (i := 3) (L2 := [(0, _), (1, _), (2, _), (3, _)]) rfl dX7_runsOf_17 rfl ⟨rfl, Nat.le_of_ble_eq_true rfl⟩ rfl ?_
    refine x_pick (L2 := [(0, _), (1, _), (2, _), (3, _)]) [0, 1, 2, 3] rfl ?_
    first
      | (rw [if_pos hc1] at hq; exact t_runs_l2 hS hG (M F 0).toNat 0 _ (by omega) (by omega) (by omega) (by omega) hq)
      | (rw [if_neg hc1] at hq; exact t_runs_l2 hS hG (M F 0).toNat 0 _ (by omega) (by omega) (by omega) (by omega) hq)
  · skip
    refine x_aload_n (p2 := 5) rfl dX7_runsOf_4 rfl ?_
    refine x_getr (p2 := 8) (kz := 0) rfl dX7_runsOf_5 f_7_31 rfl rfl hS.sh hS.r0 ?_
    refine x_geti (p2 := 11) (kz := 1) rfl dX7_runsOf_8 f_7_50 rfl rfl hS.fr.sh ?_
    refine x_goto (t := 15) (by decide) dX7_runsOf_11 ?_
    refine x_istore_n (p2 := 16) (i := 2) (L2 := [(0, _), (1, _), (2, _)]) rfl dX7_runsOf_15 rfl ⟨rfl, Nat.le_of_ble_eq_true rfl⟩ rfl ?_
    refine x_iconst (p2 := 17) rfl dX7_runsOf_16 ⟨by decide, by decide⟩ ?_
    refine x_istore_n (p2 := 18) (i := 3) (L2 := [(0, _), (1, _), (2, _), (3, _)]) rfl dX7_runsOf_17 rfl ⟨rfl, Nat.le_of_ble_eq_true rfl⟩ rfl ?_
    refine x_pick (L2 := [(0, _), (1, _), (2, _), (3, _)]) [0, 1, 2, 3] rfl ?_
    first
      | (rw [if_pos hc1] at hq; exact t_runs_l2 hS hG (M F 0).toNat 0 _ (by omega) (by omega) (by omega) (by omega) hq)
      | (rw [if_neg hc1] at hq; exact t_runs_l2 hS hG (M F 0).toNat 0 _ (by omega) (by omega) (by omega) (by omega) hq)
end XT
