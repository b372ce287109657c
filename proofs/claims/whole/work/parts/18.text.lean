section XTX
variable {G : xG} {σ : List (Nat × Nat)} {ρ : Nat → Int → Option Nat} {M : Nat → Int → Int} {Q : Option xV → xH → Prop}
/-- SetupText at X: Frame at X + 1, State at X + 3, the signs at X + 8 -/
def isTx (σ : List (Nat × Nat)) (ρ : Nat → Int → Option Nat) (X : Nat) : Prop := σ[X]? = some (4, xN 4) ∧ ρ X 0 = some (X + 1) ∧ ρ X 1 = some (X + 3) ∧ ρ X 2 = some (X + 8) ∧ isSt σ ρ (X + 3) (X + 1) ∧ σ[X + 8]? = some (100, 99)
theorem isTx.sh {X : Nat} (h : isTx σ ρ X) : σ[X]? = some (4, xN 4) := h.1
theorem isTx.r0 {X : Nat} (h : isTx σ ρ X) : ρ X 0 = some (X + 1) := h.2.1
theorem isTx.r1 {X : Nat} (h : isTx σ ρ X) : ρ X 1 = some (X + 3) := h.2.2.1
theorem isTx.r2 {X : Nat} (h : isTx σ ρ X) : ρ X 2 = some (X + 8) := h.2.2.2.1
theorem isTx.st {X : Nat} (h : isTx σ ρ X) : isSt σ ρ (X + 3) (X + 1) := h.2.2.2.2.1
theorem isTx.a2 {X : Nat} (h : isTx σ ρ X) : σ[X + 8]? = some (100, 99) := h.2.2.2.2.2
/-! a setup, by its signs -/
def dgt (tx : Int → Int) (ln p lo hi : Int) : Bool := decide (p < ln ∧ lo ≤ tx p - 48 ∧ tx p - 48 ≤ hi)
def rdc (tx : Int → Int) (ln p : Int) : Bool × Int := if dgt tx ln p 0 9 then (if dgt tx ln (p + 1) 0 9 then (true, p + 2) else (false, p + 1)) else (false, p)
def rde (tx : Int → Int) (ln n k p : Int) : Bool × Int := if dgt tx ln p 0 (n - 1) = true ∧ ¬ (k = 1 ∧ tx p = tx (p - 3)) then rdc tx ln (p + 1) else (false, p)
def rdl (tx : Int → Int) (ln n : Int) : Nat → Int → Int → Bool × Int
  | 0, _, p => (true, p)
  | m + 1, k, p => if (rde tx ln n k p).1 then rdl tx ln n m (k + 1) (rde tx ln n k p).2 else (false, (rde tx ln n k p).2)
def rdb (tx : Int → Int) (ln n p : Int) : Bool × Int := if dgt tx ln p 0 9 then (if dgt tx ln (p + 1) 0 (if n < 2 then n else 2) then rdl tx ln n (tx (p + 1) - 48).toNat 0 (p + 2) else (false, p + 1)) else (false, p)
def rdk (tx : Int → Int) (ln n : Int) : Nat → Int → Bool × Int
  | 0, p => (true, p)
  | m + 1, p => if (rdb tx ln n p).1 then rdk tx ln n m (rdb tx ln n p).2 else (false, (rdb tx ln n p).2)
def rdh (tx : Int → Int) (ln : Int) : Bool × Int := if 0 < ln ∧ tx 0 = 66 then (if dgt tx ln 1 1 8 then rdc tx ln 2 else (false, 1)) else (false, 0)
def prs (tx : Int → Int) (ln : Int) : Bool × Int := if (rdh tx ln).1 then rdk tx ln (tx 1 - 48) (tx 1 - 48).toNat (rdh tx ln).2 else (false, (rdh tx ln).2)
def erp (tx : Int → Int) (ln : Int) : Int := if (prs tx ln).1 = true ∧ (prs tx ln).2 = ln then -9 else (prs tx ln).2
theorem rdc_t {tx : Int → Int} {ln p : Int} (h : (rdc tx ln p).1 = true) : dgt tx ln p 0 9 = true ∧ dgt tx ln (p + 1) 0 9 = true ∧ (rdc tx ln p).2 = p + 2 := by
  unfold rdc at h ⊢
  by_cases h1 : dgt tx ln p 0 9 = true
  · rw [if_pos h1] at h ⊢
    by_cases h2 : dgt tx ln (p + 1) 0 9 = true
    · rw [if_pos h2]; exact ⟨h1, h2, rfl⟩
    · rw [if_neg h2] at h; cases h
  · rw [if_neg h1] at h; cases h
theorem rdc_p {tx : Int → Int} {ln p : Int} (h : p ≤ ln) : p ≤ (rdc tx ln p).2 ∧ (rdc tx ln p).2 ≤ ln := by
  unfold rdc
  by_cases h1 : dgt tx ln p 0 9 = true
  · rw [if_pos h1]
    have a := of_decide_eq_true h1
    by_cases h2 : dgt tx ln (p + 1) 0 9 = true
    · rw [if_pos h2]
      have b := of_decide_eq_true h2
      dsimp only; omega
    · rw [if_neg h2]; dsimp only; omega
  · rw [if_neg h1]; dsimp only; omega
theorem rde_t {tx : Int → Int} {ln n k p : Int} (h : (rde tx ln n k p).1 = true) : dgt tx ln p 0 (n - 1) = true ∧ ¬ (k = 1 ∧ tx p = tx (p - 3)) ∧ dgt tx ln (p + 1) 0 9 = true ∧ dgt tx ln (p + 2) 0 9 = true ∧ (rde tx ln n k p).2 = p + 3 := by
  unfold rde at h ⊢
  by_cases h1 : dgt tx ln p 0 (n - 1) = true ∧ ¬ (k = 1 ∧ tx p = tx (p - 3))
  · rw [if_pos h1] at h ⊢
    have h2 := rdc_t h
    rw [show p + 1 + 1 = p + 2 by omega] at h2
    exact ⟨h1.1, h1.2, h2.1, h2.2.1, by rw [h2.2.2]; omega⟩
  · rw [if_neg h1] at h; cases h
theorem rde_p {tx : Int → Int} {ln n k p : Int} (h : p ≤ ln) : p ≤ (rde tx ln n k p).2 ∧ (rde tx ln n k p).2 ≤ ln := by
  unfold rde
  by_cases h1 : dgt tx ln p 0 (n - 1) = true ∧ ¬ (k = 1 ∧ tx p = tx (p - 3))
  · rw [if_pos h1]
    have a := of_decide_eq_true h1.1
    have := rdc_p (tx := tx) (show p + 1 ≤ ln by omega)
    omega
  · rw [if_neg h1]; dsimp only; omega
theorem rdl_p {tx : Int → Int} {ln n : Int} : ∀ (m : Nat) (k p : Int), p ≤ ln → p ≤ (rdl tx ln n m k p).2 ∧ (rdl tx ln n m k p).2 ≤ ln
  | 0, k, p, h => by unfold rdl; dsimp only; omega
  | m + 1, k, p, h => by
    have h1 := rde_p (tx := tx) (n := n) (k := k) h
    unfold rdl
    split
    · have := rdl_p (tx := tx) (ln := ln) (n := n) m (k + 1) (rde tx ln n k p).2 h1.2
      omega
    · exact h1
theorem rdb_p {tx : Int → Int} {ln n p : Int} (h : p ≤ ln) : p ≤ (rdb tx ln n p).2 ∧ (rdb tx ln n p).2 ≤ ln := by
  unfold rdb
  by_cases h1 : dgt tx ln p 0 9 = true
  · rw [if_pos h1]
    have a := of_decide_eq_true h1
    by_cases h2 : dgt tx ln (p + 1) 0 (if n < 2 then n else 2) = true
    · rw [if_pos h2]
      have b := of_decide_eq_true h2
      have := rdl_p (tx := tx) (n := n) (tx (p + 1) - 48).toNat 0 (p + 2) (show p + 2 ≤ ln by omega)
      omega
    · rw [if_neg h2]; dsimp only; omega
  · rw [if_neg h1]; dsimp only; omega
/-- SetupText's own cells change alone -/
def frT (M M2 : Nat → Int → Int) (X : Nat) : Prop := (∀ c, c < X ∨ X + 7 < c → M2 c = M c) ∧ M2 X 3 = M X 3
theorem frT.rf {X : Nat} : frT M M X := ⟨fun _ _ => rfl, rfl⟩
theorem frT.tr {M1 M2 M3 : Nat → Int → Int} {X : Nat} (h1 : frT M1 M2 X) (h2 : frT M2 M3 X) : frT M1 M3 X := ⟨fun c h => (h2.1 c h).trans (h1.1 c h), h2.2.trans h1.2⟩
theorem frT.at {X : Nat} {v : Int} : frT M (xu M X 4 v) X := ⟨fun c h => xu_c (by omega), xu_j (by omega)⟩
theorem frT.cell {X c0 : Nat} {j v : Int} (h : X < c0 ∧ c0 ≤ X + 7) : frT M (xu M c0 j v) X := ⟨fun c h => xu_c (by omega), by rw [xu_c (by omega)]⟩
/-- the text: its length, its signs, the reader's place -/
def txI (M : Nat → Int → Int) (X : Nat) : Prop := 0 ≤ M X 3 ∧ M X 3 ≤ 99 ∧ (∀ j, 0 ≤ j → j < M X 3 → 0 ≤ M (X + 8) j ∧ M (X + 8) j ≤ 255) ∧ 0 ≤ M X 4 ∧ M X 4 ≤ M X 3
theorem txI.mv {M2 : Nat → Int → Int} {X : Nat} (h : txI M X) (hf : frT M M2 X) (h0 : 0 ≤ M2 X 4) (h1 : M2 X 4 ≤ M X 3) : txI M2 X := by
  obtain ⟨a, b, c, d, e⟩ := h
  have e8 := hf.1 (X + 8) (by omega)
  refine ⟨by rw [hf.2]; exact a, by rw [hf.2]; exact b, fun j q1 q2 => ?_, h0, by rw [hf.2]; exact h1⟩
  rw [hf.2] at q2
  rw [e8]; exact c j q1 q2
set_option maxHeartbeats 4000000 in
theorem t_X6_readDigit {X : Nat} (hX : isTx σ ρ X) (hI : txI M X) {lo hi : Int} (_h0 : 0 ≤ lo) (k1 : dgt (M (X + 8)) (M X 3) (M X 4) lo hi = true → Q (some (xI (M (X + 8) (M X 4) - 48))) (σ, ρ, xu M X 4 (M X 4 + 1))) (k0 : ¬ dgt (M (X + 8)) (M X 3) (M X 4) lo hi = true → Q (some (xI (-1))) (σ, ρ, M)) : xX G mX6_readDigit 0 0 0 [(0, xP X), (1, xI lo), (2, xI hi)] [] (σ, ρ, M) Q := by
  obtain ⟨i1, i2, i3, i4, i5⟩ := id hI
  refine x_aload_n (p2 := 1) rfl dX6_readDigit_0 rfl ?_
  refine x_geti (p2 := 4) (kz := 4) rfl dX6_readDigit_1 f_6_35 rfl rfl hX.sh ?_
  refine x_aload_n (p2 := 5) rfl dX6_readDigit_4 rfl ?_
  refine x_geti (p2 := 8) (kz := 3) rfl dX6_readDigit_5 f_6_31 rfl rfl hX.sh ?_
  refine x_ic_lt (p2 := 11) (t := 13) (by decide) rfl dX6_readDigit_8 (fun hc8 => ?_) (fun hc8 => ?_)
  · skip
    have hz := i3 _ i4 hc8
    refine x_aload_n (p2 := 14) rfl dX6_readDigit_13 rfl ?_
    refine x_getr (p2 := 17) (kz := 2) rfl dX6_readDigit_14 f_6_27 rfl rfl hX.sh hX.r2 ?_
    refine x_aload_n (p2 := 18) rfl dX6_readDigit_17 rfl ?_
    refine x_geti (p2 := 21) (kz := 4) rfl dX6_readDigit_18 f_6_35 rfl rfl hX.sh ?_
    refine x_iald (p2 := 22) rfl dX6_readDigit_21 hX.a2 (by omega) (by omega) ?_
    refine x_bipush (p2 := 24) rfl dX6_readDigit_22 ⟨by decide, ⟨by decide, by decide⟩⟩ ?_
    refine x_isub (p2 := 25) rfl dX6_readDigit_24 ⟨by omega, by omega⟩ ?_
    refine x_istore_n (p2 := 26) (i := 3) (L2 := [(0, _), (1, _), (2, _), (3, _)]) rfl dX6_readDigit_25 rfl ⟨rfl, Nat.le_of_ble_eq_true rfl⟩ rfl ?_
    refine x_iload_n (p2 := 27) rfl dX6_readDigit_26 rfl ?_
    refine x_iload_n (p2 := 28) rfl dX6_readDigit_27 rfl ?_
    refine x_ic_lt (p2 := 31) (t := 36) (by decide) rfl dX6_readDigit_28 (fun hc28 => ?_) (fun hc28 => ?_)
    · skip
      refine x_iconst (p2 := 37) rfl dX6_readDigit_36 ⟨by decide, by decide⟩ ?_
      refine x_iret dX6_readDigit_37 rfl ?_
      exact k0 (fun z => by have := of_decide_eq_true z; omega)
    · skip
      refine x_iload_n (p2 := 32) rfl dX6_readDigit_31 rfl ?_
      refine x_iload_n (p2 := 33) rfl dX6_readDigit_32 rfl ?_
      refine x_ic_le (p2 := 36) (t := 38) (by decide) rfl dX6_readDigit_33 (fun hc33 => ?_) (fun hc33 => ?_)
      · skip
        refine x_aload_n (p2 := 39) rfl dX6_readDigit_38 rfl ?_
        refine x_dup (p2 := 40) rfl dX6_readDigit_39 rfl ?_
        refine x_geti (p2 := 43) (kz := 4) rfl dX6_readDigit_40 f_6_35 rfl rfl hX.sh ?_
        refine x_iconst (p2 := 44) rfl dX6_readDigit_43 ⟨by decide, by decide⟩ ?_
        refine x_iadd (p2 := 45) rfl dX6_readDigit_44 ⟨by omega, by omega⟩ ?_
        refine x_puti (p2 := 48) (kz := 4) rfl dX6_readDigit_45 f_6_35 rfl rfl rfl hX.sh ?_
        refine x_iload_n (p2 := 49) rfl dX6_readDigit_48 rfl ?_
        refine x_iret dX6_readDigit_49 rfl ?_
        exact k1 (decide_eq_true ⟨hc8, by omega, by omega⟩)
      · skip
        refine x_iconst (p2 := 37) rfl dX6_readDigit_36 ⟨by decide, by decide⟩ ?_
        refine x_iret dX6_readDigit_37 rfl ?_
        exact k0 (fun z => by have := of_decide_eq_true z; omega)
  · skip
    refine x_iconst (p2 := 12) rfl dX6_readDigit_11 ⟨by decide, by decide⟩ ?_
    refine x_iret dX6_readDigit_12 rfl ?_
    exact k0 (fun z => by have := of_decide_eq_true z; omega)
set_option maxHeartbeats 4000000 in
theorem t_X6_readCount {X : Nat} (hX : isTx σ ρ X) (hI : txI M X) (k1 : (rdc (M (X + 8)) (M X 3) (M X 4)).1 = true → ∀ M2, (∀ c, c ≠ X → M2 c = M c) → frT M M2 X → M2 X 4 = M X 4 + 2 → Q (some (xI (10 * (M (X + 8) (M X 4) - 48) + (M (X + 8) (M X 4 + 1) - 48)))) (σ, ρ, M2)) (k0 : ¬ (rdc (M (X + 8)) (M X 3) (M X 4)).1 = true → ∀ M2, (∀ c, c ≠ X → M2 c = M c) → frT M M2 X → M2 X 4 = (rdc (M (X + 8)) (M X 3) (M X 4)).2 → Q (some (xI (-1))) (σ, ρ, M2)) : xX G mX6_readCount 0 0 0 [(0, xP X)] [] (σ, ρ, M) Q := by
  obtain ⟨i1, i2, i3, i4, i5⟩ := id hI
  unfold rdc at k1 k0
  refine x_aload_n (p2 := 1) rfl dX6_readCount_0 rfl ?_
  refine x_iconst (p2 := 2) rfl dX6_readCount_1 ⟨by decide, by decide⟩ ?_
  refine x_bipush (p2 := 4) rfl dX6_readCount_2 ⟨by decide, ⟨by decide, by decide⟩⟩ ?_
  refine x_v2 (p2 := 7) rfl dX6_readCount_4 l_6_45 ok_X6_readDigit rfl hX.sh rfl ?_
  refine t_X6_readDigit hX hI (by omega) (fun hb4 => ?_) (fun hb4 => ?_)
  · skip
    refine x_istore_n (p2 := 8) (i := 1) (L2 := [(0, _), (1, _)]) rfl dX6_readCount_7 rfl ⟨rfl, Nat.le_of_ble_eq_true rfl⟩ rfl ?_
    refine x_iload_n (p2 := 9) rfl dX6_readCount_8 rfl ?_
    refine x_if_ge (p2 := 12) (t := 14) (by decide) rfl dX6_readCount_9 (fun hc9 => ?_) (fun hc9 => absurd hc9 (by have := of_decide_eq_true hb4; omega))
    have hb4' := of_decide_eq_true hb4
    have hI := hI.mv (frT.at (v := M X 4 + 1)) (by rw [xu_s]; omega) (by rw [xu_s]; omega)
    have e8 : xu M X 4 (M X 4 + 1) (X + 8) = M (X + 8) := xu_c (by omega)
    have e4 : xu M X 4 (M X 4 + 1) X 4 = M X 4 + 1 := xu_s
    have e3 : xu M X 4 (M X 4 + 1) X 3 = M X 3 := xu_j (by omega)
    refine x_aload_n (p2 := 15) rfl dX6_readCount_14 rfl ?_
    refine x_iconst (p2 := 16) rfl dX6_readCount_15 ⟨by decide, by decide⟩ ?_
    refine x_bipush (p2 := 18) rfl dX6_readCount_16 ⟨by decide, ⟨by decide, by decide⟩⟩ ?_
    refine x_v2 (p2 := 21) rfl dX6_readCount_18 l_6_45 ok_X6_readDigit rfl hX.sh rfl ?_
    refine t_X6_readDigit hX hI (by omega) (fun hb18 => ?_) (fun hb18 => ?_)
    · skip
      refine x_istore_n (p2 := 22) (i := 2) (L2 := [(0, _), (1, _), (2, _)]) rfl dX6_readCount_21 rfl ⟨rfl, Nat.le_of_ble_eq_true rfl⟩ rfl ?_
      refine x_iload_n (p2 := 23) rfl dX6_readCount_22 rfl ?_
      refine x_if_ge (p2 := 26) (t := 30) (by decide) rfl dX6_readCount_23 (fun hc23 => ?_) (fun hc23 => absurd hc23 (by have := of_decide_eq_true hb18; omega))
      rw [e8, e4, e3] at hb18
      have hb18' := of_decide_eq_true hb18
      rw [e8, e4]
      refine x_bipush (p2 := 32) rfl dX6_readCount_30 ⟨by decide, ⟨by decide, by decide⟩⟩ ?_
      refine x_iload_n (p2 := 33) rfl dX6_readCount_32 rfl ?_
      refine x_imul (p2 := 34) rfl dX6_readCount_33 ⟨by omega, by omega⟩ ?_
      refine x_iload_n (p2 := 35) rfl dX6_readCount_34 rfl ?_
      refine x_iadd (p2 := 36) rfl dX6_readCount_35 ⟨by omega, by omega⟩ ?_
      refine x_iret dX6_readCount_36 rfl ?_
      rw [if_pos hb4, if_pos hb18] at k1 k0
      refine k1 rfl _ (fun c hc => by rw [xu_c hc, xu_c hc]) (frT.at.tr frT.at) ?_
      rw [xu_s]; omega
    · skip
      refine x_istore_n (p2 := 22) (i := 2) (L2 := [(0, _), (1, _), (2, _)]) rfl dX6_readCount_21 rfl ⟨rfl, Nat.le_of_ble_eq_true rfl⟩ rfl ?_
      refine x_iload_n (p2 := 23) rfl dX6_readCount_22 rfl ?_
      refine x_if_ge (p2 := 26) (t := 30) (by decide) rfl dX6_readCount_23 (fun hc => absurd hc (by decide)) (fun _ => ?_)
      refine x_iconst (p2 := 27) rfl dX6_readCount_26 ⟨by decide, by decide⟩ ?_
      refine x_goto (t := 36) (by decide) dX6_readCount_27 ?_
      refine x_iret dX6_readCount_36 rfl ?_
      rw [e8, e4, e3] at hb18
      rw [if_pos hb4, if_neg hb18] at k1 k0
      exact k0 (fun z => by cases z) _ (fun c hc => xu_c hc) frT.at e4
  · skip
    refine x_istore_n (p2 := 8) (i := 1) (L2 := [(0, _), (1, _)]) rfl dX6_readCount_7 rfl ⟨rfl, Nat.le_of_ble_eq_true rfl⟩ rfl ?_
    refine x_iload_n (p2 := 9) rfl dX6_readCount_8 rfl ?_
    refine x_if_ge (p2 := 12) (t := 14) (by decide) rfl dX6_readCount_9 (fun hc => absurd hc (by decide)) (fun _ => ?_)
    refine x_iconst (p2 := 13) rfl dX6_readCount_12 ⟨by decide, by decide⟩ ?_
    refine x_iret dX6_readCount_13 rfl ?_
    rw [if_neg hb4] at k1 k0
    exact k0 (fun z => by cases z) _ (fun _ _ => rfl) frT.rf rfl
set_option maxHeartbeats 4000000 in
theorem t_X6_readEdge {X : Nat} (hX : isTx σ ρ X) (hI : txI M X) {b k : Int} (hb : 0 ≤ b ∧ b < 8) (hk : 0 ≤ k ∧ k < 2) (hn : 1 ≤ M (X + 1) 0 ∧ M (X + 1) 0 ≤ 8) (ht : k = 1 → M (X + 5) (2 * b + 0) = M (X + 8) (M X 4 - 3) - 48) (k1 : (rde (M (X + 8)) (M X 3) (M (X + 1) 0) k (M X 4)).1 = true → ∀ M2, frT M M2 X → M2 X 4 = (rde (M (X + 8)) (M X 3) (M (X + 1) 0) k (M X 4)).2 → (∀ c, c ≠ X → c ≠ X + 5 → c ≠ X + 6 → M2 c = M c) → M2 (X + 5) = upf (M (X + 5)) (2 * b + k) (M (X + 8) (M X 4) - 48) → M2 (X + 6) = upf (M (X + 6)) (2 * b + k) (10 * (M (X + 8) (M X 4 + 1) - 48) + (M (X + 8) (M X 4 + 2) - 48)) → Q (some (xI 1)) (σ, ρ, M2)) (k0 : ¬ (rde (M (X + 8)) (M X 3) (M (X + 1) 0) k (M X 4)).1 = true → ∀ M2, frT M M2 X → M2 X 4 = (rde (M (X + 8)) (M X 3) (M (X + 1) 0) k (M X 4)).2 → Q (some (xI 0)) (σ, ρ, M2)) : xX G mX6_readEdge 0 0 0 [(0, xP X), (1, xI b), (2, xI k)] [] (σ, ρ, M) Q := by
  obtain ⟨i1, i2, i3, i4, i5⟩ := id hI
  unfold rde at k1 k0
  refine x_aload_n (p2 := 1) rfl dX6_readEdge_0 rfl ?_
  refine x_iconst (p2 := 2) rfl dX6_readEdge_1 ⟨by decide, by decide⟩ ?_
  refine x_aload_n (p2 := 3) rfl dX6_readEdge_2 rfl ?_
  refine x_getr (p2 := 6) (kz := 0) rfl dX6_readEdge_3 f_6_12 rfl rfl hX.sh hX.r0 ?_
  refine x_geti (p2 := 9) (kz := 0) rfl dX6_readEdge_6 f_6_49 rfl rfl hX.st.fr.sh ?_
  refine x_iconst (p2 := 10) rfl dX6_readEdge_9 ⟨by decide, by decide⟩ ?_
  refine x_isub (p2 := 11) rfl dX6_readEdge_10 ⟨by omega, by omega⟩ ?_
  refine x_v2 (p2 := 14) rfl dX6_readEdge_11 l_6_45 ok_X6_readDigit rfl hX.sh rfl ?_
  refine t_X6_readDigit hX hI (by omega) (fun hb11 => ?_) (fun hb11 => ?_)
  · skip
    refine x_istore_n (p2 := 15) (i := 3) (L2 := [(0, _), (1, _), (2, _), (3, _)]) rfl dX6_readEdge_14 rfl ⟨rfl, Nat.le_of_ble_eq_true rfl⟩ rfl ?_
    refine x_iload_n (p2 := 16) rfl dX6_readEdge_15 rfl ?_
    refine x_if_ge (p2 := 19) (t := 21) (by decide) rfl dX6_readEdge_16 (fun hc16 => ?_) (fun hc16 => absurd hc16 (by have := of_decide_eq_true hb11; omega))
    have hb11' := of_decide_eq_true hb11
    have hI2 := hI.mv (frT.at (v := M X 4 + 1)) (by rw [xu_s]; omega) (by rw [xu_s]; omega)
    have e8 : xu M X 4 (M X 4 + 1) (X + 8) = M (X + 8) := xu_c (by omega)
    have e5 : xu M X 4 (M X 4 + 1) (X + 5) = M (X + 5) := xu_c (by omega)
    have e4 : xu M X 4 (M X 4 + 1) X 4 = M X 4 + 1 := xu_s
    have e3 : xu M X 4 (M X 4 + 1) X 3 = M X 3 := xu_j (by omega)
    refine x_iload_n (p2 := 22) rfl dX6_readEdge_21 rfl ?_
    refine x_iconst (p2 := 23) rfl dX6_readEdge_22 ⟨by decide, by decide⟩ ?_
    refine x_ic_ne (p2 := 26) (t := 51) (by decide) rfl dX6_readEdge_23 (fun hc23 => ?_) (fun hc23 => ?_)
    · skip
      have hcd : dgt (M (X + 8)) (M X 3) (M X 4) 0 (M (X + 1) 0 - 1) = true ∧ ¬ (k = 1 ∧ M (X + 8) (M X 4) = M (X + 8) (M X 4 - 3)) := ⟨hb11, fun z => by
        have ht0 := ht z.1
        omega⟩
      rw [if_pos hcd] at k1 k0
      refine x_aload_n (p2 := 52) rfl dX6_readEdge_51 rfl ?_
      refine x_v0 (p2 := 55) rfl dX6_readEdge_52 l_6_52 ok_X6_readCount rfl hX.sh rfl ?_
      refine t_X6_readCount hX hI2 (fun hb52 M5 hg5 hf5 ha5 => ?_) (fun hb52 M5 hg5 hf5 ha5 => ?_)
      · skip
        refine x_istore (p2 := 57) (i := 4) (L2 := [(0, _), (1, _), (2, _), (3, _), (4, _)]) rfl dX6_readEdge_55 ⟨rfl, Nat.le_of_ble_eq_true rfl⟩ rfl ?_
        refine x_aload_n (p2 := 58) rfl dX6_readEdge_57 rfl ?_
        refine x_getr (p2 := 61) (kz := 1) rfl dX6_readEdge_58 f_6_23 rfl rfl hX.sh hX.r1 ?_
        refine x_iload_n (p2 := 62) rfl dX6_readEdge_61 rfl ?_
        refine x_iload_n (p2 := 63) rfl dX6_readEdge_62 rfl ?_
        refine x_iload_n (p2 := 64) rfl dX6_readEdge_63 rfl ?_
        refine x_v3 (p2 := 67) rfl dX6_readEdge_64 l_6_84 ok_X7_putTarget rfl hX.st.sh rfl ?_
        refine t_X7_putTarget hX.st (by omega) (by omega) (by omega) (by omega) ?_
        rw [show X + 3 + 2 = X + 5 from rfl]
        refine x_aload_n (p2 := 68) rfl dX6_readEdge_67 rfl ?_
        refine x_getr (p2 := 71) (kz := 1) rfl dX6_readEdge_68 f_6_23 rfl rfl hX.sh hX.r1 ?_
        refine x_iload_n (p2 := 72) rfl dX6_readEdge_71 rfl ?_
        refine x_iload_n (p2 := 73) rfl dX6_readEdge_72 rfl ?_
        refine x_iload (p2 := 75) rfl dX6_readEdge_73 rfl ?_
        refine x_v3 (p2 := 78) rfl dX6_readEdge_75 l_6_88 ok_X7_putCount rfl hX.st.sh rfl ?_
        refine t_X7_putCount hX.st (by omega) (by omega) (by omega) (by omega) ?_
        rw [show X + 3 + 3 = X + 6 from rfl]
        refine x_iload (p2 := 80) rfl dX6_readEdge_78 rfl ?_
        refine x_if_lt (p2 := 83) (t := 87) (by decide) rfl dX6_readEdge_80 (fun hc80 => ?_) (fun hc80 => ?_)
        · exact absurd hc80 (by
        rw [e8, e4, e3] at hb52
        have hr := rdc_t hb52
        have h1 := of_decide_eq_true hr.1
        have h2 := of_decide_eq_true hr.2.1
        rw [e8, e4]
        omega)
        refine x_iconst (p2 := 84) rfl dX6_readEdge_83 ⟨by decide, by decide⟩ ?_
        refine x_goto (t := 88) (by decide) dX6_readEdge_84 ?_
        refine x_zret dX6_readEdge_88 rfl (by omega) ?_
        rw [e8, e4, e3] at hb52
        have hr := rdc_t hb52
        rw [e8, e4, show M X 4 + 1 + 1 = M X 4 + 2 by omega]
        refine k1 hb52 _ ((frT.at.tr hf5).tr ((frT.cell (by omega)).tr (frT.cell (by omega)))) ?_ (fun c z1 z2 z3 => ?_) ?_ ?_
        · rw [xu_c (by omega), xu_c (by omega), ha5, hr.2.2, e4]
        · rw [xu_c z3, xu_c z2, hg5 c z1, xu_c z1]
        · rw [xu_c (by omega), xu_eq, xw_s, hg5 _ (by omega), xu_c (by omega)]
        · rw [xu_eq, xw_s, xu_c (by omega), hg5 _ (by omega), xu_c (by omega)]
      · skip
        refine x_istore (p2 := 57) (i := 4) (L2 := [(0, _), (1, _), (2, _), (3, _), (4, _)]) rfl dX6_readEdge_55 ⟨rfl, Nat.le_of_ble_eq_true rfl⟩ rfl ?_
        refine x_aload_n (p2 := 58) rfl dX6_readEdge_57 rfl ?_
        refine x_getr (p2 := 61) (kz := 1) rfl dX6_readEdge_58 f_6_23 rfl rfl hX.sh hX.r1 ?_
        refine x_iload_n (p2 := 62) rfl dX6_readEdge_61 rfl ?_
        refine x_iload_n (p2 := 63) rfl dX6_readEdge_62 rfl ?_
        refine x_iload_n (p2 := 64) rfl dX6_readEdge_63 rfl ?_
        refine x_v3 (p2 := 67) rfl dX6_readEdge_64 l_6_84 ok_X7_putTarget rfl hX.st.sh rfl ?_
        refine t_X7_putTarget hX.st (by omega) (by omega) (by omega) (by omega) ?_
        rw [show X + 3 + 2 = X + 5 from rfl]
        refine x_aload_n (p2 := 68) rfl dX6_readEdge_67 rfl ?_
        refine x_getr (p2 := 71) (kz := 1) rfl dX6_readEdge_68 f_6_23 rfl rfl hX.sh hX.r1 ?_
        refine x_iload_n (p2 := 72) rfl dX6_readEdge_71 rfl ?_
        refine x_iload_n (p2 := 73) rfl dX6_readEdge_72 rfl ?_
        refine x_iload (p2 := 75) rfl dX6_readEdge_73 rfl ?_
        refine x_v3 (p2 := 78) rfl dX6_readEdge_75 l_6_88 ok_X7_putCount rfl hX.st.sh rfl ?_
        refine t_X7_putCount hX.st (by omega) (by omega) (by omega) (by omega) ?_
        rw [show X + 3 + 3 = X + 6 from rfl]
        refine x_iload (p2 := 80) rfl dX6_readEdge_78 rfl ?_
        refine x_if_lt (p2 := 83) (t := 87) (by decide) rfl dX6_readEdge_80 (fun _ => ?_) (fun hc => absurd hc (by decide))
        refine x_iconst (p2 := 88) rfl dX6_readEdge_87 ⟨by decide, by decide⟩ ?_
        refine x_zret dX6_readEdge_88 rfl (by omega) ?_
        rw [e8, e4, e3] at hb52 ha5
        refine k0 hb52 _ ((frT.at.tr hf5).tr ((frT.cell (by omega)).tr (frT.cell (by omega)))) ?_
        rw [xu_c (by omega), xu_c (by omega), ha5]
    · skip
      refine x_iload_n (p2 := 27) rfl dX6_readEdge_26 rfl ?_
      refine x_aload_n (p2 := 28) rfl dX6_readEdge_27 rfl ?_
      refine x_getr (p2 := 31) (kz := 1) rfl dX6_readEdge_28 f_6_23 rfl rfl hX.sh hX.r1 ?_
      refine x_iload_n (p2 := 32) rfl dX6_readEdge_31 rfl ?_
      refine x_iconst (p2 := 33) rfl dX6_readEdge_32 ⟨by decide, by decide⟩ ?_
      refine x_v2 (p2 := 36) rfl dX6_readEdge_33 l_6_81 ok_X7_target rfl hX.st.sh rfl ?_
      refine t_X7_target hX.st (by omega) (by omega) (by omega) (by omega) ?_
      rw [show X + 3 + 2 = X + 5 from rfl, e5]
      refine x_ic_ne (p2 := 39) (t := 51) (by decide) rfl dX6_readEdge_36 (fun hc36 => ?_) (fun hc36 => ?_)
      · skip
        have hcd : dgt (M (X + 8)) (M X 3) (M X 4) 0 (M (X + 1) 0 - 1) = true ∧ ¬ (k = 1 ∧ M (X + 8) (M X 4) = M (X + 8) (M X 4 - 3)) := ⟨hb11, fun z => by
          have ht0 := ht z.1
          omega⟩
        rw [if_pos hcd] at k1 k0
        refine x_aload_n (p2 := 52) rfl dX6_readEdge_51 rfl ?_
        refine x_v0 (p2 := 55) rfl dX6_readEdge_52 l_6_52 ok_X6_readCount rfl hX.sh rfl ?_
        refine t_X6_readCount hX hI2 (fun hb52 M5 hg5 hf5 ha5 => ?_) (fun hb52 M5 hg5 hf5 ha5 => ?_)
        · skip
          refine x_istore (p2 := 57) (i := 4) (L2 := [(0, _), (1, _), (2, _), (3, _), (4, _)]) rfl dX6_readEdge_55 ⟨rfl, Nat.le_of_ble_eq_true rfl⟩ rfl ?_
          refine x_aload_n (p2 := 58) rfl dX6_readEdge_57 rfl ?_
          refine x_getr (p2 := 61) (kz := 1) rfl dX6_readEdge_58 f_6_23 rfl rfl hX.sh hX.r1 ?_
          refine x_iload_n (p2 := 62) rfl dX6_readEdge_61 rfl ?_
          refine x_iload_n (p2 := 63) rfl dX6_readEdge_62 rfl ?_
          refine x_iload_n (p2 := 64) rfl dX6_readEdge_63 rfl ?_
          refine x_v3 (p2 := 67) rfl dX6_readEdge_64 l_6_84 ok_X7_putTarget rfl hX.st.sh rfl ?_
          refine t_X7_putTarget hX.st (by omega) (by omega) (by omega) (by omega) ?_
          rw [show X + 3 + 2 = X + 5 from rfl]
          refine x_aload_n (p2 := 68) rfl dX6_readEdge_67 rfl ?_
          refine x_getr (p2 := 71) (kz := 1) rfl dX6_readEdge_68 f_6_23 rfl rfl hX.sh hX.r1 ?_
          refine x_iload_n (p2 := 72) rfl dX6_readEdge_71 rfl ?_
          refine x_iload_n (p2 := 73) rfl dX6_readEdge_72 rfl ?_
          refine x_iload (p2 := 75) rfl dX6_readEdge_73 rfl ?_
          refine x_v3 (p2 := 78) rfl dX6_readEdge_75 l_6_88 ok_X7_putCount rfl hX.st.sh rfl ?_
          refine t_X7_putCount hX.st (by omega) (by omega) (by omega) (by omega) ?_
          rw [show X + 3 + 3 = X + 6 from rfl]
          refine x_iload (p2 := 80) rfl dX6_readEdge_78 rfl ?_
          refine x_if_lt (p2 := 83) (t := 87) (by decide) rfl dX6_readEdge_80 (fun hc80 => ?_) (fun hc80 => ?_)
          · exact absurd hc80 (by
        rw [e8, e4, e3] at hb52
        have hr := rdc_t hb52
        have h1 := of_decide_eq_true hr.1
        have h2 := of_decide_eq_true hr.2.1
        rw [e8, e4]
        omega)
          refine x_iconst (p2 := 84) rfl dX6_readEdge_83 ⟨by decide, by decide⟩ ?_
          refine x_goto (t := 88) (by decide) dX6_readEdge_84 ?_
          refine x_zret dX6_readEdge_88 rfl (by omega) ?_
          rw [e8, e4, e3] at hb52
          have hr := rdc_t hb52
          rw [e8, e4, show M X 4 + 1 + 1 = M X 4 + 2 by omega]
          refine k1 hb52 _ ((frT.at.tr hf5).tr ((frT.cell (by omega)).tr (frT.cell (by omega)))) ?_ (fun c z1 z2 z3 => ?_) ?_ ?_
          · rw [xu_c (by omega), xu_c (by omega), ha5, hr.2.2, e4]
          · rw [xu_c z3, xu_c z2, hg5 c z1, xu_c z1]
          · rw [xu_c (by omega), xu_eq, xw_s, hg5 _ (by omega), xu_c (by omega)]
          · rw [xu_eq, xw_s, xu_c (by omega), hg5 _ (by omega), xu_c (by omega)]
        · skip
          refine x_istore (p2 := 57) (i := 4) (L2 := [(0, _), (1, _), (2, _), (3, _), (4, _)]) rfl dX6_readEdge_55 ⟨rfl, Nat.le_of_ble_eq_true rfl⟩ rfl ?_
          refine x_aload_n (p2 := 58) rfl dX6_readEdge_57 rfl ?_
          refine x_getr (p2 := 61) (kz := 1) rfl dX6_readEdge_58 f_6_23 rfl rfl hX.sh hX.r1 ?_
          refine x_iload_n (p2 := 62) rfl dX6_readEdge_61 rfl ?_
          refine x_iload_n (p2 := 63) rfl dX6_readEdge_62 rfl ?_
          refine x_iload_n (p2 := 64) rfl dX6_readEdge_63 rfl ?_
          refine x_v3 (p2 := 67) rfl dX6_readEdge_64 l_6_84 ok_X7_putTarget rfl hX.st.sh rfl ?_
          refine t_X7_putTarget hX.st (by omega) (by omega) (by omega) (by omega) ?_
          rw [show X + 3 + 2 = X + 5 from rfl]
          refine x_aload_n (p2 := 68) rfl dX6_readEdge_67 rfl ?_
          refine x_getr (p2 := 71) (kz := 1) rfl dX6_readEdge_68 f_6_23 rfl rfl hX.sh hX.r1 ?_
          refine x_iload_n (p2 := 72) rfl dX6_readEdge_71 rfl ?_
          refine x_iload_n (p2 := 73) rfl dX6_readEdge_72 rfl ?_
          refine x_iload (p2 := 75) rfl dX6_readEdge_73 rfl ?_
          refine x_v3 (p2 := 78) rfl dX6_readEdge_75 l_6_88 ok_X7_putCount rfl hX.st.sh rfl ?_
          refine t_X7_putCount hX.st (by omega) (by omega) (by omega) (by omega) ?_
          rw [show X + 3 + 3 = X + 6 from rfl]
          refine x_iload (p2 := 80) rfl dX6_readEdge_78 rfl ?_
          refine x_if_lt (p2 := 83) (t := 87) (by decide) rfl dX6_readEdge_80 (fun _ => ?_) (fun hc => absurd hc (by decide))
          refine x_iconst (p2 := 88) rfl dX6_readEdge_87 ⟨by decide, by decide⟩ ?_
          refine x_zret dX6_readEdge_88 rfl (by omega) ?_
          rw [e8, e4, e3] at hb52 ha5
          refine k0 hb52 _ ((frT.at.tr hf5).tr ((frT.cell (by omega)).tr (frT.cell (by omega)))) ?_
          rw [xu_c (by omega), xu_c (by omega), ha5]
      · skip
        refine x_aload_n (p2 := 40) rfl dX6_readEdge_39 rfl ?_
        refine x_dup (p2 := 41) rfl dX6_readEdge_40 rfl ?_
        refine x_geti (p2 := 44) (kz := 4) rfl dX6_readEdge_41 f_6_35 rfl rfl hX.sh ?_
        rw [e4]
        refine x_iconst (p2 := 45) rfl dX6_readEdge_44 ⟨by decide, by decide⟩ ?_
        refine x_isub (p2 := 46) rfl dX6_readEdge_45 ⟨by omega, by omega⟩ ?_
        refine x_puti (p2 := 49) (kz := 4) rfl dX6_readEdge_46 f_6_35 rfl rfl rfl hX.sh ?_
        refine x_iconst (p2 := 50) rfl dX6_readEdge_49 ⟨by decide, by decide⟩ ?_
        refine x_zret dX6_readEdge_50 rfl (by omega) ?_
        rw [if_neg (fun z => z.2 ⟨hc23, by
          have ht0 := ht hc23
          omega⟩)] at k1 k0
        refine k0 (fun z => by cases z) _ (frT.at.tr frT.at) ?_
        rw [xu_s]
        show M X 4 + 1 - 1 = M X 4
        omega
  · skip
    refine x_istore_n (p2 := 15) (i := 3) (L2 := [(0, _), (1, _), (2, _), (3, _)]) rfl dX6_readEdge_14 rfl ⟨rfl, Nat.le_of_ble_eq_true rfl⟩ rfl ?_
    refine x_iload_n (p2 := 16) rfl dX6_readEdge_15 rfl ?_
    refine x_if_ge (p2 := 19) (t := 21) (by decide) rfl dX6_readEdge_16 (fun hc => absurd hc (by decide)) (fun _ => ?_)
    refine x_iconst (p2 := 20) rfl dX6_readEdge_19 ⟨by decide, by decide⟩ ?_
    refine x_zret dX6_readEdge_20 rfl (by omega) ?_
    rw [if_neg (fun z => hb11 z.1)] at k1 k0
    exact k0 (fun z => by cases z) _ frT.rf rfl
end XTX
