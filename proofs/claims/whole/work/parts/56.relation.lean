section XRO
variable {M M1 M2 : Nat → Int → Int} {B F S T V Z H X C P D : Nat}
theorem rel.load {tx : Int → Int} {ln : Int} (ho : ord B F S T V Z H X C P D) (h : rel M F S V Z H X D) (etx : M (X + 8) = tx) (eln : M X 3 = ln) (hp : (prs tx ln).1 = true)
    (g1 : ∀ c, c ≠ F → c ≠ F + 1 → c ≠ H → c ≠ Z → (c < S ∨ S + 4 < c) → (c < X ∨ X + 7 < c) → M1 c = M c) (g2 : M1 X 3 = M X 3) (g3 : M1 H 1 = M H 1) (g4 : M1 H 2 = 0) (g5 : ∀ j, 0 ≤ j → j < 2 → M1 Z j = 0) (g6 : M1 F 0 = tx 1 - 48) (g7 : M1 F 1 = 10 * (tx 2 - 48) + (tx 3 - 48)) (g8 : ∀ j, 0 ≤ j → j < 8 → M1 (S + 4) j = j) (g9 : M1 S 5 = tx 1 - 48) (g10 : M1 S 6 = 1) (g11 : ∀ x, 0 ≤ x → x < tx 1 - 48 → cnt tx (M1 (F + 1)) (M1 (S + 1)) (M1 (S + 2)) (M1 (S + 3)) x (bps tx x.toNat))
    (k1 : ∀ c, (c < D ∨ c = D + 1 ∨ c = D + 6 ∨ c = D + 7 ∨ D + 14 < c) → M2 c = M1 c) (k2 : M2 D 1 = M1 D 1) (k3 : M2 D 10 = M1 D 10) (k4 : M2 D 9 = 0) (k5 : M2 D 2 = tx 1 - 48) (k6 : M2 D 4 = 10 * (tx 2 - 48) + (tx 3 - 48)) (k7 : ∀ j, 0 ≤ j → j < 2 → M2 (D + 8) j = 0) (k8 : M2 (D + 3) 0 = tx 1 - 48) (k9 : M2 (D + 3) 1 = 1) (k10 : ∀ x, 0 ≤ x → x < tx 1 - 48 → M2 (D + 3) (2 + x) = x ∧ cntR tx (M2 (D + 2)) (M2 (D + 3)) x (bps tx x.toNat)) : rel M2 F S V Z H X D := by
  obtain ⟨o1, o2⟩ := ho
  obtain ⟨⟨hW, hho, hhh, hhs, hzs, htx⟩, -, ht, h9, h10, -, -⟩ := h
  obtain ⟨p1, p2, p3, p4⟩ := prs_t hp
  have eF : M2 F = M1 F := k1 F (by omega)
  have eF1 : M2 (F + 1) = M1 (F + 1) := k1 _ (by omega)
  have eS : vw M2 S = vw M1 S := vw_c (fun c a b => k1 c (by omega))
  have eH : M2 H = M1 H := k1 H (by omega)
  have eZ : M2 Z = M1 Z := k1 Z (by omega)
  have eX : M2 X = M1 X := k1 X (by omega)
  have eX8 : M2 (X + 8) = M (X + 8) := (k1 _ (by omega)).trans (g1 _ (by omega) (by omega) (by omega) (by omega) (by omega) (by omega))
  have e1 : M2 (D + 1) = M (D + 1) := (k1 _ (by omega)).trans (g1 _ (by omega) (by omega) (by omega) (by omega) (by omega) (by omega))
  have eD : M1 D = M D := g1 _ (by omega) (by omega) (by omega) (by omega) (by omega) (by omega)
  rw [eD] at k2 k3
  have hGn : wfG (tx 1 - 48) (M1 (S + 1)) (M1 (S + 2)) (M1 (S + 3)) := ld_wf p1 p4 g11
  have hOn : wfO (tx 1 - 48) (M1 (S + 4)) (tx 1 - 48) := wfO_id p1 g8
  have hlx : ∀ b, 0 ≤ b → b < tx 1 - 48 → M1 (S + 1) b = tx (bps tx b.toNat + 1) - 48 := fun b a c => (g11 b a c).2.1
  refine ⟨⟨?_, ?_, ?_, ?_, ?_, ?_⟩, ⟨?_, ?_, ?_, ?_⟩, ?_, ?_, ?_, ?_, ?_⟩
  · rw [eF, eF1, eS, g6, g7]
    refine ⟨hGn, ?_, Or.inl g10, by omega, fun b a c => ?_⟩
    · show wfO (tx 1 - 48) (M1 (S + 4)) (M1 S 5)
      rw [g9]; exact hOn
    · have := ld_x p4 a c
      rw [(g11 b a c).1]; omega
  · rw [eH, g3]; exact hho
  · rw [eH, g4]; omega
  · rw [eH, g4]; intro j a b; omega
  · rw [eZ]; intro i a b; exact Or.inl (g5 i a b)
  · unfold txL; rw [eX8, eX, g2]; exact htx
  · rw [eF, g6]; exact k5
  · rw [eF, g7]; exact k6
  · rw [eF, eF1, g6]
    intro b a c
    rw [(g11 b a c).1]; exact (k10 b a c).2.1
  · rw [eF, eS, g6]
    refine ⟨fun b a c => ?_, fun b k a c d e => ?_, fun i a c => ?_, ?_, ?_⟩
    · show _ = M1 (S + 1) b
      rw [hlx b a c]; exact (k10 b a c).2.2.1
    · have e2 : k < M1 (S + 1) b := e
      have hc1 := (g11 b a c).2.2 k d e2
      rw [hlx b a c] at e2
      have hc2 := (k10 b a c).2.2.2 k d e2
      show _ = M1 (S + 2) (2 * b + k) ∧ _ = M1 (S + 3) (2 * b + k)
      rw [hc1.1, hc1.2]; exact hc2
    · show _ = M1 (S + 4) i
      rw [g8 i a (by omega)]; exact (k10 i a c).1
    · show _ = M1 S 5
      rw [g9]; exact k8
    · show _ = M1 S 6
      rw [g10]; exact k9
  · unfold rtx; rw [k2, eX, g2, e1, eX8]; exact ht
  · rw [eH, g4]; exact k4
  · rw [k3]; exact h10
  · rw [eH, g4]; intro j a b; omega
  · intro i a b
    rw [eZ, g5 i a b]
    exact ⟨k7 i a b, fun e => absurd e (by omega)⟩
/-! the start -/
def gS : List (Nat × Nat) := z10s (z9s ([] ++ [(6, xN 6)]) ++ [(7, xN 7)])
def gR : Nat → Int → Option Nat := z10r (z9r (fun _ _ => none) 0) 113
def gM : Nat → Int → Int := z10m (z9m (fun _ _ => 0) 0) 113
def gSl : List (Nat × Nat) := gS
theorem st_ord : ord 0 1 3 8 13 24 25 97 106 110 113 := by unfold ord; omega
theorem st_fr : isFr gS gR 1 := by unfold isFr; decide +kernel
theorem st_s : isSt gS gR 3 1 := ⟨by decide +kernel, by decide +kernel, by decide +kernel, by decide +kernel, by decide +kernel, by decide +kernel, by decide +kernel, by decide +kernel, by decide +kernel, by decide +kernel, st_fr, by omega⟩
theorem st_t : isSt gS gR 8 1 := ⟨by decide +kernel, by decide +kernel, by decide +kernel, by decide +kernel, by decide +kernel, by decide +kernel, by decide +kernel, by decide +kernel, by decide +kernel, by decide +kernel, st_fr, by omega⟩
theorem st_r : ∀ i, i < 14 → (gR 26 (i : Nat) = some (27 + 5 * i) ∧ gS[27 + 5 * i]? = some (5, xN 5) ∧ gR (27 + 5 * i) 0 = some 1 ∧ gR (27 + 5 * i) 1 = some (27 + 5 * i + 1) ∧ gR (27 + 5 * i) 2 = some (27 + 5 * i + 2) ∧ gR (27 + 5 * i) 3 = some (27 + 5 * i + 3) ∧ gR (27 + 5 * i) 4 = some (27 + 5 * i + 4) ∧ gS[27 + 5 * i + 1]? = some (100, 8) ∧ gS[27 + 5 * i + 2]? = some (100, 16) ∧ gS[27 + 5 * i + 3]? = some (100, 16) ∧ gS[27 + 5 * i + 4]? = some (100, 8)) := by decide +kernel
theorem st_v : ∀ i, i < 2 → (gR 13 (i : Nat) = some (14 + 5 * i) ∧ gS[14 + 5 * i]? = some (5, xN 5) ∧ gR (14 + 5 * i) 0 = some 1 ∧ gR (14 + 5 * i) 1 = some (14 + 5 * i + 1) ∧ gR (14 + 5 * i) 2 = some (14 + 5 * i + 2) ∧ gR (14 + 5 * i) 3 = some (14 + 5 * i + 3) ∧ gR (14 + 5 * i) 4 = some (14 + 5 * i + 4) ∧ gS[14 + 5 * i + 1]? = some (100, 8) ∧ gS[14 + 5 * i + 2]? = some (100, 16) ∧ gS[14 + 5 * i + 3]? = some (100, 16) ∧ gS[14 + 5 * i + 4]? = some (100, 8)) := by decide +kernel
theorem st_h : isHi gS gR 25 1 := by
  refine ⟨by decide +kernel, by decide +kernel, by decide +kernel, fun i a b => ?_⟩
  obtain ⟨q0, q1, q2, q3, q4, q5, q6, q7, q8, q9, q10⟩ := st_r i.toNat (by omega)
  rw [show ((i.toNat : Nat) : Int) = i by omega] at q0
  exact ⟨q0, q1, q2, q3, q4, q5, q6, q7, q8, q9, q10, st_fr, by unfold rg; omega⟩
theorem st_fr2 : isFr gS gR 98 := by unfold isFr; decide +kernel
theorem st_x : isTx gS gR 97 := ⟨by decide +kernel, by decide +kernel, by decide +kernel, by decide +kernel, ⟨by decide +kernel, by decide +kernel, by decide +kernel, by decide +kernel, by decide +kernel, by decide +kernel, by decide +kernel, by decide +kernel, by decide +kernel, by decide +kernel, st_fr2, by omega⟩, by decide +kernel⟩
theorem st_c : isCh gS gR 106 := by unfold isCh; decide +kernel
theorem st_p : isOp gS gR 110 := by unfold isOp; decide +kernel
theorem st_d : isMd gS gR 113 := ⟨by decide +kernel, by decide +kernel, by decide +kernel, by decide +kernel, by decide +kernel, by decide +kernel, by decide +kernel, by decide +kernel, by decide +kernel, by decide +kernel, by decide +kernel, by decide +kernel, by decide +kernel, by decide +kernel, by decide +kernel, by decide +kernel, by decide +kernel, by decide +kernel, by decide +kernel, by decide +kernel, by decide +kernel, by decide +kernel, by decide +kernel, by decide +kernel, by decide +kernel, by decide +kernel, by decide +kernel, by decide +kernel, by decide +kernel⟩
theorem st_b : isBL gS gR 0 1 3 8 13 24 25 97 106 110 := by
  refine ⟨by decide +kernel, by decide +kernel, by decide +kernel, by decide +kernel, by decide +kernel, by decide +kernel, by decide +kernel, by decide +kernel, by decide +kernel, by decide +kernel, st_s, st_t, by decide +kernel, fun i a b => ?_, by decide +kernel, st_h, st_x, st_c, st_p, by omega⟩
  obtain ⟨q0, q1, q2, q3, q4, q5, q6, q7, q8, q9, q10⟩ := st_v i.toNat (by omega)
  rw [show ((i.toNat : Nat) : Int) = i by omega] at q0
  exact ⟨q0, q1, q2, q3, q4, q5, q6, q7, q8, q9, q10, st_fr, by omega⟩
theorem st_m : gM 1 0 = 1 ∧ gM 1 1 = 0 ∧ gM 2 0 = 0 ∧ gM 4 0 = 0 ∧ gM 7 0 = 0 ∧ gM 3 5 = 1 ∧ gM 3 6 = 1 ∧ gM 25 1 = 0 ∧ gM 25 2 = 0 ∧ gM 24 0 = 0 ∧ gM 24 1 = 0 ∧ gM 97 3 = 0 ∧ gM 113 1 = 0 ∧ gM 113 2 = 1 ∧ gM 113 4 = 0 ∧ gM 113 9 = 0 ∧ gM 113 10 = 0 ∧ gM 115 0 = 0 ∧ gM 116 0 = 1 ∧ gM 116 1 = 1 ∧ gM 116 2 = 0 ∧ gM 116 10 = 0 ∧ gM 121 0 = 0 ∧ gM 121 1 = 0 := by decide +kernel
theorem st_rel : rel gM 1 3 13 24 25 97 113 := by
  obtain ⟨m1, m2, m3, m4, m5, m6, m7, m8, m9, m10, m11, m12, n1, n2, n3, n4, n5, n6, n7, n8, n9, n10, n11, n12⟩ := st_m
  have b0 : ∀ b : Int, 0 ≤ b → b < 1 → b = 0 := fun b a c => by omega
  have hx : ∀ b : Int, 0 ≤ b → b < 1 → gM 4 b = 0 := fun b a c => by rw [b0 b a c]; exact m4
  refine ⟨⟨?_, ?_, ?_, ?_, ?_, ?_⟩, ⟨?_, ?_, ?_, ?_⟩, ?_, ?_, ?_, ?_, ?_⟩
  · rw [m1, m2]
    refine ⟨⟨by omega, by omega, fun b a c => ?_⟩, ⟨fun i a c => ?_, fun i j a c d e _ => by omega, m5, ?_, ?_⟩, Or.inl m7, by omega, fun b a c => ?_⟩
    · show wfB 1 (gM 4) (gM 5) (gM 6) b
      have := hx b a c
      exact ⟨by omega, by omega, fun k k0 k1 => by omega, fun z => by omega⟩
    · show 0 ≤ gM 7 i ∧ gM 7 i < 1
      rw [b0 i a c, m5]; omega
    · show 1 ≤ gM 3 5
      omega
    · show gM 3 5 ≤ 1
      omega
    · show 0 ≤ gM 2 b ∧ gM 2 b ≤ 9
      rw [b0 b a c, m3]; omega
  · omega
  · omega
  · intro j a b; omega
  · intro i a b
    rcases (show i = 0 ∨ i = 1 by omega) with e | e
    · rw [e]; exact Or.inl m10
    · rw [e]; exact Or.inl m11
  · exact ⟨by omega, by omega, fun j a b => by omega⟩
  · rw [m1]; exact n2
  · rw [m2]; exact n3
  · rw [m1]
    intro b a c
    show gM 115 b = gM 2 b
    rw [b0 b a c, n6, m3]
  · rw [m1]
    refine ⟨fun b a c => ?_, fun b k a c d e => ?_, fun i a c => ?_, ?_, ?_⟩
    · show gM 116 (10 + b) = gM 4 b
      rw [b0 b a c]; exact n10.trans m4.symm
    · have e2 : k < gM 4 b := e
      rw [hx b a c] at e2; omega
    · show gM 116 (2 + i) = gM 7 i
      rw [b0 i a c]; exact n9.trans m5.symm
    · exact n7.trans m6.symm
    · exact n8.trans m7.symm
  · exact ⟨n1.trans m12.symm, by omega, by omega, fun j a b => by omega⟩
  · exact n4.trans m9.symm
  · show 0 ≤ gM 113 10 ∧ gM 113 10 < 14
    omega
  · intro j a b; omega
  · intro i a b
    rcases (show i = 0 ∨ i = 1 by omega) with e | e
    · rw [e]; exact ⟨n11.trans m10.symm, fun z => by omega⟩
    · rw [e]; exact ⟨n12.trans m11.symm, fun z => by omega⟩
end XRO
