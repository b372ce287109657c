section XRM
variable {M M1 M2 : Nat → Int → Int} {B F S T V Z H X C P D : Nat}
theorem rel.undo (ho : ord B F S T V Z H X C P D) (h : rel M F S V Z H X D) (hh : 0 < M H 2) (g1 : ∀ c, c ≠ H → (c < S ∨ S + 4 < c) → M1 c = M c) (g2 : sq M1 S M (rg H ((M H 1 + M H 2 - 1) % 14))) (g3 : M1 H 1 = M H 1) (g4 : M1 H 2 = M H 2 - 1) (k1 : ∀ c, c ≠ D → c ≠ D + 3 → M2 c = M1 c) (k2 : ∀ f, f ≠ 9 → f ≠ 10 → M2 D f = M1 D f) (k3 : M2 D 9 = M1 D 9 - 1) (k4 : M2 D 10 = (M1 D 10 + 13) % 14) (k5 : ∀ x, 0 ≤ x → x < 50 → M2 (D + 3) x = M1 (D + 6) (50 * ((M1 D 10 + 13) % 14) + x)) : rel M2 F S V Z H X D := by
  obtain ⟨o1, o2⟩ := ho
  obtain ⟨⟨hW, hho, hhh, hhs, hzs, htx⟩, ⟨d1, d2, d3, d4⟩, ht, h9, h10, hd, hk⟩ := h
  have eD : M1 D = M D := g1 D (by omega) (by omega)
  have eD6 : M1 (D + 6) = M (D + 6) := g1 _ (by omega) (by omega)
  rw [eD] at k2 k3 k4 k5
  rw [eD6] at k5
  have h8 := hW.1.2.1
  have c1 : ∀ c, (c < S ∨ S + 4 < c) → c ≠ H → c ≠ D → c ≠ D + 3 → M2 c = M c := fun c a b d e => (k1 c d e).trans (g1 c b a)
  have eF : M2 F = M F := c1 F (by omega) (by omega) (by omega) (by omega)
  have eF1 : M2 (F + 1) = M (F + 1) := c1 _ (by omega) (by omega) (by omega) (by omega)
  have eH : M2 H = M1 H := k1 H (by omega) (by omega)
  have eZ : M2 Z = M Z := c1 Z (by omega) (by omega) (by omega) (by omega)
  have eX : M2 X = M X := c1 _ (by omega) (by omega) (by omega) (by omega)
  have eX8 : M2 (X + 8) = M (X + 8) := c1 _ (by omega) (by omega) (by omega) (by omega)
  have e1 : M2 (D + 1) = M (D + 1) := c1 _ (by omega) (by omega) (by omega) (by omega)
  have e2 : M2 (D + 2) = M (D + 2) := c1 _ (by omega) (by omega) (by omega) (by omega)
  have e6 : M2 (D + 6) = M (D + 6) := c1 _ (by omega) (by omega) (by omega) (by omega)
  have e7 : M2 (D + 7) = M (D + 7) := c1 _ (by omega) (by omega) (by omega) (by omega)
  have e8 : M2 (D + 8) = M (D + 8) := c1 _ (by omega) (by omega) (by omega) (by omega)
  have erg : ∀ i, 0 ≤ i → i < 14 → vw M2 (rg H i) = vw M (rg H i) := fun i a b => vw_c (fun c u w => c1 c (by unfold rg at u w; omega) (by unfold rg at u w; omega) (by unfold rg at u w; omega) (by unfold rg at u w; omega))
  have evs : ∀ i, 0 ≤ i → i < 2 → vw M2 (V + 1 + 5 * Int.toNat i) = vw M (V + 1 + 5 * Int.toNat i) := fun i a b => vw_c (fun c u w => c1 c (by omega) (by omega) (by omega) (by omega))
  have hsq : sq M2 S M (rg H ((M H 1 + M H 2 - 1) % 14)) := g2.mv (fun c a b => k1 c (by omega) (by omega)) (fun _ _ _ => rfl)
  have hw0 := hhs (M H 2 - 1) (by omega) (by omega)
  rw [show (M H 1 + (M H 2 - 1)) % 14 = (M H 1 + M H 2 - 1) % 14 by omega] at hw0
  have hr0 := hd 0 (by omega) hh
  rw [show (M H 1 + M H 2 + 13 - 0) % 14 = (M H 1 + M H 2 - 1) % 14 by omega, show (M D 10 + 13 - 0) % 14 = (M D 10 + 13) % 14 by omega] at hr0
  have hx0 : ∀ b, 0 ≤ b → b < M F 0 → M (rg H ((M H 1 + M H 2 - 1) % 14) + 1) b ≤ 2 := fun b a c => (hw0.1.2.2 b a c).2.1
  have hrS := smr_sq hsq h8 hx0 hr0
  rw [← eH] at g3 g4
  refine ⟨⟨?_, ?_, ?_, ?_, ?_, ?_⟩, ⟨?_, ?_, ?_, ?_⟩, ?_, ?_, ?_, ?_, ?_⟩
  · rw [eF, eF1]; exact wfV_q hsq hw0
  · rw [g3]; exact hho
  · omega
  · rw [eF, eF1, g3]
    intro j a b
    rw [erg _ (by omega) (by omega)]; exact hhs j a (by omega)
  · rw [eZ, eF, eF1]
    intro i a b
    rw [evs i a b]; exact hzs i a b
  · unfold txL; rw [eX8, eX]; exact htx
  · rw [k2 2 (by omega) (by omega), eF]; exact d1
  · rw [k2 4 (by omega) (by omega), eF]; exact d2
  · rw [e2, eF, eF1]; exact d3
  · rw [eF]
    refine smr_cp hrS h8 (fun b a c => ?_) k5
    show M2 (S + 1) b ≤ 2
    rw [hsq.1 b a (by omega)]; exact hx0 b a c
  · unfold rtx; rw [k2 1 (by omega) (by omega), eX, e1, eX8]; exact ht
  · omega
  · omega
  · rw [eF, e6]
    intro j a b
    have hx := hd (j + 1) (by omega) (by omega)
    rw [erg _ (by omega) (by omega), show (M2 H 1 + M2 H 2 + 13 - j) % 14 = (M H 1 + M H 2 + 13 - (j + 1)) % 14 by omega, show (M2 D 10 + 13 - j) % 14 = (M D 10 + 13 - (j + 1)) % 14 by omega]
    exact hx
  · rw [e8, eZ, eF, e7]
    intro i a b
    rw [evs i a b]; exact hk i a b
theorem rel.save {x : Int} (ho : ord B F S T V Z H X C P D) (h : rel M F S V Z H X D) (hx : 0 ≤ x ∧ x < 2) (g1 : ∀ c, c ≠ Z → (c < V + 1 + 5 * Int.toNat x ∨ V + 1 + 5 * Int.toNat x + 4 < c) → M1 c = M c) (g2 : sq M1 (V + 1 + 5 * Int.toNat x) M S) (g3 : M1 Z = upf (M Z) x 1) (k1 : ∀ c, c ≠ D + 7 → c ≠ D + 8 → M2 c = M1 c) (k2 : M2 (D + 8) = upf (M1 (D + 8)) x 1) (k3 : ∀ y, 0 ≤ y → y < 50 → M2 (D + 7) (50 * x + y) = M1 (D + 3) y) (k4 : ∀ j, j < 50 * x ∨ 50 * x + 50 ≤ j → M2 (D + 7) j = M1 (D + 7) j) : rel M2 F S V Z H X D := by
  obtain ⟨o1, o2⟩ := ho
  obtain ⟨⟨hW, hho, hhh, hhs, hzs, htx⟩, ⟨d1, d2, d3, d4⟩, ht, h9, h10, hd, hk⟩ := h
  have h8 := hW.1.2.1
  have hx2 : ∀ b, 0 ≤ b → b < M F 0 → M (S + 1) b ≤ 2 := fun b a c => (hW.1.2.2 b a c).2.1
  rw [g1 (D + 8) (by omega) (by omega)] at k2
  rw [g1 (D + 3) (by omega) (by omega)] at k3
  rw [g1 (D + 7) (by omega) (by omega)] at k4
  have c1 : ∀ c, c ≠ Z → (c < V + 1 + 5 * Int.toNat x ∨ V + 1 + 5 * Int.toNat x + 4 < c) → c ≠ D + 7 → c ≠ D + 8 → M2 c = M c := fun c a b d e => (k1 c d e).trans (g1 c a b)
  have eF : M2 F = M F := c1 F (by omega) (by omega) (by omega) (by omega)
  have eF1 : M2 (F + 1) = M (F + 1) := c1 _ (by omega) (by omega) (by omega) (by omega)
  have eS : vw M2 S = vw M S := vw_c (fun c a b => c1 c (by omega) (by omega) (by omega) (by omega))
  have eH : M2 H = M H := c1 H (by omega) (by omega) (by omega) (by omega)
  have eX : M2 X = M X := c1 _ (by omega) (by omega) (by omega) (by omega)
  have eX8 : M2 (X + 8) = M (X + 8) := c1 _ (by omega) (by omega) (by omega) (by omega)
  have eD : M2 D = M D := c1 _ (by omega) (by omega) (by omega) (by omega)
  have e1 : M2 (D + 1) = M (D + 1) := c1 _ (by omega) (by omega) (by omega) (by omega)
  have e2 : M2 (D + 2) = M (D + 2) := c1 _ (by omega) (by omega) (by omega) (by omega)
  have e3 : M2 (D + 3) = M (D + 3) := c1 _ (by omega) (by omega) (by omega) (by omega)
  have e6 : M2 (D + 6) = M (D + 6) := c1 _ (by omega) (by omega) (by omega) (by omega)
  have eZ : M2 Z = upf (M Z) x 1 := (k1 Z (by omega) (by omega)).trans g3
  have erg : ∀ i, 0 ≤ i → i < 14 → vw M2 (rg H i) = vw M (rg H i) := fun i a b => vw_c (fun c u w => c1 c (by unfold rg at u w; omega) (by unfold rg at u w; omega) (by unfold rg at u w; omega) (by unfold rg at u w; omega))
  have evs : ∀ i, 0 ≤ i → i < 2 → i ≠ x → vw M2 (V + 1 + 5 * Int.toNat i) = vw M (V + 1 + 5 * Int.toNat i) := fun i a b e => vw_c (fun c u w => c1 c (by omega) (by omega) (by omega) (by omega))
  have hsq : sq M2 (V + 1 + 5 * Int.toNat x) M S := g2.mv (fun c a b => k1 c (by omega) (by omega)) (fun _ _ _ => rfl)
  refine ⟨⟨?_, ?_, ?_, ?_, ?_, ?_⟩, ⟨?_, ?_, ?_, ?_⟩, ?_, ?_, ?_, ?_, ?_⟩
  · rw [eF, eF1, eS]; exact hW
  · rw [eH]; exact hho
  · rw [eH]; exact hhh
  · rw [eF, eF1, eH]
    intro j a b
    rw [erg _ (by omega) (by omega)]; exact hhs j a b
  · rw [eZ, eF, eF1]
    intro i a b
    by_cases e : i = x
    · rw [e, upf_s]; exact Or.inr ⟨rfl, wfV_q hsq hW⟩
    · rw [upf_n e, evs i a b e]; exact hzs i a b
  · unfold txL; rw [eX8, eX]; exact htx
  · rw [eD, eF]; exact d1
  · rw [eD, eF]; exact d2
  · rw [e2, eF, eF1]; exact d3
  · rw [e3, eF, eS]; exact d4
  · unfold rtx; rw [eD, eX, e1, eX8]; exact ht
  · rw [eD, eH]; exact h9
  · rw [eD]; exact h10
  · rw [eF, e6, eH, eD]
    intro j a b
    rw [erg _ (by omega) (by omega)]; exact hd j a b
  · rw [k2, eZ, eF]
    intro i a b
    by_cases e : i = x
    · rw [e, upf_s, upf_s]
      refine ⟨rfl, fun _ => smr_cp (smr_sq hsq h8 hx2 d4) h8 (fun b a c => ?_) k3⟩
      show M2 (V + 1 + 5 * Int.toNat x + 1) b ≤ 2
      rw [hsq.1 b a (by omega)]; exact hx2 b a c
    · rw [upf_n e, upf_n e, evs i a b e]
      refine ⟨(hk i a b).1, fun hz => smr_cp ((hk i a b).2 hz) h8 (fun b2 a2 c2 => ?_) (fun y y0 y1 => k4 _ (by omega))⟩
      rcases hzs i a b with z | z
      · omega
      · exact (z.2.1.2.2 b2 a2 c2).2.1
theorem rel.rest {x : Int} (ho : ord B F S T V Z H X C P D) (h : rel M F S V Z H X D) (hx : 0 ≤ x ∧ x < 2) (hz : M Z x = 1) (g1 : ∀ c, c ≠ H → (c < S ∨ S + 4 < c) → M1 c = M c) (g3 : M1 H 1 = M H 1) (g4 : M1 H 2 = 0) (g2 : sq M1 S M (V + 1 + 5 * Int.toNat x)) (k1 : ∀ c, c ≠ D → c ≠ D + 3 → M2 c = M1 c) (k2 : ∀ f, f ≠ 9 → M2 D f = M1 D f) (k3 : M2 D 9 = 0) (k5 : ∀ y, 0 ≤ y → y < 50 → M2 (D + 3) y = M1 (D + 7) (50 * x + y)) : rel M2 F S V Z H X D := by
  obtain ⟨o1, o2⟩ := ho
  obtain ⟨⟨hW, hho, hhh, hhs, hzs, htx⟩, ⟨d1, d2, d3, d4⟩, ht, h9, h10, hd, hk⟩ := h
  have eD : M1 D = M D := g1 D (by omega) (by omega)
  have eD7 : M1 (D + 7) = M (D + 7) := g1 _ (by omega) (by omega)
  rw [eD] at k2
  rw [eD7] at k5
  have h8 := hW.1.2.1
  have c1 : ∀ c, (c < S ∨ S + 4 < c) → c ≠ H → c ≠ D → c ≠ D + 3 → M2 c = M c := fun c a b d e => (k1 c d e).trans (g1 c b a)
  have eF : M2 F = M F := c1 F (by omega) (by omega) (by omega) (by omega)
  have eF1 : M2 (F + 1) = M (F + 1) := c1 _ (by omega) (by omega) (by omega) (by omega)
  have eH : M2 H = M1 H := k1 H (by omega) (by omega)
  have eZ : M2 Z = M Z := c1 Z (by omega) (by omega) (by omega) (by omega)
  have eX : M2 X = M X := c1 _ (by omega) (by omega) (by omega) (by omega)
  have eX8 : M2 (X + 8) = M (X + 8) := c1 _ (by omega) (by omega) (by omega) (by omega)
  have e1 : M2 (D + 1) = M (D + 1) := c1 _ (by omega) (by omega) (by omega) (by omega)
  have e2 : M2 (D + 2) = M (D + 2) := c1 _ (by omega) (by omega) (by omega) (by omega)
  have e7 : M2 (D + 7) = M (D + 7) := c1 _ (by omega) (by omega) (by omega) (by omega)
  have e8 : M2 (D + 8) = M (D + 8) := c1 _ (by omega) (by omega) (by omega) (by omega)
  have evs : ∀ i, 0 ≤ i → i < 2 → vw M2 (V + 1 + 5 * Int.toNat i) = vw M (V + 1 + 5 * Int.toNat i) := fun i a b => vw_c (fun c u w => c1 c (by omega) (by omega) (by omega) (by omega))
  have hsq : sq M2 S M (V + 1 + 5 * Int.toNat x) := g2.mv (fun c a b => k1 c (by omega) (by omega)) (fun _ _ _ => rfl)
  have hw0 : wfV (M F 0) (M F 1) (M (F + 1)) (vw M (V + 1 + 5 * Int.toNat x)) := by
    rcases hzs x hx.1 hx.2 with z | z
    · omega
    · exact z.2
  have hr0 := (hk x hx.1 hx.2).2 hz
  have hx0 : ∀ b, 0 ≤ b → b < M F 0 → M (V + 1 + 5 * Int.toNat x + 1) b ≤ 2 := fun b a c => (hw0.1.2.2 b a c).2.1
  have hrS := smr_sq hsq h8 hx0 hr0
  rw [← eH] at g3 g4
  refine ⟨⟨?_, ?_, ?_, ?_, ?_, ?_⟩, ⟨?_, ?_, ?_, ?_⟩, ?_, ?_, ?_, ?_, ?_⟩
  · rw [eF, eF1]; exact wfV_q hsq hw0
  · rw [g3]; exact hho
  · omega
  · intro j a b; omega
  · rw [eZ, eF, eF1]
    intro i a b
    rw [evs i a b]; exact hzs i a b
  · unfold txL; rw [eX8, eX]; exact htx
  · rw [k2 2 (by omega), eF]; exact d1
  · rw [k2 4 (by omega), eF]; exact d2
  · rw [e2, eF, eF1]; exact d3
  · rw [eF]
    refine smr_cp hrS h8 (fun b a c => ?_) k5
    show M2 (S + 1) b ≤ 2
    rw [hsq.1 b a (by omega)]; exact hx0 b a c
  · unfold rtx; rw [k2 1 (by omega), eX, e1, eX8]; exact ht
  · omega
  · rw [k2 10 (by omega)]; exact h10
  · intro j a b; omega
  · rw [e8, eZ, eF, e7]
    intro i a b
    rw [evs i a b]; exact hk i a b
/-- the text alone has changed -/
theorem rel.tx (ho : ord B F S T V Z H X C P D) (h : rel M F S V Z H X D) (h1 : ∀ c, c ≠ X → c ≠ X + 8 → c ≠ D → c ≠ D + 1 → M2 c = M c) (h2 : ∀ f, f ≠ 1 → M2 D f = M D f) (h3 : rtx M2 D (M2 (X + 8)) (M2 X 3)) : rel M2 F S V Z H X D := by
  obtain ⟨o1, o2⟩ := ho
  obtain ⟨⟨hW, hho, hhh, hhs, hzs, htx⟩, ⟨d1, d2, d3, d4⟩, ht, h9, h10, hd, hk⟩ := h
  have eF : M2 F = M F := h1 F (by omega) (by omega) (by omega) (by omega)
  have eF1 : M2 (F + 1) = M (F + 1) := h1 _ (by omega) (by omega) (by omega) (by omega)
  have eS : vw M2 S = vw M S := vw_c (fun c a b => h1 c (by omega) (by omega) (by omega) (by omega))
  have eH : M2 H = M H := h1 H (by omega) (by omega) (by omega) (by omega)
  have eZ : M2 Z = M Z := h1 Z (by omega) (by omega) (by omega) (by omega)
  have e2 := h1 (D + 2) (by omega) (by omega) (by omega) (by omega)
  have e3 := h1 (D + 3) (by omega) (by omega) (by omega) (by omega)
  have e6 := h1 (D + 6) (by omega) (by omega) (by omega) (by omega)
  have e7 := h1 (D + 7) (by omega) (by omega) (by omega) (by omega)
  have e8 := h1 (D + 8) (by omega) (by omega) (by omega) (by omega)
  have erg : ∀ i, 0 ≤ i → i < 14 → vw M2 (rg H i) = vw M (rg H i) := fun i a b => vw_c (fun c u w => h1 c (by unfold rg at u w; omega) (by unfold rg at u w; omega) (by unfold rg at u w; omega) (by unfold rg at u w; omega))
  have evs : ∀ i, 0 ≤ i → i < 2 → vw M2 (V + 1 + 5 * Int.toNat i) = vw M (V + 1 + 5 * Int.toNat i) := fun i a b => vw_c (fun c u w => h1 c (by omega) (by omega) (by omega) (by omega))
  refine ⟨⟨?_, ?_, ?_, ?_, ?_, ?_⟩, ⟨?_, ?_, ?_, ?_⟩, h3, ?_, ?_, ?_, ?_⟩
  · rw [eF, eF1, eS]; exact hW
  · rw [eH]; exact hho
  · rw [eH]; exact hhh
  · rw [eH, eF, eF1]
    intro j a b
    rw [erg _ (by omega) (by omega)]; exact hhs j a b
  · rw [eZ, eF, eF1]
    intro i a b
    rw [evs i a b]; exact hzs i a b
  · exact ⟨h3.2.1, h3.2.2.1, fun j a b => (h3.2.2.2 j a b).2⟩
  · rw [h2 2 (by omega), eF]; exact d1
  · rw [h2 4 (by omega), eF]; exact d2
  · rw [e2, eF, eF1]; exact d3
  · rw [e3, eF, eS]; exact d4
  · rw [h2 9 (by omega), eH]; exact h9
  · rw [h2 10 (by omega)]; exact h10
  · rw [eH, eF, e6, h2 10 (by omega)]
    intro j a b
    rw [erg _ (by omega) (by omega)]; exact hd j a b
  · rw [e8, eZ, eF, e7]
    intro i a b
    rw [evs i a b]; exact hk i a b
end XRM
