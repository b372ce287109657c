section XRL
variable {M M1 M2 : Nat → Int → Int} {B F S T V Z H X C P D : Nat}
/-- where the cells lie -/
def ord (B F S T V Z H X C P D : Nat) : Prop := (B < F ∧ F + 1 < S ∧ S + 4 < T ∧ T + 4 < V ∧ V + 10 < Z ∧ Z < H ∧ H + 71 < X ∧ X + 8 < C ∧ C + 3 < P) ∧ P + 2 < D
/-- the class and the reference hold the same -/
def rel (M : Nat → Int → Int) (F S V Z H X D : Nat) : Prop := clI M F S V Z H X ∧ mdI M D (M F 0) (M F 1) (M (F + 1)) (vw M S) ∧ rtx M D (M (X + 8)) (M X 3) ∧ M D 9 = M H 2 ∧ (0 ≤ M D 10 ∧ M D 10 < 14) ∧ (∀ j, 0 ≤ j → j < M H 2 → smr (M F 0) (vw M (rg H ((M H 1 + M H 2 + 13 - j) % 14))) (fun k => M (D + 6) (50 * ((M D 10 + 13 - j) % 14) + k))) ∧ ∀ i, 0 ≤ i → i < 2 → M (D + 8) i = M Z i ∧ (M Z i = 1 → smr (M F 0) (vw M (V + 1 + 5 * Int.toNat i)) (fun k => M (D + 7) (50 * i + k)))
theorem smr_sq {n : Int} {r : Int → Int} {A A2 : Nat} (h : sq M2 A2 M A) (h8 : n ≤ 8) (hx : ∀ b, 0 ≤ b → b < n → M (A + 1) b ≤ 2) (hr : smr n (vw M A) r) : smr n (vw M2 A2) r := by
  obtain ⟨q1, q2, q3, q4, q5, q6⟩ := h
  refine ⟨fun b a c => ?_, fun b k a c d e => ?_, fun i a c => ?_, ?_, ?_⟩
  · show _ = M2 (A2 + 1) b
    rw [q1 b a (by omega)]; exact hr.x a c
  · have e2 : k < M2 (A2 + 1) b := e
    rw [q1 b a (by omega)] at e2
    have hb := hx b a c
    show _ = M2 (A2 + 2) (2 * b + k) ∧ _ = M2 (A2 + 3) (2 * b + k)
    rw [q2 (2 * b + k) (by omega) (by omega), q3 (2 * b + k) (by omega) (by omega)]
    exact ⟨hr.t a c d e2, hr.c a c d e2⟩
  · show _ = M2 (A2 + 4) i
    rw [q4 i a (by omega)]; exact hr.o a c
  · show _ = M2 A2 5
    rw [q5]; exact hr.h
  · show _ = M2 A2 6
    rw [q6]; exact hr.a
/-- what counts is the same -/
def sml (M M2 : Nat → Int → Int) (F S V Z H X D : Nat) : Prop := (∀ c, (c = F ∨ c = F + 1 ∨ (S ≤ c ∧ c ≤ S + 4) ∨ (V + 1 ≤ c ∧ c ≤ V + 10) ∨ c = Z ∨ c = H ∨ (H + 2 ≤ c ∧ c ≤ H + 71) ∨ c = X + 8 ∨ c = D + 1 ∨ c = D + 2 ∨ c = D + 3 ∨ c = D + 6 ∨ c = D + 7 ∨ c = D + 8) → M2 c = M c) ∧ M2 X 3 = M X 3 ∧ ∀ f, f = 1 ∨ f = 2 ∨ f = 4 ∨ f = 9 ∨ f = 10 → M2 D f = M D f
theorem rel.sm (h : rel M F S V Z H X D) (hs : sml M M2 F S V Z H X D) : rel M2 F S V Z H X D := by
  obtain ⟨h1, h2, h3⟩ := hs
  obtain ⟨⟨hW, hho, hhh, hhs, hzs, htx⟩, ⟨d1, d2, d3, d4⟩, ht, h9, h10, hd, hk⟩ := h
  have eF : M2 F = M F := h1 F (by omega)
  have eF1 : M2 (F + 1) = M (F + 1) := h1 _ (by omega)
  have eS : vw M2 S = vw M S := vw_c (fun c a b => h1 c (by omega))
  have eH : M2 H = M H := h1 H (by omega)
  have eZ : M2 Z = M Z := h1 Z (by omega)
  have eX : M2 (X + 8) = M (X + 8) := h1 _ (by omega)
  have e1 := h1 (D + 1) (by omega)
  have e2 := h1 (D + 2) (by omega)
  have e3 := h1 (D + 3) (by omega)
  have e6 := h1 (D + 6) (by omega)
  have e7 := h1 (D + 7) (by omega)
  have e8 := h1 (D + 8) (by omega)
  have f1 := h3 1 (by omega)
  have f2 := h3 2 (by omega)
  have f4 := h3 4 (by omega)
  have f9 := h3 9 (by omega)
  have f10 := h3 10 (by omega)
  have erg : ∀ i, 0 ≤ i → i < 14 → vw M2 (rg H i) = vw M (rg H i) := fun i a b => vw_c (fun c u w => h1 c (by unfold rg at u w; omega))
  have evs : ∀ i, 0 ≤ i → i < 2 → vw M2 (V + 1 + 5 * Int.toNat i) = vw M (V + 1 + 5 * Int.toNat i) := fun i a b => vw_c (fun c u w => h1 c (by omega))
  refine ⟨⟨?_, ?_, ?_, ?_, ?_, ?_⟩, ⟨?_, ?_, ?_, ?_⟩, ?_, ?_, ?_, ?_, ?_⟩
  · rw [eF, eF1, eS]; exact hW
  · rw [eH]; exact hho
  · rw [eH]; exact hhh
  · rw [eH, eF, eF1]
    intro j a b
    rw [erg _ (by omega) (by omega)]; exact hhs j a b
  · rw [eZ, eF, eF1]
    intro i a b
    rw [evs i a b]; exact hzs i a b
  · unfold txL; rw [eX, h2]; exact htx
  · rw [f2, eF]; exact d1
  · rw [f4, eF]; exact d2
  · rw [e2, eF, eF1]; exact d3
  · rw [e3, eF, eS]; exact d4
  · unfold rtx; rw [f1, h2, e1, eX]; exact ht
  · rw [f9, eH]; exact h9
  · rw [f10]; exact h10
  · rw [eH, eF, e6, f10]
    intro j a b
    rw [erg _ (by omega) (by omega)]; exact hd j a b
  · rw [e8, eZ, eF, e7]
    intro i a b
    rw [evs i a b]; exact hk i a b
theorem rel.q (ho : ord B F S T V Z H X C P D) (h : rel M F S V Z H X D) (h1 : cq M M1 T X C P) (h2 : rq M1 M2 D) : rel M2 F S V Z H X D := by
  obtain ⟨o1, o2⟩ := ho
  refine h.sm ⟨fun c z => (h2.1 c (by omega)).trans (h1.1 c (by omega) (by omega) (by omega) (by omega)), ?_, fun f z => ?_⟩
  · rw [h2.1 X (by omega)]; exact h1.2
  · rw [h2.2 f z, h1.1 D (by omega) (by omega) (by omega) (by omega)]
/-- what the reference's calls want, in the heap behind the class's call -/
theorem rel.md (ho : ord B F S T V Z H X C P D) (h : rel M F S V Z H X D) (h1 : ∀ c, D ≤ c → M1 c = M c) : mdI M1 D (M F 0) (M F 1) (M (F + 1)) (vw M S) ∧ (0 ≤ M1 D 10 ∧ M1 D 10 < 14) ∧ (0 ≤ M1 D 9 ∧ M1 D 9 ≤ 14) ∧ rtx M1 D (M (X + 8)) (M X 3) := by
  obtain ⟨⟨hW, hho, hhh, hhs, hzs, htx⟩, ⟨d1, d2, d3, d4⟩, ht, h9, h10, hd, hk⟩ := h
  have e0 := h1 D (by omega)
  have e1 := h1 (D + 1) (by omega)
  have e2 := h1 (D + 2) (by omega)
  have e3 := h1 (D + 3) (by omega)
  refine ⟨⟨by rw [e0]; exact d1, by rw [e0]; exact d2, by rw [e2]; exact d3, by rw [e3]; exact d4⟩, by rw [e0]; exact h10, by rw [e0, h9]; exact hhh, ?_⟩
  unfold rtx; rw [e0, e1]; exact ht
theorem cq.hi (ho : ord B F S T V Z H X C P D) (h : cq M M1 T X C P) : ∀ c, D ≤ c → M1 c = M c := fun c hc => by
  obtain ⟨o1, o2⟩ := ho
  exact h.1 c (by omega) (by omega) (by omega) (by omega)
theorem ca.hi {v : vV} (ho : ord B F S T V Z H X C P D) (hI : clI M F S V Z H X) (h : ca M M1 S H C P v) : ∀ c, D ≤ c → M1 c = M c := fun c hc => by
  obtain ⟨o1, o2⟩ := ho
  have := hI.2.1
  have := hI.2.2.1
  exact h.1 c (by omega) (by omega) (by unfold rg; omega) (by omega)
theorem rel.a {v : vV} (ho : ord B F S T V Z H X C P D) (h : rel M F S V Z H X D) (h1 : ca M M1 S H C P v) (h2 : ra M1 M2 D (M F 0) v) (hv : wfV (M F 0) (M F 1) (M (F + 1)) v) : rel M2 F S V Z H X D := by
  have hDc := ca.hi ho h.1 h1
  obtain ⟨o1, o2⟩ := ho
  obtain ⟨⟨hW, hho, hhh, hhs, hzs, htx⟩, ⟨d1, d2, d3, d4⟩, ht, h9, h10, hd, hk⟩ := h
  have g1 := h1.1
  have g2 := h1.2.1
  have g5 := h1.2.2.2.2
  have k1 := h2.1
  have k2 := h2.2.1
  have k3 := h2.2.2.1
  have k4 := h2.2.2.2.1
  have k6 := h2.2.2.2.2.2.1
  have k7 := h2.2.2.2.2.2.2
  rw [hDc D (by omega)] at k2 k3 k4 k6
  rw [hDc (D + 3) (by omega)] at k2
  rw [hDc (D + 6) (by omega)] at k3
  have h8 := hW.1.2.1
  have hx2 : ∀ b, 0 ≤ b → b < M F 0 → M (S + 1) b ≤ 2 := fun b a c => (hW.1.2.2 b a c).2.1
  have hrgb : H + 2 ≤ rg H ((M H 1 + M H 2) % 14) ∧ rg H ((M H 1 + M H 2) % 14) + 4 ≤ H + 71 := by unfold rg; omega
  have c1 : ∀ c, (c < S ∨ S + 4 < c) → c ≠ H → (c < rg H ((M H 1 + M H 2) % 14) ∨ rg H ((M H 1 + M H 2) % 14) + 4 < c) → (c < C ∨ P + 2 < c) → c < D → M2 c = M c := fun c a b d e f => (k1 c (by omega)).trans (g1 c a b d e)
  have eF : M2 F = M F := c1 F (by omega) (by omega) (by omega) (by omega) (by omega)
  have eF1 : M2 (F + 1) = M (F + 1) := c1 _ (by omega) (by omega) (by omega) (by omega) (by omega)
  have eS : vw M2 S = v := by rw [vw_c (M1 := M1) (fun c a b => k1 c (by omega))]; exact g5
  have eH : M2 H = M1 H := k1 H (by omega)
  have eZ : M2 Z = M Z := c1 Z (by omega) (by omega) (by omega) (by omega) (by omega)
  have eX : M2 X = M X := c1 _ (by omega) (by omega) (by omega) (by omega) (by omega)
  have eX8 : M2 (X + 8) = M (X + 8) := c1 _ (by omega) (by omega) (by omega) (by omega) (by omega)
  have e1 : M2 (D + 1) = M (D + 1) := (k1 _ (by omega)).trans (hDc _ (by omega))
  have e2 : M2 (D + 2) = M (D + 2) := (k1 _ (by omega)).trans (hDc _ (by omega))
  have e7 : M2 (D + 7) = M (D + 7) := (k1 _ (by omega)).trans (hDc _ (by omega))
  have e8 : M2 (D + 8) = M (D + 8) := (k1 _ (by omega)).trans (hDc _ (by omega))
  have erg : ∀ i, 0 ≤ i → i < 14 → i ≠ (M H 1 + M H 2) % 14 → vw M2 (rg H i) = vw M (rg H i) := fun i a b d => vw_c (fun c u w => c1 c (by unfold rg at u w; omega) (by unfold rg at u w; omega) (by unfold rg at u w ⊢; omega) (by unfold rg at u w; omega) (by unfold rg at u w; omega))
  have evs : ∀ i, 0 ≤ i → i < 2 → vw M2 (V + 1 + 5 * Int.toNat i) = vw M (V + 1 + 5 * Int.toNat i) := fun i a b => vw_c (fun c u w => c1 c (by omega) (by omega) (by omega) (by omega) (by omega))
  have hsq : sq M2 (rg H ((M H 1 + M H 2) % 14)) M S := g2.mv (fun c a b => k1 c (by omega)) (fun _ _ _ => rfl)
  have hwn := wfV_q hsq hW
  have hrn := smr_sq hsq h8 hx2 d4
  have hcase : (M H 2 = 14 ∧ M2 H 1 = (M H 1 + 1) % 14 ∧ M2 H 2 = 14) ∨ (M H 2 < 14 ∧ M2 H 1 = M H 1 ∧ M2 H 2 = M H 2 + 1) := by
    rw [eH, h1.2.2.1, h1.2.2.2.1]
    by_cases e : M H 2 = 14
    · rw [if_pos e, if_pos e]; exact Or.inl ⟨e, rfl, rfl⟩
    · rw [if_neg e, if_neg e]; exact Or.inr ⟨by omega, rfl, rfl⟩
  refine ⟨⟨?_, ?_, ?_, ?_, ?_, ?_⟩, ⟨?_, ?_, ?_, ?_⟩, ?_, ?_, ?_, ?_, ?_⟩
  · rw [eF, eF1, eS]; exact hv
  · omega
  · omega
  · rw [eF, eF1]
    intro j a b
    by_cases hj : (M2 H 1 + j) % 14 = (M H 1 + M H 2) % 14
    · rw [hj]; exact hwn
    · rw [erg _ (by omega) (by omega) hj]
      rcases hcase with ⟨u1, u2, u3⟩ | ⟨u1, u2, u3⟩
      · have := hhs (j + 1) (by omega) (by omega)
        rw [show (M H 1 + (j + 1)) % 14 = (M2 H 1 + j) % 14 by omega] at this
        exact this
      · have := hhs j (by omega) (by omega)
        rw [show (M H 1 + j) % 14 = (M2 H 1 + j) % 14 by omega] at this
        exact this
  · rw [eZ, eF, eF1]
    intro i a b
    rw [evs i a b]; exact hzs i a b
  · unfold txL; rw [eX8, eX]; exact htx
  · rw [k6 2 (by omega), eF]; exact d1
  · rw [k6 4 (by omega), eF]; exact d2
  · rw [e2, eF, eF1]; exact d3
  · rw [eF, eS]; exact k7
  · unfold rtx; rw [k6 1 (by omega), eX, e1, eX8]; exact ht
  · rw [h2.2.2.2.2.1, hDc D (by omega), h9]
    rcases hcase with ⟨u1, u2, u3⟩ | ⟨u1, u2, u3⟩
    · rw [if_neg (by omega)]; omega
    · rw [if_pos (by omega)]; omega
  · rw [k4]; omega
  · rw [eF]
    intro j a b
    by_cases hj : j = 0
    · rw [show (M2 H 1 + M2 H 2 + 13 - j) % 14 = (M H 1 + M H 2) % 14 by omega]
      refine smr_cp hrn h8 (fun b a c => ?_) (fun x x0 x1 => ?_)
      · show M2 (rg H ((M H 1 + M H 2) % 14) + 1) b ≤ 2
        rw [hsq.1 b a (by omega)]; exact hx2 b a c
      · show M2 (D + 6) (50 * ((M2 D 10 + 13 - j) % 14) + x) = _
        rw [k4, show ((M D 10 + 1) % 14 + 13 - j) % 14 = M D 10 by omega]; exact k2 x x0 x1
    · have hx := hd (j - 1) (by omega) (by omega)
      rw [erg _ (by omega) (by omega) (by omega)]
      rw [show (M2 H 1 + M2 H 2 + 13 - j) % 14 = (M H 1 + M H 2 + 13 - (j - 1)) % 14 by omega]
      refine smr_cp hx h8 (fun b a c => ?_) (fun x x0 x1 => ?_)
      · have hw := hhs (M H 2 - 1 - (j - 1)) (by omega) (by omega)
        rw [show (M H 1 + (M H 2 - 1 - (j - 1))) % 14 = (M H 1 + M H 2 + 13 - (j - 1)) % 14 by omega] at hw
        exact (hw.1.2.2 b a c).2.1
      · show M2 (D + 6) (50 * ((M2 D 10 + 13 - j) % 14) + x) = M (D + 6) (50 * ((M D 10 + 13 - (j - 1)) % 14) + x)
        rw [k4, show ((M D 10 + 1) % 14 + 13 - j) % 14 = (M D 10 + 13 - (j - 1)) % 14 by omega]
        exact k3 _ (by omega)
  · rw [e8, eZ, eF, e7]
    intro i a b
    rw [evs i a b]; exact hk i a b
end XRL
