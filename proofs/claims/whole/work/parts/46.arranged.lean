section XPA
theorem sub_len : ∀ A B : List Int, A.Nodup → (∀ x ∈ A, x ∈ B) → A.length ≤ B.length
  | [], B, _, _ => Nat.zero_le _
  | a :: A, B, hn, h => by
    have ha := h a List.mem_cons_self
    have hn2 := List.nodup_cons.1 hn
    have := sub_len A (B.erase a) hn2.2 (fun x hx => (List.mem_erase_of_ne (fun e => hn2.1 (by rw [← e]; exact hx))).2 (h x (List.mem_cons_of_mem _ hx)))
    rw [List.length_erase_of_mem ha] at this
    have hp : 0 < B.length := List.length_pos_of_mem ha
    rw [List.length_cons]
    omega
def upto : Nat → List Int
  | 0 => []
  | k + 1 => (k : Int) :: upto k
theorem upto_in {x : Int} : ∀ k : Nat, x ∈ upto k ↔ 0 ≤ x ∧ x < k
  | 0 => by
    constructor
    · intro h; cases h
    · intro h; omega
  | k + 1 => by
    unfold upto
    rw [List.mem_cons, upto_in k]
    constructor
    · rintro (h | h) <;> omega
    · intro h; omega
theorem upto_nd : ∀ k : Nat, (upto k).Nodup
  | 0 => List.nodup_nil
  | k + 1 => List.nodup_cons.2 ⟨fun h => by have := (upto_in k).1 h; omega, upto_nd k⟩
theorem upto_len : ∀ k : Nat, (upto k).length = k
  | 0 => rfl
  | k + 1 => by unfold upto; rw [List.length_cons, upto_len k]
theorem nd_len {n : Int} {P : List Int} (h0 : 0 ≤ n) (hn : P.Nodup) (h : ∀ x ∈ P, 0 ≤ x ∧ x < n) : (P.length : Int) ≤ n := by
  have := sub_len P (upto n.toNat) hn (fun x hx => by rw [upto_in]; have := h x hx; omega)
  rw [upto_len] at this
  omega
theorem miss {n : Int} {P : List Int} (h : (P.length : Int) < n) : ∃ x, 0 ≤ x ∧ x < n ∧ x ∉ P := by
  refine Classical.byContradiction (fun hc => ?_)
  have := sub_len (upto n.toNat) P (upto_nd _) (fun x hx => Classical.byContradiction (fun hx2 => hc ⟨x, by rw [upto_in] at hx; omega, by rw [upto_in] at hx; omega, hx2⟩))
  rw [upto_len] at this
  omega
/-- blocks laid into the set -/
def ads (ps : Int) (L : List Int) : Int := L.foldl adb ps
theorem pcf_l {nx : Int → Int} : ∀ (L : List Int) (k : Nat) (p b : Int) (od : Int → Int) (ps : Int), lnk nx L → (∀ x ∈ L, 0 ≤ x) → L.length ≤ k → (∃ t, L = b :: t) → pcf nx k p b od ps = (plf L p od, ads ps L, p + L.length)
  | [], k, p, b, od, ps, h, _, _, _ => h.elim
  | [x], k, p, b, od, ps, h, h0, hk, hb => by
    obtain ⟨t, ht⟩ := hb
    have hxb : x = b := (List.cons.inj ht).1
    have hx0 := h0 x List.mem_cons_self
    cases k with
    | zero => exact absurd hk (by simp)
    | succ k =>
      unfold pcf
      rw [if_neg (by omega), ← hxb]
      have h2 : nx x = -1 := h
      rw [h2]
      cases k with
      | zero => rfl
      | succ k => unfold pcf; rw [if_pos rfl]; rfl
  | x :: y :: r, k, p, b, od, ps, h, h0, hk, hb => by
    obtain ⟨t, ht⟩ := hb
    have hxb : x = b := (List.cons.inj ht).1
    have hx0 := h0 x List.mem_cons_self
    cases k with
    | zero => exact absurd hk (by simp)
    | succ k =>
      unfold pcf
      rw [if_neg (by omega), ← hxb, h.1]
      rw [pcf_l (y :: r) k (p + 1) y _ _ h.2 (fun z hz => h0 z (List.mem_cons_of_mem _ hz)) (by rw [List.length_cons] at hk; omega) ⟨r, rfl⟩]
      rw [List.length_cons (a := x), show p + 1 + ((y :: r).length : Int) = p + (((y :: r).length + 1 : Nat) : Int) by omega]
      rfl
theorem plf_lo : ∀ (L : List Int) (i : Int) (od : Int → Int) (x : Int), x < i → plf L i od x = od x
  | [], i, od, x, h => rfl
  | b :: t, i, od, x, h => by
    unfold plf
    rw [plf_lo t (i + 1) _ x (by omega), upf_n (by omega)]
theorem plf_hi : ∀ (L : List Int) (i : Int) (od : Int → Int) (x : Int), i + L.length ≤ x → plf L i od x = od x
  | [], i, od, x, h => rfl
  | b :: t, i, od, x, h => by
    unfold plf
    rw [List.length_cons] at h
    rw [plf_hi t (i + 1) _ x (by omega), upf_n (by omega)]
theorem plf_at : ∀ (L : List Int) (i : Int) (od : Int → Int) (j : Nat) (x : Int), L[j]? = some x → plf L i od (i + j) = x
  | [], i, od, j, x, h => by cases h
  | b :: t, i, od, 0, x, h => by
    unfold plf
    rw [plf_lo _ _ _ _ (by omega), show i + ((0 : Nat) : Int) = i by omega, upf_s]
    exact Option.some.inj h
  | b :: t, i, od, j + 1, x, h => by
    unfold plf
    rw [show i + ((j + 1 : Nat) : Int) = i + 1 + (j : Int) by omega]
    exact plf_at t (i + 1) _ j x h
theorem ads_ok {c : Int} (h4 : 0 ≤ c) (h5 : c < 8) : ∀ (L : List Int) (ps : Int), 0 ≤ ps → ps < 256 → (∀ x ∈ L, 0 ≤ x ∧ x < 8) → (0 ≤ ads ps L ∧ ads ps L < 256) ∧ (btb (ads ps L) c = true ↔ c ∈ L ∨ btb ps c = true)
  | [], ps, h0, h1, hL => ⟨⟨h0, h1⟩, by
    constructor
    · intro h; exact Or.inr h
    · rintro (h | h)
      · cases h
      · exact h⟩
  | b :: t, ps, h0, h1, hL => by
    have hb := hL b List.mem_cons_self
    have ha := adb_bd h0 h1 hb.1 hb.2
    have hi := ads_ok h4 h5 t (adb ps b) ha.1 ha.2 (fun x hx => hL x (List.mem_cons_of_mem _ hx))
    rw [btb_adb h0 h1 hb.1 hb.2 h4 h5] at hi
    refine ⟨hi.1, ?_⟩
    show btb (ads (adb ps b) t) c = true ↔ _
    rw [hi.2, List.mem_cons, Bool.or_eq_true, decide_eq_true_eq]
    constructor
    · rintro (h | h | h)
      · exact Or.inl (Or.inr h)
      · exact Or.inl (Or.inl h)
      · exact Or.inr h
    · rintro ((h | h) | h)
      · exact Or.inr (Or.inl h)
      · exact Or.inl h
      · exact Or.inr (Or.inr h)
theorem hhf_no {hd wt : Int → Int} {pl : Int → Bool} : ∀ (k : Nat) (b h g : Int), (∀ x, b ≤ x → x < b + k → hd x = x → ¬ pl x = true → ¬ g < wt x) → hhf hd wt pl k b h g = h
  | 0, b, h, g, hx => rfl
  | k + 1, b, h, g, hx => by
    unfold hhf
    rw [if_neg (fun z => hx b (by omega) (by omega) z.1 z.2.1 z.2.2)]
    exact hhf_no k (b + 1) h g (fun x a c => hx x (by omega) (by omega))
theorem hhf_ok {hd wt : Int → Int} {pl : Int → Bool} : ∀ (k : Nat) (b h g : Int), (∃ x, b ≤ x ∧ x < b + k ∧ hd x = x ∧ ¬ pl x = true ∧ g < wt x) → (b ≤ hhf hd wt pl k b h g ∧ hhf hd wt pl k b h g < b + k ∧ hd (hhf hd wt pl k b h g) = hhf hd wt pl k b h g ∧ ¬ pl (hhf hd wt pl k b h g) = true) ∧ ∀ h', hhf hd wt pl k b h' g = hhf hd wt pl k b h g
  | 0, b, h, g, hx => by obtain ⟨x, h1, h2, -⟩ := hx; omega
  | k + 1, b, h, g, hx => by
    unfold hhf
    by_cases hc : hd b = b ∧ ¬ pl b = true ∧ g < wt b
    · rw [if_pos hc]
      refine ⟨?_, fun h' => by rw [if_pos hc]⟩
      by_cases hy : ∃ x, b + 1 ≤ x ∧ x < b + 1 + k ∧ hd x = x ∧ ¬ pl x = true ∧ wt b < wt x
      · have := (hhf_ok k (b + 1) b (wt b) hy).1
        exact ⟨by omega, by omega, this.2.2⟩
      · rw [hhf_no k (b + 1) b (wt b) (fun x a c d e f => hy ⟨x, a, c, d, e, f⟩)]
        exact ⟨by omega, by omega, hc.1, hc.2.1⟩
    · rw [if_neg hc]
      obtain ⟨x, h1, h2, h3, h4, h5⟩ := hx
      have hxb : x ≠ b := fun e => hc (by rw [← e]; exact ⟨h3, h4, h5⟩)
      have := hhf_ok k (b + 1) h g ⟨x, by omega, by omega, h3, h4, h5⟩
      exact ⟨⟨by omega, by omega, this.1.2.2⟩, fun h' => by rw [if_neg hc]; exact this.2 h'⟩
/-- the blocks of P are placed: whole chains, as od and ps say -/
def apl (n : Int) (hd : Int → Int) (P : List Int) (od : Int → Int) (ps : Int) : Prop := P.Nodup ∧ (∀ x ∈ P, 0 ≤ x ∧ x < n) ∧ (∀ x, 0 ≤ x → x < n → (x ∈ P ↔ hd x ∈ P)) ∧ lay od P ∧ (0 ≤ ps ∧ ps < 256) ∧ (∀ x, 0 ≤ x → x < n → (btb ps x = true ↔ x ∈ P))
theorem apl_head {n : Int} {hd nx ex tg ct : Int → Int} {c : Int → List Int} {P : List Int} {od : Int → Int} {ps : Int} (hG : wfG n ex tg ct) (hC : chn n (hd, nx) c) (hA : apl n hd P od ps) (hl : (P.length : Int) < n) : (0 ≤ nch n hd ex tg ct ps ∧ nch n hd ex tg ct ps < n ∧ hd (nch n hd ex tg ct ps) = nch n hd ex tg ct ps ∧ nch n hd ex tg ct ps ∉ P) ∧ ∀ h', hhf hd (wtf n hd ex tg ct (btb ps)) (btb ps) n.toNat 0 h' (-1) = nch n hd ex tg ct ps := by
  obtain ⟨x, x0, x1, x2⟩ := miss hl
  obtain ⟨a1, a2, a3, a4, a5, a6⟩ := hA
  have hx := hC.1 x x0 x1
  have hn := hG.1
  have hp : ¬ btb ps (hd x) = true := fun e => x2 ((a3 x x0 x1).2 ((a6 _ hx.1 hx.2.1).1 e))
  have hw := wtf_bd (hd := hd) (pl := btb ps) (c := hd x) hG
  have := hhf_ok (hd := hd) (wt := wtf n hd ex tg ct (btb ps)) (pl := btb ps) n.toNat 0 (-1) (-1) ⟨hd x, hx.1, by have := hx.2.1; dsimp only at this; omega, hx.2.2, hp, by omega⟩
  refine ⟨?_, this.2⟩
  unfold nch
  refine ⟨this.1.1, by omega, this.1.2.2.1, fun e => this.1.2.2.2 ((a6 _ this.1.1 (by omega)).2 e)⟩
theorem apl_step {n : Int} {hd nx : Int → Int} {c : Int → List Int} {P : List Int} {od : Int → Int} {ps h : Int} (h8 : n ≤ 8) (hC : chn n (hd, nx) c) (hA : apl n hd P od ps) (h0 : 0 ≤ h) (h1 : h < n) (h2 : hd h = h) (h3 : h ∉ P) : pcf nx (n - P.length).toNat P.length h od ps = (plf (c h) P.length od, ads ps (c h), (P.length : Int) + (c h).length) ∧ apl n hd (P ++ c h) (plf (c h) P.length od) (ads ps (c h)) ∧ 0 < (c h).length ∧ ((P ++ c h).length : Int) ≤ n := by
  obtain ⟨a1, a2, a3, a4, a5, a6⟩ := hA
  obtain ⟨⟨t, ht⟩, c2, c3, c4⟩ := hC.2.2 h h0 h1 h2
  have hcr : ∀ x ∈ c h, 0 ≤ x ∧ x < n := fun x hx => by have := (c4 x).1 hx; exact ⟨this.1, this.2.1⟩
  have hnd : (P ++ c h).Nodup := List.nodup_append.2 ⟨a1, c2, fun x hx y hy e => by
    have e1 := ((c4 y).1 hy).2.2
    have e2 := a2 x hx
    have e3 := (a3 x e2.1 e2.2).1 hx
    rw [e] at e3
    have e4 : hd y = h := e1
    rw [e4] at e3
    exact h3 e3⟩
  have hr : ∀ x ∈ P ++ c h, 0 ≤ x ∧ x < n := fun x hx => by
    rcases List.mem_append.1 hx with e | e
    · exact a2 x e
    · exact hcr x e
  have hlen := nd_len (by omega) hnd hr
  have hlen2 := hlen
  rw [List.length_append] at hlen2
  refine ⟨pcf_l (c h) _ _ h od ps c3 (fun x hx => (hcr x hx).1) (by omega) ⟨t, ht⟩, ⟨hnd, hr, fun x x0 x1 => ?_, fun j x hj => ?_, ?_, fun x x0 x1 => ?_⟩, by rw [ht]; exact Nat.succ_pos _, hlen⟩
  · have hx := hC.1 x x0 x1
    rw [List.mem_append, List.mem_append, a3 x x0 x1, c4 x, c4 (hd x)]
    constructor
    · rintro (e | e)
      · exact Or.inl e
      · exact Or.inr ⟨hx.1, hx.2.1, by have := e.2.2; have := hx.2.2; dsimp only at *; omega⟩
    · rintro (e | e)
      · exact Or.inl e
      · exact Or.inr ⟨x0, x1, by have := e.2.2; have := hx.2.2; dsimp only at *; omega⟩
  · rcases Nat.lt_or_ge j P.length with e | e
    · rw [List.getElem?_append_left e] at hj
      rw [plf_lo _ _ _ _ (show ((j : Nat) : Int) < (P.length : Int) by omega)]
      exact a4 j x hj
    · rw [List.getElem?_append_right e] at hj
      have := plf_at (c h) P.length od (j - P.length) x hj
      rw [show (P.length : Int) + ((j - P.length : Nat) : Int) = (j : Nat) by omega] at this
      exact this
  · exact (ads_ok (c := 0) (by omega) (by omega) (c h) ps a5.1 a5.2 (fun x hx => by have := hcr x hx; omega)).1
  · rw [(ads_ok x0 (by omega) (c h) ps a5.1 a5.2 (fun x hx => by have := hcr x hx; omega)).2, List.mem_append, a6 x x0 x1]
    exact Or.comm
theorem arf_ok {n : Int} {hd nx ex tg ct : Int → Int} {c : Int → List Int} (hG : wfG n ex tg ct) (hC : chn n (hd, nx) c) : ∀ (k : Nat) (P : List Int) (od : Int → Int) (ps : Int), apl n hd P od ps → (P.length : Int) ≤ n → n ≤ P.length + k → P[0]? = some 0 → ∃ P2 ps2, apl n hd P2 (arf n hd nx ex tg ct k od ps P.length) ps2 ∧ (P2.length : Int) = n ∧ P2[0]? = some 0
  | 0, P, od, ps, hA, hl, hk, h0 => ⟨P, ps, hA, by omega, h0⟩
  | k + 1, P, od, ps, hA, hl, hk, h0 => by
    unfold arf
    by_cases hp : n ≤ P.length
    · rw [if_pos hp]; exact ⟨P, ps, hA, by omega, h0⟩
    · rw [if_neg hp]
      have hh := (apl_head hG hC hA (by omega)).1
      obtain ⟨s1, s2, s3, s4⟩ := apl_step hG.2.1 hC hA hh.1 hh.2.1 hh.2.2.1 hh.2.2.2
      rw [s1]
      have := arf_ok hG hC k (P ++ c (nch n hd ex tg ct ps)) _ _ s2 s4 (by rw [List.length_append]; omega) (by
        rw [List.getElem?_append_left (by
          rcases Nat.eq_zero_or_pos P.length with e | e
          · rw [List.length_eq_zero_iff.1 e] at h0; cases h0
          · exact e)]; exact h0)
      rw [List.length_append, Int.natCast_add] at this
      exact this
theorem apl_0 {n : Int} {hd od : Int → Int} (h8 : n ≤ 8) : apl n hd [] od 0 := by
  refine ⟨List.nodup_nil, ⟨fun x hx => absurd hx List.not_mem_nil, fun x _ _ => ?_, fun j x hj => absurd hj (by simp), by omega, fun x x0 x1 => ?_⟩⟩
  · constructor <;> intro h <;> cases h
  · have := btb_0 x.toNat (by omega)
    rw [show ((x.toNat : Nat) : Int) = x by omega] at this
    rw [this]
    constructor <;> intro h <;> cases h
theorem apl_wf {n : Int} {hd od : Int → Int} {P : List Int} {ps : Int} (hn : 1 ≤ n) (hA : apl n hd P od ps) (hl : (P.length : Int) = n) (h0 : P[0]? = some 0) : wfO n od n := by
  obtain ⟨a1, a2, a3, a4, a5, a6⟩ := hA
  have hg : ∀ i, 0 ≤ i → i < n → ∃ h : i.toNat < P.length, od i = P[i.toNat] := fun i i0 i1 => by
    refine ⟨by omega, ?_⟩
    have := a4 i.toNat _ (List.getElem?_eq_getElem (by omega))
    rw [show ((i.toNat : Nat) : Int) = i by omega] at this
    exact this
  refine ⟨fun i i0 i1 => ?_, fun i j i0 i1 j0 j1 e => ?_, a4 0 0 h0, hn, by omega⟩
  · obtain ⟨h, e⟩ := hg i i0 i1
    rw [e]; exact a2 _ (List.getElem_mem h)
  · obtain ⟨h, e1⟩ := hg i i0 i1
    obtain ⟨h', e2⟩ := hg j j0 j1
    rw [e1, e2] at e
    have := (List.getElem_inj a1).1 e
    omega
theorem aro_wf {n : Int} {hd nx ex tg ct od : Int → Int} {c : Int → List Int} (hG : wfG n ex tg ct) (hC : chn n (hd, nx) c) : wfO n (aro n hd nx ex tg ct od) n := by
  have hn := hG.1
  have hA := apl_0 (n := n) (hd := hd) (od := od) hG.2.1
  obtain ⟨s1, s2, s3, s4⟩ := apl_step hG.2.1 hC hA (h := 0) (by omega) (by omega) hC.2.1 (fun h => by cases h)
  unfold aro
  have s1' : pcf nx (n - 0).toNat 0 0 od 0 = (plf (c 0) (([] : List Int).length : Int) od, ads 0 (c 0), ((([] : List Int).length : Int)) + ((c 0).length : Int)) := s1
  rw [s1']
  obtain ⟨t, ht⟩ := (hC.2.2 0 (by omega) (by omega) hC.2.1).1
  obtain ⟨P2, ps2, b1, b2, b3⟩ := arf_ok hG hC (n - 1).toNat _ _ _ s2 s4 (by rw [List.length_append]; omega) (by rw [ht]; rfl)
  rw [List.length_append, Int.natCast_add] at b1
  exact apl_wf hn b1 b2 b3
end XPA
