section XVW
/-- a layout: exits, targets, counts, order, hot count, alignment -/
abbrev vV := (Int → Int) × (Int → Int) × (Int → Int) × (Int → Int) × Int × Int
abbrev vw (M : Nat → Int → Int) (S : Nat) : vV := (M (S + 1), M (S + 2), M (S + 3), M (S + 4), M S 5, M S 6)
def wfV (n en : Int) (byt : Int → Int) (v : vV) : Prop := wfG n v.1 v.2.1 v.2.2.1 ∧ wfO n v.2.2.2.1 v.2.2.2.2.1 ∧ (v.2.2.2.2.2 = 1 ∨ v.2.2.2.2.2 = 2 ∨ v.2.2.2.2.2 = 4 ∨ v.2.2.2.2.2 = 8 ∨ v.2.2.2.2.2 = 16) ∧ (0 ≤ en ∧ en ≤ 99) ∧ ∀ b, 0 ≤ b → b < n → 0 ≤ byt b ∧ byt b ≤ 9
theorem wfV_S {M : Nat → Int → Int} {S F : Nat} (h : wfV (M F 0) (M F 1) (M (F + 1)) (vw M S)) : wfS M S F := h
/-- what actions do to a layout -/
def vsw (i j : Int) (v : vV) : vV := (v.1, v.2.1, v.2.2.1, upf (upf v.2.2.2.1 i (v.2.2.2.1 j)) j (v.2.2.2.1 i), v.2.2.2.2.1, v.2.2.2.2.2)
def vtn (f l : Int) (v : vV) : vV := (v.1, v.2.1, v.2.2.1, upf (tnf (l - f).toNat f v.2.2.2.1) l (v.2.2.2.1 f), v.2.2.2.2.1, v.2.2.2.2.2)
def vdv (n en t : Int) (v : vV) : vV := (v.1, v.2.1, v.2.2.1, (dvf (hotp n en v.1 v.2.1 v.2.2.1 t) n.toNat 0 v.2.2.2.1 0).1, (dvf (hotp n en v.1 v.2.1 v.2.2.1 t) n.toNat 0 v.2.2.2.1 0).2, v.2.2.2.2.2)
def vga (n b : Int) (v : vV) : vV := ((ga2 b n.toNat 0 v.1 v.2.1 v.2.2.1 0).1, (ga2 b n.toNat 0 v.1 v.2.1 v.2.2.1 0).2.1, upf (ga2 b n.toNat 0 v.1 v.2.1 v.2.2.1 0).2.2.1 (2 * b + 0) 0, v.2.2.2.1, v.2.2.2.2.1, v.2.2.2.2.2)
def vgc (n b : Int) (v : vV) : Int := (ga2 b n.toNat 0 v.1 v.2.1 v.2.2.1 0).2.2.2
/-! orders stay orders -/
theorem wfO_pi {n h : Int} {od od2 π : Int → Int} (hO : wfO n od h) (h1 : ∀ x, 0 ≤ x → x < n → od2 x = od (π x) ∧ 0 ≤ π x ∧ π x < n) (h2 : ∀ x y, 0 ≤ x → x < n → 0 ≤ y → y < n → π x = π y → x = y) (h3 : π 0 = 0) (hn : 0 < n) : wfO n od2 h := by
  obtain ⟨a, b, c, d, e⟩ := hO
  refine ⟨fun i q r => ?_, fun i j q r s t u => ?_, ?_, d, e⟩
  · have := h1 i q r
    rw [this.1]; exact a _ this.2.1 this.2.2
  · have z1 := h1 i q r
    have z2 := h1 j s t
    rw [z1.1, z2.1] at u
    exact h2 i j q r s t (b _ _ z1.2.1 z1.2.2 z2.2.1 z2.2.2 u)
  · rw [(h1 0 (by omega) hn).1, h3]; exact c
theorem wfO_h {n h h' : Int} {od : Int → Int} (hO : wfO n od h) (h1 : 1 ≤ h') (h2 : h' ≤ n) : wfO n od h' := ⟨hO.1, hO.2.1, hO.2.2.1, h1, h2⟩
theorem wfO_sw {n h i j : Int} {od : Int → Int} (hO : wfO n od h) (hi : 0 < i ∧ i < n) (hj : 0 < j ∧ j < n) : wfO n (upf (upf od i (od j)) j (od i)) h := by
  refine wfO_pi (π := fun x => if x = j then i else if x = i then j else x) hO (fun x q r => ?_) (fun x y q r s t u => ?_) ?_ (by omega)
  · unfold upf
    by_cases h1 : x = j
    · rw [if_pos h1, if_pos h1]; exact ⟨rfl, by omega, by omega⟩
    · rw [if_neg h1, if_neg h1]
      by_cases h2 : x = i
      · rw [if_pos h2, if_pos h2]; exact ⟨rfl, by omega, by omega⟩
      · rw [if_neg h2, if_neg h2]; exact ⟨rfl, q, r⟩
  · split at u <;> split at u <;> (try split at u) <;> (try split at u) <;> omega
  · rw [if_neg (by omega), if_neg (by omega)]
theorem tnf_at : ∀ (k : Nat) (i : Int) (r : Int → Int) (x : Int), tnf k i r x = if i ≤ x ∧ x < i + k then r (x + 1) else r x
  | 0, i, r, x => by unfold tnf; rw [if_neg (by omega)]
  | k + 1, i, r, x => by
    unfold tnf
    rw [tnf_at k (i + 1) _ x]
    by_cases h : i + 1 ≤ x ∧ x < i + 1 + k
    · rw [if_pos h, if_pos (by omega), upf_n (by omega)]
    · rw [if_neg h]
      by_cases h2 : x = i
      · subst h2; rw [upf_s, if_pos (by omega)]
      · rw [upf_n h2, if_neg (by omega)]
theorem trn_at {f l x : Int} {od : Int → Int} (hf : f ≤ l) : upf (tnf (l - f).toNat f od) l (od f) x = od (if x = l then f else if f ≤ x ∧ x < l then x + 1 else x) := by
  by_cases h : x = l
  · rw [if_pos h, h, upf_s]
  · rw [upf_n h, tnf_at, if_neg h]
    by_cases h2 : f ≤ x ∧ x < l
    · rw [if_pos h2, if_pos (by omega)]
    · rw [if_neg h2, if_neg (by omega)]
theorem wfO_tn {n h f l : Int} {od : Int → Int} (hO : wfO n od h) (hf : 0 < f ∧ f ≤ l) (hl : l < n) : wfO n (upf (tnf (l - f).toNat f od) l (od f)) h := by
  refine wfO_pi (π := fun x => if x = l then f else if f ≤ x ∧ x < l then x + 1 else x) hO (fun x q r => ⟨trn_at hf.2, ?_⟩) (fun x y q r s t u => ?_) ?_ (by omega)
  · split <;> (try split) <;> omega
  · split at u <;> split at u <;> (try split at u) <;> (try split at u) <;> omega
  · rw [if_neg (by omega), if_neg (by omega)]
theorem shf_at : ∀ (k : Nat) (i : Int) (r : Int → Int) (x : Int), shf k i r x = if i - k < x ∧ x ≤ i then r (x - 1) else r x
  | 0, i, r, x => by unfold shf; rw [if_neg (by omega)]
  | k + 1, i, r, x => by
    unfold shf
    rw [shf_at k (i - 1) _ x]
    by_cases h : i - 1 - k < x ∧ x ≤ i - 1
    · rw [if_pos h, if_pos (by omega), upf_n (by omega)]
    · rw [if_neg h]
      by_cases h2 : x = i
      · subst h2; rw [upf_s, if_pos (by omega)]
      · rw [upf_n h2, if_neg (by omega)]
theorem sft_at {h i x : Int} {r : Int → Int} (hh : h ≤ i) : upf (shf (i - h).toNat i r) h (r i) x = r (if x = h then i else if h < x ∧ x ≤ i then x - 1 else x) := by
  by_cases h1 : x = h
  · rw [if_pos h1, h1, upf_s]
  · rw [upf_n h1, shf_at, if_neg h1]
    by_cases h2 : h < x ∧ x ≤ i
    · rw [if_pos h2, if_pos (by omega)]
    · rw [if_neg h2, if_neg (by omega)]
theorem wfO_sft {n g h i : Int} {r : Int → Int} (hO : wfO n r g) (hh : 0 ≤ h ∧ h ≤ i) (h0 : h = 0 → i = 0) (hi : i < n) : wfO n (upf (shf (i - h).toNat i r) h (r i)) g := by
  refine wfO_pi (π := fun x => if x = h then i else if h < x ∧ x ≤ i then x - 1 else x) hO (fun x q r => ⟨sft_at hh.2, ?_⟩) (fun x y q r s t u => ?_) ?_ (by omega)
  · split <;> (try split) <;> omega
  · split at u <;> split at u <;> (try split at u) <;> (try split at u) <;> omega
  · by_cases hz : h = 0
    · rw [if_pos hz.symm, h0 hz]
    · rw [if_neg (by omega), if_neg (by omega)]
theorem wfO_dv {n g : Int} {p : Int → Bool} (hp : p 0 = true) : ∀ (k : Nat) (i : Int) (r : Int → Int) (h : Int), wfO n r g → 0 ≤ h → h ≤ i → (h = 0 → i = 0) → i + k = n → (0 < k ∨ 0 < h) → wfO n (dvf p k i r h).1 g ∧ 1 ≤ (dvf p k i r h).2 ∧ (dvf p k i r h).2 ≤ n
  | 0, i, r, h, hO, h0, h1, h2, h3, h4 => by unfold dvf; exact ⟨hO, by dsimp only; omega, by dsimp only; omega⟩
  | k + 1, i, r, h, hO, h0, h1, h2, h3, h4 => by
    unfold dvf
    by_cases hc : p (r i) = true
    · rw [if_pos hc]
      exact wfO_dv hp k (i + 1) _ (h + 1) (wfO_sft hO ⟨h0, h1⟩ h2 (by omega)) (by omega) (by omega) (by omega) (by omega) (by omega)
    · rw [if_neg hc]
      have hz : h ≠ 0 := fun z => hc (by rw [h2 z, hO.2.2.1]; exact hp)
      exact wfO_dv hp k (i + 1) r h hO h0 (by omega) (by omega) (by omega) (by omega)
/-- the order as a list, and what dvf makes of it -/
def odl (od : Int → Int) : Nat → List Int
  | 0 => []
  | k + 1 => odl od k ++ [od k]
theorem odl_len {od : Int → Int} : ∀ k, (odl od k).length = k
  | 0 => rfl
  | k + 1 => by unfold odl; rw [List.length_append, odl_len k]; rfl
def fna (L : List Int) (x : Int) : Int := L.getD x.toNat 0
theorem dvf_l {p : Int → Bool} {od : Int → Int} : ∀ (k i : Nat) (r : Int → Int) (H C : List Int), H = (odl od i).filter p → C = (odl od i).filter (fun b => !p b) → (∀ x : Int, 0 ≤ x → x < i → r x = fna (H ++ C) x) → (∀ x, (i : Int) ≤ x → r x = od x) → H.length + C.length = i → (dvf p k i r H.length).2 = (((odl od (i + k)).filter p).length : Int) ∧ ∀ x : Int, 0 ≤ x → x < i + k → (dvf p k i r H.length).1 x = fna ((odl od (i + k)).filter p ++ (odl od (i + k)).filter (fun b => !p b)) x
  | 0, i, r, H, C, hH, hC, h1, h2, h3 => by
    unfold dvf
    subst hH; subst hC
    exact ⟨rfl, fun x q s => h1 x q (by omega)⟩
  | k + 1, i, r, H, C, hH, hC, h1, h2, h3 => by
    unfold dvf
    rw [show i + (k + 1) = (i + 1) + k by omega, show ((i : Nat) : Int) + ((k + 1 : Nat) : Int) = ((i + 1 : Nat) : Int) + (k : Nat) by omega, h2 i (by omega)]
    by_cases hc : p (od i) = true
    · rw [if_pos hc, show ((H.length : Nat) : Int) + 1 = ((H ++ [od i]).length : Int) by simp]
      refine dvf_l k (i + 1) _ (H ++ [od i]) C ?_ ?_ ?_ ?_ ?_
      · unfold odl; rw [List.filter_append, ← hH, List.filter_cons_of_pos (by simpa using hc)]; rfl
      · unfold odl; rw [List.filter_append, ← hC, List.filter_cons_of_neg (by simpa using hc)]; simp
      · intro x q s
        rw [show upf (shf ((i : Int) - (H.length : Int)).toNat i r) (H.length : Int) (od i) x = upf (shf ((i : Int) - (H.length : Int)).toNat i r) (H.length : Int) (r i) x by rw [h2 i (by omega)], sft_at (by omega)]
        unfold fna at h1 ⊢
        by_cases ha : x = H.length
        · rw [if_pos ha, h2 i (by omega), ha]
          simp
        · rw [if_neg ha]
          by_cases hb : (H.length : Int) < x ∧ x ≤ i
          · rw [if_pos hb, h1 (x - 1) (by omega) (by omega)]
            obtain ⟨y, rfl⟩ : ∃ y : Nat, x = ((H.length + 1 + y : Nat) : Int) := ⟨(x - H.length - 1).toNat, by omega⟩
            rw [show (((H.length + 1 + y : Nat) : Int) - 1).toNat = H.length + y by omega, show (((H.length + 1 + y : Nat) : Int)).toNat = H.length + 1 + y by omega]
            simp only [List.getD_eq_getElem?_getD]
            rw [List.getElem?_append_right (by omega), List.getElem?_append_right (by simp), show H.length + y - H.length = y by omega, show H.length + 1 + y - (H ++ [od i]).length = y by simp]
          · rw [if_neg hb]
            have hx : x < H.length := by omega
            rw [h1 x q (by omega)]
            simp only [List.getD_eq_getElem?_getD]
            rw [List.getElem?_append_left (by omega), List.append_assoc, List.getElem?_append_left (by omega)]
      · intro x q
        rw [show upf (shf ((i : Int) - (H.length : Int)).toNat i r) (H.length : Int) (od i) x = upf (shf ((i : Int) - (H.length : Int)).toNat i r) (H.length : Int) (r i) x by rw [h2 i (by omega)], sft_at (by omega), if_neg (by omega), if_neg (by omega)]
        exact h2 x (by omega)
      · simp; omega
    · rw [if_neg hc]
      refine dvf_l k (i + 1) _ H (C ++ [od i]) ?_ ?_ ?_ ?_ ?_
      · unfold odl; rw [List.filter_append, ← hH, List.filter_cons_of_neg (by simpa using hc)]; simp
      · unfold odl; rw [List.filter_append, ← hC, List.filter_cons_of_pos (by simpa using hc)]; rfl
      · intro x q s
        by_cases ha : x = i
        · rw [h2 x (by omega), ha]
          unfold fna
          rw [← List.append_assoc]
          simp only [List.getD_eq_getElem?_getD]
          rw [List.getElem?_append_right (by simp; omega), show ((i : Nat) : Int).toNat - (H ++ C).length = 0 by simp; omega]
          rfl
        · rw [h1 x q (by omega)]
          unfold fna
          simp only [List.getD_eq_getElem?_getD]
          rw [← List.append_assoc, List.getElem?_append_left (l₁ := H ++ C) (by simp; omega)]
      · exact fun x q => h2 x (by omega)
      · simp; omega
/-! a bypass keeps a graph a graph -/
theorem ga1_at {b f x : Int} : ∀ (m : Nat) (k : Int) (tg : Int → Int) (c : Int), tg (2 * b + 0) ≠ b → (ga1 b f m k tg c).1 x = if 2 * f + k ≤ x ∧ x < 2 * f + k + m ∧ tg x = b then tg (2 * b + 0) else tg x
  | 0, k, tg, c, h => by unfold ga1; rw [if_neg (by omega)]
  | m + 1, k, tg, c, h => by
    unfold ga1
    by_cases h1 : tg (2 * f + k) = b
    · have hne : 2 * b + 0 ≠ 2 * f + k := fun z => h (by rw [z]; exact h1)
      rw [if_pos h1, ga1_at m (k + 1) _ (c + 1) (by rw [upf_n hne]; exact h), upf_n hne]
      by_cases hx : x = 2 * f + k
      · rw [hx, upf_s, if_neg (by omega), if_pos ⟨by omega, by omega, h1⟩]
      · rw [upf_n hx]
        by_cases h2 : 2 * f + (k + 1) ≤ x ∧ x < 2 * f + (k + 1) + m ∧ tg x = b
        · rw [if_pos h2, if_pos ⟨by omega, by omega, h2.2.2⟩]
        · rw [if_neg h2, if_neg (fun z => h2 ⟨by omega, by omega, z.2.2⟩)]
    · rw [if_neg h1, ga1_at m (k + 1) tg c h]
      by_cases h2 : 2 * f + (k + 1) ≤ x ∧ x < 2 * f + (k + 1) + m ∧ tg x = b
      · rw [if_pos h2, if_pos ⟨by omega, by omega, h2.2.2⟩]
      · rw [if_neg h2, if_neg (fun z => h2 ⟨by
          have : x ≠ 2 * f + k := fun y => h1 (by rw [← y]; exact z.2.2)
          omega, by omega, z.2.2⟩)]
theorem ga_step {n b f to c : Int} {ex tg ct : Int → Int} (hG : wfG n ex tg ct) (hb : 0 ≤ b ∧ b < n) (hf : 0 ≤ f ∧ f < n) (ht : tg (2 * b + 0) = to) (hn : to ≠ b) (hx : ex b = 1) : wfG n (jnE f ex (ga1 b f (ex f).toNat 0 tg c).1) (ga1 b f (ex f).toNat 0 tg c).1 (jnC f ex (ga1 b f (ex f).toNat 0 tg c).1 ct) ∧ (ga1 b f (ex f).toNat 0 tg c).1 (2 * b + 0) = to ∧ jnE f ex (ga1 b f (ex f).toNat 0 tg c).1 b = 1 := by
  have hg : ∀ x, (ga1 b f (ex f).toNat 0 tg c).1 x = if 2 * f + 0 ≤ x ∧ x < 2 * f + 0 + (ex f).toNat ∧ tg x = b then to else tg x := fun x => by rw [ga1_at _ _ _ _ (by rw [ht]; exact hn), ht]
  have hf2 := (hG.2.2 f hf.1 hf.2).2.1
  have hto : 0 ≤ to ∧ to < n := by
    have := (hG.2.2 b hb.1 hb.2).2.2.1 0 (by omega) (by omega)
    rw [ht] at this; omega
  have h2 : (ga1 b f (ex f).toNat 0 tg c).1 (2 * b + 0) = to := by rw [hg, if_neg (fun z => hn (by rw [← ht]; exact z.2.2)), ht]
  generalize (ga1 b f (ex f).toNat 0 tg c).1 = tg2 at *
  refine ⟨⟨hG.1, hG.2.1, fun x x0 x1 => ?_⟩, h2, ?_⟩
  · obtain ⟨a1, a2, a3, a4⟩ := hG.2.2 x x0 x1
    have key : ∀ k, 0 ≤ k → k < ex x → 0 ≤ tg2 (2 * x + k) ∧ tg2 (2 * x + k) < n ∧ 0 ≤ ct (2 * x + k) ∧ ct (2 * x + k) ≤ 99 := fun k k0 k1 => by
      have := a3 k k0 k1
      rw [hg]
      by_cases hc : 2 * f + 0 ≤ 2 * x + k ∧ 2 * x + k < 2 * f + 0 + (ex f).toNat ∧ tg (2 * x + k) = b
      · rw [if_pos hc]; exact ⟨hto.1, hto.2, this.2.2.1, this.2.2.2⟩
      · rw [if_neg hc]; exact this
    unfold jnE jnC
    by_cases hj : ex f = 2 ∧ tg2 (2 * f + 0) = tg2 (2 * f + 1)
    · rw [if_pos hj, if_pos hj]
      by_cases hxf : x = f
      · subst hxf
        unfold wfB
        rw [upf_s]
        refine ⟨by omega, by omega, fun k k0 k1 => ?_, fun z => by omega⟩
        have z0 := key 0 (by omega) (by omega)
        have z1 := key 1 (by omega) (by omega)
        have hk : k = 0 := by omega
        subst hk
        rw [upf_s]
        split <;> omega
      · unfold wfB
        rw [upf_n hxf]
        refine ⟨a1, a2, fun k k0 k1 => ?_, fun z => ?_⟩
        · rw [upf_n (by omega)]; exact key k k0 k1
        · rw [hg, hg, if_neg (by omega), if_neg (by omega)]; exact a4 z
    · rw [if_neg hj, if_neg hj]
      refine ⟨a1, a2, key, fun z => ?_⟩
      by_cases hxf : x = f
      · subst hxf; exact fun y => hj ⟨z, y⟩
      · rw [hg, hg, if_neg (by omega), if_neg (by omega)]; exact a4 z
  · unfold jnE
    by_cases hj : ex f = 2 ∧ tg2 (2 * f + 0) = tg2 (2 * f + 1)
    · rw [if_pos hj, upf_n (fun z => by rw [z] at hx; omega)]; exact hx
    · rw [if_neg hj]; exact hx
theorem ga2_wf {n b to : Int} (hb : 0 ≤ b ∧ b < n) (hn : to ≠ b) : ∀ (m : Nat) (f : Int) (ex tg ct : Int → Int) (c : Int), 0 ≤ f → f + m = n → wfG n ex tg ct → tg (2 * b + 0) = to → ex b = 1 → wfG n (ga2 b m f ex tg ct c).1 (ga2 b m f ex tg ct c).2.1 (ga2 b m f ex tg ct c).2.2.1
  | 0, f, ex, tg, ct, c, h0, h1, hG, ht, hx => by unfold ga2; exact hG
  | m + 1, f, ex, tg, ct, c, h0, h1, hG, ht, hx => by
    unfold ga2
    have := ga_step (c := c) hG hb (f := f) (by omega) ht hn hx
    exact ga2_wf hb hn m (f + 1) _ _ _ _ (by omega) (by omega) this.1 this.2.1 this.2.2
theorem wfG_ct {n e x : Int} {ex tg ct : Int → Int} (hG : wfG n ex tg ct) (hx : 0 ≤ x ∧ x ≤ 99) : wfG n ex tg (upf ct e x) := by
  refine ⟨hG.1, hG.2.1, fun b b0 b1 => ?_⟩
  obtain ⟨a1, a2, a3, a4⟩ := hG.2.2 b b0 b1
  refine ⟨a1, a2, fun k k0 k1 => ?_, a4⟩
  have := a3 k k0 k1
  unfold upf
  split
  · exact ⟨this.1, this.2.1, hx.1, hx.2⟩
  · exact this
variable {n en : Int} {byt : Int → Int} {v : vV}
theorem wfV_sw {i j : Int} (h : wfV n en byt v) (hi : 0 < i ∧ i < n) (hj : 0 < j ∧ j < n) : wfV n en byt (vsw i j v) := ⟨h.1, wfO_sw h.2.1 hi hj, h.2.2⟩
theorem wfV_tn {f l : Int} (h : wfV n en byt v) (hf : 0 < f ∧ f ≤ l) (hl : l < n) : wfV n en byt (vtn f l v) := ⟨h.1, wfO_tn h.2.1 hf hl, h.2.2⟩
theorem wfV_dv {t : Int} (h : wfV n en byt v) : wfV n en byt (vdv n en t v) := by
  have hn := h.1.1
  have := wfO_dv (p := hotp n en v.1 v.2.1 v.2.2.1 t) (decide_eq_true (Or.inl rfl)) n.toNat 0 v.2.2.2.1 0 h.2.1 (by omega) (by omega) (fun _ => rfl) (by omega) (by omega)
  exact ⟨h.1, wfO_h this.1 this.2.1 this.2.2, h.2.2⟩
theorem wfV_ga {b : Int} (h : wfV n en byt v) (hb : 0 ≤ b ∧ b < n) (hx : v.1 b = 1) (ht : v.2.1 (2 * b + 0) ≠ b) : wfV n en byt (vga n b v) := ⟨wfG_ct (ga2_wf hb ht n.toNat 0 _ _ _ 0 (by omega) (by have := h.1.1; omega) h.1 rfl hx) (by omega), h.2⟩
end XVW
