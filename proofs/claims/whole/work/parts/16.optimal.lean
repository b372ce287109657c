section XO
variable {G : xG} {σ : List (Nat × Nat)} {ρ : Nat → Int → Option Nat} {M : Nat → Int → Int} {Q : Option xV → xH → Prop}
/-- OptimalOrder at P: least, shares behind it -/
def isOp (σ : List (Nat × Nat)) (ρ : Nat → Int → Option Nat) (P : Nat) : Prop := σ[P]? = some (3, xN 3) ∧ ρ P 0 = some (P + 1) ∧ ρ P 1 = some (P + 2) ∧ σ[P + 1]? = some (100, 2048) ∧ σ[P + 2]? = some (100, 72)
theorem isOp.sh {P : Nat} (h : isOp σ ρ P) : σ[P]? = some (3, xN 3) := h.1
theorem isOp.r0 {P : Nat} (h : isOp σ ρ P) : ρ P 0 = some (P + 1) := h.2.1
theorem isOp.r1 {P : Nat} (h : isOp σ ρ P) : ρ P 1 = some (P + 2) := h.2.2.1
theorem isOp.a0 {P : Nat} (h : isOp σ ρ P) : σ[P + 1]? = some (100, 2048) := h.2.2.2.1
theorem isOp.a1 {P : Nat} (h : isOp σ ρ P) : σ[P + 2]? = some (100, 72) := h.2.2.2.2
/-! sets of blocks as numbers below 256 -/
theorem bt_tab : ∀ m, m < 256 → ∀ b, b < 8 → btb (m : Nat) (b : Nat) = Nat.testBit m b := by decide +kernel
theorem an_tab : ∀ a, a < 256 → ∀ b, b < 256 → xiand (a : Nat) (xixor (b : Nat) (-1)) = ((Nat.land a (255 - b) : Nat) : Int) := by decide +kernel
theorem sl_tab : ∀ b, b < 8 → xishl 1 (b : Nat) = ((2 ^ b : Nat) : Int) := by decide +kernel
theorem cm_tab : ∀ b, b < 256 → ∀ c, c < 8 → Nat.testBit (255 - b) c = !Nat.testBit b c := by decide +kernel
theorem lt_tab : ∀ m, m < 256 → ∀ b, b < 8 → Nat.testBit m b = true → Nat.land m (255 - 2 ^ b) < m := by decide +kernel
def rem (m b : Nat) : Nat := Nat.land m (255 - 2 ^ b)
theorem rem_ok {m b : Nat} (hm : m < 256) (hb : b < 8) : xiand (m : Nat) (xixor (xishl 1 (b : Nat)) (-1)) = ((rem m b : Nat) : Int) := by
  rw [sl_tab b hb]
  have h2 : 2 ^ b < 256 := by
    have : 2 ^ b < 2 ^ 8 := Nat.pow_lt_pow_right (by decide) hb
    exact this
  exact an_tab m hm (2 ^ b) h2
theorem rem_lt {m b : Nat} (hm : m < 256) : rem m b < 256 := Nat.lt_of_le_of_lt Nat.and_le_left hm
theorem rem_bit {m b c : Nat} (hm : m < 256) (hb : b < 8) (hc : c < 8) : Nat.testBit (rem m b) c = (Nat.testBit m c && !decide (c = b)) := by
  have h2 : 2 ^ b < 256 := by
    have : 2 ^ b < 2 ^ 8 := Nat.pow_lt_pow_right (by decide) hb
    exact this
  unfold rem
  show Nat.testBit (m &&& (255 - 2 ^ b)) c = _
  rw [Nat.testBit_and, cm_tab _ h2 c hc, Nat.testBit_two_pow]
  congr 2
  exact decide_eq_decide.mpr ⟨fun z => z.symm, fun z => z.symm⟩
/-- the blocks b, b + 1 .. (k of them) that are in the set -/
def elf (m : Nat) : Nat → Int → List Int
  | 0, _ => []
  | k + 1, b => if Nat.testBit m b.toNat then b :: elf m k (b + 1) else elf m k (b + 1)
def els (n : Int) (m : Nat) : List Int := elf m (n - 1).toNat 1
theorem elf_mem {m : Nat} {x : Int} : ∀ (k : Nat) (b : Int), x ∈ elf m k b ↔ b ≤ x ∧ x < b + k ∧ Nat.testBit m x.toNat = true
  | 0, b => by unfold elf; simp; omega
  | k + 1, b => by
    unfold elf
    by_cases h : Nat.testBit m b.toNat = true
    · rw [if_pos h, List.mem_cons, elf_mem k (b + 1)]
      constructor
      · rintro (rfl | ⟨h1, h2, h3⟩)
        · exact ⟨by omega, by omega, h⟩
        · exact ⟨by omega, by omega, h3⟩
      · rintro ⟨h1, h2, h3⟩
        by_cases hx : x = b
        · exact Or.inl hx
        · exact Or.inr ⟨by omega, by omega, h3⟩
    · rw [if_neg h, elf_mem k (b + 1)]
      constructor
      · rintro ⟨h1, h2, h3⟩
        exact ⟨by omega, by omega, h3⟩
      · rintro ⟨h1, h2, h3⟩
        have hx : x ≠ b := fun z => h (by rw [← z]; exact h3)
        exact ⟨by omega, by omega, h3⟩
theorem elf_nodup {m : Nat} : ∀ (k : Nat) (b : Int), (elf m k b).Nodup
  | 0, b => by unfold elf; exact List.nodup_nil
  | k + 1, b => by
    unfold elf
    split
    · refine List.nodup_cons.mpr ⟨fun z => ?_, elf_nodup k (b + 1)⟩
      have := (elf_mem k (b + 1)).mp z
      omega
    · exact elf_nodup k (b + 1)
theorem elf_rem {m c : Nat} (hm : m < 256) (hc : c < 8) : ∀ (k : Nat) (b : Int), 0 ≤ b → b + k ≤ 8 → elf (rem m c) k b = (elf m k b).filter (fun x => x != (c : Int))
  | 0, b, _, _ => rfl
  | k + 1, b, h0, h1 => by
    unfold elf
    rw [rem_bit hm hc (show b.toNat < 8 by omega), elf_rem hm hc k (b + 1) (by omega) (by omega)]
    by_cases h : Nat.testBit m b.toNat = true
    · rw [h, if_pos rfl]
      by_cases hb : b.toNat = c
      · have hbc : b = (c : Int) := by omega
        simp [hbc]
      · have hbc : ¬ b = (c : Int) := by omega
        have hbe : (b != (c : Int)) = true := by simp [hbc]
        rw [List.filter_cons_of_pos (p := fun x => x != (c : Int)) hbe]
        simp [hb]
    · have hf : Nat.testBit m b.toNat = false := by simpa using h
      rw [hf]; simp
theorem els_erase {n : Int} {m c : Nat} (hn : n ≤ 8) (hm : m < 256) (hc : c < 8) : els n (rem m c) = (els n m).erase (c : Int) := by
  unfold els
  rw [List.Nodup.erase_eq_filter (elf_nodup _ _)]
  by_cases h : 1 ≤ n
  · exact elf_rem hm hc _ _ (by omega) (by omega)
  · rw [show (n - 1).toNat = 0 by omega]; rfl
/-! the cheapest way on -/
def chs (f : Int → Int) : List Int → Int → Int → Int × Int
  | [], c, v => (c, v)
  | b :: t, c, v => if f b < v then chs f t b (f b) else chs f t c v
def opt (sh : Int → Int → Int) : Nat → Int → List Int → Int
  | 0, l, _ => sh l (-1)
  | k + 1, l, L => (chs (fun b => sh l b + opt sh k b (L.erase b)) L 0 2147483647).2
def pck (sh : Int → Int → Int) (k : Nat) (l : Int) (L : List Int) : Int := (chs (fun b => sh l b + opt sh k b (L.erase b)) L 0 2147483647).1
def gpl (sh : Int → Int → Int) : Nat → Int → List Int → List Int
  | 0, _, _ => []
  | k + 1, l, L => pck sh k l L :: gpl sh k (pck sh k l L) (L.erase (pck sh k l L))
theorem chs_cong {f g : Int → Int} : ∀ (L : List Int) (c v : Int), (∀ b ∈ L, f b = g b) → chs f L c v = chs g L c v
  | [], c, v, h => rfl
  | b :: t, c, v, h => by
    unfold chs
    rw [h b List.mem_cons_self, chs_cong t b (g b) (fun x hx => h x (List.mem_cons_of_mem _ hx)), chs_cong t c v (fun x hx => h x (List.mem_cons_of_mem _ hx))]
theorem chs_or {f : Int → Int} : ∀ (L : List Int) (c v : Int), chs f L c v = (c, v) ∨ ((chs f L c v).1 ∈ L ∧ f (chs f L c v).1 = (chs f L c v).2)
  | [], c, v => Or.inl rfl
  | b :: t, c, v => by
    unfold chs
    split
    · rcases chs_or t b (f b) with h | ⟨h1, h2⟩
      · rw [h]; exact Or.inr ⟨List.mem_cons_self, rfl⟩
      · exact Or.inr ⟨List.mem_cons_of_mem _ h1, h2⟩
    · rcases chs_or t c v with h | ⟨h1, h2⟩
      · exact Or.inl h
      · exact Or.inr ⟨List.mem_cons_of_mem _ h1, h2⟩
theorem chs_le {f : Int → Int} : ∀ (L : List Int) (c v : Int), (chs f L c v).2 ≤ v ∧ ∀ b ∈ L, (chs f L c v).2 ≤ f b
  | [], c, v => ⟨Int.le_refl _, fun b h => by cases h⟩
  | b :: t, c, v => by
    unfold chs
    split
    · have h := chs_le (f := f) t b (f b)
      refine ⟨by omega, fun x hx => ?_⟩
      rcases List.mem_cons.mp hx with rfl | hx
      · exact h.1
      · exact h.2 x hx
    · have h := chs_le (f := f) t c v
      refine ⟨h.1, fun x hx => ?_⟩
      rcases List.mem_cons.mp hx with rfl | hx
      · omega
      · exact h.2 x hx
theorem chs_in {f : Int → Int} {L : List Int} {c v : Int} (hne : L ≠ []) (hf : ∀ b ∈ L, f b < v) : (chs f L c v).1 ∈ L ∧ f (chs f L c v).1 = (chs f L c v).2 := by
  rcases chs_or (f := f) L c v with h | h
  · exfalso
    obtain ⟨b, t, rfl⟩ := List.exists_cons_of_ne_nil hne
    have h1 := (chs_le (f := f) (b :: t) c v).2 b List.mem_cons_self
    have h2 := hf b List.mem_cons_self
    rw [h] at h1
    dsimp only at h1
    omega
  · exact h
theorem opt_bd {sh : Int → Int → Int} {n c : Int} (hsh : ∀ a b, 0 ≤ a → a < n → (b = -1 ∨ (0 ≤ b ∧ b < n)) → 0 ≤ sh a b ∧ sh a b ≤ c) (hc : 0 ≤ c ∧ c ≤ 1000) : ∀ (k : Nat) (l : Int) (L : List Int), k ≤ 100 → L.length = k → 0 ≤ l → l < n → (∀ b ∈ L, 0 ≤ b ∧ b < n) → 0 ≤ opt sh k l L ∧ opt sh k l L ≤ c * (k + 1 : Nat)
  | 0, l, L, _, _, h0, h1, _ => by
    unfold opt
    have := hsh l (-1) h0 h1 (Or.inl rfl)
    omega
  | k + 1, l, L, hk, hL, h0, h1, hm => by
    have hne : L ≠ [] := fun z => by rw [z] at hL; simp at hL
    have key : ∀ b ∈ L, 0 ≤ sh l b + opt sh k b (L.erase b) ∧ sh l b + opt sh k b (L.erase b) ≤ c * (k + 1 + 1 : Nat) := by
      intro b hb
      have h2 := hsh l b h0 h1 (Or.inr (hm b hb))
      have h3 := opt_bd hsh hc k b (L.erase b) (by omega) (by rw [List.length_erase_of_mem hb]; omega) (hm b hb).1 (hm b hb).2 (fun x hx => hm x (List.mem_of_mem_erase hx))
      have e : c * ((k + 1 + 1 : Nat) : Int) = c * ((k + 1 : Nat) : Int) + c := by
        rw [show ((k + 1 + 1 : Nat) : Int) = ((k + 1 : Nat) : Int) + 1 by omega, Int.mul_add]; simp
      omega
    have hb9 : c * ((k + 1 + 1 : Nat) : Int) ≤ 1000 * ((k + 1 + 1 : Nat) : Int) := Int.mul_le_mul_of_nonneg_right hc.2 (by omega)
    have h := chs_in (f := fun b => sh l b + opt sh k b (L.erase b)) (c := 0) (v := 2147483647) hne (fun b hb => by
      have := key b hb
      omega)
    unfold opt
    rw [← h.2]
    exact key _ h.1
theorem opt_val {sh : Int → Int → Int} {n c : Int} (hsh : ∀ a b, 0 ≤ a → a < n → (b = -1 ∨ (0 ≤ b ∧ b < n)) → 0 ≤ sh a b ∧ sh a b ≤ c) (hc : 0 ≤ c ∧ c ≤ 1000) {k : Nat} {l : Int} {L : List Int} (hk : k ≤ 99) (hL : L.length = k + 1) (h0 : 0 ≤ l) (h1 : l < n) (hm : ∀ b ∈ L, 0 ≤ b ∧ b < n) : pck sh k l L ∈ L ∧ sh l (pck sh k l L) + opt sh k (pck sh k l L) (L.erase (pck sh k l L)) = opt sh (k + 1) l L := by
  have hne : L ≠ [] := fun z => by rw [z] at hL; simp at hL
  exact chs_in (f := fun b => sh l b + opt sh k b (L.erase b)) hne (fun b hb => by
    have h2 := hsh l b h0 h1 (Or.inr (hm b hb))
    have h3 := opt_bd hsh hc k b (L.erase b) (by omega) (by rw [List.length_erase_of_mem hb]; omega) (hm b hb).1 (hm b hb).2 (fun x hx => hm x (List.mem_of_mem_erase hx))
    have hb9 : c * ((k + 1 : Nat) : Int) ≤ 1000 * ((k + 1 : Nat) : Int) := Int.mul_le_mul_of_nonneg_right hc.2 (by omega)
    omega)
set_option maxHeartbeats 4000000 in
theorem t_X3_contains {a b : Int} (k1 : btb a b = true → Q (some (xI 1)) (σ, ρ, M)) (k0 : ¬ btb a b = true → Q (some (xI 0)) (σ, ρ, M)) : xX G mX3_contains 0 0 0 [(0, xI a), (1, xI b)] [] (σ, ρ, M) Q := by
  refine x_iload_n (p2 := 1) rfl dX3_contains_0 rfl ?_
  refine x_iload_n (p2 := 2) rfl dX3_contains_1 rfl ?_
  refine x_ishr (p2 := 3) rfl dX3_contains_2 ?_
  refine x_iconst (p2 := 4) rfl dX3_contains_3 ⟨by decide, by decide⟩ ?_
  refine x_iand (p2 := 5) rfl dX3_contains_4 ?_
  refine x_if_eq (p2 := 8) (t := 12) (by decide) rfl dX3_contains_5 (fun hc5 => ?_) (fun hc5 => ?_)
  · skip
    refine x_iconst (p2 := 13) rfl dX3_contains_12 ⟨by decide, by decide⟩ ?_
    refine x_zret dX3_contains_13 rfl (by omega) ?_
    exact k0 (fun z => absurd hc5 (of_decide_eq_true z))
  · skip
    refine x_iconst (p2 := 9) rfl dX3_contains_8 ⟨by decide, by decide⟩ ?_
    refine x_goto (t := 13) (by decide) dX3_contains_9 ?_
    refine x_zret dX3_contains_13 rfl (by omega) ?_
    exact k1 (decide_eq_true hc5)
/-- what going through b costs, by the tables -/
def fct (ls sr : Int → Int) (m : Nat) (l b : Int) : Int := sr (l * 9 + b) + ls ((rem m b.toNat : Nat) * 8 + b)
theorem bt_i {m : Nat} {b : Int} (hm : m < 256) (h0 : 0 ≤ b) (h1 : b < 8) : btb (m : Nat) b = Nat.testBit m b.toNat := by
  have := bt_tab m hm b.toNat (by omega)
  rw [Int.toNat_of_nonneg h0] at this
  exact this
theorem rem_i {m : Nat} {b : Int} (hm : m < 256) (h0 : 0 ≤ b) (h1 : b < 8) : xiand (m : Nat) (xixor (xishl 1 b) (-1)) = ((rem m b.toNat : Nat) : Int) := by
  have := rem_ok hm (show b.toNat < 8 by omega)
  rw [Int.toNat_of_nonneg h0] at this
  exact this
set_option maxHeartbeats 4000000 in
theorem t_X3_costThrough {P : Nat} {m : Nat} {l b : Int} (hP : isOp σ ρ P) (hm : m < 256) (hl : 0 ≤ l ∧ l < 8) (hb : 0 ≤ b ∧ b < 8) (h1 : 0 ≤ M (P + 2) (l * 9 + b) ∧ M (P + 2) (l * 9 + b) ≤ 600) (h2 : 0 ≤ M (P + 1) ((rem m b.toNat : Nat) * 8 + b) ∧ M (P + 1) ((rem m b.toNat : Nat) * 8 + b) ≤ 10000) (hq : Q (some (xI (fct (M (P + 1)) (M (P + 2)) m l b))) (σ, ρ, M)) : xX G mX3_costThrough 0 0 0 [(0, xP P), (1, xI (m : Nat)), (2, xI l), (3, xI b)] [] (σ, ρ, M) Q := by
  have hr := rem_lt (b := b.toNat) hm
  refine x_iload_n (p2 := 1) rfl dX3_costThrough_0 rfl ?_
  refine x_iconst (p2 := 2) rfl dX3_costThrough_1 ⟨by decide, by decide⟩ ?_
  refine x_iload_n (p2 := 3) rfl dX3_costThrough_2 rfl ?_
  refine x_ishl (p2 := 4) rfl dX3_costThrough_3 ?_
  refine x_iconst (p2 := 5) rfl dX3_costThrough_4 ⟨by decide, by decide⟩ ?_
  refine x_ixor (p2 := 6) rfl dX3_costThrough_5 ?_
  refine x_iand (p2 := 7) rfl dX3_costThrough_6 ?_
  rw [rem_i hm hb.1 hb.2]
  refine x_istore (p2 := 9) (i := 4) (L2 := [(0, _), (1, _), (2, _), (3, _), (4, _)]) rfl dX3_costThrough_7 ⟨rfl, Nat.le_of_ble_eq_true rfl⟩ rfl ?_
  refine x_aload_n (p2 := 10) rfl dX3_costThrough_9 rfl ?_
  refine x_getr (p2 := 13) (kz := 1) rfl dX3_costThrough_10 f_3_15 rfl rfl hP.sh hP.r1 ?_
  refine x_iload_n (p2 := 14) rfl dX3_costThrough_13 rfl ?_
  refine x_bipush (p2 := 16) rfl dX3_costThrough_14 ⟨by decide, ⟨by decide, by decide⟩⟩ ?_
  refine x_imul (p2 := 17) rfl dX3_costThrough_16 ⟨by omega, by omega⟩ ?_
  refine x_iload_n (p2 := 18) rfl dX3_costThrough_17 rfl ?_
  refine x_iadd (p2 := 19) rfl dX3_costThrough_18 ⟨by omega, by omega⟩ ?_
  refine x_iald (p2 := 20) rfl dX3_costThrough_19 hP.a1 (by omega) (by omega) ?_
  refine x_aload_n (p2 := 21) rfl dX3_costThrough_20 rfl ?_
  refine x_getr (p2 := 24) (kz := 0) rfl dX3_costThrough_21 f_3_11 rfl rfl hP.sh hP.r0 ?_
  refine x_iload (p2 := 26) rfl dX3_costThrough_24 rfl ?_
  refine x_bipush (p2 := 28) rfl dX3_costThrough_26 ⟨by decide, ⟨by decide, by decide⟩⟩ ?_
  refine x_imul (p2 := 29) rfl dX3_costThrough_28 ⟨by omega, by omega⟩ ?_
  refine x_iload_n (p2 := 30) rfl dX3_costThrough_29 rfl ?_
  refine x_iadd (p2 := 31) rfl dX3_costThrough_30 ⟨by omega, by omega⟩ ?_
  refine x_iald (p2 := 32) rfl dX3_costThrough_31 hP.a0 (by omega) (by omega) ?_
  refine x_iadd (p2 := 33) rfl dX3_costThrough_32 ⟨by omega, by omega⟩ ?_
  refine x_iret dX3_costThrough_33 rfl ?_
  exact hq
set_option maxHeartbeats 4000000 in
theorem t_cn_l {P S F : Nat} {m : Nat} {l : Int} (hP : isOp σ ρ P) (hS : isSt σ ρ S F) (h8 : M F 0 ≤ 8) (hm : m < 256) (hl : 0 ≤ l ∧ l < 8) (hBd : ∀ b, 1 ≤ b → b < M F 0 → Nat.testBit m b.toNat = true → (0 ≤ M (P + 2) (l * 9 + b) ∧ M (P + 2) (l * 9 + b) ≤ 600) ∧ (0 ≤ M (P + 1) ((rem m b.toNat : Nat) * 8 + b) ∧ M (P + 1) ((rem m b.toNat : Nat) * 8 + b) ≤ 10000)) : ∀ (n : Nat) (b c v u : Int), 1 ≤ b → b + n = max b (M F 0) → ((c = 0 ∧ v = 2147483647) ∨ (¬ c = 0 ∧ u = v)) → Q (some (xI (chs (fct (M (P + 1)) (M (P + 2)) m l) (elf m n b) c v).1)) (σ, ρ, M) → xX G mX3_cheapestNext 0 0 9 [(0, xP P), (1, xP S), (2, xI (m : Nat)), (3, xI l), (4, xI c), (5, xI u), (6, xI b)] [] (σ, ρ, M) Q := by
  intro n
  induction n with
  | zero =>
    intro b c v u h0 hk hv hq
    refine x_iload (p2 := 11) rfl dX3_cheapestNext_9 rfl ?_
    refine x_aload_n (p2 := 12) rfl dX3_cheapestNext_11 rfl ?_
    refine x_getr (p2 := 15) (kz := 0) rfl dX3_cheapestNext_12 f_3_42 rfl rfl hS.sh hS.r0 ?_
    refine x_geti (p2 := 18) (kz := 0) rfl dX3_cheapestNext_15 f_3_46 rfl rfl hS.fr.sh ?_
    refine x_ic_ge (p2 := 21) (t := 66) (by decide) rfl dX3_cheapestNext_18 (fun hc18 => ?_) (fun hc18 => absurd hc18 (by omega))
    refine x_iload (p2 := 68) rfl dX3_cheapestNext_66 rfl ?_
    refine x_iret dX3_cheapestNext_68 rfl ?_
    exact hq
  | succ n ih =>
    intro b c v u h0 hk hv hq
    unfold elf at hq
    refine x_iload (p2 := 11) rfl dX3_cheapestNext_9 rfl ?_
    refine x_aload_n (p2 := 12) rfl dX3_cheapestNext_11 rfl ?_
    refine x_getr (p2 := 15) (kz := 0) rfl dX3_cheapestNext_12 f_3_42 rfl rfl hS.sh hS.r0 ?_
    refine x_geti (p2 := 18) (kz := 0) rfl dX3_cheapestNext_15 f_3_46 rfl rfl hS.fr.sh ?_
    refine x_ic_ge (p2 := 21) (t := 66) (by decide) rfl dX3_cheapestNext_18 (fun hc18 => ?_) (fun hc18 => ?_)
    · exact absurd hc18 (by omega)
    refine x_iload_n (p2 := 22) rfl dX3_cheapestNext_21 rfl ?_
    refine x_iload (p2 := 24) rfl dX3_cheapestNext_22 rfl ?_
    refine x_s2 (p2 := 27) rfl dX3_cheapestNext_24 l_3_69 ok_X3_contains rfl rfl ?_
    refine t_X3_contains (fun hb24 => ?_) (fun hb24 => ?_)
    · skip
      refine x_if_eq (p2 := 30) (t := 60) (by decide) rfl dX3_cheapestNext_27 (fun hc => absurd hc (by decide)) (fun _ => ?_)
      have hB := hBd b (by omega) (by omega) (by rw [← bt_i hm (by omega) (by omega)]; exact hb24)
      have hfx : (fct (M (P + 1)) (M (P + 2)) m l) b = M (P + 2) (l * 9 + b) + M (P + 1) ((rem m b.toNat : Nat) * 8 + b) := rfl
      refine x_aload_n (p2 := 31) rfl dX3_cheapestNext_30 rfl ?_
      refine x_iload_n (p2 := 32) rfl dX3_cheapestNext_31 rfl ?_
      refine x_iload_n (p2 := 33) rfl dX3_cheapestNext_32 rfl ?_
      refine x_iload (p2 := 35) rfl dX3_cheapestNext_33 rfl ?_
      refine x_v3 (p2 := 38) rfl dX3_cheapestNext_35 l_3_73 ok_X3_costThrough rfl hP.sh rfl ?_
      refine t_X3_costThrough hP hm hl (by omega) hB.1 hB.2 ?_
      refine x_istore (p2 := 40) (i := 7) (L2 := [(0, _), (1, _), (2, _), (3, _), (4, _), (5, _), (6, _), (7, _)]) rfl dX3_cheapestNext_38 ⟨rfl, Nat.le_of_ble_eq_true rfl⟩ rfl ?_
      refine x_iload (p2 := 42) rfl dX3_cheapestNext_40 rfl ?_
      refine x_if_eq (p2 := 45) (t := 52) (by decide) rfl dX3_cheapestNext_42 (fun hc42 => ?_) (fun hc42 => ?_)
      · skip
        refine x_iload (p2 := 54) rfl dX3_cheapestNext_52 rfl ?_
        refine x_istore (p2 := 56) (i := 4) (L2 := [(0, _), (1, _), (2, _), (3, _), (4, _), (5, _), (6, _), (7, _)]) rfl dX3_cheapestNext_54 ⟨rfl, Nat.le_of_ble_eq_true rfl⟩ rfl ?_
        refine x_iload (p2 := 58) rfl dX3_cheapestNext_56 rfl ?_
        refine x_istore (p2 := 60) (i := 5) (L2 := [(0, _), (1, _), (2, _), (3, _), (4, _), (5, _), (6, _), (7, _)]) rfl dX3_cheapestNext_58 ⟨rfl, Nat.le_of_ble_eq_true rfl⟩ rfl ?_
        refine x_iinc (p2 := 63) (L2 := [(0, _), (1, _), (2, _), (3, _), (4, _), (5, _), (6, _), (7, _)]) rfl dX3_cheapestNext_60 rfl ⟨by omega, by omega⟩ ⟨rfl, Nat.le_of_ble_eq_true rfl⟩ rfl ?_
        refine x_goto (t := 9) (by decide) dX3_cheapestNext_63 ?_
        refine x_pick (L2 := [(0, _), (1, _), (2, _), (3, _), (4, _), (5, _), (6, _)]) [0, 1, 2, 3, 4, 5, 6] rfl ?_
        first
          | (rw [if_neg (by rw [← bt_i hm (by omega) (by omega)]; exact hb24)] at hq
             exact ih _ _ v _ (by omega) (by omega) hv hq)
          | (rw [if_pos (by rw [← bt_i hm (by omega) (by omega)]; exact hb24)] at hq
             unfold chs at hq
             first
               | (rw [if_pos (by omega)] at hq
                  exact ih _ _ _ _ (by omega) (by omega) (Or.inr ⟨by omega, rfl⟩) hq)
               | (rw [if_neg (by omega)] at hq
                  exact ih _ _ v _ (by omega) (by omega) hv hq))
      · skip
        refine x_iload (p2 := 47) rfl dX3_cheapestNext_45 rfl ?_
        refine x_iload (p2 := 49) rfl dX3_cheapestNext_47 rfl ?_
        refine x_ic_ge (p2 := 52) (t := 60) (by decide) rfl dX3_cheapestNext_49 (fun hc49 => ?_) (fun hc49 => ?_)
        · skip
          refine x_iinc (p2 := 63) (L2 := [(0, _), (1, _), (2, _), (3, _), (4, _), (5, _), (6, _), (7, _)]) rfl dX3_cheapestNext_60 rfl ⟨by omega, by omega⟩ ⟨rfl, Nat.le_of_ble_eq_true rfl⟩ rfl ?_
          refine x_goto (t := 9) (by decide) dX3_cheapestNext_63 ?_
          refine x_pick (L2 := [(0, _), (1, _), (2, _), (3, _), (4, _), (5, _), (6, _)]) [0, 1, 2, 3, 4, 5, 6] rfl ?_
          first
            | (rw [if_neg (by rw [← bt_i hm (by omega) (by omega)]; exact hb24)] at hq
               exact ih _ _ v _ (by omega) (by omega) hv hq)
            | (rw [if_pos (by rw [← bt_i hm (by omega) (by omega)]; exact hb24)] at hq
               unfold chs at hq
               first
                 | (rw [if_pos (by omega)] at hq
                    exact ih _ _ _ _ (by omega) (by omega) (Or.inr ⟨by omega, rfl⟩) hq)
                 | (rw [if_neg (by omega)] at hq
                    exact ih _ _ v _ (by omega) (by omega) hv hq))
        · skip
          refine x_iload (p2 := 54) rfl dX3_cheapestNext_52 rfl ?_
          refine x_istore (p2 := 56) (i := 4) (L2 := [(0, _), (1, _), (2, _), (3, _), (4, _), (5, _), (6, _), (7, _)]) rfl dX3_cheapestNext_54 ⟨rfl, Nat.le_of_ble_eq_true rfl⟩ rfl ?_
          refine x_iload (p2 := 58) rfl dX3_cheapestNext_56 rfl ?_
          refine x_istore (p2 := 60) (i := 5) (L2 := [(0, _), (1, _), (2, _), (3, _), (4, _), (5, _), (6, _), (7, _)]) rfl dX3_cheapestNext_58 ⟨rfl, Nat.le_of_ble_eq_true rfl⟩ rfl ?_
          refine x_iinc (p2 := 63) (L2 := [(0, _), (1, _), (2, _), (3, _), (4, _), (5, _), (6, _), (7, _)]) rfl dX3_cheapestNext_60 rfl ⟨by omega, by omega⟩ ⟨rfl, Nat.le_of_ble_eq_true rfl⟩ rfl ?_
          refine x_goto (t := 9) (by decide) dX3_cheapestNext_63 ?_
          refine x_pick (L2 := [(0, _), (1, _), (2, _), (3, _), (4, _), (5, _), (6, _)]) [0, 1, 2, 3, 4, 5, 6] rfl ?_
          first
            | (rw [if_neg (by rw [← bt_i hm (by omega) (by omega)]; exact hb24)] at hq
               exact ih _ _ v _ (by omega) (by omega) hv hq)
            | (rw [if_pos (by rw [← bt_i hm (by omega) (by omega)]; exact hb24)] at hq
               unfold chs at hq
               first
                 | (rw [if_pos (by omega)] at hq
                    exact ih _ _ _ _ (by omega) (by omega) (Or.inr ⟨by omega, rfl⟩) hq)
                 | (rw [if_neg (by omega)] at hq
                    exact ih _ _ v _ (by omega) (by omega) hv hq))
    · skip
      refine x_if_eq (p2 := 30) (t := 60) (by decide) rfl dX3_cheapestNext_27 (fun _ => ?_) (fun hc => absurd hc (by decide))
      refine x_iinc (p2 := 63) (L2 := [(0, _), (1, _), (2, _), (3, _), (4, _), (5, _), (6, _)]) rfl dX3_cheapestNext_60 rfl ⟨by omega, by omega⟩ ⟨rfl, Nat.le_of_ble_eq_true rfl⟩ rfl ?_
      refine x_goto (t := 9) (by decide) dX3_cheapestNext_63 ?_
      refine x_pick (L2 := [(0, _), (1, _), (2, _), (3, _), (4, _), (5, _), (6, _)]) [0, 1, 2, 3, 4, 5, 6] rfl ?_
      first
        | (rw [if_neg (by rw [← bt_i hm (by omega) (by omega)]; exact hb24)] at hq
           exact ih _ _ v _ (by omega) (by omega) hv hq)
        | (rw [if_pos (by rw [← bt_i hm (by omega) (by omega)]; exact hb24)] at hq
           unfold chs at hq
           first
             | (rw [if_pos (by omega)] at hq
                exact ih _ _ _ _ (by omega) (by omega) (Or.inr ⟨by omega, rfl⟩) hq)
             | (rw [if_neg (by omega)] at hq
                exact ih _ _ v _ (by omega) (by omega) hv hq))
set_option maxHeartbeats 4000000 in
theorem t_X3_cheapestNext {P S F : Nat} {m : Nat} {l : Int} (hP : isOp σ ρ P) (hS : isSt σ ρ S F) (h8 : M F 0 ≤ 8) (hm : m < 256) (hl : 0 ≤ l ∧ l < 8) (hBd : ∀ b, 1 ≤ b → b < M F 0 → Nat.testBit m b.toNat = true → (0 ≤ M (P + 2) (l * 9 + b) ∧ M (P + 2) (l * 9 + b) ≤ 600) ∧ (0 ≤ M (P + 1) ((rem m b.toNat : Nat) * 8 + b) ∧ M (P + 1) ((rem m b.toNat : Nat) * 8 + b) ≤ 10000)) (h1 : 1 ≤ M F 0) (hq : Q (some (xI (chs (fct (M (P + 1)) (M (P + 2)) m l) (els (M F 0) m) 0 2147483647).1)) (σ, ρ, M)) : xX G mX3_cheapestNext 0 0 0 [(0, xP P), (1, xP S), (2, xI (m : Nat)), (3, xI l)] [] (σ, ρ, M) Q := by
  refine x_iconst (p2 := 1) rfl dX3_cheapestNext_0 ⟨by decide, by decide⟩ ?_
  refine x_istore (p2 := 3) (i := 4) (L2 := [(0, _), (1, _), (2, _), (3, _), (4, _)]) rfl dX3_cheapestNext_1 ⟨rfl, Nat.le_of_ble_eq_true rfl⟩ rfl ?_
  refine x_iconst (p2 := 4) rfl dX3_cheapestNext_3 ⟨by decide, by decide⟩ ?_
  refine x_istore (p2 := 6) (i := 5) (L2 := [(0, _), (1, _), (2, _), (3, _), (4, _), (5, _)]) rfl dX3_cheapestNext_4 ⟨rfl, Nat.le_of_ble_eq_true rfl⟩ rfl ?_
  refine x_iconst (p2 := 7) rfl dX3_cheapestNext_6 ⟨by decide, by decide⟩ ?_
  refine x_istore (p2 := 9) (i := 6) (L2 := [(0, _), (1, _), (2, _), (3, _), (4, _), (5, _), (6, _)]) rfl dX3_cheapestNext_7 ⟨rfl, Nat.le_of_ble_eq_true rfl⟩ rfl ?_
  refine x_pick (L2 := [(0, _), (1, _), (2, _), (3, _), (4, _), (5, _), (6, _)]) [0, 1, 2, 3, 4, 5, 6] rfl ?_
  exact t_cn_l hP hS h8 hm hl hBd _ _ _ 2147483647 _ (by omega) (by omega) (Or.inl ⟨rfl, rfl⟩) hq
def shf2 (ex tg ct sr : Int → Int) (n b : Int) : Prop := (∀ f, 0 ≤ f → f < n → sr (b * 9 + f) = shr ex tg ct b f) ∧ sr (b * 9 + 8) = shr ex tg ct b (-1)
set_option maxHeartbeats 4000000 in
theorem t_fs_l1 {P S F : Nat} {b : Int} (hP : isOp σ ρ P) (hS : isSt σ ρ S F) (hd : S + 4 < P) : ∀ (n : Nat) (f : Int) (M1 : Nat → Int → Int), M1 F 0 ≤ 8 → 0 ≤ b → b < M1 F 0 → wfB (M1 F 0) (M1 (S + 1)) (M1 (S + 2)) (M1 (S + 3)) b → 0 ≤ f → f + n = M1 F 0 → (∀ x, 0 ≤ x → x < f → M1 (P + 2) (b * 9 + x) = shr (M1 (S + 1)) (M1 (S + 2)) (M1 (S + 3)) b x) → (∀ M2, (∀ c, c ≠ P + 2 → M2 c = M1 c) → (∀ x, 0 ≤ x → x < M1 F 0 → M2 (P + 2) (b * 9 + x) = shr (M1 (S + 1)) (M1 (S + 2)) (M1 (S + 3)) b x) → (∀ j, j < b * 9 → M2 (P + 2) j = M1 (P + 2) j) → xX G mX3_fillShares 0 0 55 [(0, xP P), (1, xP S), (2, xI b), (3, xI (b * 9))] [] (σ, ρ, M2) Q) → xX G mX3_fillShares 0 0 21 [(0, xP P), (1, xP S), (2, xI b), (3, xI (b * 9)), (4, xI f)] [] (σ, ρ, M1) Q := by
  have hlt := hS.lt
  intro n
  induction n with
  | zero =>
    intro f M1 h8 hb1 hb2 hw h0 hk hI hq
    refine x_iload (p2 := 23) rfl dX3_fillShares_21 rfl ?_
    refine x_aload_n (p2 := 24) rfl dX3_fillShares_23 rfl ?_
    refine x_getr (p2 := 27) (kz := 0) rfl dX3_fillShares_24 f_3_42 rfl rfl hS.sh hS.r0 ?_
    refine x_geti (p2 := 30) (kz := 0) rfl dX3_fillShares_27 f_3_46 rfl rfl hS.fr.sh ?_
    refine x_ic_ge (p2 := 33) (t := 55) (by decide) rfl dX3_fillShares_30 (fun hc30 => ?_) (fun hc30 => absurd hc30 (by omega))
    refine x_pick (L2 := [(0, _), (1, _), (2, _), (3, _)]) [0, 1, 2, 3] rfl ?_
    exact hq M1 (fun _ _ => rfl) (fun x a b => hI x a (by omega)) (fun _ _ => rfl)
  | succ n ih =>
    intro f M1 h8 hb1 hb2 hw h0 hk hI hq
    refine x_iload (p2 := 23) rfl dX3_fillShares_21 rfl ?_
    refine x_aload_n (p2 := 24) rfl dX3_fillShares_23 rfl ?_
    refine x_getr (p2 := 27) (kz := 0) rfl dX3_fillShares_24 f_3_42 rfl rfl hS.sh hS.r0 ?_
    refine x_geti (p2 := 30) (kz := 0) rfl dX3_fillShares_27 f_3_46 rfl rfl hS.fr.sh ?_
    refine x_ic_ge (p2 := 33) (t := 55) (by decide) rfl dX3_fillShares_30 (fun hc30 => ?_) (fun hc30 => ?_)
    · exact absurd hc30 (by omega)
    refine x_aload_n (p2 := 34) rfl dX3_fillShares_33 rfl ?_
    refine x_getr (p2 := 37) (kz := 1) rfl dX3_fillShares_34 f_3_15 rfl rfl hP.sh hP.r1 ?_
    refine x_iload_n (p2 := 38) rfl dX3_fillShares_37 rfl ?_
    refine x_iload (p2 := 40) rfl dX3_fillShares_38 rfl ?_
    refine x_iadd (p2 := 41) rfl dX3_fillShares_40 ⟨by omega, by omega⟩ ?_
    refine x_aload_n (p2 := 42) rfl dX3_fillShares_41 rfl ?_
    refine x_iload_n (p2 := 43) rfl dX3_fillShares_42 rfl ?_
    refine x_iload (p2 := 45) rfl dX3_fillShares_43 rfl ?_
    refine x_v2 (p2 := 48) rfl dX3_fillShares_45 l_3_58 ok_X7_shareOfCost rfl hS.sh rfl ?_
    refine t_X7_shareOfCost hS (by omega) hw ?_
    refine x_iast (p2 := 49) rfl dX3_fillShares_48 hP.a1 (by omega) (by omega) ?_
    refine x_iinc (p2 := 52) (L2 := [(0, _), (1, _), (2, _), (3, _), (4, _)]) rfl dX3_fillShares_49 rfl ⟨by omega, by omega⟩ ⟨rfl, Nat.le_of_ble_eq_true rfl⟩ rfl ?_
    refine x_goto (t := 21) (by decide) dX3_fillShares_52 ?_
    refine x_pick (L2 := [(0, _), (1, _), (2, _), (3, _), (4, _)]) [0, 1, 2, 3, 4] rfl ?_
    generalize hM5 : xu M1 (P + 2) (b * 9 + f) (shr (M1 (S + 1)) (M1 (S + 2)) (M1 (S + 3)) b f) = M5
    have hf5 : ∀ c, c ≠ P + 2 → M5 c = M1 c := fun c z1 => by rw [← hM5, xu_c z1]
    have eF := hf5 F (by omega)
    have e1 := hf5 (S + 1) (by omega)
    have e2 := hf5 (S + 2) (by omega)
    have e3 := hf5 (S + 3) (by omega)
    refine ih (f + 1) M5 (by rw [eF]; exact h8) hb1 (by rw [eF]; exact hb2) (by rw [eF, e1, e2, e3]; exact hw) (by omega) (by rw [eF]; omega) (fun x a1 a2 => ?_) (fun M2 a1 a2 a3 => ?_)
    · rw [e1, e2, e3]
      by_cases hx : x = f
      · rw [hx, ← hM5, xu_s]
      · rw [← hM5, xu_j (by omega)]; exact hI x a1 (by omega)
    · rw [eF, e1, e2, e3] at a2
      exact hq M2 (fun c z => (a1 c z).trans (hf5 c z)) a2 (fun j hj => by rw [a3 j hj, ← hM5, xu_j (by omega)])
set_option maxHeartbeats 4000000 in
theorem t_fs_l2 {P S F : Nat} (hP : isOp σ ρ P) (hS : isSt σ ρ S F) (hd : S + 4 < P) : ∀ (n : Nat) (b : Int) (M1 : Nat → Int → Int), wfG (M1 F 0) (M1 (S + 1)) (M1 (S + 2)) (M1 (S + 3)) → 0 ≤ b → b + n = M1 F 0 → (∀ x, 0 ≤ x → x < b → shf2 (M1 (S + 1)) (M1 (S + 2)) (M1 (S + 3)) (M1 (P + 2)) (M1 F 0) x) → (∀ M2, (∀ c, c ≠ P + 2 → M2 c = M1 c) → (∀ x, 0 ≤ x → x < M1 F 0 → shf2 (M1 (S + 1)) (M1 (S + 2)) (M1 (S + 3)) (M2 (P + 2)) (M1 F 0) x) → Q none (σ, ρ, M2)) → xX G mX3_fillShares 0 0 2 [(0, xP P), (1, xP S), (2, xI b)] [] (σ, ρ, M1) Q := by
  have hlt := hS.lt
  intro n
  induction n with
  | zero =>
    intro b M1 hG h0 hk hI hq
    refine x_iload_n (p2 := 3) rfl dX3_fillShares_2 rfl ?_
    refine x_aload_n (p2 := 4) rfl dX3_fillShares_3 rfl ?_
    refine x_getr (p2 := 7) (kz := 0) rfl dX3_fillShares_4 f_3_42 rfl rfl hS.sh hS.r0 ?_
    refine x_geti (p2 := 10) (kz := 0) rfl dX3_fillShares_7 f_3_46 rfl rfl hS.fr.sh ?_
    refine x_ic_ge (p2 := 13) (t := 76) (by decide) rfl dX3_fillShares_10 (fun hc10 => ?_) (fun hc10 => absurd hc10 (by omega))
    refine x_vret dX3_fillShares_76 rfl ?_
    exact hq M1 (fun _ _ => rfl) (fun x a b => hI x a (by omega))
  | succ n ih =>
    intro b M1 hG h0 hk hI hq
    have hn8 := hG.2.1
    have hn1 := hG.1
    refine x_iload_n (p2 := 3) rfl dX3_fillShares_2 rfl ?_
    refine x_aload_n (p2 := 4) rfl dX3_fillShares_3 rfl ?_
    refine x_getr (p2 := 7) (kz := 0) rfl dX3_fillShares_4 f_3_42 rfl rfl hS.sh hS.r0 ?_
    refine x_geti (p2 := 10) (kz := 0) rfl dX3_fillShares_7 f_3_46 rfl rfl hS.fr.sh ?_
    refine x_ic_ge (p2 := 13) (t := 76) (by decide) rfl dX3_fillShares_10 (fun hc10 => ?_) (fun hc10 => ?_)
    · exact absurd hc10 (by omega)
    have hw := hG.2.2 b h0 (by omega)
    refine x_iload_n (p2 := 14) rfl dX3_fillShares_13 rfl ?_
    refine x_bipush (p2 := 16) rfl dX3_fillShares_14 ⟨by decide, ⟨by decide, by decide⟩⟩ ?_
    refine x_imul (p2 := 17) rfl dX3_fillShares_16 ⟨by omega, by omega⟩ ?_
    refine x_istore_n (p2 := 18) (i := 3) (L2 := [(0, _), (1, _), (2, _), (3, _)]) rfl dX3_fillShares_17 rfl ⟨rfl, Nat.le_of_ble_eq_true rfl⟩ rfl ?_
    refine x_iconst (p2 := 19) rfl dX3_fillShares_18 ⟨by decide, by decide⟩ ?_
    refine x_istore (p2 := 21) (i := 4) (L2 := [(0, _), (1, _), (2, _), (3, _), (4, _)]) rfl dX3_fillShares_19 ⟨rfl, Nat.le_of_ble_eq_true rfl⟩ rfl ?_
    refine x_pick (L2 := [(0, _), (1, _), (2, _), (3, _), (4, _)]) [0, 1, 2, 3, 4] rfl ?_
    refine t_fs_l1 hP hS hd (M1 F 0).toNat 0 M1 hn8 h0 (by omega) hw (by omega) (by omega) (fun x a b => by omega) (fun M6 hf6 hs6 hj6 => ?_)
    have eF := hf6 F (by omega)
    have e1 := hf6 (S + 1) (by omega)
    have e2 := hf6 (S + 2) (by omega)
    have e3 := hf6 (S + 3) (by omega)
    have hw : wfB (M6 F 0) (M6 (S + 1)) (M6 (S + 2)) (M6 (S + 3)) b := by rw [eF, e1, e2, e3]; exact hw
    refine x_aload_n (p2 := 56) rfl dX3_fillShares_55 rfl ?_
    refine x_getr (p2 := 59) (kz := 1) rfl dX3_fillShares_56 f_3_15 rfl rfl hP.sh hP.r1 ?_
    refine x_iload_n (p2 := 60) rfl dX3_fillShares_59 rfl ?_
    refine x_bipush (p2 := 62) rfl dX3_fillShares_60 ⟨by decide, ⟨by decide, by decide⟩⟩ ?_
    refine x_iadd (p2 := 63) rfl dX3_fillShares_62 ⟨by omega, by omega⟩ ?_
    refine x_aload_n (p2 := 64) rfl dX3_fillShares_63 rfl ?_
    refine x_iload_n (p2 := 65) rfl dX3_fillShares_64 rfl ?_
    refine x_iconst (p2 := 66) rfl dX3_fillShares_65 ⟨by decide, by decide⟩ ?_
    refine x_v2 (p2 := 69) rfl dX3_fillShares_66 l_3_58 ok_X7_shareOfCost rfl hS.sh rfl ?_
    refine t_X7_shareOfCost hS (by omega) hw ?_
    refine x_iast (p2 := 70) rfl dX3_fillShares_69 hP.a1 (by omega) (by omega) ?_
    refine x_iinc (p2 := 73) (L2 := [(0, _), (1, _), (2, _), (3, _)]) rfl dX3_fillShares_70 rfl ⟨by omega, by omega⟩ ⟨rfl, Nat.le_of_ble_eq_true rfl⟩ rfl ?_
    refine x_goto (t := 2) (by decide) dX3_fillShares_73 ?_
    refine x_pick (L2 := [(0, _), (1, _), (2, _)]) [0, 1, 2] rfl ?_
    generalize hM5 : xu M6 (P + 2) (b * 9 + 8) (shr (M6 (S + 1)) (M6 (S + 2)) (M6 (S + 3)) b (-1)) = M5
    have hf5 : ∀ c, c ≠ P + 2 → M5 c = M1 c := fun c z1 => by rw [← hM5, xu_c z1]; exact hf6 c z1
    have eF5 := hf5 F (by omega)
    have e15 := hf5 (S + 1) (by omega)
    have e25 := hf5 (S + 2) (by omega)
    have e35 := hf5 (S + 3) (by omega)
    refine ih (b + 1) M5 (by rw [eF5, e15, e25, e35]; exact hG) (by omega) (by rw [eF5]; omega) (fun x a1 a2 => ?_) (fun M2 a1 a2 => ?_)
    · rw [eF5, e15, e25, e35]
      by_cases hx : x = b
      · subst hx
        refine ⟨fun f q1 q2 => ?_, ?_⟩
        · rw [← hM5, xu_j (by omega)]; exact hs6 f q1 q2
        · rw [← hM5, xu_s, e1, e2, e3]
      · have hI9 := hI x a1 (by omega)
        refine ⟨fun f q1 q2 => ?_, ?_⟩
        · rw [← hM5, xu_j (by omega), hj6 _ (by omega)]; exact hI9.1 f q1 q2
        · rw [← hM5, xu_j (by omega), hj6 _ (by omega)]; exact hI9.2
    · rw [eF5, e15, e25, e35] at a2
      exact hq M2 (fun c z => (a1 c z).trans (hf5 c z)) a2
set_option maxHeartbeats 4000000 in
theorem t_X3_fillShares {P S F : Nat} (hP : isOp σ ρ P) (hS : isSt σ ρ S F) (hd : S + 4 < P) (hG : wfG (M F 0) (M (S + 1)) (M (S + 2)) (M (S + 3))) (hq : ∀ M2, (∀ c, c ≠ P + 2 → M2 c = M c) → (∀ x, 0 ≤ x → x < M F 0 → shf2 (M (S + 1)) (M (S + 2)) (M (S + 3)) (M2 (P + 2)) (M F 0) x) → Q none (σ, ρ, M2)) : xX G mX3_fillShares 0 0 0 [(0, xP P), (1, xP S)] [] (σ, ρ, M) Q := by
  have hn1 := hG.1
  refine x_iconst (p2 := 1) rfl dX3_fillShares_0 ⟨by decide, by decide⟩ ?_
  refine x_istore_n (p2 := 2) (i := 2) (L2 := [(0, _), (1, _), (2, _)]) rfl dX3_fillShares_1 rfl ⟨rfl, Nat.le_of_ble_eq_true rfl⟩ rfl ?_
  refine x_pick (L2 := [(0, _), (1, _), (2, _)]) [0, 1, 2] rfl ?_
  exact t_fs_l2 hP hS hd (M F 0).toNat 0 M hG (by omega) (by omega) (fun x a b => by omega) hq
/-- the set of the blocks at positions i, i + 1 .. (k of them), put to p -/
def frf (od : Int → Int) : Nat → Int → Int → Int
  | 0, _, p => p
  | k + 1, i, p => frf od k (i + 1) (adb p (od i))
set_option maxHeartbeats 4000000 in
theorem t_cf_l {P S F : Nat} (hP : isOp σ ρ P) (hS : isSt σ ρ S F) (hd : S + 4 < P) : ∀ (n : Nat) (i : Int) (M1 : Nat → Int → Int), 1 ≤ i → i + n = max i (M1 S 5) → M1 S 5 ≤ 8 → (∀ i, 0 ≤ i → i < M1 S 5 → 0 ≤ M1 (S + 4) i ∧ M1 (S + 4) i < 8) → 0 ≤ M1 P 2 → M1 P 2 < 256 → (∀ M2, (∀ c, c ≠ P → M2 c = M1 c) → M2 P 2 = frf (M1 (S + 4)) n i (M1 P 2) → 0 ≤ M2 P 2 → M2 P 2 < 256 → Q none (σ, ρ, M2)) → xX G mX3_collectFreeBlocks 0 0 7 [(0, xP P), (1, xP S), (2, xI i)] [] (σ, ρ, M1) Q := by
  have hlt := hS.lt
  intro n
  induction n with
  | zero =>
    intro i M1 h0 hk h8 hO hp1 hp2 hq
    refine x_iload_n (p2 := 8) rfl dX3_collectFreeBlocks_7 rfl ?_
    refine x_aload_n (p2 := 9) rfl dX3_collectFreeBlocks_8 rfl ?_
    refine x_geti (p2 := 12) (kz := 5) rfl dX3_collectFreeBlocks_9 f_3_37 rfl rfl hS.sh ?_
    refine x_ic_ge (p2 := 15) (t := 38) (by decide) rfl dX3_collectFreeBlocks_12 (fun hc12 => ?_) (fun hc12 => absurd hc12 (by omega))
    refine x_vret dX3_collectFreeBlocks_38 rfl ?_
    exact hq M1 (fun _ _ => rfl) rfl hp1 hp2
  | succ n ih =>
    intro i M1 h0 hk h8 hO hp1 hp2 hq
    unfold frf at hq
    refine x_iload_n (p2 := 8) rfl dX3_collectFreeBlocks_7 rfl ?_
    refine x_aload_n (p2 := 9) rfl dX3_collectFreeBlocks_8 rfl ?_
    refine x_geti (p2 := 12) (kz := 5) rfl dX3_collectFreeBlocks_9 f_3_37 rfl rfl hS.sh ?_
    refine x_ic_ge (p2 := 15) (t := 38) (by decide) rfl dX3_collectFreeBlocks_12 (fun hc12 => ?_) (fun hc12 => ?_)
    · exact absurd hc12 (by omega)
    have ho := hO i (by omega) (by omega)
    have had := adb_bd hp1 hp2 ho.1 ho.2
    refine x_aload_n (p2 := 16) rfl dX3_collectFreeBlocks_15 rfl ?_
    refine x_dup (p2 := 17) rfl dX3_collectFreeBlocks_16 rfl ?_
    refine x_geti (p2 := 20) (kz := 2) rfl dX3_collectFreeBlocks_17 f_3_18 rfl rfl hP.sh ?_
    refine x_iconst (p2 := 21) rfl dX3_collectFreeBlocks_20 ⟨by decide, by decide⟩ ?_
    refine x_aload_n (p2 := 22) rfl dX3_collectFreeBlocks_21 rfl ?_
    refine x_getr (p2 := 25) (kz := 4) rfl dX3_collectFreeBlocks_22 f_3_51 rfl rfl hS.sh hS.r4 ?_
    refine x_iload_n (p2 := 26) rfl dX3_collectFreeBlocks_25 rfl ?_
    refine x_iald (p2 := 27) rfl dX3_collectFreeBlocks_26 hS.a4 (by omega) (by omega) ?_
    refine x_ishl (p2 := 28) rfl dX3_collectFreeBlocks_27 ?_
    refine x_ior (p2 := 29) rfl dX3_collectFreeBlocks_28 ?_
    refine x_puti (p2 := 32) (kz := 2) rfl dX3_collectFreeBlocks_29 f_3_18 rfl rfl rfl hP.sh ?_
    refine x_iinc (p2 := 35) (L2 := [(0, _), (1, _), (2, _)]) rfl dX3_collectFreeBlocks_32 rfl ⟨by omega, by omega⟩ ⟨rfl, Nat.le_of_ble_eq_true rfl⟩ rfl ?_
    refine x_goto (t := 7) (by decide) dX3_collectFreeBlocks_35 ?_
    refine x_pick (L2 := [(0, _), (1, _), (2, _)]) [0, 1, 2] rfl ?_
    generalize hM5 : xu M1 P 2 (xior (M1 P 2) (xishl 1 (M1 (S + 4) i))) = M5
    have hf5 : ∀ c, c ≠ P → M5 c = M1 c := fun c z1 => by rw [← hM5, xu_c z1]
    have h52 : M5 P 2 = adb (M1 P 2) (M1 (S + 4) i) := by rw [← hM5, xu_s]; rfl
    have eS := hf5 S (by omega)
    have e4 := hf5 (S + 4) (by omega)
    refine ih (i + 1) M5 (by omega) (by rw [eS]; omega) (by rw [eS]; exact h8) (by rw [eS, e4]; exact hO) (by rw [h52]; exact had.1) (by rw [h52]; exact had.2) (fun M2 a1 a2 a3 a4 => ?_)
    rw [e4, h52] at a2
    exact hq M2 (fun c z => (a1 c z).trans (hf5 c z)) a2 a3 a4
set_option maxHeartbeats 4000000 in
theorem t_X3_collectFreeBlocks {P S F : Nat} (hP : isOp σ ρ P) (hS : isSt σ ρ S F) (hd : S + 4 < P) (h1 : 1 ≤ M S 5) (h8 : M S 5 ≤ 8) (hO : ∀ i, 0 ≤ i → i < M S 5 → 0 ≤ M (S + 4) i ∧ M (S + 4) i < 8) (hq : ∀ M2, (∀ c, c ≠ P → M2 c = M c) → M2 P 2 = frf (M (S + 4)) (M S 5 - 1).toNat 1 0 → 0 ≤ M2 P 2 → M2 P 2 < 256 → Q none (σ, ρ, M2)) : xX G mX3_collectFreeBlocks 0 0 0 [(0, xP P), (1, xP S)] [] (σ, ρ, M) Q := by
  have hlt := hS.lt
  refine x_aload_n (p2 := 1) rfl dX3_collectFreeBlocks_0 rfl ?_
  refine x_iconst (p2 := 2) rfl dX3_collectFreeBlocks_1 ⟨by decide, by decide⟩ ?_
  refine x_puti (p2 := 5) (kz := 2) rfl dX3_collectFreeBlocks_2 f_3_18 rfl rfl rfl hP.sh ?_
  refine x_iconst (p2 := 6) rfl dX3_collectFreeBlocks_5 ⟨by decide, by decide⟩ ?_
  refine x_istore_n (p2 := 7) (i := 2) (L2 := [(0, _), (1, _), (2, _)]) rfl dX3_collectFreeBlocks_6 rfl ⟨rfl, Nat.le_of_ble_eq_true rfl⟩ rfl ?_
  refine x_pick (L2 := [(0, _), (1, _), (2, _)]) [0, 1, 2] rfl ?_
  have eS := xu_c (M := M) (j := 2) (v := 0) (show S ≠ P by omega)
  have e4 := xu_c (M := M) (j := 2) (v := 0) (show S + 4 ≠ P by omega)
  refine t_cf_l hP hS hd (M S 5 - 1).toNat 1 _ (by omega) (by rw [eS]; omega) (by rw [eS]; exact h8) (by rw [eS, e4]; exact hO) (by rw [xu_s]; omega) (by rw [xu_s]; omega) (fun M2 a1 a2 a3 a4 => ?_)
  rw [e4, xu_s] at a2
  exact hq M2 (fun c z => (a1 c z).trans (xu_c z)) a2 a3 a4
set_option maxHeartbeats 4000000 in
theorem t_cc_l {S F : Nat} (hS : isSt σ ρ S F) (hG : wfG (M F 0) (M (S + 1)) (M (S + 2)) (M (S + 3))) (hO : wfO (M F 0) (M (S + 4)) (M S 5)) : ∀ (n : Nat) (i s : Int), 0 ≤ i → i + n = M F 0 → 0 ≤ s → s ≤ 594 * i → Q (some (xI (s + sg (fun i => shr (M (S + 1)) (M (S + 2)) (M (S + 3)) (M (S + 4) i) (fa (M F 0) (M (S + 4)) (M S 5) i)) i n))) (σ, ρ, M) → xX G mX3_coldCost 0 0 7 [(0, xP S), (1, xI s), (2, xI i)] [] (σ, ρ, M) Q := by
  have hn1 := hG.1
  have hn8 := hG.2.1
  intro n
  induction n with
  | zero =>
    intro i s h0 hk hs1 hs2 hq
    rw [show sg (fun i => shr (M (S + 1)) (M (S + 2)) (M (S + 3)) (M (S + 4) i) (fa (M F 0) (M (S + 4)) (M S 5) i)) i 0 = 0 from rfl, Int.add_zero] at hq
    refine x_iload_n (p2 := 8) rfl dX3_coldCost_7 rfl ?_
    refine x_aload_n (p2 := 9) rfl dX3_coldCost_8 rfl ?_
    refine x_getr (p2 := 12) (kz := 0) rfl dX3_coldCost_9 f_3_42 rfl rfl hS.sh hS.r0 ?_
    refine x_geti (p2 := 15) (kz := 0) rfl dX3_coldCost_12 f_3_46 rfl rfl hS.fr.sh ?_
    refine x_ic_ge (p2 := 18) (t := 42) (by decide) rfl dX3_coldCost_15 (fun hc15 => ?_) (fun hc15 => absurd hc15 (by omega))
    refine x_iload_n (p2 := 43) rfl dX3_coldCost_42 rfl ?_
    refine x_iret dX3_coldCost_43 rfl ?_
    exact hq
  | succ n ih =>
    intro i s h0 hk hs1 hs2 hq
    refine x_iload_n (p2 := 8) rfl dX3_coldCost_7 rfl ?_
    refine x_aload_n (p2 := 9) rfl dX3_coldCost_8 rfl ?_
    refine x_getr (p2 := 12) (kz := 0) rfl dX3_coldCost_9 f_3_42 rfl rfl hS.sh hS.r0 ?_
    refine x_geti (p2 := 15) (kz := 0) rfl dX3_coldCost_12 f_3_46 rfl rfl hS.fr.sh ?_
    refine x_ic_ge (p2 := 18) (t := 42) (by decide) rfl dX3_coldCost_15 (fun hc15 => ?_) (fun hc15 => ?_)
    · exact absurd hc15 (by omega)
    have ho := hO.1 i h0 (by omega)
    have hw := hG.2.2 _ ho.1 ho.2
    have hsh := shr_bd (f := fa (M F 0) (M (S + 4)) (M S 5) i) hw
    refine x_iload_n (p2 := 19) rfl dX3_coldCost_18 rfl ?_
    refine x_aload_n (p2 := 20) rfl dX3_coldCost_19 rfl ?_
    refine x_aload_n (p2 := 21) rfl dX3_coldCost_20 rfl ?_
    refine x_getr (p2 := 24) (kz := 4) rfl dX3_coldCost_21 f_3_51 rfl rfl hS.sh hS.r4 ?_
    refine x_iload_n (p2 := 25) rfl dX3_coldCost_24 rfl ?_
    refine x_iald (p2 := 26) rfl dX3_coldCost_25 hS.a4 (by omega) (by omega) ?_
    refine x_aload_n (p2 := 27) rfl dX3_coldCost_26 rfl ?_
    refine x_iload_n (p2 := 28) rfl dX3_coldCost_27 rfl ?_
    refine x_v1 (p2 := 31) rfl dX3_coldCost_28 l_3_54 ok_X7_followerAt rfl hS.sh rfl ?_
    refine t_X7_followerAt hS (by omega) (by omega) ?_
    refine x_v2 (p2 := 34) rfl dX3_coldCost_31 l_3_58 ok_X7_shareOfCost rfl hS.sh rfl ?_
    refine t_X7_shareOfCost hS (by omega) hw ?_
    refine x_iadd (p2 := 35) rfl dX3_coldCost_34 ⟨by omega, by omega⟩ ?_
    refine x_istore_n (p2 := 36) (i := 1) (L2 := [(0, _), (1, _), (2, _)]) rfl dX3_coldCost_35 rfl ⟨rfl, Nat.le_of_ble_eq_true rfl⟩ rfl ?_
    refine x_iinc (p2 := 39) (L2 := [(0, _), (1, _), (2, _)]) rfl dX3_coldCost_36 rfl ⟨by omega, by omega⟩ ⟨rfl, Nat.le_of_ble_eq_true rfl⟩ rfl ?_
    refine x_goto (t := 7) (by decide) dX3_coldCost_39 ?_
    refine x_pick (L2 := [(0, _), (1, _), (2, _)]) [0, 1, 2] rfl ?_
    refine ih _ _ (by omega) (by omega) (by omega) (by omega) ?_
    unfold sg at hq
    rw [← Int.add_assoc] at hq
    exact hq
def cld (n : Int) (ex tg ct od : Int → Int) (hot : Int) : Int := sg (fun i => shr ex tg ct (od i) (fa n od hot i)) hot (n - hot).toNat
set_option maxHeartbeats 4000000 in
theorem t_X3_coldCost {S F : Nat} (hS : isSt σ ρ S F) (hG : wfG (M F 0) (M (S + 1)) (M (S + 2)) (M (S + 3))) (hO : wfO (M F 0) (M (S + 4)) (M S 5)) (hq : Q (some (xI (cld (M F 0) (M (S + 1)) (M (S + 2)) (M (S + 3)) (M (S + 4)) (M S 5)))) (σ, ρ, M)) : xX G mX3_coldCost 0 0 0 [(0, xP S)] [] (σ, ρ, M) Q := by
  have hn1 := hG.1
  have ho1 := hO.2.2.2.1
  have ho2 := hO.2.2.2.2
  refine x_iconst (p2 := 1) rfl dX3_coldCost_0 ⟨by decide, by decide⟩ ?_
  refine x_istore_n (p2 := 2) (i := 1) (L2 := [(0, _), (1, _)]) rfl dX3_coldCost_1 rfl ⟨rfl, Nat.le_of_ble_eq_true rfl⟩ rfl ?_
  refine x_aload_n (p2 := 3) rfl dX3_coldCost_2 rfl ?_
  refine x_geti (p2 := 6) (kz := 5) rfl dX3_coldCost_3 f_3_37 rfl rfl hS.sh ?_
  refine x_istore_n (p2 := 7) (i := 2) (L2 := [(0, _), (1, _), (2, _)]) rfl dX3_coldCost_6 rfl ⟨rfl, Nat.le_of_ble_eq_true rfl⟩ rfl ?_
  refine x_pick (L2 := [(0, _), (1, _), (2, _)]) [0, 1, 2] rfl ?_
  refine t_cc_l hS hG hO (M F 0 - M S 5).toNat _ 0 (by omega) (by omega) (by omega) (by omega) ?_
  rw [Int.zero_add]; exact hq
end XO
