section XPN
def fac : Nat → Nat
  | 0 => 1
  | k + 1 => (k + 1) * fac k
theorem fac_pos : ∀ k, 0 < fac k
  | 0 => Nat.one_pos
  | k + 1 => Nat.mul_pos (Nat.succ_pos k) (fac_pos k)
/-- the order with a number among all orders of a list -/
def orl : Nat → List Int → Nat → List Int
  | 0, _, _ => []
  | k + 1, L, r => L.getD (r / fac k) 0 :: orl k (L.eraseIdx (r / fac k)) (r % fac k)
/-- the cost of a block and of those behind it -/
def pco (sh : Int → Int → Int) : Int → List Int → Int
  | l, [] => sh l (-1)
  | l, b :: t => sh l b + pco sh b t
theorem chs_first {f : Int → Int} : ∀ (L : List Int) (c v : Int), chs f L c v = (c, v) ∨ ((chs f L c v).2 < v ∧ ∃ j, L[j]? = some (chs f L c v).1 ∧ ∀ (i : Nat) (x : Int), i < j → L[i]? = some x → (chs f L c v).2 < f x)
  | [], c, v => Or.inl rfl
  | b :: t, c, v => by
    unfold chs
    split
    · rename_i hb
      rcases chs_first t b (f b) with h | ⟨h1, j, h2, h3⟩
      · rw [h]
        exact Or.inr ⟨hb, 0, rfl, fun i x hi => absurd hi (Nat.not_lt_zero i)⟩
      · refine Or.inr ⟨by omega, j + 1, h2, fun i x hi hx => ?_⟩
        cases i with
        | zero => rw [List.getElem?_cons_zero] at hx; rw [← Option.some.inj hx]; exact h1
        | succ i => exact h3 i x (by omega) hx
    · rename_i hb
      rcases chs_first t c v with h | ⟨h1, j, h2, h3⟩
      · exact Or.inl h
      · refine Or.inr ⟨h1, j + 1, h2, fun i x hi hx => ?_⟩
        cases i with
        | zero => rw [List.getElem?_cons_zero] at hx; rw [← Option.some.inj hx]; omega
        | succ i => exact h3 i x (by omega) hx
theorem era_idx {x : Int} : ∀ (L : List Int) (i : Nat), L.Nodup → L[i]? = some x → L.eraseIdx i = L.erase x
  | [], i, _, h => by cases h
  | a :: t, 0, hn, h => by
    rw [List.getElem?_cons_zero] at h
    rw [Option.some.inj h, List.erase_cons_head]; rfl
  | a :: t, i + 1, hn, h => by
    rw [List.getElem?_cons_succ] at h
    have hn2 := List.nodup_cons.1 hn
    have hax : a ≠ x := fun e => hn2.1 (by rw [e]; exact List.mem_of_getElem? h)
    rw [List.eraseIdx_cons_succ, era_idx t i hn2.2 h, List.erase_cons_tail (by simpa using hax)]
theorem orl_ok : ∀ (k : Nat) (L : List Int) (q : Nat), L.length = k → L.Nodup → q < fac k → (orl k L q).Nodup ∧ (orl k L q).length = k ∧ ∀ x ∈ orl k L q, x ∈ L
  | 0, L, q, _, _, _ => ⟨List.nodup_nil, rfl, fun x hx => by cases hx⟩
  | k + 1, L, q, hl, hn, hq => by
    have hi : q / fac k < k + 1 := Nat.div_lt_of_lt_mul (by rw [Nat.mul_comm]; exact hq)
    have hg : L[q / fac k]? = some L[q / fac k] := List.getElem?_eq_getElem (by omega)
    have he := era_idx L _ hn hg
    have hm : L[q / fac k] ∈ L := List.mem_of_getElem? hg
    unfold orl
    rw [he, List.getD_eq_getElem?_getD, hg]
    show (L[q / fac k] :: _).Nodup ∧ (L[q / fac k] :: _).length = k + 1 ∧ ∀ x ∈ L[q / fac k] :: _, x ∈ L
    have := orl_ok k (L.erase L[q / fac k]) (q % fac k) (by rw [List.length_erase_of_mem hm]; omega) (hn.erase _) (Nat.mod_lt _ (fac_pos k))
    refine ⟨List.nodup_cons.2 ⟨fun e => ?_, this.1⟩, by rw [List.length_cons, this.2.1], fun x hx => ?_⟩
    · exact (List.Nodup.not_mem_erase hn) (this.2.2 _ e)
    · rcases List.mem_cons.1 hx with e | e
      · rw [e]; exact hm
      · exact List.mem_of_mem_erase (this.2.2 _ e)
theorem orl_opt {sh : Int → Int → Int} {n c : Int} (hsh : ∀ a b, 0 ≤ a → a < n → (b = -1 ∨ (0 ≤ b ∧ b < n)) → 0 ≤ sh a b ∧ sh a b ≤ c) (hc : 0 ≤ c ∧ c ≤ 1000) : ∀ (k : Nat) (l : Int) (L : List Int), k ≤ 99 → L.length = k → L.Nodup → 0 ≤ l → l < n → (∀ b ∈ L, 0 ≤ b ∧ b < n) → ∃ r, r < fac k ∧ orl k L r = gpl sh k l L ∧ pco sh l (gpl sh k l L) = opt sh k l L ∧ (∀ q, q < fac k → opt sh k l L ≤ pco sh l (orl k L q)) ∧ ∀ q, q < r → opt sh k l L < pco sh l (orl k L q)
  | 0, l, L, _, _, _, _, _, _ => ⟨0, Nat.one_pos, rfl, rfl, fun q _ => Int.le_refl _, fun q hq => absurd hq (Nat.not_lt_zero q)⟩
  | k + 1, l, L, hk, hl, hn, h0, h1, hL => by
    have hv := opt_val hsh hc (k := k) (l := l) (L := L) (by omega) hl h0 h1 hL
    have hov : opt sh (k + 1) l L = (chs (fun b => sh l b + opt sh k b (L.erase b)) L 0 2147483647).2 := by rw [opt]
    have hple : ∀ b ∈ L, opt sh (k + 1) l L ≤ sh l b + opt sh k b (L.erase b) := fun b hb => by
      rw [hov]; exact (chs_le L 0 2147483647).2 b hb
    have hbd : opt sh (k + 1) l L < 2147483647 := by
      have := (opt_bd hsh hc (k + 1) l L (by omega) hl h0 h1 hL).2
      have h5 : c * (k + 1 + 1 : Nat) ≤ 1000 * (k + 1 + 1 : Nat) := Int.mul_le_mul_of_nonneg_right hc.2 (by omega)
      omega
    obtain ⟨j, hj, hj2⟩ : ∃ j, L[j]? = some (pck sh k l L) ∧ ∀ (i : Nat) (x : Int), i < j → L[i]? = some x → opt sh (k + 1) l L < sh l x + opt sh k x (L.erase x) := by
      rcases chs_first (f := fun b => sh l b + opt sh k b (L.erase b)) L 0 2147483647 with h | ⟨-, j, h2, h3⟩
      · rw [h] at hov
        have : opt sh (k + 1) l L = 2147483647 := hov
        omega
      · exact ⟨j, h2, fun i x a b => by rw [hov]; exact h3 i x a b⟩
    have hIH : ∀ (i : Nat) (x : Int), L[i]? = some x → ∃ r, r < fac k ∧ orl k (L.erase x) r = gpl sh k x (L.erase x) ∧ pco sh x (gpl sh k x (L.erase x)) = opt sh k x (L.erase x) ∧ (∀ q, q < fac k → opt sh k x (L.erase x) ≤ pco sh x (orl k (L.erase x) q)) ∧ ∀ q, q < r → opt sh k x (L.erase x) < pco sh x (orl k (L.erase x) q) := fun i x hx => by
      have hm : x ∈ L := List.mem_of_getElem? hx
      have hr := hL x hm
      exact orl_opt hsh hc k x (L.erase x) (by omega) (by rw [List.length_erase_of_mem hm]; omega) (hn.erase _) hr.1 hr.2 (fun b hb => hL b (List.mem_of_mem_erase hb))
    have hor : ∀ (q i : Nat) (x : Int), q / fac k = i → L[i]? = some x → pco sh l (orl (k + 1) L q) = sh l x + pco sh x (orl k (L.erase x) (q % fac k)) ∧ orl (k + 1) L q = x :: orl k (L.erase x) (q % fac k) := fun q i x hq hx => by
      have : orl (k + 1) L q = x :: orl k (L.erase x) (q % fac k) := by
        rw [orl, hq, era_idx L i hn hx, List.getD_eq_getElem?_getD, hx]; rfl
      rw [this]; exact ⟨rfl, rfl⟩
    have hfp := fac_pos k
    obtain ⟨r, r1, r2, r3, r4, r5⟩ := hIH j _ hj
    have hjl : j < L.length := by
      rcases Nat.lt_or_ge j L.length with h | h
      · exact h
      · rw [List.getElem?_eq_none h] at hj; cases hj
    have hd1 : (j * fac k + r) / fac k = j := by rw [Nat.mul_comm, Nat.mul_add_div hfp, Nat.div_eq_of_lt r1, Nat.add_zero]
    have hd2 : (j * fac k + r) % fac k = r := by rw [Nat.mul_comm, Nat.mul_add_mod, Nat.mod_eq_of_lt r1]
    refine ⟨j * fac k + r, ?_, ?_, ?_, fun q hq => ?_, fun q hq => ?_⟩
    · have h2 : (j + 1) * fac k ≤ (k + 1) * fac k := Nat.mul_le_mul_right _ (by omega)
      rw [Nat.add_mul, Nat.one_mul] at h2
      show j * fac k + r < (k + 1) * fac k
      omega
    · rw [(hor _ j _ hd1 hj).2, hd2, r2, gpl]
    · rw [gpl]
      show sh l _ + pco sh _ _ = _
      rw [r3]; exact hv.2
    · have hi : q / fac k < k + 1 := Nat.div_lt_of_lt_mul (by rw [Nat.mul_comm]; exact hq)
      have hg : L[q / fac k]? = some L[q / fac k] := List.getElem?_eq_getElem (by omega)
      obtain ⟨-, -, -, -, s4, -⟩ := hIH _ _ hg
      rw [(hor q _ _ rfl hg).1]
      have := s4 (q % fac k) (Nat.mod_lt _ hfp)
      have := hple _ (List.mem_of_getElem? hg)
      omega
    · have hi : q / fac k ≤ j := by
        rw [← hd1]; exact Nat.div_le_div_right (by omega)
      have hg : L[q / fac k]? = some L[q / fac k] := List.getElem?_eq_getElem (by omega)
      rcases Nat.lt_or_ge (q / fac k) j with h | h
      · obtain ⟨-, -, -, -, s4, -⟩ := hIH _ _ hg
        rw [(hor q _ _ rfl hg).1]
        have := s4 (q % fac k) (Nat.mod_lt _ hfp)
        have := hj2 _ _ h hg
        omega
      · have hij : q / fac k = j := by omega
        rw [(hor q j _ hij hj).1]
        have hqm : q % fac k < r := by
          have := Nat.div_add_mod q (fac k)
          rw [hij, Nat.mul_comm] at this
          omega
        have := r5 _ hqm
        have := hv.2
        omega
theorem sg_ap {f : Int → Int} {b : Nat} : ∀ (a : Nat) (i : Int), sg f i (a + b) = sg f i a + sg f (i + a) b
  | 0, i => by rw [Nat.zero_add, show i + ((0 : Nat) : Int) = i by omega]; show _ = 0 + _; omega
  | a + 1, i => by
    rw [show a + 1 + b = (a + b) + 1 by omega]
    show f i + sg f (i + 1) (a + b) = f i + sg f (i + 1) a + _
    rw [sg_ap a (i + 1), show i + 1 + (a : Int) = i + ((a + 1 : Nat) : Int) by omega]
    omega
theorem sg_eq {f g : Int → Int} : ∀ (k : Nat) (i : Int), (∀ j, i ≤ j → j < i + k → f j = g j) → sg f i k = sg g i k
  | 0, i, h => rfl
  | k + 1, i, h => by
    show f i + _ = g i + _
    rw [h i (by omega) (by omega), sg_eq k (i + 1) (fun j a b => h j (by omega) (by omega))]
theorem pco_sg {n hot : Int} {ex tg ct od : Int → Int} (hh : hot ≤ n) : ∀ (T : List Int) (i l : Int), od i = l → (∀ (j : Nat) (x : Int), T[j]? = some x → od (i + 1 + j) = x) → i + 1 + T.length = hot → sg (fun i => shr ex tg ct (od i) (fa n od hot i)) i (T.length + 1) = pco (shr ex tg ct) l T
  | [], i, l, h1, h2, h3 => by
    rw [List.length_nil] at h3
    show shr ex tg ct (od i) (fa n od hot i) + 0 = shr ex tg ct l (-1)
    rw [h1, show fa n od hot i = -1 from if_pos (by omega)]; omega
  | b :: t, i, l, h1, h2, h3 => by
    rw [List.length_cons] at h3
    have h20 := h2 0 b rfl
    rw [show i + 1 + ((0 : Nat) : Int) = i + 1 by omega] at h20
    show shr ex tg ct (od i) (fa n od hot i) + sg (fun i => shr ex tg ct (od i) (fa n od hot i)) (i + 1) (t.length + 1) = shr ex tg ct l b + pco (shr ex tg ct) b t
    rw [pco_sg hh t (i + 1) b h20 (fun j x hj => by rw [show i + 1 + 1 + (j : Int) = i + 1 + ((j + 1 : Nat) : Int) by omega]; exact h2 (j + 1) x hj) (by omega)]
    rw [h1, show fa n od hot i = od (i + 1) from if_neg (by omega), h20]
theorem tcs_plf {n hot : Int} {ex tg ct od : Int → Int} {T : List Int} (hO : wfO n od hot) (hl : (T.length : Int) = hot - 1) : tcs n ex tg ct (plf T 1 od) hot = pco (shr ex tg ct) 0 T + cld n ex tg ct od hot := by
  have h1 := hO.2.2.2.1
  have h2 := hO.2.2.2.2
  unfold tcs cld
  rw [show n.toNat = (T.length + 1) + (n - hot).toNat by omega, sg_ap]
  rw [pco_sg h2 T 0 0 (by rw [plf_lo _ _ _ _ (by omega)]; exact hO.2.2.1) (fun j x hj => by rw [show (0 : Int) + 1 + (j : Int) = 1 + (j : Int) by omega]; exact plf_at T 1 od j x hj) (by omega)]
  congr 1
  rw [show (0 : Int) + ((T.length + 1 : Nat) : Int) = hot by omega]
  refine sg_eq _ _ (fun j a b => ?_)
  rw [plf_hi T 1 od j (by omega)]
  congr 1
  unfold fa
  split
  · rfl
  · rw [plf_hi T 1 od (j + 1) (by omega)]
theorem wfO_plf {n hot : Int} {od : Int → Int} {T : List Int} (h8 : n ≤ 8) (hO : wfO n od hot) (hn : T.Nodup) (hl : (T.length : Int) = hot - 1) (hT : ∀ x ∈ T, x ∈ els n (frs od hot)) : wfO n (plf T 1 od) hot := by
  have h1 := hO.2.2.2.1
  have h2 := hO.2.2.2.2
  have hf := frs_ok h8 hO
  have hg : ∀ i, 1 ≤ i → i < hot → ∃ h : (i - 1).toNat < T.length, plf T 1 od i = T[(i - 1).toNat] := fun i i0 i1 => by
    refine ⟨by omega, ?_⟩
    have := plf_at T 1 od (i - 1).toNat _ (List.getElem?_eq_getElem (by omega))
    rw [show 1 + (((i - 1).toNat : Nat) : Int) = i by omega] at this
    exact this
  have h00 : plf T 1 od 0 = 0 := by rw [plf_lo _ _ _ _ (by omega)]; exact hO.2.2.1
  have hhi : ∀ i, hot ≤ i → plf T 1 od i = od i := fun i a => plf_hi T 1 od i (by omega)
  have hel : ∀ i, 1 ≤ i → i < hot → ∃ j, 1 ≤ j ∧ j < hot ∧ od j = plf T 1 od i := fun i a b => by
    obtain ⟨h, e⟩ := hg i a b
    have hm := hT _ (List.getElem_mem h)
    rw [← e] at hm
    have := els_mem.mp hm
    exact (hf.2.2.1 _ (by omega) (by omega)).mp this.2.2
  refine ⟨fun i a b => ?_, ?_, h00, h1, h2⟩
  · by_cases c1 : i = 0
    · rw [c1, h00]; omega
    · by_cases c2 : i < hot
      · obtain ⟨j, j1, j2, j3⟩ := hel i (by omega) c2
        rw [← j3]; exact hO.1 j (by omega) (by omega)
      · rw [hhi i (by omega)]; exact hO.1 i a b
  · have key : ∀ i j, 0 ≤ i → i < j → j < n → plf T 1 od i ≠ plf T 1 od j := fun i j a b d e => by
      by_cases c2 : j < hot
      · by_cases c1 : i = 0
        · obtain ⟨k, k1, k2, k3⟩ := hel j (by omega) c2
          rw [c1, h00, ← k3] at e
          have := hO.2.1 0 k (by omega) (by omega) (by omega) (by omega) (by rw [hO.2.2.1]; exact e)
          omega
        · obtain ⟨hi, ei⟩ := hg i (by omega) (by omega)
          obtain ⟨hj, ej⟩ := hg j (by omega) (by omega)
          rw [ei, ej] at e
          have := (List.getElem_inj hn).1 e
          omega
      · rw [hhi j (by omega)] at e
        by_cases c1 : i < hot
        · by_cases c0 : i = 0
          · rw [c0, h00] at e
            have := hO.2.1 0 j (by omega) (by omega) (by omega) (by omega) (by rw [hO.2.2.1]; exact e)
            omega
          · obtain ⟨k, k1, k2, k3⟩ := hel i (by omega) c1
            rw [← k3] at e
            have := hO.2.1 k j (by omega) (by omega) (by omega) (by omega) e
            omega
        · rw [hhi i (by omega)] at e
          have := hO.2.1 i j (by omega) (by omega) (by omega) (by omega) e
          omega
    intro i j a b d f e
    rcases Int.lt_trichotomy i j with h | h | h
    · exact absurd e (key i j a h f)
    · exact h
    · exact absurd e.symm (key j i d h b)
end XPN
