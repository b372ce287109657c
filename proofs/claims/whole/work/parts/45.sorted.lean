section XPC
/-- the row holds the list -/
def lay (ed : Int → Int) (L : List Int) : Prop := ∀ (j : Nat) (x : Int), L[j]? = some x → ed (j : Nat) = x
theorem ief_at {ct : Int → Int} {e : Int} {q : Nat} : ∀ (i : Nat) (ed : Int → Int), q ≤ i → (∀ j : Nat, q ≤ j → j < i → ct (ed j) < ct e) → (∀ j : Nat, j + 1 = q → ct e ≤ ct (ed j)) → ∀ x : Nat, ief ct e i ed x = if i < x then ed x else if x = q then e else if x < q then ed x else ed ((x : Int) - 1)
  | 0, ed, h1, h2, h3, x => by
    unfold ief
    by_cases hx : x = 0
    · rw [hx, if_neg (by omega), if_pos (by omega)]; exact upf_s
    · rw [if_pos (by omega)]; exact upf_n (by omega)
  | i + 1, ed, h1, h2, h3, x => by
    unfold ief
    by_cases hq : q = i + 1
    · rw [if_neg (show ¬ ct (ed i) < ct e from by have := h3 i (by omega); omega)]
      by_cases hx : x = i + 1
      · rw [hx, if_neg (by omega), if_pos (by omega)]; exact upf_s
      · rw [upf_n (by omega)]
        by_cases h : i + 1 < x
        · rw [if_pos h]
        · rw [if_neg h, if_neg (by omega), if_pos (by omega)]
    · rw [if_pos (show ct (ed i) < ct e from h2 i (by omega) (by omega))]
      rw [ief_at (q := q) i _ (by omega) (fun j a b => by rw [upf_n (show (j : Int) ≠ _ by omega)]; exact h2 j a (by omega)) (fun j a => by rw [upf_n (show (j : Int) ≠ _ by omega)]; exact h3 j a) x]
      by_cases h : i + 1 < x
      · rw [if_pos (show i < x by omega), if_pos h, upf_n (show (x : Int) ≠ _ by omega)]
      · by_cases hx : x = i + 1
        · rw [hx, if_pos (show i < i + 1 by omega), if_neg (show ¬ i + 1 < i + 1 by omega), if_neg (show ¬ i + 1 = q by omega), if_neg (show ¬ i + 1 < q by omega), upf_s]
          congr 1; omega
        · rw [if_neg (by omega), if_neg h]
          by_cases hy : x = q
          · rw [if_pos hy, if_pos hy]
          · rw [if_neg hy, if_neg hy]
            split
            · rw [upf_n (by omega)]
            · rw [upf_n (by omega)]
theorem ief_lay {ct ed : Int → Int} {e : Int} {P T : List Int} (hl : lay ed (P ++ T)) (hT : ∀ x ∈ T, ct x < ct e) (hP : ∀ x ∈ P, ct e ≤ ct x) : lay (ief ct e (P ++ T).length ed) (P ++ e :: T) := by
  have hlen : (P ++ T).length = P.length + T.length := List.length_append
  have hA : ∀ j : Nat, P.length ≤ j → j < (P ++ T).length → ct (ed j) < ct e := fun j a b => by
    have hx : T[j - P.length]? = some T[j - P.length] := List.getElem?_eq_getElem (by omega)
    have hy : (P ++ T)[j]? = some T[j - P.length] := by rw [List.getElem?_append_right a]; exact hx
    rw [hl j _ hy]
    exact hT _ (List.mem_of_getElem? hx)
  have hB : ∀ j : Nat, j + 1 = P.length → ct e ≤ ct (ed j) := fun j a => by
    have hx : P[j]? = some P[j] := List.getElem?_eq_getElem (by omega)
    have hy : (P ++ T)[j]? = some P[j] := by rw [List.getElem?_append_left (by omega)]; exact hx
    rw [hl j _ hy]
    exact hP _ (List.mem_of_getElem? hx)
  intro j x hj
  rw [ief_at (P ++ T).length ed (by omega) hA hB j]
  have hjl : j < (P ++ e :: T).length := by
    rcases Nat.lt_or_ge j (P ++ e :: T).length with h | h
    · exact h
    · rw [List.getElem?_eq_none h] at hj; cases hj
  rw [List.length_append, List.length_cons] at hjl
  rw [if_neg (by omega)]
  by_cases h1 : j = P.length
  · rw [if_pos h1]
    rw [List.getElem?_append_right (by omega), h1, Nat.sub_self] at hj
    exact Option.some.inj hj
  · rw [if_neg h1]
    by_cases h2 : j < P.length
    · rw [if_pos h2]
      rw [List.getElem?_append_left h2] at hj
      exact hl j x (by rw [List.getElem?_append_left h2]; exact hj)
    · rw [if_neg h2]
      rw [List.getElem?_append_right (by omega)] at hj
      obtain ⟨k, hk⟩ : ∃ k, j - P.length = k + 1 := ⟨j - P.length - 1, by omega⟩
      rw [hk, List.getElem?_cons_succ] at hj
      have h3 := hl (j - 1) x (by rw [List.getElem?_append_right (by omega), show j - 1 - P.length = k by omega]; exact hj)
      rw [show (j : Int) - 1 = ((j - 1 : Nat) : Int) by omega]
      exact h3
/-- the edges below a number -/
def prl (ex : Int → Int) : Nat → List Int
  | 0 => []
  | j + 1 => if (j : Int) % 2 < ex ((j : Int) / 2) then prl ex j ++ [(j : Int)] else prl ex j
def bk (ct : Int → Int) (A : List Int) (c : Nat) : List Int := A.filter (fun e => ct e == (c : Int))
/-- the edges of counts c .. 1, by falling counts -/
def cc (ct : Int → Int) (A : List Int) : Nat → List Int
  | 0 => []
  | c + 1 => bk ct A (c + 1) ++ cc ct A c
theorem bk_in {ct : Int → Int} {A : List Int} {c : Nat} {x : Int} (h : x ∈ bk ct A c) : x ∈ A ∧ ct x = c := by
  unfold bk at h
  rw [List.mem_filter] at h
  exact ⟨h.1, eq_of_beq h.2⟩
theorem cc_in {ct : Int → Int} {A : List Int} {x : Int} : ∀ c : Nat, x ∈ cc ct A c → x ∈ A ∧ ct x ≤ c
  | 0, h => by cases h
  | c + 1, h => by
    unfold cc at h
    rcases List.mem_append.1 h with h | h
    · have := bk_in h; exact ⟨this.1, by omega⟩
    · have := cc_in c h; exact ⟨this.1, by omega⟩
theorem bk_ne {ct : Int → Int} {A : List Int} {e : Int} {c : Nat} (h : ct e ≠ c) : bk ct (A ++ [e]) c = bk ct A c := by
  unfold bk
  rw [List.filter_append, List.filter_cons_of_neg (by simp [h]), List.filter_nil, List.append_nil]
theorem bk_eq {ct : Int → Int} {A : List Int} {e : Int} {c : Nat} (h : ct e = c) : bk ct (A ++ [e]) c = bk ct A c ++ [e] := by
  unfold bk
  rw [List.filter_append, List.filter_cons_of_pos (by simp [h]), List.filter_nil]
theorem cc_hi {ct : Int → Int} {A : List Int} {e : Int} : ∀ c : Nat, (c : Int) < ct e ∨ ct e ≤ 0 → cc ct (A ++ [e]) c = cc ct A c
  | 0, h => rfl
  | c + 1, h => by
    unfold cc
    rw [bk_ne (by omega), cc_hi c (by omega)]
theorem cc_ins {ct : Int → Int} {A : List Int} {e : Int} {c : Nat} (hc : ct e = (c + 1 : Nat)) : ∀ k : Nat, ∃ P, cc ct A (c + 1 + k) = P ++ cc ct A c ∧ cc ct (A ++ [e]) (c + 1 + k) = P ++ e :: cc ct A c ∧ ∀ x ∈ P, ct e ≤ ct x
  | 0 => by
    refine ⟨bk ct A (c + 1), rfl, ?_, fun x hx => ?_⟩
    · show bk ct (A ++ [e]) (c + 1) ++ cc ct (A ++ [e]) c = _
      rw [bk_eq hc, cc_hi c (by omega), List.append_assoc]; rfl
    · have := (bk_in hx).2; omega
  | k + 1 => by
    obtain ⟨P, h1, h2, h3⟩ := cc_ins hc k
    refine ⟨bk ct A (c + 1 + k + 1) ++ P, ?_, ?_, fun x hx => ?_⟩
    · show bk ct A (c + 1 + k + 1) ++ cc ct A (c + 1 + k) = _
      rw [h1, List.append_assoc]
    · show bk ct (A ++ [e]) (c + 1 + k + 1) ++ cc ct (A ++ [e]) (c + 1 + k) = _
      rw [h2, List.append_assoc, bk_ne (by omega)]
    · rcases List.mem_append.1 hx with h | h
      · have := (bk_in h).2; omega
      · exact h3 x h
theorem se_ins {ct ed : Int → Int} {A : List Int} {e m : Int} (h0 : 0 < ct e) (h1 : ct e ≤ 99) (hl : lay ed (cc ct A 99)) (hm : m = (cc ct A 99).length) : lay (ief ct e m.toNat ed) (cc ct (A ++ [e]) 99) ∧ m + 1 = (cc ct (A ++ [e]) 99).length := by
  obtain ⟨P, a1, a2, a3⟩ := cc_ins (ct := ct) (A := A) (e := e) (c := (ct e).toNat - 1) (by omega) (99 - (ct e).toNat)
  rw [show (ct e).toNat - 1 + 1 + (99 - (ct e).toNat) = 99 by omega] at a1 a2
  rw [a1] at hl hm
  refine ⟨?_, ?_⟩
  · rw [a2, show m.toNat = (P ++ cc ct A ((ct e).toNat - 1)).length by omega]
    exact ief_lay hl (fun x hx => by have : ct x ≤ _ := (cc_in _ hx).2; omega) a3
  · rw [a2]
    rw [List.length_append] at hm ⊢
    rw [List.length_cons]
    omega
theorem prl_s {ex : Int → Int} {b k : Nat} (hk : k < 2) : prl ex (2 * b + k + 1) = if (k : Int) < ex (b : Nat) then prl ex (2 * b + k) ++ [2 * (b : Int) + k] else prl ex (2 * b + k) := by
  show (if ((2 * b + k : Nat) : Int) % 2 < ex (((2 * b + k : Nat) : Int) / 2) then prl ex (2 * b + k) ++ [((2 * b + k : Nat) : Int)] else prl ex (2 * b + k)) = _
  rw [show ((2 * b + k : Nat) : Int) % 2 = k by omega, show ((2 * b + k : Nat) : Int) / 2 = b by omega, show ((2 * b + k : Nat) : Int) = 2 * (b : Int) + k by omega]
theorem prl_in {ex : Int → Int} {e : Int} : ∀ j : Nat, e ∈ prl ex j → 0 ≤ e ∧ e < j ∧ e % 2 < ex (e / 2)
  | 0, h => by cases h
  | j + 1, h => by
    unfold prl at h
    split at h
    · rename_i hj
      rcases List.mem_append.1 h with h | h
      · have := prl_in j h; exact ⟨this.1, by omega, this.2.2⟩
      · rw [List.mem_singleton] at h
        rw [h]; exact ⟨by omega, by omega, hj⟩
    · have := prl_in j h; exact ⟨this.1, by omega, this.2.2⟩
theorem se1_lay {ct ex : Int → Int} {b : Nat} (hx : ex (b : Nat) ≤ 2) (hc : ∀ k : Nat, (k : Int) < ex (b : Nat) → 0 ≤ ct (2 * (b : Int) + k) ∧ ct (2 * (b : Int) + k) ≤ 99) : ∀ (x k : Nat) (ed : Int → Int) (m : Int), (k : Int) + x = ex (b : Nat) → lay ed (cc ct (prl ex (2 * b + k)) 99) → m = (cc ct (prl ex (2 * b + k)) 99).length → lay (se1 ct (b : Nat) x (k : Nat) ed m).1 (cc ct (prl ex (2 * b + k + x)) 99) ∧ (se1 ct (b : Nat) x (k : Nat) ed m).2 = (cc ct (prl ex (2 * b + k + x)) 99).length
  | 0, k, ed, m, hk, h1, h2 => ⟨h1, h2⟩
  | x + 1, k, ed, m, hk, h1, h2 => by
    have hk2 : k < 2 := by omega
    have hp := prl_s (ex := ex) (b := b) hk2
    rw [if_pos (by omega)] at hp
    have hck := hc k (by omega)
    unfold se1
    rw [show ((k : Nat) : Int) + 1 = ((k + 1 : Nat) : Int) by omega, show 2 * b + k + (x + 1) = 2 * b + (k + 1) + x by omega]
    split
    · rename_i hp0
      have hi := se_ins hp0 hck.2 h1 h2
      rw [← hp] at hi
      exact se1_lay hx hc x (k + 1) _ _ (by omega) hi.1 hi.2
    · rename_i hp0
      have hi := cc_hi (A := prl ex (2 * b + k)) (ct := ct) (e := 2 * (b : Int) + k) 99 (Or.inr (by omega))
      rw [← hp] at hi
      exact se1_lay hx hc x (k + 1) _ _ (by omega) (by rw [show 2 * b + (k + 1) = 2 * b + k + 1 by omega, hi]; exact h1) (by rw [show 2 * b + (k + 1) = 2 * b + k + 1 by omega, hi]; exact h2)
theorem prl_2 {ex : Int → Int} {b x : Nat} (hx : (x : Int) = ex (b : Nat)) (h2 : x ≤ 2) : prl ex (2 * b + x) = prl ex (2 * b + 2) := by
  have hp0 := prl_s (ex := ex) (b := b) (k := 0) (by omega)
  have hp1 := prl_s (ex := ex) (b := b) (k := 1) (by omega)
  rcases (show x = 0 ∨ x = 1 ∨ x = 2 by omega) with h | h | h
  · rw [if_neg (by omega)] at hp0
    rw [if_neg (by omega)] at hp1
    rw [h]; exact (hp1.trans hp0).symm
  · rw [if_neg (by omega)] at hp1
    rw [h]; exact hp1.symm
  · rw [h]
theorem se2_lay {n : Int} {ct tg ex : Int → Int} (hG : wfG n ex tg ct) : ∀ (x b : Nat) (ed : Int → Int) (m : Int), (b : Int) + x = n → lay ed (cc ct (prl ex (2 * b)) 99) → m = (cc ct (prl ex (2 * b)) 99).length → lay (se2 ex ct x (b : Nat) ed m).1 (cc ct (prl ex (2 * n.toNat)) 99) ∧ (se2 ex ct x (b : Nat) ed m).2 = (cc ct (prl ex (2 * n.toNat)) 99).length
  | 0, b, ed, m, hk, h1, h2 => by
    rw [show n.toNat = b by omega]; exact ⟨h1, h2⟩
  | x + 1, b, ed, m, hk, h1, h2 => by
    obtain ⟨w1, w2, w3, -⟩ := hG.2.2 (b : Nat) (by omega) (by omega)
    have hs := se1_lay (ct := ct) (ex := ex) (b := b) w2 (fun k hk => (w3 k (by omega) hk).2.2) (ex (b : Nat)).toNat 0 ed m (by omega) h1 h2
    rw [Nat.add_zero, prl_2 (x := (ex (b : Nat)).toNat) (by omega) (by omega)] at hs
    unfold se2
    rw [show ((b : Nat) : Int) + 1 = ((b + 1 : Nat) : Int) by omega]
    exact se2_lay hG x (b + 1) _ _ (by omega) hs.1 hs.2
/-- edges joined one after the other -/
def jl (tg : Int → Int) (L : List Int) (z : (Int → Int) × (Int → Int)) : (Int → Int) × (Int → Int) := L.foldl (fun z e => jn (e / 2) (tg e) z) z
theorem mgf_l {tg ed : Int → Int} : ∀ (T : List Int) (i : Int) (z : (Int → Int) × (Int → Int)), (∀ (j : Nat) (x : Int), T[j]? = some x → ed (i + j) = x) → mgf tg ed T.length i z = jl tg T z
  | [], i, z, h => rfl
  | t :: T, i, z, h => by
    have h0 := h 0 t rfl
    rw [show i + ((0 : Nat) : Int) = i by omega] at h0
    show mgf tg ed T.length (i + 1) (jn (ed i / 2) (tg (ed i)) z) = jl tg T (jn (t / 2) (tg t) z)
    rw [h0]
    exact mgf_l T (i + 1) _ (fun j x a => by rw [show i + 1 + (j : Int) = i + ((j + 1 : Nat) : Int) by omega]; exact h (j + 1) x a)
def mgl (n : Int) (ex tg ct : Int → Int) : (Int → Int) × (Int → Int) := jl tg (cc ct (prl ex (2 * n.toNat)) 99) (fun x => x, fun _ => -1)
theorem mrg_l {n : Int} {ex tg ct ed : Int → Int} (hG : wfG n ex tg ct) : mrg n ex tg ct ed = mgl n ex tg ct := by
  have hs := se2_lay hG n.toNat 0 ed 0 (by have := hG.1; omega) (fun j x a => by
    have : cc ct (prl ex (2 * 0)) 99 = [] := List.eq_nil_iff_forall_not_mem.2 (fun x hx => by have := (cc_in _ hx).1; cases this)
    rw [this] at a; cases a) (by
    have : cc ct (prl ex (2 * 0)) 99 = [] := List.eq_nil_iff_forall_not_mem.2 (fun x hx => by have := (cc_in _ hx).1; cases this)
    rw [this]; rfl)
  unfold mrg mgl
  rw [show (se2 ex ct n.toNat 0 ed 0).2.toNat = (cc ct (prl ex (2 * n.toNat)) 99).length by
    have := hs.2
    rw [show ((0 : Nat) : Int) = 0 from rfl] at this
    omega]
  exact mgf_l _ 0 _ (fun j x a => by rw [Int.zero_add]; exact hs.1 j x a)
/-- a list linked by nx -/
def lnk (nx : Int → Int) : List Int → Prop
  | [] => False
  | [x] => nx x = -1
  | x :: y :: t => nx x = y ∧ lnk nx (y :: t)
/-- chains: for each head the list of its chain -/
def chn (n : Int) (z : (Int → Int) × (Int → Int)) (c : Int → List Int) : Prop := (∀ x, 0 ≤ x → x < n → 0 ≤ z.1 x ∧ z.1 x < n ∧ z.1 (z.1 x) = z.1 x) ∧ z.1 0 = 0 ∧ ∀ h, 0 ≤ h → h < n → z.1 h = h → (∃ t, c h = h :: t) ∧ (c h).Nodup ∧ lnk z.2 (c h) ∧ ∀ x, x ∈ c h ↔ 0 ≤ x ∧ x < n ∧ z.1 x = h
theorem lnk_up {nx : Int → Int} {b s : Int} : ∀ L : List Int, lnk nx L → b ∉ L → lnk (upf nx b s) L
  | [], h, _ => h
  | [x], h, hb => by
    show upf nx b s x = -1
    rw [upf_n (fun e => hb (by rw [e]; exact List.mem_singleton_self b))]; exact h
  | x :: y :: t, h, hb => by
    refine ⟨?_, lnk_up (y :: t) h.2 (fun e => hb (List.mem_cons_of_mem _ e))⟩
    rw [upf_n (fun e => hb (by rw [e]; exact List.mem_cons_self))]; exact h.1
theorem lnk_ap {nx : Int → Int} {b s : Int} {t : List Int} (ht : lnk nx (s :: t)) (hbt : b ∉ s :: t) (hb : nx b = -1) : ∀ L : List Int, lnk nx L → (∀ x ∈ L, 0 ≤ x) → L.Nodup → b ∈ L → lnk (upf nx b s) (L ++ s :: t)
  | [], h, _, _, _ => h.elim
  | [x], h, _, _, hm => by
    rw [List.mem_singleton] at hm
    refine ⟨by rw [hm]; exact upf_s, lnk_up _ ht hbt⟩
  | x :: y :: r, h, h0, hn, hm => by
    have hxb : x ≠ b := fun e => by
      have h1 := h.1
      rw [e, hb] at h1
      have := h0 y (List.mem_cons_of_mem _ List.mem_cons_self)
      omega
    refine ⟨by rw [upf_n hxb]; exact h.1, lnk_ap ht hbt hb (y :: r) h.2 (fun z hz => h0 z (List.mem_cons_of_mem _ hz)) (List.nodup_cons.1 hn).2 ?_⟩
    rcases List.mem_cons.1 hm with e | e
    · exact absurd e.symm hxb
    · exact e
theorem chn_jn {n b s : Int} {z : (Int → Int) × (Int → Int)} {c : Int → List Int} (hb : 0 ≤ b ∧ b < n) (hs : 0 ≤ s ∧ s < n) (h : chn n z c) : ∃ c2, chn n (jn b s z) c2 := by
  unfold jn
  split
  · rename_i hj
    obtain ⟨j1, j2, j3, j4⟩ := hj
    obtain ⟨h1, h2, h3⟩ := h
    have hhb := h1 b hb.1 hb.2
    have hcb := h3 (z.1 b) hhb.1 hhb.2.1 hhb.2.2
    have hcs := h3 s hs.1 hs.2 j2
    refine ⟨fun x => if x = z.1 b then c x ++ c s else c x, ?_, ?_, ?_⟩
    · intro x a d
      have hx := h1 x a d
      dsimp only
      by_cases e : z.1 x = s
      · rw [if_pos e, hhb.2.2, if_neg j3]; exact ⟨hhb.1, hhb.2.1, rfl⟩
      · rw [if_neg e, hx.2.2, if_neg e]; exact ⟨hx.1, hx.2.1, rfl⟩
    · dsimp only
      rw [h2, if_neg (fun e => j4 e.symm)]
    · intro x a d e
      dsimp only at e ⊢
      have hxs : z.1 x ≠ s := fun e2 => by
        rw [if_pos e2] at e
        rw [← e, hhb.2.2] at e2
        exact j3 e2
      rw [if_neg hxs] at e
      have hcx := h3 x a d e
      by_cases hxb : x = z.1 b
      · rw [if_pos hxb]
        obtain ⟨t, ht⟩ := hcs.1
        obtain ⟨t0, ht0⟩ := hcx.1
        have hbs : b ∉ c s := fun e2 => j3 ((hcs.2.2.2 b).1 e2).2.2
        have hbx : b ∈ c x := (hcx.2.2.2 b).2 ⟨hb.1, hb.2, hxb.symm⟩
        refine ⟨⟨t0 ++ c s, by rw [ht0]; rfl⟩, ?_, ?_, ?_⟩
        · refine List.nodup_append.2 ⟨hcx.2.1, hcs.2.1, fun y hy w hw e2 => ?_⟩
          have e3 := ((hcx.2.2.2 y).1 hy).2.2
          have e4 := ((hcs.2.2.2 w).1 hw).2.2
          rw [e2, e4] at e3
          exact hxs (by rw [e]; exact e3.symm)
        · have := hcs.2.2.1
          rw [ht] at this hbs ⊢
          exact lnk_ap this hbs j1 (c x) hcx.2.2.1 (fun y hy => ((hcx.2.2.2 y).1 hy).1) hcx.2.1 hbx
        · intro y
          rw [List.mem_append, hcx.2.2.2 y, hcs.2.2.2 y]
          by_cases e2 : z.1 y = s
          · rw [if_pos e2]
            constructor
            · rintro (w | w)
              · exact ⟨w.1, w.2.1, hxb.symm⟩
              · exact ⟨w.1, w.2.1, hxb.symm⟩
            · intro w; exact Or.inr ⟨w.1, w.2.1, e2⟩
          · rw [if_neg e2]
            constructor
            · rintro (w | w)
              · exact w
              · exact absurd w.2.2 e2
            · intro w; exact Or.inl w
      · rw [if_neg hxb]
        refine ⟨hcx.1, hcx.2.1, lnk_up _ hcx.2.2.1 (fun e2 => hxb ((hcx.2.2.2 b).1 e2).2.2.symm), fun y => ?_⟩
        rw [hcx.2.2.2 y]
        by_cases e2 : z.1 y = s
        · rw [if_pos e2]
          constructor
          · intro w; exact absurd (w.2.2.symm.trans e2) (fun e3 => hxs (by rw [e]; exact e3))
          · intro w; exact absurd w.2.2.symm hxb
        · rw [if_neg e2]
  · exact ⟨c, h⟩
theorem chn_jl {n : Int} {tg : Int → Int} : ∀ (L : List Int) (z : (Int → Int) × (Int → Int)) (c : Int → List Int), (∀ e ∈ L, (0 ≤ e / 2 ∧ e / 2 < n) ∧ 0 ≤ tg e ∧ tg e < n) → chn n z c → ∃ c2, chn n (jl tg L z) c2
  | [], z, c, _, h => ⟨c, h⟩
  | e :: L, z, c, hL, h => by
    have he := hL e List.mem_cons_self
    obtain ⟨c2, h2⟩ := chn_jn he.1 he.2 h
    exact chn_jl L _ c2 (fun x hx => hL x (List.mem_cons_of_mem _ hx)) h2
theorem ed_ok {n e : Int} {ex tg ct : Int → Int} (hG : wfG n ex tg ct) (he : e ∈ prl ex (2 * n.toNat)) : (0 ≤ e / 2 ∧ e / 2 < n) ∧ 0 ≤ tg e ∧ tg e < n := by
  have h := prl_in _ he
  have hn := hG.1
  have hw := (hG.2.2 (e / 2) (by omega) (by omega)).2.2.1 (e % 2) (by omega) h.2.2
  rw [show 2 * (e / 2) + e % 2 = e by omega] at hw
  exact ⟨⟨by omega, by omega⟩, hw.1, hw.2.1⟩
theorem mgl_ch {n : Int} {ex tg ct : Int → Int} (hG : wfG n ex tg ct) : ∃ c, chn n (mgl n ex tg ct) c := by
  refine chn_jl _ _ (fun x => [x]) (fun e he => ed_ok hG (cc_in _ he).1) ⟨fun x a b => ⟨a, b, rfl⟩, rfl, fun h a b _ => ⟨⟨[], rfl⟩, by simp, rfl, fun x => ?_⟩⟩
  rw [List.mem_singleton]
  exact ⟨fun e => ⟨by omega, by omega, e⟩, fun e => e.2.2⟩
theorem lnk_agr {n : Int} {nx nx2 : Int → Int} (hA : agr n nx nx2) : ∀ L : List Int, (∀ x ∈ L, 0 ≤ x ∧ x < n) → lnk nx2 L → lnk nx L
  | [], _, h => h
  | [x], hL, h => by
    have := hL x List.mem_cons_self
    show nx x = -1
    rw [hA x this.1 this.2]; exact h
  | x :: y :: t, hL, h => by
    have := hL x List.mem_cons_self
    exact ⟨by rw [hA x this.1 this.2]; exact h.1, lnk_agr hA (y :: t) (fun w hw => hL w (List.mem_cons_of_mem _ hw)) h.2⟩
theorem chn_agr {n : Int} {hd nx : Int → Int} {z : (Int → Int) × (Int → Int)} {c : Int → List Int} (hn : 0 < n) (h1 : agr n hd z.1) (h2 : agr n nx z.2) (h : chn n z c) : chn n (hd, nx) c := by
  obtain ⟨a1, a2, a3⟩ := h
  refine ⟨fun x x0 x1 => ?_, ?_, fun x x0 x1 e => ?_⟩
  · have := a1 x x0 x1
    show 0 ≤ hd x ∧ hd x < n ∧ hd (hd x) = hd x
    rw [h1 x x0 x1, h1 _ this.1 this.2.1]
    exact this
  · show hd 0 = 0
    rw [h1 0 (by omega) hn]; exact a2
  · have e2 : hd x = x := e
    rw [h1 x x0 x1] at e2
    have := a3 x x0 x1 e2
    refine ⟨this.1, this.2.1, lnk_agr h2 _ (fun y hy => ?_) this.2.2.1, fun y => ?_⟩
    · have := (this.2.2.2 y).1 hy; exact ⟨this.1, this.2.1⟩
    · rw [this.2.2.2 y]
      constructor
      · intro w; exact ⟨w.1, w.2.1, by show hd y = x; rw [h1 y w.1 w.2.1]; exact w.2.2⟩
      · intro w; exact ⟨w.1, w.2.1, by rw [← h1 y w.1 w.2.1]; exact w.2.2⟩
end XPC
