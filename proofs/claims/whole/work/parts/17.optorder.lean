section XOO
variable {G : xG} {σ : List (Nat × Nat)} {ρ : Nat → Int → Option Nat} {M : Nat → Int → Int} {Q : Option xV → xH → Prop}
def sub (m r : Nat) : Prop := ∀ c, c < 8 → Nat.testBit m c = true → Nat.testBit r c = true
theorem bit_hi {m c : Nat} (hm : m < 256) (hc : ¬ c < 8) : Nat.testBit m c = false := by
  refine Nat.testBit_lt_two_pow (Nat.lt_of_lt_of_le hm ?_)
  have : 2 ^ 8 ≤ 2 ^ c := Nat.pow_le_pow_right (by decide) (by omega)
  exact this
theorem sub_iff {m r : Nat} (hm : m < 256) (hr : r < 256) : Nat.land m (255 - r) = 0 ↔ sub m r := by
  constructor
  · intro h c hc hb
    have h1 : Nat.testBit (m &&& (255 - r)) c = false := by
      rw [show m &&& (255 - r) = Nat.land m (255 - r) from rfl, h]; simp
    rw [Nat.testBit_and, cm_tab r hr c hc, hb] at h1
    simpa using h1
  · intro h
    apply Nat.eq_of_testBit_eq
    intro c
    show Nat.testBit (m &&& (255 - r)) c = _
    rw [Nat.testBit_and]
    by_cases hc : c < 8
    · rw [cm_tab r hr c hc]
      cases hb : Nat.testBit m c with
      | false => simp
      | true => rw [h c hc hb]; simp
    · rw [bit_hi hm hc]; simp
theorem sub_rem {m r b : Nat} (hm : m < 256) (hb : b < 8) (h : sub m r) : sub (rem m b) r := by
  intro c hc hz
  rw [rem_bit hm hb hc] at hz
  simp only [Bool.and_eq_true] at hz
  exact h c hc hz.1
theorem ne0_bit {m : Nat} (hm : m < 256) (h : m ≠ 0) : ∃ c, c < 8 ∧ Nat.testBit m c = true := by
  apply Classical.byContradiction
  intro hno
  refine h (Nat.eq_of_testBit_eq (fun c => ?_))
  by_cases hc : c < 8
  · cases hb : Nat.testBit m c with
    | false => simp
    | true => exact absurd ⟨c, hc, hb⟩ hno
  · rw [bit_hi hm hc]; simp
/-- the row of least costs holds the optima of set m -/
def dpv (n : Int) (r : Nat) (sh : Int → Int → Int) (ls : Int → Int) (m : Nat) : Prop := ∀ l, 0 ≤ l → l < n → (l = 0 ∨ (Nat.testBit r l.toNat = true ∧ Nat.testBit m l.toNat = false)) → ls ((m : Int) * 8 + l) = opt sh (els n m).length l (els n m)
def frOK (n : Int) (r : Nat) : Prop := ∀ c, c < 8 → Nat.testBit r c = true → 1 ≤ c ∧ (c : Int) < n
theorem els_mem {n : Int} {m : Nat} {x : Int} : x ∈ els n m ↔ 1 ≤ x ∧ x < n ∧ Nat.testBit m x.toNat = true := by
  unfold els
  rw [elf_mem]
  constructor
  · rintro ⟨h1, h2, h3⟩; exact ⟨h1, by omega, h3⟩
  · rintro ⟨h1, h2, h3⟩; exact ⟨h1, by omega, h3⟩
theorem els_len {n : Int} (hn : n ≤ 8) {m : Nat} : (els n m).length ≤ 7 := by
  have key : ∀ (k : Nat) (b : Int), (elf m k b).length ≤ k := by
    intro k
    induction k with
    | zero => intro b; simp [elf]
    | succ k ih =>
      intro b
      unfold elf
      split
      · have := ih (b + 1); simp; omega
      · have := ih (b + 1); omega
  have := key (n - 1).toNat 1
  unfold els
  omega
theorem shr_n {n : Int} {ex tg ct : Int → Int} (hG : wfG n ex tg ct) : ∀ a b, 0 ≤ a → a < n → (b = -1 ∨ (0 ≤ b ∧ b < n)) → 0 ≤ shr ex tg ct a b ∧ shr ex tg ct a b ≤ 594 := fun a b h0 h1 _ => shr_bd (hG.2.2 a h0 h1)
/-- the tables at the entries of a set that is not empty -/
theorem dp_step {n : Int} {r m : Nat} {ex tg ct ls sr : Int → Int} {l : Int} (hG : wfG n ex tg ct) (hr : frOK n r) (hm : m < 256) (hs : sub m r) (hI : ∀ q, q < m → sub q r → dpv n r (shr ex tg ct) ls q) (hsr : ∀ x, 0 ≤ x → x < n → shf2 ex tg ct sr n x) (h0 : 0 ≤ l) (h1 : l < n) :
    ∀ b, 1 ≤ b → b < n → Nat.testBit m b.toNat = true → fct ls sr m l b = shr ex tg ct l b + opt (shr ex tg ct) ((els n m).length - 1) b ((els n m).erase b) ∧ (0 ≤ sr (l * 9 + b) ∧ sr (l * 9 + b) ≤ 600) ∧ (0 ≤ ls ((rem m b.toNat : Nat) * 8 + b) ∧ ls ((rem m b.toNat : Nat) * 8 + b) ≤ 10000) := by
  have hn8 := hG.2.1
  intro b hb1 hb2 hb3
  have hbm : b ∈ els n m := els_mem.mpr ⟨hb1, hb2, hb3⟩
  have hb8 : b.toNat < 8 := by omega
  have e1 : sr (l * 9 + b) = shr ex tg ct l b := (hsr l h0 h1).1 b (by omega) hb2
  have hlt : rem m b.toNat < m := lt_tab m hm b.toNat hb8 hb3
  have hv := hI _ hlt (sub_rem hm hb8 hs) b (by omega) hb2 (Or.inr ⟨hs _ hb8 hb3, by rw [rem_bit hm hb8 hb8]; simp⟩)
  have ee : els n (rem m b.toNat) = (els n m).erase b := by
    rw [els_erase hn8 hm hb8, Int.toNat_of_nonneg (by omega)]
  have hle : ((els n m).erase b).length = (els n m).length - 1 := List.length_erase_of_mem hbm
  rw [ee, hle] at hv
  have hl7 := els_len hn8 (m := m)
  have hpos : 0 < (els n m).length := List.length_pos_of_mem hbm
  have hbd := opt_bd (shr_n hG) ⟨by omega, by omega⟩ ((els n m).length - 1) b ((els n m).erase b) (by omega) hle (by omega) hb2 (fun x hx => by
    have := els_mem.mp (List.mem_of_mem_erase hx)
    exact ⟨by omega, by omega⟩)
  have hs1 := shr_bd (f := b) (hG.2.2 l h0 h1)
  refine ⟨by unfold fct; rw [e1, hv], by rw [e1]; omega, by rw [hv]; omega⟩
theorem dp_pick {n : Int} {r m : Nat} {ex tg ct ls sr : Int → Int} {l : Int} (hG : wfG n ex tg ct) (hr : frOK n r) (hm : m < 256) (hs : sub m r) (hI : ∀ q, q < m → sub q r → dpv n r (shr ex tg ct) ls q) (hsr : ∀ x, 0 ≤ x → x < n → shf2 ex tg ct sr n x) (h0 : 0 ≤ l) (h1 : l < n) (hne : m ≠ 0) :
    (chs (fct ls sr m l) (els n m) 0 2147483647).1 = pck (shr ex tg ct) ((els n m).length - 1) l (els n m) ∧ pck (shr ex tg ct) ((els n m).length - 1) l (els n m) ∈ els n m ∧ fct ls sr m l (pck (shr ex tg ct) ((els n m).length - 1) l (els n m)) = opt (shr ex tg ct) (els n m).length l (els n m) := by
  have hst := dp_step hG hr hm hs hI hsr h0 h1
  obtain ⟨c, hc, hcb⟩ := ne0_bit hm hne
  have hcr := hr c hc (hs c hc hcb)
  have hcm : (c : Int) ∈ els n m := els_mem.mpr ⟨by omega, hcr.2, by simpa using hcb⟩
  have hpos : 0 < (els n m).length := List.length_pos_of_mem hcm
  have hl7 := els_len hG.2.1 (m := m)
  have hcg : chs (fct ls sr m l) (els n m) 0 2147483647 = chs (fun b => shr ex tg ct l b + opt (shr ex tg ct) ((els n m).length - 1) b ((els n m).erase b)) (els n m) 0 2147483647 := chs_cong _ _ _ (fun b hb => by
    have h3 := els_mem.mp hb
    exact (hst b h3.1 h3.2.1 h3.2.2).1)
  have hv := opt_val (shr_n hG) ⟨by omega, by omega⟩ (k := (els n m).length - 1) (l := l) (L := els n m) (by omega) (by omega) h0 h1 (fun x hx => by
    have := els_mem.mp hx
    exact ⟨by omega, by omega⟩)
  refine ⟨by rw [hcg]; rfl, hv.1, ?_⟩
  have h3 := els_mem.mp hv.1
  rw [(hst _ h3.1 h3.2.1 h3.2.2).1, hv.2]
  congr 1
  omega
theorem dpv_keep {n : Int} {r : Nat} {sh : Int → Int → Int} {ls ls2 : Int → Int} {q m : Nat} (h : dpv n r sh ls q) (hn : n ≤ 8) (hq : q < m) (hk : ∀ j, j < (m : Int) * 8 → ls2 j = ls j) : dpv n r sh ls2 q := by
  intro l h0 h1 h2
  rw [hk _ (by omega)]
  exact h l h0 h1 h2
theorem pl_bit {r m : Nat} {l : Int} (hr : r < 256) (hm : m < 256) (h0 : 0 ≤ l) (h1 : l < 8) : btb ((Nat.land r (255 - m) : Nat) : Int) l = true ↔ (Nat.testBit r l.toNat = true ∧ Nat.testBit m l.toNat = false) := by
  have hh : Nat.land r (255 - m) < 256 := Nat.lt_of_le_of_lt Nat.and_le_left hr
  rw [bt_i hh h0 h1]
  show Nat.testBit (r &&& (255 - m)) l.toNat = true ↔ _
  rw [Nat.testBit_and, cm_tab m hm l.toNat (by omega)]
  simp
set_option maxHeartbeats 4000000 in
theorem t_fset_l {P S F : Nat} {m r : Nat} (hP : isOp σ ρ P) (hS : isSt σ ρ S F) (hd : S + 4 < P) : ∀ (n : Nat) (l : Int) (M1 : Nat → Int → Int), wfG (M1 F 0) (M1 (S + 1)) (M1 (S + 2)) (M1 (S + 3)) → frOK (M1 F 0) r → r < 256 → M1 P 2 = (r : Nat) → m < 256 → sub m r → (∀ q, q < m → sub q r → dpv (M1 F 0) r (shr (M1 (S + 1)) (M1 (S + 2)) (M1 (S + 3))) (M1 (P + 1)) q) → (∀ x, 0 ≤ x → x < M1 F 0 → shf2 (M1 (S + 1)) (M1 (S + 2)) (M1 (S + 3)) (M1 (P + 2)) (M1 F 0) x) → 0 ≤ l → l + n = M1 F 0 → (∀ x, 0 ≤ x → x < l → (x = 0 ∨ (Nat.testBit r x.toNat = true ∧ Nat.testBit m x.toNat = false)) → M1 (P + 1) ((m : Int) * 8 + x) = opt (shr (M1 (S + 1)) (M1 (S + 2)) (M1 (S + 3))) (els (M1 F 0) m).length x (els (M1 F 0) m)) → (∀ M2, (∀ c, c ≠ P + 1 → M2 c = M1 c) → dpv (M1 F 0) r (shr (M1 (S + 1)) (M1 (S + 2)) (M1 (S + 3))) (M2 (P + 1)) m → (∀ j, j < (m : Int) * 8 → M2 (P + 1) j = M1 (P + 1) j) → Q none (σ, ρ, M2)) → xX G mX3_fillSet 0 0 2 [(0, xP P), (1, xP S), (2, xI (m : Nat)), (3, xI l)] [] (σ, ρ, M1) Q := by
  have hlt := hS.lt
  intro n
  induction n with
  | zero =>
    intro l M1 hG hr hr1 hr2 hm hs hI hsr h0 hk hJ hq
    have hn8 := hG.2.1
    have hn1 := hG.1
    refine x_iload_n (p2 := 3) rfl dX3_fillSet_2 rfl ?_
    refine x_aload_n (p2 := 4) rfl dX3_fillSet_3 rfl ?_
    refine x_getr (p2 := 7) (kz := 0) rfl dX3_fillSet_4 f_3_42 rfl rfl hS.sh hS.r0 ?_
    refine x_geti (p2 := 10) (kz := 0) rfl dX3_fillSet_7 f_3_46 rfl rfl hS.fr.sh ?_
    refine x_ic_ge (p2 := 13) (t := 108) (by decide) rfl dX3_fillSet_10 (fun hc10 => ?_) (fun hc10 => absurd hc10 (by omega))
    refine x_vret dX3_fillSet_108 rfl ?_
    exact hq M1 (fun _ _ => rfl) (fun x a1 a2 a3 => hJ x a1 (by omega) a3) (fun _ _ => rfl)
  | succ n ih =>
    intro l M1 hG hr hr1 hr2 hm hs hI hsr h0 hk hJ hq
    have hn8 := hG.2.1
    have hn1 := hG.1
    refine x_iload_n (p2 := 3) rfl dX3_fillSet_2 rfl ?_
    refine x_aload_n (p2 := 4) rfl dX3_fillSet_3 rfl ?_
    refine x_getr (p2 := 7) (kz := 0) rfl dX3_fillSet_4 f_3_42 rfl rfl hS.sh hS.r0 ?_
    refine x_geti (p2 := 10) (kz := 0) rfl dX3_fillSet_7 f_3_46 rfl rfl hS.fr.sh ?_
    refine x_ic_ge (p2 := 13) (t := 108) (by decide) rfl dX3_fillSet_10 (fun hc10 => ?_) (fun hc10 => ?_)
    · exact absurd hc10 (by omega)
    have hl8 : l < 8 := by omega
    refine x_iload_n (p2 := 14) rfl dX3_fillSet_13 rfl ?_
    refine x_if_eq (p2 := 17) (t := 32) (by decide) rfl dX3_fillSet_14 (fun hc14 => ?_) (fun hc14 => ?_)
    · skip
      refine x_iconst (p2 := 33) rfl dX3_fillSet_32 ⟨by decide, by decide⟩ ?_
      refine x_goto (t := 37) (by decide) dX3_fillSet_33 ?_
      refine x_istore (p2 := 39) (i := 4) (L2 := [(0, _), (1, _), (2, _), (3, _), (4, _)]) rfl dX3_fillSet_37 ⟨rfl, Nat.le_of_ble_eq_true rfl⟩ rfl ?_
      refine x_iload (p2 := 41) rfl dX3_fillSet_39 rfl ?_
      refine x_if_eq (p2 := 44) (t := 69) (by decide) rfl dX3_fillSet_41 (fun hc => absurd hc (by decide)) (fun _ => ?_)
      refine x_iload_n (p2 := 45) rfl dX3_fillSet_44 rfl ?_
      refine x_if_ne (p2 := 48) (t := 69) (by decide) rfl dX3_fillSet_45 (fun hc45 => ?_) (fun hc45 => ?_)
      · skip
        refine x_iload (p2 := 71) rfl dX3_fillSet_69 rfl ?_
        refine x_if_eq (p2 := 74) (t := 102) (by decide) rfl dX3_fillSet_71 (fun hc => absurd hc (by decide)) (fun _ => ?_)
        have hne : m ≠ 0 := fun z => hc45 (by rw [z]; rfl)
        have hpk := dp_pick hG hr hm hs hI hsr h0 (show l < M1 F 0 by omega) hne
        have hpe := els_mem.mp hpk.2.1
        have hst := dp_step hG hr hm hs hI hsr h0 (show l < M1 F 0 by omega) _ hpe.1 hpe.2.1 hpe.2.2
        refine x_aload_n (p2 := 75) rfl dX3_fillSet_74 rfl ?_
        refine x_aload_n (p2 := 76) rfl dX3_fillSet_75 rfl ?_
        refine x_iload_n (p2 := 77) rfl dX3_fillSet_76 rfl ?_
        refine x_iload_n (p2 := 78) rfl dX3_fillSet_77 rfl ?_
        refine x_v3 (p2 := 81) rfl dX3_fillSet_78 l_3_65 ok_X3_cheapestNext rfl hP.sh rfl ?_
        refine t_X3_cheapestNext hP hS hn8 hm (by omega) (fun b q1 q2 q3 => (dp_step hG hr hm hs hI hsr h0 (by omega) b q1 q2 q3).2) hn1 ?_
        rw [hpk.1]
        refine x_istore (p2 := 83) (i := 5) (L2 := [(0, _), (1, _), (2, _), (3, _), (4, _), (5, _)]) rfl dX3_fillSet_81 ⟨rfl, Nat.le_of_ble_eq_true rfl⟩ rfl ?_
        refine x_aload_n (p2 := 84) rfl dX3_fillSet_83 rfl ?_
        refine x_getr (p2 := 87) (kz := 0) rfl dX3_fillSet_84 f_3_11 rfl rfl hP.sh hP.r0 ?_
        refine x_iload_n (p2 := 88) rfl dX3_fillSet_87 rfl ?_
        refine x_bipush (p2 := 90) rfl dX3_fillSet_88 ⟨by decide, ⟨by decide, by decide⟩⟩ ?_
        refine x_imul (p2 := 91) rfl dX3_fillSet_90 ⟨by omega, by omega⟩ ?_
        refine x_iload_n (p2 := 92) rfl dX3_fillSet_91 rfl ?_
        refine x_iadd (p2 := 93) rfl dX3_fillSet_92 ⟨by omega, by omega⟩ ?_
        refine x_aload_n (p2 := 94) rfl dX3_fillSet_93 rfl ?_
        refine x_iload_n (p2 := 95) rfl dX3_fillSet_94 rfl ?_
        refine x_iload_n (p2 := 96) rfl dX3_fillSet_95 rfl ?_
        refine x_iload (p2 := 98) rfl dX3_fillSet_96 rfl ?_
        refine x_v3 (p2 := 101) rfl dX3_fillSet_98 l_3_73 ok_X3_costThrough rfl hP.sh rfl ?_
        refine t_X3_costThrough hP hm (by omega) (by omega) hst.2.1 hst.2.2 ?_
        rw [hpk.2.2]
        refine x_iast (p2 := 102) rfl dX3_fillSet_101 hP.a0 (by omega) (by omega) ?_
        refine x_iinc (p2 := 105) (L2 := [(0, _), (1, _), (2, _), (3, _), (4, _), (5, _)]) rfl dX3_fillSet_102 rfl ⟨by omega, by omega⟩ ⟨rfl, Nat.le_of_ble_eq_true rfl⟩ rfl ?_
        refine x_goto (t := 2) (by decide) dX3_fillSet_105 ?_
        refine x_pick (L2 := [(0, _), (1, _), (2, _), (3, _)]) [0, 1, 2, 3] rfl ?_
        first
          | (have hnp : ¬ (l = 0 ∨ (Nat.testBit r l.toNat = true ∧ Nat.testBit m l.toNat = false)) := fun z => by
               rcases z with z | z
               · exact hc14 z
               · exact hb26 ((pl_bit hr1 hm h0 hl8).mpr z)
             refine ih (l + 1) M1 hG hr hr1 hr2 hm hs hI hsr (by omega) (by omega) (fun x a1 a2 a3 => ?_) hq
             rcases Int.lt_or_eq_of_le (show x ≤ l by omega) with z | z
             · exact hJ x a1 z a3
             · subst z; exact absurd a3 hnp)
          | (have hpl : (l = 0 ∨ (Nat.testBit r l.toNat = true ∧ Nat.testBit m l.toNat = false)) := by first | exact Or.inl hc14 | exact Or.inr ((pl_bit hr1 hm h0 hl8).mp hb26)
             have hval : xu M1 (P + 1) ((m : Int) * 8 + l) (opt (shr (M1 (S + 1)) (M1 (S + 2)) (M1 (S + 3))) (els (M1 F 0) m).length l (els (M1 F 0) m)) (P + 1) ((m : Int) * 8 + l) = opt (shr (M1 (S + 1)) (M1 (S + 2)) (M1 (S + 3))) (els (M1 F 0) m).length l (els (M1 F 0) m) := xu_s
             generalize hM5 : xu M1 (P + 1) _ _ = M5 at hval ⊢
             have hf5 : ∀ c, c ≠ P + 1 → M5 c = M1 c := fun c z1 => by rw [← hM5, xu_c z1]
             have hj5 : ∀ j, j ≠ (m : Int) * 8 + l → M5 (P + 1) j = M1 (P + 1) j := fun j z1 => by
               rw [← hM5]
               first
                 | rw [xu_j z1]
                 | (rw [xu_j (by omega)])
             have eF := hf5 F (by omega)
             have e1 := hf5 (S + 1) (by omega)
             have e2 := hf5 (S + 2) (by omega)
             have e3 := hf5 (S + 3) (by omega)
             have e4 := hf5 (P + 2) (by omega)
             have e5 := hf5 P (by omega)
             refine ih (l + 1) M5 (by rw [eF, e1, e2, e3]; exact hG) (by rw [eF]; exact hr) hr1 (by rw [e5]; exact hr2) hm hs (fun q q1 q2 => ?_) (by rw [eF, e1, e2, e3, e4]; exact hsr) (by omega) (by rw [eF]; omega) (fun x a1 a2 a3 => ?_) (fun M2 a1 a2 a3 => ?_)
             · rw [eF, e1, e2, e3]
               exact dpv_keep (hI q q1 q2) hn8 q1 (fun j hj => hj5 j (by omega))
             · rw [eF, e1, e2, e3]
               rcases Int.lt_or_eq_of_le (show x ≤ l by omega) with z | z
               · rw [hj5 _ (by omega)]; exact hJ x a1 z a3
               · subst z; exact hval
             · rw [eF, e1, e2, e3] at a2
               exact hq M2 (fun c z => (a1 c z).trans (hf5 c z)) a2 (fun j hj => (a3 j hj).trans (hj5 j (by omega))))
      · skip
        refine x_aload_n (p2 := 49) rfl dX3_fillSet_48 rfl ?_
        refine x_getr (p2 := 52) (kz := 0) rfl dX3_fillSet_49 f_3_11 rfl rfl hP.sh hP.r0 ?_
        refine x_iload_n (p2 := 53) rfl dX3_fillSet_52 rfl ?_
        refine x_aload_n (p2 := 54) rfl dX3_fillSet_53 rfl ?_
        refine x_getr (p2 := 57) (kz := 1) rfl dX3_fillSet_54 f_3_15 rfl rfl hP.sh hP.r1 ?_
        refine x_iload_n (p2 := 58) rfl dX3_fillSet_57 rfl ?_
        refine x_bipush (p2 := 60) rfl dX3_fillSet_58 ⟨by decide, ⟨by decide, by decide⟩⟩ ?_
        refine x_imul (p2 := 61) rfl dX3_fillSet_60 ⟨by omega, by omega⟩ ?_
        refine x_bipush (p2 := 63) rfl dX3_fillSet_61 ⟨by decide, ⟨by decide, by decide⟩⟩ ?_
        refine x_iadd (p2 := 64) rfl dX3_fillSet_63 ⟨by omega, by omega⟩ ?_
        refine x_iald (p2 := 65) rfl dX3_fillSet_64 hP.a1 (by omega) (by omega) ?_
        refine x_iast (p2 := 66) rfl dX3_fillSet_65 hP.a0 (by omega) (by omega) ?_
        refine x_goto (t := 102) (by decide) dX3_fillSet_66 ?_
        refine x_iinc (p2 := 105) (L2 := [(0, _), (1, _), (2, _), (3, _), (4, _)]) rfl dX3_fillSet_102 rfl ⟨by omega, by omega⟩ ⟨rfl, Nat.le_of_ble_eq_true rfl⟩ rfl ?_
        refine x_goto (t := 2) (by decide) dX3_fillSet_105 ?_
        refine x_pick (L2 := [(0, _), (1, _), (2, _), (3, _)]) [0, 1, 2, 3] rfl ?_
        first
          | (have hnp : ¬ (l = 0 ∨ (Nat.testBit r l.toNat = true ∧ Nat.testBit m l.toNat = false)) := fun z => by
               rcases z with z | z
               · exact hc14 z
               · exact hb26 ((pl_bit hr1 hm h0 hl8).mpr z)
             refine ih (l + 1) M1 hG hr hr1 hr2 hm hs hI hsr (by omega) (by omega) (fun x a1 a2 a3 => ?_) hq
             rcases Int.lt_or_eq_of_le (show x ≤ l by omega) with z | z
             · exact hJ x a1 z a3
             · subst z; exact absurd a3 hnp)
          | (have hpl : (l = 0 ∨ (Nat.testBit r l.toNat = true ∧ Nat.testBit m l.toNat = false)) := by first | exact Or.inl hc14 | exact Or.inr ((pl_bit hr1 hm h0 hl8).mp hb26)
             have hm0 : m = 0 := by omega
             have hval : xu M1 (P + 1) l (M1 (P + 2) (l * 9 + 8)) (P + 1) ((m : Int) * 8 + l) = opt (shr (M1 (S + 1)) (M1 (S + 2)) (M1 (S + 3))) (els (M1 F 0) m).length l (els (M1 F 0) m) := by
               subst hm0
               have e9 : els (M1 F 0) 0 = [] := List.eq_nil_iff_forall_not_mem.mpr (fun x hx => by have := (els_mem.mp hx).2.2; simp at this)
               rw [e9, show ((0 : Nat) : Int) * 8 + l = l by omega, xu_s]
               exact (hsr l h0 (by omega)).2
             generalize hM5 : xu M1 (P + 1) _ _ = M5 at hval ⊢
             have hf5 : ∀ c, c ≠ P + 1 → M5 c = M1 c := fun c z1 => by rw [← hM5, xu_c z1]
             have hj5 : ∀ j, j ≠ (m : Int) * 8 + l → M5 (P + 1) j = M1 (P + 1) j := fun j z1 => by
               rw [← hM5]
               first
                 | rw [xu_j z1]
                 | (rw [xu_j (by omega)])
             have eF := hf5 F (by omega)
             have e1 := hf5 (S + 1) (by omega)
             have e2 := hf5 (S + 2) (by omega)
             have e3 := hf5 (S + 3) (by omega)
             have e4 := hf5 (P + 2) (by omega)
             have e5 := hf5 P (by omega)
             refine ih (l + 1) M5 (by rw [eF, e1, e2, e3]; exact hG) (by rw [eF]; exact hr) hr1 (by rw [e5]; exact hr2) hm hs (fun q q1 q2 => ?_) (by rw [eF, e1, e2, e3, e4]; exact hsr) (by omega) (by rw [eF]; omega) (fun x a1 a2 a3 => ?_) (fun M2 a1 a2 a3 => ?_)
             · rw [eF, e1, e2, e3]
               exact dpv_keep (hI q q1 q2) hn8 q1 (fun j hj => hj5 j (by omega))
             · rw [eF, e1, e2, e3]
               rcases Int.lt_or_eq_of_le (show x ≤ l by omega) with z | z
               · rw [hj5 _ (by omega)]; exact hJ x a1 z a3
               · subst z; exact hval
             · rw [eF, e1, e2, e3] at a2
               exact hq M2 (fun c z => (a1 c z).trans (hf5 c z)) a2 (fun j hj => (a3 j hj).trans (hj5 j (by omega))))
    · skip
      refine x_aload_n (p2 := 18) rfl dX3_fillSet_17 rfl ?_
      refine x_geti (p2 := 21) (kz := 2) rfl dX3_fillSet_18 f_3_18 rfl rfl hP.sh ?_
      refine x_iload_n (p2 := 22) rfl dX3_fillSet_21 rfl ?_
      refine x_iconst (p2 := 23) rfl dX3_fillSet_22 ⟨by decide, by decide⟩ ?_
      refine x_ixor (p2 := 24) rfl dX3_fillSet_23 ?_
      refine x_iand (p2 := 25) rfl dX3_fillSet_24 ?_
      rw [hr2, an_tab r hr1 m hm]
      refine x_iload_n (p2 := 26) rfl dX3_fillSet_25 rfl ?_
      refine x_s2 (p2 := 29) rfl dX3_fillSet_26 l_3_69 ok_X3_contains rfl rfl ?_
      refine t_X3_contains (fun hb26 => ?_) (fun hb26 => ?_)
      · skip
        refine x_if_eq (p2 := 32) (t := 36) (by decide) rfl dX3_fillSet_29 (fun hc => absurd hc (by decide)) (fun _ => ?_)
        refine x_iconst (p2 := 33) rfl dX3_fillSet_32 ⟨by decide, by decide⟩ ?_
        refine x_goto (t := 37) (by decide) dX3_fillSet_33 ?_
        refine x_istore (p2 := 39) (i := 4) (L2 := [(0, _), (1, _), (2, _), (3, _), (4, _)]) rfl dX3_fillSet_37 ⟨rfl, Nat.le_of_ble_eq_true rfl⟩ rfl ?_
        refine x_iload (p2 := 41) rfl dX3_fillSet_39 rfl ?_
        refine x_if_eq (p2 := 44) (t := 69) (by decide) rfl dX3_fillSet_41 (fun hc => absurd hc (by decide)) (fun _ => ?_)
        refine x_iload_n (p2 := 45) rfl dX3_fillSet_44 rfl ?_
        refine x_if_ne (p2 := 48) (t := 69) (by decide) rfl dX3_fillSet_45 (fun hc45 => ?_) (fun hc45 => ?_)
        · skip
          refine x_iload (p2 := 71) rfl dX3_fillSet_69 rfl ?_
          refine x_if_eq (p2 := 74) (t := 102) (by decide) rfl dX3_fillSet_71 (fun hc => absurd hc (by decide)) (fun _ => ?_)
          have hne : m ≠ 0 := fun z => hc45 (by rw [z]; rfl)
          have hpk := dp_pick hG hr hm hs hI hsr h0 (show l < M1 F 0 by omega) hne
          have hpe := els_mem.mp hpk.2.1
          have hst := dp_step hG hr hm hs hI hsr h0 (show l < M1 F 0 by omega) _ hpe.1 hpe.2.1 hpe.2.2
          refine x_aload_n (p2 := 75) rfl dX3_fillSet_74 rfl ?_
          refine x_aload_n (p2 := 76) rfl dX3_fillSet_75 rfl ?_
          refine x_iload_n (p2 := 77) rfl dX3_fillSet_76 rfl ?_
          refine x_iload_n (p2 := 78) rfl dX3_fillSet_77 rfl ?_
          refine x_v3 (p2 := 81) rfl dX3_fillSet_78 l_3_65 ok_X3_cheapestNext rfl hP.sh rfl ?_
          refine t_X3_cheapestNext hP hS hn8 hm (by omega) (fun b q1 q2 q3 => (dp_step hG hr hm hs hI hsr h0 (by omega) b q1 q2 q3).2) hn1 ?_
          rw [hpk.1]
          refine x_istore (p2 := 83) (i := 5) (L2 := [(0, _), (1, _), (2, _), (3, _), (4, _), (5, _)]) rfl dX3_fillSet_81 ⟨rfl, Nat.le_of_ble_eq_true rfl⟩ rfl ?_
          refine x_aload_n (p2 := 84) rfl dX3_fillSet_83 rfl ?_
          refine x_getr (p2 := 87) (kz := 0) rfl dX3_fillSet_84 f_3_11 rfl rfl hP.sh hP.r0 ?_
          refine x_iload_n (p2 := 88) rfl dX3_fillSet_87 rfl ?_
          refine x_bipush (p2 := 90) rfl dX3_fillSet_88 ⟨by decide, ⟨by decide, by decide⟩⟩ ?_
          refine x_imul (p2 := 91) rfl dX3_fillSet_90 ⟨by omega, by omega⟩ ?_
          refine x_iload_n (p2 := 92) rfl dX3_fillSet_91 rfl ?_
          refine x_iadd (p2 := 93) rfl dX3_fillSet_92 ⟨by omega, by omega⟩ ?_
          refine x_aload_n (p2 := 94) rfl dX3_fillSet_93 rfl ?_
          refine x_iload_n (p2 := 95) rfl dX3_fillSet_94 rfl ?_
          refine x_iload_n (p2 := 96) rfl dX3_fillSet_95 rfl ?_
          refine x_iload (p2 := 98) rfl dX3_fillSet_96 rfl ?_
          refine x_v3 (p2 := 101) rfl dX3_fillSet_98 l_3_73 ok_X3_costThrough rfl hP.sh rfl ?_
          refine t_X3_costThrough hP hm (by omega) (by omega) hst.2.1 hst.2.2 ?_
          rw [hpk.2.2]
          refine x_iast (p2 := 102) rfl dX3_fillSet_101 hP.a0 (by omega) (by omega) ?_
          refine x_iinc (p2 := 105) (L2 := [(0, _), (1, _), (2, _), (3, _), (4, _), (5, _)]) rfl dX3_fillSet_102 rfl ⟨by omega, by omega⟩ ⟨rfl, Nat.le_of_ble_eq_true rfl⟩ rfl ?_
          refine x_goto (t := 2) (by decide) dX3_fillSet_105 ?_
          refine x_pick (L2 := [(0, _), (1, _), (2, _), (3, _)]) [0, 1, 2, 3] rfl ?_
          first
            | (have hnp : ¬ (l = 0 ∨ (Nat.testBit r l.toNat = true ∧ Nat.testBit m l.toNat = false)) := fun z => by
                 rcases z with z | z
                 · exact hc14 z
                 · exact hb26 ((pl_bit hr1 hm h0 hl8).mpr z)
               refine ih (l + 1) M1 hG hr hr1 hr2 hm hs hI hsr (by omega) (by omega) (fun x a1 a2 a3 => ?_) hq
               rcases Int.lt_or_eq_of_le (show x ≤ l by omega) with z | z
               · exact hJ x a1 z a3
               · subst z; exact absurd a3 hnp)
            | (have hpl : (l = 0 ∨ (Nat.testBit r l.toNat = true ∧ Nat.testBit m l.toNat = false)) := by first | exact Or.inl hc14 | exact Or.inr ((pl_bit hr1 hm h0 hl8).mp hb26)
               have hval : xu M1 (P + 1) ((m : Int) * 8 + l) (opt (shr (M1 (S + 1)) (M1 (S + 2)) (M1 (S + 3))) (els (M1 F 0) m).length l (els (M1 F 0) m)) (P + 1) ((m : Int) * 8 + l) = opt (shr (M1 (S + 1)) (M1 (S + 2)) (M1 (S + 3))) (els (M1 F 0) m).length l (els (M1 F 0) m) := xu_s
               generalize hM5 : xu M1 (P + 1) _ _ = M5 at hval ⊢
               have hf5 : ∀ c, c ≠ P + 1 → M5 c = M1 c := fun c z1 => by rw [← hM5, xu_c z1]
               have hj5 : ∀ j, j ≠ (m : Int) * 8 + l → M5 (P + 1) j = M1 (P + 1) j := fun j z1 => by
                 rw [← hM5]
                 first
                   | rw [xu_j z1]
                   | (rw [xu_j (by omega)])
               have eF := hf5 F (by omega)
               have e1 := hf5 (S + 1) (by omega)
               have e2 := hf5 (S + 2) (by omega)
               have e3 := hf5 (S + 3) (by omega)
               have e4 := hf5 (P + 2) (by omega)
               have e5 := hf5 P (by omega)
               refine ih (l + 1) M5 (by rw [eF, e1, e2, e3]; exact hG) (by rw [eF]; exact hr) hr1 (by rw [e5]; exact hr2) hm hs (fun q q1 q2 => ?_) (by rw [eF, e1, e2, e3, e4]; exact hsr) (by omega) (by rw [eF]; omega) (fun x a1 a2 a3 => ?_) (fun M2 a1 a2 a3 => ?_)
               · rw [eF, e1, e2, e3]
                 exact dpv_keep (hI q q1 q2) hn8 q1 (fun j hj => hj5 j (by omega))
               · rw [eF, e1, e2, e3]
                 rcases Int.lt_or_eq_of_le (show x ≤ l by omega) with z | z
                 · rw [hj5 _ (by omega)]; exact hJ x a1 z a3
                 · subst z; exact hval
               · rw [eF, e1, e2, e3] at a2
                 exact hq M2 (fun c z => (a1 c z).trans (hf5 c z)) a2 (fun j hj => (a3 j hj).trans (hj5 j (by omega))))
        · skip
          refine x_aload_n (p2 := 49) rfl dX3_fillSet_48 rfl ?_
          refine x_getr (p2 := 52) (kz := 0) rfl dX3_fillSet_49 f_3_11 rfl rfl hP.sh hP.r0 ?_
          refine x_iload_n (p2 := 53) rfl dX3_fillSet_52 rfl ?_
          refine x_aload_n (p2 := 54) rfl dX3_fillSet_53 rfl ?_
          refine x_getr (p2 := 57) (kz := 1) rfl dX3_fillSet_54 f_3_15 rfl rfl hP.sh hP.r1 ?_
          refine x_iload_n (p2 := 58) rfl dX3_fillSet_57 rfl ?_
          refine x_bipush (p2 := 60) rfl dX3_fillSet_58 ⟨by decide, ⟨by decide, by decide⟩⟩ ?_
          refine x_imul (p2 := 61) rfl dX3_fillSet_60 ⟨by omega, by omega⟩ ?_
          refine x_bipush (p2 := 63) rfl dX3_fillSet_61 ⟨by decide, ⟨by decide, by decide⟩⟩ ?_
          refine x_iadd (p2 := 64) rfl dX3_fillSet_63 ⟨by omega, by omega⟩ ?_
          refine x_iald (p2 := 65) rfl dX3_fillSet_64 hP.a1 (by omega) (by omega) ?_
          refine x_iast (p2 := 66) rfl dX3_fillSet_65 hP.a0 (by omega) (by omega) ?_
          refine x_goto (t := 102) (by decide) dX3_fillSet_66 ?_
          refine x_iinc (p2 := 105) (L2 := [(0, _), (1, _), (2, _), (3, _), (4, _)]) rfl dX3_fillSet_102 rfl ⟨by omega, by omega⟩ ⟨rfl, Nat.le_of_ble_eq_true rfl⟩ rfl ?_
          refine x_goto (t := 2) (by decide) dX3_fillSet_105 ?_
          refine x_pick (L2 := [(0, _), (1, _), (2, _), (3, _)]) [0, 1, 2, 3] rfl ?_
          first
            | (have hnp : ¬ (l = 0 ∨ (Nat.testBit r l.toNat = true ∧ Nat.testBit m l.toNat = false)) := fun z => by
                 rcases z with z | z
                 · exact hc14 z
                 · exact hb26 ((pl_bit hr1 hm h0 hl8).mpr z)
               refine ih (l + 1) M1 hG hr hr1 hr2 hm hs hI hsr (by omega) (by omega) (fun x a1 a2 a3 => ?_) hq
               rcases Int.lt_or_eq_of_le (show x ≤ l by omega) with z | z
               · exact hJ x a1 z a3
               · subst z; exact absurd a3 hnp)
            | (have hpl : (l = 0 ∨ (Nat.testBit r l.toNat = true ∧ Nat.testBit m l.toNat = false)) := by first | exact Or.inl hc14 | exact Or.inr ((pl_bit hr1 hm h0 hl8).mp hb26)
               have hm0 : m = 0 := by omega
               have hval : xu M1 (P + 1) l (M1 (P + 2) (l * 9 + 8)) (P + 1) ((m : Int) * 8 + l) = opt (shr (M1 (S + 1)) (M1 (S + 2)) (M1 (S + 3))) (els (M1 F 0) m).length l (els (M1 F 0) m) := by
                 subst hm0
                 have e9 : els (M1 F 0) 0 = [] := List.eq_nil_iff_forall_not_mem.mpr (fun x hx => by have := (els_mem.mp hx).2.2; simp at this)
                 rw [e9, show ((0 : Nat) : Int) * 8 + l = l by omega, xu_s]
                 exact (hsr l h0 (by omega)).2
               generalize hM5 : xu M1 (P + 1) _ _ = M5 at hval ⊢
               have hf5 : ∀ c, c ≠ P + 1 → M5 c = M1 c := fun c z1 => by rw [← hM5, xu_c z1]
               have hj5 : ∀ j, j ≠ (m : Int) * 8 + l → M5 (P + 1) j = M1 (P + 1) j := fun j z1 => by
                 rw [← hM5]
                 first
                   | rw [xu_j z1]
                   | (rw [xu_j (by omega)])
               have eF := hf5 F (by omega)
               have e1 := hf5 (S + 1) (by omega)
               have e2 := hf5 (S + 2) (by omega)
               have e3 := hf5 (S + 3) (by omega)
               have e4 := hf5 (P + 2) (by omega)
               have e5 := hf5 P (by omega)
               refine ih (l + 1) M5 (by rw [eF, e1, e2, e3]; exact hG) (by rw [eF]; exact hr) hr1 (by rw [e5]; exact hr2) hm hs (fun q q1 q2 => ?_) (by rw [eF, e1, e2, e3, e4]; exact hsr) (by omega) (by rw [eF]; omega) (fun x a1 a2 a3 => ?_) (fun M2 a1 a2 a3 => ?_)
               · rw [eF, e1, e2, e3]
                 exact dpv_keep (hI q q1 q2) hn8 q1 (fun j hj => hj5 j (by omega))
               · rw [eF, e1, e2, e3]
                 rcases Int.lt_or_eq_of_le (show x ≤ l by omega) with z | z
                 · rw [hj5 _ (by omega)]; exact hJ x a1 z a3
                 · subst z; exact hval
               · rw [eF, e1, e2, e3] at a2
                 exact hq M2 (fun c z => (a1 c z).trans (hf5 c z)) a2 (fun j hj => (a3 j hj).trans (hj5 j (by omega))))
      · skip
        refine x_if_eq (p2 := 32) (t := 36) (by decide) rfl dX3_fillSet_29 (fun _ => ?_) (fun hc => absurd hc (by decide))
        refine x_iconst (p2 := 37) rfl dX3_fillSet_36 ⟨by decide, by decide⟩ ?_
        refine x_istore (p2 := 39) (i := 4) (L2 := [(0, _), (1, _), (2, _), (3, _), (4, _)]) rfl dX3_fillSet_37 ⟨rfl, Nat.le_of_ble_eq_true rfl⟩ rfl ?_
        refine x_iload (p2 := 41) rfl dX3_fillSet_39 rfl ?_
        refine x_if_eq (p2 := 44) (t := 69) (by decide) rfl dX3_fillSet_41 (fun _ => ?_) (fun hc => absurd hc (by decide))
        refine x_iload (p2 := 71) rfl dX3_fillSet_69 rfl ?_
        refine x_if_eq (p2 := 74) (t := 102) (by decide) rfl dX3_fillSet_71 (fun _ => ?_) (fun hc => absurd hc (by decide))
        refine x_iinc (p2 := 105) (L2 := [(0, _), (1, _), (2, _), (3, _), (4, _)]) rfl dX3_fillSet_102 rfl ⟨by omega, by omega⟩ ⟨rfl, Nat.le_of_ble_eq_true rfl⟩ rfl ?_
        refine x_goto (t := 2) (by decide) dX3_fillSet_105 ?_
        refine x_pick (L2 := [(0, _), (1, _), (2, _), (3, _)]) [0, 1, 2, 3] rfl ?_
        first
          | (have hnp : ¬ (l = 0 ∨ (Nat.testBit r l.toNat = true ∧ Nat.testBit m l.toNat = false)) := fun z => by
               rcases z with z | z
               · exact hc14 z
               · exact hb26 ((pl_bit hr1 hm h0 hl8).mpr z)
             refine ih (l + 1) M1 hG hr hr1 hr2 hm hs hI hsr (by omega) (by omega) (fun x a1 a2 a3 => ?_) hq
             rcases Int.lt_or_eq_of_le (show x ≤ l by omega) with z | z
             · exact hJ x a1 z a3
             · subst z; exact absurd a3 hnp)
          | (have hpl : (l = 0 ∨ (Nat.testBit r l.toNat = true ∧ Nat.testBit m l.toNat = false)) := by first | exact Or.inl hc14 | exact Or.inr ((pl_bit hr1 hm h0 hl8).mp hb26)
             have hm0 : m = 0 := by omega
             have hval : xu M1 (P + 1) l (M1 (P + 2) (l * 9 + 8)) (P + 1) ((m : Int) * 8 + l) = opt (shr (M1 (S + 1)) (M1 (S + 2)) (M1 (S + 3))) (els (M1 F 0) m).length l (els (M1 F 0) m) := by
               subst hm0
               have e9 : els (M1 F 0) 0 = [] := List.eq_nil_iff_forall_not_mem.mpr (fun x hx => by have := (els_mem.mp hx).2.2; simp at this)
               rw [e9, show ((0 : Nat) : Int) * 8 + l = l by omega, xu_s]
               exact (hsr l h0 (by omega)).2
             generalize hM5 : xu M1 (P + 1) _ _ = M5 at hval ⊢
             have hf5 : ∀ c, c ≠ P + 1 → M5 c = M1 c := fun c z1 => by rw [← hM5, xu_c z1]
             have hj5 : ∀ j, j ≠ (m : Int) * 8 + l → M5 (P + 1) j = M1 (P + 1) j := fun j z1 => by
               rw [← hM5]
               first
                 | rw [xu_j z1]
                 | (rw [xu_j (by omega)])
             have eF := hf5 F (by omega)
             have e1 := hf5 (S + 1) (by omega)
             have e2 := hf5 (S + 2) (by omega)
             have e3 := hf5 (S + 3) (by omega)
             have e4 := hf5 (P + 2) (by omega)
             have e5 := hf5 P (by omega)
             refine ih (l + 1) M5 (by rw [eF, e1, e2, e3]; exact hG) (by rw [eF]; exact hr) hr1 (by rw [e5]; exact hr2) hm hs (fun q q1 q2 => ?_) (by rw [eF, e1, e2, e3, e4]; exact hsr) (by omega) (by rw [eF]; omega) (fun x a1 a2 a3 => ?_) (fun M2 a1 a2 a3 => ?_)
             · rw [eF, e1, e2, e3]
               exact dpv_keep (hI q q1 q2) hn8 q1 (fun j hj => hj5 j (by omega))
             · rw [eF, e1, e2, e3]
               rcases Int.lt_or_eq_of_le (show x ≤ l by omega) with z | z
               · rw [hj5 _ (by omega)]; exact hJ x a1 z a3
               · subst z; exact hval
             · rw [eF, e1, e2, e3] at a2
               exact hq M2 (fun c z => (a1 c z).trans (hf5 c z)) a2 (fun j hj => (a3 j hj).trans (hj5 j (by omega))))
set_option maxHeartbeats 4000000 in
theorem t_X3_fillSet {P S F : Nat} {m r : Nat} (hP : isOp σ ρ P) (hS : isSt σ ρ S F) (hd : S + 4 < P) (hG : wfG (M F 0) (M (S + 1)) (M (S + 2)) (M (S + 3))) (hr : frOK (M F 0) r) (hr1 : r < 256) (hr2 : M P 2 = (r : Nat)) (hm : m < 256) (hs : sub m r) (hI : ∀ q, q < m → sub q r → dpv (M F 0) r (shr (M (S + 1)) (M (S + 2)) (M (S + 3))) (M (P + 1)) q) (hsr : (∀ x, 0 ≤ x → x < M F 0 → shf2 (M (S + 1)) (M (S + 2)) (M (S + 3)) (M (P + 2)) (M F 0) x)) (hq : ∀ M2, (∀ c, c ≠ P + 1 → M2 c = M c) → dpv (M F 0) r (shr (M (S + 1)) (M (S + 2)) (M (S + 3))) (M2 (P + 1)) m → (∀ j, j < (m : Int) * 8 → M2 (P + 1) j = M (P + 1) j) → Q none (σ, ρ, M2)) : xX G mX3_fillSet 0 0 0 [(0, xP P), (1, xP S), (2, xI (m : Nat))] [] (σ, ρ, M) Q := by
  have hn1 := hG.1
  refine x_iconst (p2 := 1) rfl dX3_fillSet_0 ⟨by decide, by decide⟩ ?_
  refine x_istore_n (p2 := 2) (i := 3) (L2 := [(0, _), (1, _), (2, _), (3, _)]) rfl dX3_fillSet_1 rfl ⟨rfl, Nat.le_of_ble_eq_true rfl⟩ rfl ?_
  refine x_pick (L2 := [(0, _), (1, _), (2, _), (3, _)]) [0, 1, 2, 3] rfl ?_
  exact t_fset_l hP hS hd (M F 0).toNat 0 M hG hr hr1 hr2 hm hs hI hsr (by omega) (by omega) (fun x a b => by omega) hq
theorem frf_bd {od : Int → Int} : ∀ (k : Nat) (i p : Int), 0 ≤ p → p < 256 → (∀ j, i ≤ j → j < i + k → 0 ≤ od j ∧ od j < 8) → 0 ≤ frf od k i p ∧ frf od k i p < 256
  | 0, i, p, h0, h1, _ => ⟨h0, h1⟩
  | k + 1, i, p, h0, h1, h => by
    have hi := h i (by omega) (by omega)
    have ha := adb_bd h0 h1 hi.1 hi.2
    unfold frf
    exact frf_bd k (i + 1) _ ha.1 ha.2 (fun j a b => h j (by omega) (by omega))
theorem frf_bit {od : Int → Int} {c : Int} (c0 : 0 ≤ c) (c8 : c < 8) : ∀ (k : Nat) (i p : Int), 0 ≤ p → p < 256 → (∀ j, i ≤ j → j < i + k → 0 ≤ od j ∧ od j < 8) → (btb (frf od k i p) c = true ↔ (btb p c = true ∨ ∃ j, i ≤ j ∧ j < i + k ∧ od j = c))
  | 0, i, p, h0, h1, _ => by
    unfold frf
    constructor
    · exact Or.inl
    · rintro (h | ⟨j, q1, q2, -⟩)
      · exact h
      · omega
  | k + 1, i, p, h0, h1, h => by
    have hi := h i (by omega) (by omega)
    have ha := adb_bd h0 h1 hi.1 hi.2
    unfold frf
    rw [frf_bit c0 c8 k (i + 1) _ ha.1 ha.2 (fun j a b => h j (by omega) (by omega)), btb_adb h0 h1 hi.1 hi.2 c0 c8]
    simp only [Bool.or_eq_true, decide_eq_true_eq]
    constructor
    · rintro ((z | z) | ⟨j, q1, q2, q3⟩)
      · exact Or.inr ⟨i, by omega, by omega, z.symm⟩
      · exact Or.inl z
      · exact Or.inr ⟨j, by omega, by omega, q3⟩
    · rintro (z | ⟨j, q1, q2, q3⟩)
      · exact Or.inl (Or.inr z)
      · by_cases hj : j = i
        · subst hj; exact Or.inl (Or.inl q3.symm)
        · exact Or.inr ⟨j, by omega, by omega, q3⟩
/-- the hot blocks but block 0, as a set -/
def frs (od : Int → Int) (hot : Int) : Nat := (frf od (hot - 1).toNat 1 0).toNat
theorem frs_ok {n hot : Int} {od : Int → Int} (hn : n ≤ 8) (hO : wfO n od hot) : frs od hot < 256 ∧ ((frs od hot : Nat) : Int) = frf od (hot - 1).toNat 1 0 ∧ (∀ c : Int, 0 ≤ c → c < 8 → (Nat.testBit (frs od hot) c.toNat = true ↔ ∃ j, 1 ≤ j ∧ j < hot ∧ od j = c)) ∧ frOK n (frs od hot) := by
  have h1 := hO.2.2.2.1
  have h2 := hO.2.2.2.2
  have hb : ∀ j, 1 ≤ j → j < 1 + ((hot - 1).toNat : Int) → 0 ≤ od j ∧ od j < 8 := fun j a b => by
    have := hO.1 j (by omega) (by omega)
    omega
  have hbd := frf_bd (od := od) (hot - 1).toNat 1 0 (by omega) (by omega) hb
  have hlt : frs od hot < 256 := by unfold frs; omega
  have heq : ((frs od hot : Nat) : Int) = frf od (hot - 1).toNat 1 0 := by unfold frs; omega
  have hbit : ∀ c : Int, 0 ≤ c → c < 8 → (Nat.testBit (frs od hot) c.toNat = true ↔ ∃ j, 1 ≤ j ∧ j < hot ∧ od j = c) := by
    intro c c0 c8
    rw [← bt_i hlt c0 c8, heq, frf_bit c0 c8 _ _ _ (by omega) (by omega) hb]
    have hz : btb 0 c = false := by
      have := btb_0 c.toNat (by omega)
      rw [Int.toNat_of_nonneg c0] at this
      exact this
    rw [hz]
    constructor
    · rintro (z | ⟨j, q1, q2, q3⟩)
      · cases z
      · exact ⟨j, q1, by omega, q3⟩
    · rintro ⟨j, q1, q2, q3⟩
      exact Or.inr ⟨j, q1, by omega, q3⟩
  refine ⟨hlt, heq, hbit, fun c hc hz => ?_⟩
  obtain ⟨j, q1, q2, q3⟩ := (hbit c (by omega) (by omega)).mp (by simpa using hz)
  have hj := hO.1 j (by omega) (by omega)
  refine ⟨?_, by omega⟩
  have : od j ≠ od 0 := fun z => by
    have := hO.2.1 j 0 (by omega) (by omega) (by omega) (by omega) z
    omega
  rw [hO.2.2.1] at this
  omega
theorem frs_len {n hot : Int} {od : Int → Int} (hn : n ≤ 8) (hO : wfO n od hot) : (els n (frs od hot)).length = (hot - 1).toNat := by
  have h1 := hO.2.2.2.1
  have h2 := hO.2.2.2.2
  have hf := frs_ok hn hO
  have nd : ((List.range (hot - 1).toNat).map (fun i : Nat => od (i + 1))).Nodup := by
    refine List.pairwise_map.mpr ?_
    refine List.Pairwise.imp_of_mem ?_ (List.nodup_range (n := (hot - 1).toNat))
    intro x y hx hy hxy hz
    have hx := List.mem_range.mp hx
    have hy := List.mem_range.mp hy
    have := hO.2.1 (x + 1) (y + 1) (by omega) (by omega) (by omega) (by omega) hz
    omega
  have s1 : (List.range (hot - 1).toNat).map (fun i : Nat => od (i + 1)) ⊆ els n (frs od hot) := by
    intro x hx
    obtain ⟨i, hi, rfl⟩ := List.mem_map.mp hx
    have hi := List.mem_range.mp hi
    have ho := hO.1 (i + 1) (by omega) (by omega)
    have hb := (hf.2.2.1 (od (i + 1)) ho.1 (by omega)).mpr ⟨i + 1, by omega, by omega, rfl⟩
    have h0 := hf.2.2.2 _ (by omega) hb
    exact els_mem.mpr ⟨by omega, by omega, hb⟩
  have s2 : els n (frs od hot) ⊆ (List.range (hot - 1).toNat).map (fun i : Nat => od (i + 1)) := by
    intro x hx
    obtain ⟨a1, a2, a3⟩ := els_mem.mp hx
    obtain ⟨j, q1, q2, q3⟩ := (hf.2.2.1 x (by omega) (by omega)).mp a3
    exact List.mem_map.mpr ⟨(j - 1).toNat, List.mem_range.mpr (by omega), by rw [← q3]; congr 1; omega⟩
  have l1 := List.Nodup.length_le_of_subset nd s1
  have l2 := List.Nodup.length_le_of_subset (show (els n (frs od hot)).Nodup from elf_nodup _ _) s2
  rw [List.length_map, List.length_range] at l1 l2
  omega
def lcs (n : Int) (ex tg ct od : Int → Int) (hot : Int) : Int := opt (shr ex tg ct) (hot - 1).toNat 0 (els n (frs od hot)) + cld n ex tg ct od hot
set_option maxHeartbeats 4000000 in
theorem t_lc_l {P S F : Nat} {r : Nat} (hP : isOp σ ρ P) (hS : isSt σ ρ S F) (hd : S + 4 < P) : ∀ (n : Nat) (m : Nat) (M1 : Nat → Int → Int), wfG (M1 F 0) (M1 (S + 1)) (M1 (S + 2)) (M1 (S + 3)) → frOK (M1 F 0) r → r < 256 → M1 P 2 = (r : Nat) → m + n = r + 1 → (∀ q, q < m → sub q r → dpv (M1 F 0) r (shr (M1 (S + 1)) (M1 (S + 2)) (M1 (S + 3))) (M1 (P + 1)) q) → (∀ x, 0 ≤ x → x < M1 F 0 → shf2 (M1 (S + 1)) (M1 (S + 2)) (M1 (S + 3)) (M1 (P + 2)) (M1 F 0) x) → (∀ M2, (∀ c, c ≠ P + 1 → M2 c = M1 c) → (∀ q, q ≤ r → sub q r → dpv (M1 F 0) r (shr (M1 (S + 1)) (M1 (S + 2)) (M1 (S + 3))) (M2 (P + 1)) q) → xX G mX3_leastCost 0 0 43 [(0, xP P), (1, xP S)] [] (σ, ρ, M2) Q) → xX G mX3_leastCost 0 0 12 [(0, xP P), (1, xP S), (2, xI (m : Nat))] [] (σ, ρ, M1) Q := by
  have hlt := hS.lt
  intro n
  induction n with
  | zero =>
    intro m M1 hG hr hr1 hr2 hk hI hsr hq
    refine x_iload_n (p2 := 13) rfl dX3_leastCost_12 rfl ?_
    refine x_aload_n (p2 := 14) rfl dX3_leastCost_13 rfl ?_
    refine x_geti (p2 := 17) (kz := 2) rfl dX3_leastCost_14 f_3_18 rfl rfl hP.sh ?_
    refine x_ic_gt (p2 := 20) (t := 43) (by decide) rfl dX3_leastCost_17 (fun hc17 => ?_) (fun hc17 => absurd hc17 (by omega))
    refine x_pick (L2 := [(0, _), (1, _)]) [0, 1] rfl ?_
    exact hq M1 (fun _ _ => rfl) (fun q a b => hI q (by omega) b)
  | succ n ih =>
    intro m M1 hG hr hr1 hr2 hk hI hsr hq
    have hn8 := hG.2.1
    refine x_iload_n (p2 := 13) rfl dX3_leastCost_12 rfl ?_
    refine x_aload_n (p2 := 14) rfl dX3_leastCost_13 rfl ?_
    refine x_geti (p2 := 17) (kz := 2) rfl dX3_leastCost_14 f_3_18 rfl rfl hP.sh ?_
    refine x_ic_gt (p2 := 20) (t := 43) (by decide) rfl dX3_leastCost_17 (fun hc17 => ?_) (fun hc17 => ?_)
    · exact absurd hc17 (by omega)
    refine x_iload_n (p2 := 21) rfl dX3_leastCost_20 rfl ?_
    refine x_aload_n (p2 := 22) rfl dX3_leastCost_21 rfl ?_
    refine x_geti (p2 := 25) (kz := 2) rfl dX3_leastCost_22 f_3_18 rfl rfl hP.sh ?_
    refine x_iconst (p2 := 26) rfl dX3_leastCost_25 ⟨by decide, by decide⟩ ?_
    refine x_ixor (p2 := 27) rfl dX3_leastCost_26 ?_
    refine x_iand (p2 := 28) rfl dX3_leastCost_27 ?_
    rw [hr2, an_tab m (by omega) r hr1]
    refine x_if_ne (p2 := 31) (t := 37) (by decide) rfl dX3_leastCost_28 (fun hc28 => ?_) (fun hc28 => ?_)
    · skip
      refine x_iinc (p2 := 40) (L2 := [(0, _), (1, _), (2, _)]) rfl dX3_leastCost_37 rfl ⟨by omega, by omega⟩ ⟨rfl, Nat.le_of_ble_eq_true rfl⟩ rfl ?_
      refine x_goto (t := 12) (by decide) dX3_leastCost_40 ?_
      refine x_pick (L2 := [(0, _), (1, _), (2, _)]) [0, 1, 2] rfl ?_
      rw [show ((m : Nat) : Int) + 1 = ((m + 1 : Nat) : Int) by omega]
      first
        | (have hns : ¬ sub m r := fun z => hc28 (by rw [(sub_iff (by omega) hr1).mpr z]; rfl)
           exact ih (m + 1) M1 hG hr hr1 hr2 (by omega) (fun q a b => by
             rcases Nat.lt_or_eq_of_le (show q ≤ m by omega) with z | z
             · exact hI q z b
             · subst z; exact absurd b hns) hsr hq)
        | (have eF := hf9 F (by omega)
           have e1 := hf9 (S + 1) (by omega)
           have e2 := hf9 (S + 2) (by omega)
           have e3 := hf9 (S + 3) (by omega)
           have e4 := hf9 (P + 2) (by omega)
           have e5 := hf9 P (by omega)
           refine ih (m + 1) M9 (by rw [eF, e1, e2, e3]; exact hG) (by rw [eF]; exact hr) hr1 (by rw [e5]; exact hr2) (by omega) (fun q a b => ?_) (by rw [eF, e1, e2, e3, e4]; exact hsr) (fun M2 a1 a2 => ?_)
           · rw [eF, e1, e2, e3]
             rcases Nat.lt_or_eq_of_le (show q ≤ m by omega) with z | z
             · exact dpv_keep (hI q z b) hn8 z (fun j hj => hj9 j hj)
             · subst z; exact hv9
           · rw [eF, e1, e2, e3] at a2
             exact hq M2 (fun c z => (a1 c z).trans (hf9 c z)) a2)
    · skip
      have hsb : sub m r := (sub_iff (by omega) hr1).mp (by omega)
      refine x_aload_n (p2 := 32) rfl dX3_leastCost_31 rfl ?_
      refine x_aload_n (p2 := 33) rfl dX3_leastCost_32 rfl ?_
      refine x_iload_n (p2 := 34) rfl dX3_leastCost_33 rfl ?_
      refine x_v2 (p2 := 37) rfl dX3_leastCost_34 l_3_29 ok_X3_fillSet rfl hP.sh rfl ?_
      refine t_X3_fillSet hP hS hd hG hr hr1 hr2 (by omega) hsb hI hsr (fun M9 hf9 hv9 hj9 => ?_)
      refine x_iinc (p2 := 40) (L2 := [(0, _), (1, _), (2, _)]) rfl dX3_leastCost_37 rfl ⟨by omega, by omega⟩ ⟨rfl, Nat.le_of_ble_eq_true rfl⟩ rfl ?_
      refine x_goto (t := 12) (by decide) dX3_leastCost_40 ?_
      refine x_pick (L2 := [(0, _), (1, _), (2, _)]) [0, 1, 2] rfl ?_
      rw [show ((m : Nat) : Int) + 1 = ((m + 1 : Nat) : Int) by omega]
      first
        | (have hns : ¬ sub m r := fun z => hc28 (by rw [(sub_iff (by omega) hr1).mpr z]; rfl)
           exact ih (m + 1) M1 hG hr hr1 hr2 (by omega) (fun q a b => by
             rcases Nat.lt_or_eq_of_le (show q ≤ m by omega) with z | z
             · exact hI q z b
             · subst z; exact absurd b hns) hsr hq)
        | (have eF := hf9 F (by omega)
           have e1 := hf9 (S + 1) (by omega)
           have e2 := hf9 (S + 2) (by omega)
           have e3 := hf9 (S + 3) (by omega)
           have e4 := hf9 (P + 2) (by omega)
           have e5 := hf9 P (by omega)
           refine ih (m + 1) M9 (by rw [eF, e1, e2, e3]; exact hG) (by rw [eF]; exact hr) hr1 (by rw [e5]; exact hr2) (by omega) (fun q a b => ?_) (by rw [eF, e1, e2, e3, e4]; exact hsr) (fun M2 a1 a2 => ?_)
           · rw [eF, e1, e2, e3]
             rcases Nat.lt_or_eq_of_le (show q ≤ m by omega) with z | z
             · exact dpv_keep (hI q z b) hn8 z (fun j hj => hj9 j hj)
             · subst z; exact hv9
           · rw [eF, e1, e2, e3] at a2
             exact hq M2 (fun c z => (a1 c z).trans (hf9 c z)) a2)
set_option maxHeartbeats 4000000 in
theorem t_X3_leastCost {P S F : Nat} (hP : isOp σ ρ P) (hS : isSt σ ρ S F) (hd : S + 4 < P) (hG : wfG (M F 0) (M (S + 1)) (M (S + 2)) (M (S + 3))) (hO : wfO (M F 0) (M (S + 4)) (M S 5)) (hq : ∀ M2, (∀ c, c < P ∨ P + 2 < c → M2 c = M c) → M2 P 2 = (((frs (M (S + 4)) (M S 5)) : Nat) : Int) → (∀ q, q ≤ (frs (M (S + 4)) (M S 5)) → sub q (frs (M (S + 4)) (M S 5)) → dpv (M F 0) (frs (M (S + 4)) (M S 5)) (shr (M (S + 1)) (M (S + 2)) (M (S + 3))) (M2 (P + 1)) q) → (∀ x, 0 ≤ x → x < M F 0 → shf2 (M (S + 1)) (M (S + 2)) (M (S + 3)) (M2 (P + 2)) (M F 0) x) → Q (some (xI (lcs (M F 0) (M (S + 1)) (M (S + 2)) (M (S + 3)) (M (S + 4)) (M S 5)))) (σ, ρ, M2)) : xX G mX3_leastCost 0 0 0 [(0, xP P), (1, xP S)] [] (σ, ρ, M) Q := by
  have hlt := hS.lt
  have hn1 := hG.1
  have hn8 := hG.2.1
  have ho1 := hO.2.2.2.1
  have ho2 := hO.2.2.2.2
  have hfr := frs_ok hn8 hO
  have hln := frs_len hn8 hO
  refine x_aload_n (p2 := 1) rfl dX3_leastCost_0 rfl ?_
  refine x_aload_n (p2 := 2) rfl dX3_leastCost_1 rfl ?_
  refine x_v1 (p2 := 5) rfl dX3_leastCost_2 l_3_22 ok_X3_fillShares rfl hP.sh rfl ?_
  refine t_X3_fillShares hP hS hd hG (fun M2 hf2 hs2 => ?_)
  have eF := hf2 F (by omega)
  have eS := hf2 S (by omega)
  have e1 := hf2 (S + 1) (by omega)
  have e2 := hf2 (S + 2) (by omega)
  have e3 := hf2 (S + 3) (by omega)
  have e4 := hf2 (S + 4) (by omega)
  refine x_aload_n (p2 := 6) rfl dX3_leastCost_5 rfl ?_
  refine x_aload_n (p2 := 7) rfl dX3_leastCost_6 rfl ?_
  refine x_v1 (p2 := 10) rfl dX3_leastCost_7 l_3_26 ok_X3_collectFreeBlocks rfl hP.sh rfl ?_
  refine t_X3_collectFreeBlocks hP hS hd (by rw [eS]; exact ho1) (by rw [eS]; omega) (by rw [eS, e4]; exact fun i a b => ⟨(hO.1 i a (by omega)).1, by have := (hO.1 i a (by omega)).2; omega⟩) (fun M3 hf3 hp3 hq3 hr3 => ?_)
  refine x_iconst (p2 := 11) rfl dX3_leastCost_10 ⟨by decide, by decide⟩ ?_
  refine x_istore_n (p2 := 12) (i := 2) (L2 := [(0, _), (1, _), (2, _)]) rfl dX3_leastCost_11 rfl ⟨rfl, Nat.le_of_ble_eq_true rfl⟩ rfl ?_
  refine x_pick (L2 := [(0, _), (1, _), (2, _)]) [0, 1, 2] rfl ?_
  rw [e4, eS, ← hfr.2.1] at hp3
  have eF3 := (hf3 F (by omega)).trans eF
  have e13 := (hf3 (S + 1) (by omega)).trans e1
  have e23 := (hf3 (S + 2) (by omega)).trans e2
  have e33 := (hf3 (S + 3) (by omega)).trans e3
  have e43 := (hf3 (S + 4) (by omega)).trans e4
  have eS3 := (hf3 S (by omega)).trans eS
  have eP3 := hf3 (P + 2) (by omega)
  refine t_lc_l (r := (frs (M (S + 4)) (M S 5))) hP hS hd ((frs (M (S + 4)) (M S 5)) + 1) 0 M3 (by rw [eF3, e13, e23, e33]; exact hG) (by rw [eF3]; exact hfr.2.2.2) hfr.1 hp3 (by omega) (fun q a b => by omega) (by rw [eF3, e13, e23, e33, eP3]; exact hs2) (fun M6 hf6 hv6 => ?_)
  have eF6 := (hf6 F (by omega)).trans eF3
  have e16 := (hf6 (S + 1) (by omega)).trans e13
  have e26 := (hf6 (S + 2) (by omega)).trans e23
  have e36 := (hf6 (S + 3) (by omega)).trans e33
  have e46 := (hf6 (S + 4) (by omega)).trans e43
  have eS6 := (hf6 S (by omega)).trans eS3
  have eP6 := (hf6 (P + 2) (by omega)).trans eP3
  have ePf : M6 P 2 = (((frs (M (S + 4)) (M S 5)) : Nat) : Int) := by rw [hf6 P (by omega)]; exact hp3
  rw [eF3, e13, e23, e33] at hv6
  have hlv := hv6 (frs (M (S + 4)) (M S 5)) (Nat.le_refl _) (fun c _ h => h) 0 (by omega) (by omega) (Or.inl rfl)
  rw [hln, Int.add_zero] at hlv
  have hbd := opt_bd (shr_n hG) ⟨by omega, by omega⟩ (M S 5 - 1).toNat 0 (els (M F 0) (frs (M (S + 4)) (M S 5))) (by omega) hln (by omega) (by omega) (fun x hx => by
    have := els_mem.mp hx
    exact ⟨by omega, by omega⟩)
  have hcb := sg_bd (f := fun i => shr (M (S + 1)) (M (S + 2)) (M (S + 3)) (M (S + 4) i) (fa (M F 0) (M (S + 4)) (M S 5) i)) (c := 594) (M F 0 - M S 5).toNat (M S 5) (fun j a b => by
    have hj := hO.1 j (by omega) (by omega)
    exact shr_bd (hG.2.2 _ hj.1 hj.2))
  have hfl := hfr.1
  refine x_aload_n (p2 := 44) rfl dX3_leastCost_43 rfl ?_
  refine x_getr (p2 := 47) (kz := 0) rfl dX3_leastCost_44 f_3_11 rfl rfl hP.sh hP.r0 ?_
  refine x_aload_n (p2 := 48) rfl dX3_leastCost_47 rfl ?_
  refine x_geti (p2 := 51) (kz := 2) rfl dX3_leastCost_48 f_3_18 rfl rfl hP.sh ?_
  rw [ePf]
  refine x_bipush (p2 := 53) rfl dX3_leastCost_51 ⟨by decide, ⟨by decide, by decide⟩⟩ ?_
  refine x_imul (p2 := 54) rfl dX3_leastCost_53 ⟨by omega, by omega⟩ ?_
  refine x_iald (p2 := 55) rfl dX3_leastCost_54 hP.a0 (by omega) (by omega) ?_
  rw [hlv]
  refine x_aload_n (p2 := 56) rfl dX3_leastCost_55 rfl ?_
  refine x_s1 (p2 := 59) rfl dX3_leastCost_56 l_3_33 ok_X3_coldCost rfl rfl ?_
  refine t_X3_coldCost hS (by rw [eF6, e16, e26, e36]; exact hG) (by rw [eF6, e46, eS6]; exact hO) ?_
  rw [eF6, e16, e26, e36, e46, eS6]
  refine x_iadd (p2 := 60) rfl dX3_leastCost_59 (by unfold cld; exact ⟨by omega, by omega⟩) ?_
  refine x_iret dX3_leastCost_60 rfl ?_
  exact hq M6 (fun c hc => by rw [hf6 c (by omega), hf3 c (by omega), hf2 c (by omega)]) ePf hv6 (by rw [eP6]; exact hs2)
def plf : List Int → Int → (Int → Int) → Int → Int
  | [], _, od => od
  | b :: t, i, od => plf t (i + 1) (upf od i b)
set_option maxHeartbeats 4000000 in
theorem t_oa_l {P S F : Nat} {r : Nat} (hP : isOp σ ρ P) (hS : isSt σ ρ S F) (hd : S + 4 < P) : ∀ (n : Nat) (m : Nat) (l i : Int) (M1 : Nat → Int → Int), wfG (M1 F 0) (M1 (S + 1)) (M1 (S + 2)) (M1 (S + 3)) → frOK (M1 F 0) r → r < 256 → m ≤ r → sub m r → (∀ q, q ≤ r → sub q r → dpv (M1 F 0) r (shr (M1 (S + 1)) (M1 (S + 2)) (M1 (S + 3))) (M1 (P + 1)) q) → (∀ x, 0 ≤ x → x < M1 F 0 → shf2 (M1 (S + 1)) (M1 (S + 2)) (M1 (S + 3)) (M1 (P + 2)) (M1 F 0) x) → 0 ≤ l → l < M1 F 0 → 1 ≤ i → (els (M1 F 0) m).length = n → i + n = M1 S 5 → M1 S 5 ≤ 8 → (∀ M2, (∀ c, c ≠ S + 4 → M2 c = M1 c) → M2 (S + 4) = plf (gpl (shr (M1 (S + 1)) (M1 (S + 2)) (M1 (S + 3))) n l (els (M1 F 0) m)) i (M1 (S + 4)) → Q none (σ, ρ, M2)) → xX G mX3_arrange 0 0 16 [(0, xP P), (1, xP S), (2, xI (m : Nat)), (3, xI l), (4, xI i)] [] (σ, ρ, M1) Q := by
  have hlt := hS.lt
  intro n
  induction n with
  | zero =>
    intro m l i M1 hG hr hr1 hmr hs hV hsr hl1 hl2 hi hln hk h8 hq
    refine x_iload (p2 := 18) rfl dX3_arrange_16 rfl ?_
    refine x_aload_n (p2 := 19) rfl dX3_arrange_18 rfl ?_
    refine x_geti (p2 := 22) (kz := 5) rfl dX3_arrange_19 f_3_37 rfl rfl hS.sh ?_
    refine x_ic_ge (p2 := 25) (t := 61) (by decide) rfl dX3_arrange_22 (fun hc22 => ?_) (fun hc22 => absurd hc22 (by omega))
    refine x_vret dX3_arrange_61 rfl ?_
    exact hq M1 (fun _ _ => rfl) rfl
  | succ n ih =>
    intro m l i M1 hG hr hr1 hmr hs hV hsr hl1 hl2 hi hln hk h8 hq
    have hn8 := hG.2.1
    have hn1 := hG.1
    have hne : m ≠ 0 := fun z => by
      have e9 : els (M1 F 0) 0 = [] := List.eq_nil_iff_forall_not_mem.mpr (fun x hx => by have := (els_mem.mp hx).2.2; simp at this)
      rw [z, e9] at hln
      simp at hln
    have hpk := dp_pick hG hr (show m < 256 by omega) hs (fun q a b => hV q (by omega) b) hsr hl1 hl2 hne
    rw [hln, show n + 1 - 1 = n by omega] at hpk
    have hpe := els_mem.mp hpk.2.1
    unfold gpl at hq
    refine x_iload (p2 := 18) rfl dX3_arrange_16 rfl ?_
    refine x_aload_n (p2 := 19) rfl dX3_arrange_18 rfl ?_
    refine x_geti (p2 := 22) (kz := 5) rfl dX3_arrange_19 f_3_37 rfl rfl hS.sh ?_
    refine x_ic_ge (p2 := 25) (t := 61) (by decide) rfl dX3_arrange_22 (fun hc22 => ?_) (fun hc22 => ?_)
    · exact absurd hc22 (by omega)
    refine x_aload_n (p2 := 26) rfl dX3_arrange_25 rfl ?_
    refine x_aload_n (p2 := 27) rfl dX3_arrange_26 rfl ?_
    refine x_iload_n (p2 := 28) rfl dX3_arrange_27 rfl ?_
    refine x_iload_n (p2 := 29) rfl dX3_arrange_28 rfl ?_
    refine x_v3 (p2 := 32) rfl dX3_arrange_29 l_3_65 ok_X3_cheapestNext rfl hP.sh rfl ?_
    refine t_X3_cheapestNext hP hS hn8 (by omega) (by omega) (fun b q1 q2 q3 => (dp_step hG hr (by omega) hs (fun q a b => hV q (by omega) b) hsr hl1 hl2 b q1 q2 q3).2) hn1 ?_
    rw [hpk.1]
    refine x_istore (p2 := 34) (i := 5) (L2 := [(0, _), (1, _), (2, _), (3, _), (4, _), (5, _)]) rfl dX3_arrange_32 ⟨rfl, Nat.le_of_ble_eq_true rfl⟩ rfl ?_
    refine x_aload_n (p2 := 35) rfl dX3_arrange_34 rfl ?_
    refine x_getr (p2 := 38) (kz := 4) rfl dX3_arrange_35 f_3_51 rfl rfl hS.sh hS.r4 ?_
    refine x_iload (p2 := 40) rfl dX3_arrange_38 rfl ?_
    refine x_iload (p2 := 42) rfl dX3_arrange_40 rfl ?_
    refine x_iast (p2 := 43) rfl dX3_arrange_42 hS.a4 (by omega) (by omega) ?_
    refine x_iload_n (p2 := 44) rfl dX3_arrange_43 rfl ?_
    refine x_iconst (p2 := 45) rfl dX3_arrange_44 ⟨by decide, by decide⟩ ?_
    refine x_iload (p2 := 47) rfl dX3_arrange_45 rfl ?_
    refine x_ishl (p2 := 48) rfl dX3_arrange_47 ?_
    refine x_iconst (p2 := 49) rfl dX3_arrange_48 ⟨by decide, by decide⟩ ?_
    refine x_ixor (p2 := 50) rfl dX3_arrange_49 ?_
    refine x_iand (p2 := 51) rfl dX3_arrange_50 ?_
    rw [rem_i (by omega) (by omega) (by omega)]
    refine x_istore_n (p2 := 52) (i := 2) (L2 := [(0, _), (1, _), (2, _), (3, _), (4, _), (5, _)]) rfl dX3_arrange_51 rfl ⟨rfl, Nat.le_of_ble_eq_true rfl⟩ rfl ?_
    refine x_iload (p2 := 54) rfl dX3_arrange_52 rfl ?_
    refine x_istore_n (p2 := 55) (i := 3) (L2 := [(0, _), (1, _), (2, _), (3, _), (4, _), (5, _)]) rfl dX3_arrange_54 rfl ⟨rfl, Nat.le_of_ble_eq_true rfl⟩ rfl ?_
    refine x_iinc (p2 := 58) (L2 := [(0, _), (1, _), (2, _), (3, _), (4, _), (5, _)]) rfl dX3_arrange_55 rfl ⟨by omega, by omega⟩ ⟨rfl, Nat.le_of_ble_eq_true rfl⟩ rfl ?_
    refine x_goto (t := 16) (by decide) dX3_arrange_58 ?_
    refine x_pick (L2 := [(0, _), (1, _), (2, _), (3, _), (4, _)]) [0, 1, 2, 3, 4] rfl ?_
    generalize hb : pck (shr (M1 (S + 1)) (M1 (S + 2)) (M1 (S + 3))) n l (els (M1 F 0) m) = b at hq hpk hpe ⊢
    generalize hM5 : xu M1 (S + 4) i b = M5
    have hf5 : ∀ c, c ≠ S + 4 → M5 c = M1 c := fun c z1 => by rw [← hM5, xu_c z1]
    have eF := hf5 F (by omega)
    have eS := hf5 S (by omega)
    have e1 := hf5 (S + 1) (by omega)
    have e2 := hf5 (S + 2) (by omega)
    have e3 := hf5 (S + 3) (by omega)
    have e4 := hf5 (P + 1) (by omega)
    have e5 := hf5 (P + 2) (by omega)
    have hlt9 := lt_tab m (by omega) b.toNat (by omega) hpe.2.2
    have ee : els (M1 F 0) (rem m b.toNat) = (els (M1 F 0) m).erase b := by
      rw [els_erase hn8 (by omega) (by omega), Int.toNat_of_nonneg (by omega)]
    refine ih (rem m b.toNat) b (i + 1) M5 (by rw [eF, e1, e2, e3]; exact hG) (by rw [eF]; exact hr) hr1 (by unfold rem; omega) (sub_rem (by omega) (by omega) hs) (by rw [eF, e1, e2, e3, e4]; exact hV) (by rw [eF, e1, e2, e3, e5]; exact hsr) (by omega) (by rw [eF]; omega) (by omega) (by rw [eF, ee, List.length_erase_of_mem hpk.2.1]; omega) (by rw [eS]; omega) (by rw [eS]; exact h8) (fun M2 a1 a2 => ?_)
    rw [eF, e1, e2, e3, ee, ← hM5, xu_eq, xw_s] at a2
    exact hq M2 (fun c z => (a1 c z).trans (hf5 c z)) a2
set_option maxHeartbeats 4000000 in
theorem t_X3_arrange {P S F : Nat} (hP : isOp σ ρ P) (hS : isSt σ ρ S F) (hd : S + 4 < P) (hG : wfG (M F 0) (M (S + 1)) (M (S + 2)) (M (S + 3))) (hO : wfO (M F 0) (M (S + 4)) (M S 5)) (hq : ∀ M2, (∀ c, c ≠ S + 4 → (c < P ∨ P + 2 < c) → M2 c = M c) → M2 (S + 4) = plf (gpl (shr (M (S + 1)) (M (S + 2)) (M (S + 3))) (M S 5 - 1).toNat 0 (els (M F 0) (frs (M (S + 4)) (M S 5)))) 1 (M (S + 4)) → Q none (σ, ρ, M2)) : xX G mX3_arrange 0 0 0 [(0, xP P), (1, xP S)] [] (σ, ρ, M) Q := by
  have hlt := hS.lt
  have hn1 := hG.1
  have hn8 := hG.2.1
  have ho1 := hO.2.2.2.1
  have ho2 := hO.2.2.2.2
  have hfr := frs_ok hn8 hO
  have hln := frs_len hn8 hO
  refine x_aload_n (p2 := 1) rfl dX3_arrange_0 rfl ?_
  refine x_aload_n (p2 := 2) rfl dX3_arrange_1 rfl ?_
  refine x_v1 (p2 := 5) rfl dX3_arrange_2 l_3_62 ok_X3_leastCost rfl hP.sh rfl ?_
  refine t_X3_leastCost hP hS hd hG hO (fun M2 hf2 hr2 hv2 hs2 => ?_)
  refine x_pop (p2 := 6) rfl dX3_arrange_5 rfl ?_
  refine x_aload_n (p2 := 7) rfl dX3_arrange_6 rfl ?_
  refine x_geti (p2 := 10) (kz := 2) rfl dX3_arrange_7 f_3_18 rfl rfl hP.sh ?_
  rw [hr2]
  refine x_istore_n (p2 := 11) (i := 2) (L2 := [(0, _), (1, _), (2, _)]) rfl dX3_arrange_10 rfl ⟨rfl, Nat.le_of_ble_eq_true rfl⟩ rfl ?_
  refine x_iconst (p2 := 12) rfl dX3_arrange_11 ⟨by decide, by decide⟩ ?_
  refine x_istore_n (p2 := 13) (i := 3) (L2 := [(0, _), (1, _), (2, _), (3, _)]) rfl dX3_arrange_12 rfl ⟨rfl, Nat.le_of_ble_eq_true rfl⟩ rfl ?_
  refine x_iconst (p2 := 14) rfl dX3_arrange_13 ⟨by decide, by decide⟩ ?_
  refine x_istore (p2 := 16) (i := 4) (L2 := [(0, _), (1, _), (2, _), (3, _), (4, _)]) rfl dX3_arrange_14 ⟨rfl, Nat.le_of_ble_eq_true rfl⟩ rfl ?_
  refine x_pick (L2 := [(0, _), (1, _), (2, _), (3, _), (4, _)]) [0, 1, 2, 3, 4] rfl ?_
  have eF := hf2 F (by omega)
  have eS := hf2 S (by omega)
  have e1 := hf2 (S + 1) (by omega)
  have e2 := hf2 (S + 2) (by omega)
  have e3 := hf2 (S + 3) (by omega)
  have e4 := hf2 (S + 4) (by omega)
  refine t_oa_l (r := (frs (M (S + 4)) (M S 5))) hP hS hd (M S 5 - 1).toNat (frs (M (S + 4)) (M S 5)) 0 1 M2 (by rw [eF, e1, e2, e3]; exact hG) (by rw [eF]; exact hfr.2.2.2) hfr.1 (Nat.le_refl _) (fun c _ h => h) (by rw [eF, e1, e2, e3]; exact hv2) (by rw [eF, e1, e2, e3]; exact hs2) (by omega) (by rw [eF]; omega) (by omega) (by rw [eF]; exact hln) (by rw [eS]; omega) (by rw [eS]; omega) (fun M5 a1 a2 => ?_)
  rw [eF, e1, e2, e3, e4] at a2
  exact hq M5 (fun c z1 z2 => (a1 c z1).trans (hf2 c z2)) a2
end XOO
