section XNW
variable {G : xG} {y : xM} {bc bs pc p2 : Nat} {L : List (Nat × xV)} {S : List xV} {σ : List (Nat × Nat)} {ρ : Nat → Int → Option Nat} {M : Nat → Int → Int} {Q : Option xV → xH → Prop}
/-- nothing lies beyond what was made -/
def frh (σ : List (Nat × Nat)) (ρ : Nat → Int → Option Nat) (M : Nat → Int → Int) : Prop := ∀ c, σ.length ≤ c → (∀ j, M c j = 0) ∧ ∀ j, ρ c j = none
theorem frh.ap {x : Nat × Nat} (h : frh σ ρ M) : frh (σ ++ [x]) ρ M := fun c hc => h c (by rw [List.length_append] at hc; omega)
theorem frh.u {r : Nat} {k v : Int} (h : frh σ ρ M) (hr : r < σ.length) : frh σ ρ (xu M r k v) := fun c hc => ⟨fun j => by rw [xu_c (by omega)]; exact (h c hc).1 j, (h c hc).2⟩
theorem frh.r {r : Nat} {k : Int} {v : Option Nat} (h : frh σ ρ M) (hr : r < σ.length) : frh σ (xur ρ r k v) M := fun c hc => ⟨(h c hc).1, fun j => by rw [← xur_ne (show c ≠ r by omega)]; exact (h c hc).2 j⟩
def isO (σ : List (Nat × Nat)) (r ci : Nat) : Prop := σ[r]? = some (ci, xN ci)
def isA (σ : List (Nat × Nat)) (r k n : Nat) : Prop := σ[r]? = some (k, n)
theorem get_lt {r : Nat} {x : Nat × Nat} (h : σ[r]? = some x) : r < σ.length := by
  rcases Nat.lt_or_ge r σ.length with e | e
  · exact e
  · rw [List.getElem?_eq_none e] at h; cases h
theorem isO.sh {r ci : Nat} (h : isO σ r ci) : σ[r]? = some (ci, xN ci) := h
theorem isO.ap {r ci : Nat} {x : Nat × Nat} (h : isO σ r ci) : isO (σ ++ [x]) r ci := by
  unfold isO; rw [List.getElem?_append_left (get_lt h)]; exact h
theorem isA.ap {r k n : Nat} {x : Nat × Nat} (h : isA σ r k n) : isA (σ ++ [x]) r k n := by
  unfold isA; rw [List.getElem?_append_left (get_lt h)]; exact h
theorem isO.nw {r ci : Nat} (h : σ.length = r) : isO (σ ++ [(ci, xN ci)]) r ci := by
  unfold isO; rw [List.getElem?_append_right (by omega), h, Nat.sub_self]; rfl
theorem isA.nw {r k n : Nat} (h : σ.length = r) : isA (σ ++ [(k, n)]) r k n := by
  unfold isA; rw [List.getElem?_append_right (by omega), h, Nat.sub_self]; rfl
theorem len_ap {N : Nat} {x : Nat × Nat} (h : σ.length = N) : (σ ++ [x]).length = N + 1 := by rw [List.length_append, h]; rfl
theorem x_newA {i ci N : Nat} (e2 : pc + 3 = p2) (d : decode (xcd y) pc = .ok (.new i, 3)) (hk : xCl (xow y) i ci) (hN : σ.length = N) (hf : frh σ ρ M) (hb : 1 ≤ bc ∧ xN ci ≤ bs) (kk : (σ ++ [(ci, xN ci)]).length = N + 1 → frh (σ ++ [(ci, xN ci)]) ρ M → xX G y (bc - 1) (bs - xN ci) p2 L (xP N :: S) (σ ++ [(ci, xN ci)], ρ, M) Q) : xX G y bc bs pc L S (σ, ρ, M) Q := by
  refine x_new e2 d hk (hf _ (Nat.le_refl _)).1 (hf _ (Nat.le_refl _)).2 hb ?_
  rw [hN]; exact kk (len_ap hN) hf.ap
theorem x_newiA {n : Int} {N' N : Nat} (e2 : pc + 2 = p2) (d : decode (xcd y) pc = .ok (.newarray .int, 2)) (hw : xW (.arrayClass .int)) (hn : n = (N' : Int)) (h9 : N' ≤ 100000) (hN : σ.length = N) (hf : frh σ ρ M) (hb : 1 ≤ bc ∧ N' ≤ bs) (kk : (σ ++ [(100, N')]).length = N + 1 → frh (σ ++ [(100, N')]) ρ M → xX G y (bc - 1) (bs - N') p2 L (xP N :: S) (σ ++ [(100, N')], ρ, M) Q) : xX G y bc bs pc L (xI n :: S) (σ, ρ, M) Q := by
  refine x_newi e2 d hw hn h9 (hf _ (Nat.le_refl _)).1 hb ?_
  rw [hN]; exact kk (len_ap hN) hf.ap
theorem x_newzA {n : Int} {N' N : Nat} (e2 : pc + 2 = p2) (d : decode (xcd y) pc = .ok (.newarray .boolean, 2)) (hw : xW (.arrayClass .boolean)) (hn : n = (N' : Int)) (h9 : N' ≤ 100000) (hN : σ.length = N) (hf : frh σ ρ M) (hb : 1 ≤ bc ∧ N' ≤ bs) (kk : (σ ++ [(101, N')]).length = N + 1 → frh (σ ++ [(101, N')]) ρ M → xX G y (bc - 1) (bs - N') p2 L (xP N :: S) (σ ++ [(101, N')], ρ, M) Q) : xX G y bc bs pc L (xI n :: S) (σ, ρ, M) Q := by
  refine x_newz e2 d hw hn h9 (hf _ (Nat.le_refl _)).1 hb ?_
  rw [hN]; exact kk (len_ap hN) hf.ap
theorem x_newqA {i : Nat} {n : Int} {N' N : Nat} (e2 : pc + 3 = p2) (d : decode (xcd y) pc = .ok (.anewarray i, 3)) (hw : xW (.classLink (xR (xow y)) i RX7)) (hn : n = (N' : Int)) (h9 : N' ≤ 100000) (hN : σ.length = N) (hf : frh σ ρ M) (hb : 1 ≤ bc ∧ N' ≤ bs) (kk : (σ ++ [(102, N')]).length = N + 1 → frh (σ ++ [(102, N')]) ρ M → xX G y (bc - 1) (bs - N') p2 L (xP N :: S) (σ ++ [(102, N')], ρ, M) Q) : xX G y bc bs pc L (xI n :: S) (σ, ρ, M) Q := by
  refine x_newq e2 d hw hn h9 (hf _ (Nat.le_refl _)).2 hb ?_
  rw [hN]; exact kk (len_ap hN) hf.ap
theorem x_putiA {i ci k r : Nat} {v kz : Int} (e2 : pc + 3 = p2) (d : decode (xcd y) pc = .ok (.putfield i, 3)) (hf : xFl (xow y) i ci k) (hi : xfr ci k = false) (hfin : (xTb ci k).2.2.2 = false) (ez : (k : Int) = kz) (hs : isO σ r ci) (hF : frh σ ρ M) (kk : frh σ ρ (xu M r kz v) → xX G y bc bs p2 L S (σ, ρ, xu M r kz v) Q) : xX G y bc bs pc L (xI v :: xP r :: S) (σ, ρ, M) Q :=
  x_puti e2 d hf hi hfin ez hs (kk (hF.u (get_lt hs)))
theorem x_iastA {r n : Nat} {i v : Int} (e2 : pc + 1 = p2) (d : decode (xcd y) pc = .ok (.iastore, 1)) (hs : isA σ r 100 n) (h0 : 0 ≤ i) (h1 : i < n) (hF : frh σ ρ M) (kk : frh σ ρ (xu M r i v) → xX G y bc bs p2 L S (σ, ρ, xu M r i v) Q) : xX G y bc bs pc L (xI v :: xI i :: xP r :: S) (σ, ρ, M) Q :=
  x_iast e2 d hs h0 h1 (kk (hF.u (get_lt hs)))
theorem x_putFA {i ci k r q : Nat} {kz : Int} (e2 : pc + 3 = p2) (d : decode (xcd y) pc = .ok (.putfield i, 3)) (hf : xFl (xow y) i ci k) (hi : xfr ci k = true) (ht : ∃ t, xTy ci k = .array t ∨ ∃ n, xTy ci k = .object n) (hfin : (xTb ci k).2.2.2 = true) (hin : (xnm y).name = "<init>") (hd : (xTb ci k).1 = xR (xow y)) (ez : (k : Int) = kz) (hs : isO σ r ci) (hF : frh σ ρ M) (kk : frh σ (xur ρ r kz (some q)) M → xX G y bc bs p2 L S (σ, xur ρ r kz (some q), M) Q) : xX G y bc bs pc L (xP q :: xP r :: S) (σ, ρ, M) Q :=
  x_putF e2 d hf hi ht hfin hin hd ez hs (kk (hF.r (get_lt hs)))
theorem x_aastA {r n q : Nat} {i : Int} (e2 : pc + 1 = p2) (d : decode (xcd y) pc = .ok (.aastore, 1)) (hs : isA σ r 102 n) (h0 : 0 ≤ i) (h1 : i < n) (hq : isO σ q 5) (hF : frh σ ρ M) (kk : frh σ (xur ρ r i (some q)) M → xX G y bc bs p2 L S (σ, xur ρ r i (some q), M) Q) : xX G y bc bs pc L (xP q :: xI i :: xP r :: S) (σ, ρ, M) Q :=
  x_aast e2 d hs h0 h1 hq (kk (hF.r (get_lt hs)))
def z7s (σ : List (Nat × Nat)) : List (Nat × Nat) := ((((σ ++ [(100, 8)]) ++ [(100, 16)]) ++ [(100, 16)]) ++ [(100, 8)])
def z7r (ρ : Nat → Int → Option Nat) (S : Nat) (F : Nat) : Nat → Int → Option Nat := (xur (xur (xur (xur (xur ρ S 1 (some (S + 1))) S 2 (some (S + 2))) S 3 (some (S + 3))) S 4 (some (S + 4))) S 0 (some F))
def z7m (M : Nat → Int → Int) (S : Nat) : Nat → Int → Int := (xu (xu M S 5 1) S 6 1)
theorem isO.z7a {r ci : Nat} (h : isO σ r ci) : isO (z7s σ) r ci := ((((h).ap).ap).ap).ap
theorem isA.z7a {r k n : Nat} (h : isA σ r k n) : isA (z7s σ) r k n := ((((h).ap).ap).ap).ap
set_option maxHeartbeats 4000000 in
theorem t_X7_init {S : Nat} {F : Nat} (hN : σ.length = S + 1) (o0 : isO σ S 5) (hf : frh σ ρ M) (hq : (z7s σ).length = S + 5 → frh (z7s σ) (z7r ρ S F) (z7m M S) → Q none (z7s σ, z7r ρ S F, z7m M S)) : xX G mX7_init 4 48 0 [(0, xP S), (1, xP F)] [] (σ, ρ, M) Q := by
  refine x_aload_n (p2 := 1) rfl dX7_init_0 rfl ?_
  refine x_obj (p2 := 4) rfl dX7_init_1 w_7_3 w_oi2 w_oi3 ⟨Nat.le_of_ble_eq_true rfl, Nat.le_of_ble_eq_true rfl⟩ (Nat.le_of_ble_eq_true rfl) ?_
  refine x_aload_n (p2 := 5) rfl dX7_init_4 rfl ?_
  refine x_bipush (p2 := 7) rfl dX7_init_5 ⟨by decide, ⟨by decide, by decide⟩⟩ ?_
  have hP := hN
  refine x_newiA (p2 := 9) (N' := 8) rfl dX7_init_7 w_ai rfl (by decide) hN hf ⟨by decide, by decide⟩ (fun hN hf => ?_)
  have o0 := o0.ap (x := (100, 8))
  have a1 : isA (σ ++ [(100, 8)]) (S + 1) 100 8 := isA.nw hP
  refine x_putFA (p2 := 12) (kz := 1) rfl dX7_init_9 f_7_9 rfl ⟨_, Or.inl rfl⟩ rfl rfl rfl rfl o0 hf (fun hf => ?_)
  refine x_aload_n (p2 := 13) rfl dX7_init_12 rfl ?_
  refine x_bipush (p2 := 15) rfl dX7_init_13 ⟨by decide, ⟨by decide, by decide⟩⟩ ?_
  have hP := hN
  refine x_newiA (p2 := 17) (N' := 16) rfl dX7_init_15 w_ai rfl (by decide) hN hf ⟨by decide, by decide⟩ (fun hN hf => ?_)
  have o0 := o0.ap (x := (100, 16))
  have a1 := a1.ap (x := (100, 16))
  have a2 : isA ((σ ++ [(100, 8)]) ++ [(100, 16)]) (S + 2) 100 16 := isA.nw hP
  refine x_putFA (p2 := 20) (kz := 2) rfl dX7_init_17 f_7_15 rfl ⟨_, Or.inl rfl⟩ rfl rfl rfl rfl o0 hf (fun hf => ?_)
  refine x_aload_n (p2 := 21) rfl dX7_init_20 rfl ?_
  refine x_bipush (p2 := 23) rfl dX7_init_21 ⟨by decide, ⟨by decide, by decide⟩⟩ ?_
  have hP := hN
  refine x_newiA (p2 := 25) (N' := 16) rfl dX7_init_23 w_ai rfl (by decide) hN hf ⟨by decide, by decide⟩ (fun hN hf => ?_)
  have o0 := o0.ap (x := (100, 16))
  have a1 := a1.ap (x := (100, 16))
  have a2 := a2.ap (x := (100, 16))
  have a3 : isA (((σ ++ [(100, 8)]) ++ [(100, 16)]) ++ [(100, 16)]) (S + 3) 100 16 := isA.nw hP
  refine x_putFA (p2 := 28) (kz := 3) rfl dX7_init_25 f_7_18 rfl ⟨_, Or.inl rfl⟩ rfl rfl rfl rfl o0 hf (fun hf => ?_)
  refine x_aload_n (p2 := 29) rfl dX7_init_28 rfl ?_
  refine x_bipush (p2 := 31) rfl dX7_init_29 ⟨by decide, ⟨by decide, by decide⟩⟩ ?_
  have hP := hN
  refine x_newiA (p2 := 33) (N' := 8) rfl dX7_init_31 w_ai rfl (by decide) hN hf ⟨by decide, by decide⟩ (fun hN hf => ?_)
  have o0 := o0.ap (x := (100, 8))
  have a1 := a1.ap (x := (100, 8))
  have a2 := a2.ap (x := (100, 8))
  have a3 := a3.ap (x := (100, 8))
  have a4 : isA ((((σ ++ [(100, 8)]) ++ [(100, 16)]) ++ [(100, 16)]) ++ [(100, 8)]) (S + 4) 100 8 := isA.nw hP
  refine x_putFA (p2 := 36) (kz := 4) rfl dX7_init_33 f_7_21 rfl ⟨_, Or.inl rfl⟩ rfl rfl rfl rfl o0 hf (fun hf => ?_)
  refine x_aload_n (p2 := 37) rfl dX7_init_36 rfl ?_
  refine x_iconst (p2 := 38) rfl dX7_init_37 ⟨by decide, by decide⟩ ?_
  refine x_putiA (p2 := 41) (kz := 5) rfl dX7_init_38 f_7_24 rfl rfl rfl o0 hf (fun hf => ?_)
  refine x_aload_n (p2 := 42) rfl dX7_init_41 rfl ?_
  refine x_iconst (p2 := 43) rfl dX7_init_42 ⟨by decide, by decide⟩ ?_
  refine x_putiA (p2 := 46) (kz := 6) rfl dX7_init_43 f_7_28 rfl rfl rfl o0 hf (fun hf => ?_)
  refine x_aload_n (p2 := 47) rfl dX7_init_46 rfl ?_
  refine x_aload_n (p2 := 48) rfl dX7_init_47 rfl ?_
  refine x_putFA (p2 := 51) (kz := 0) rfl dX7_init_48 f_7_31 rfl ⟨.int, Or.inr ⟨_, rfl⟩⟩ rfl rfl rfl rfl o0 hf (fun hf => ?_)
  refine x_vret dX7_init_51 rfl ?_
  exact hq hN hf
def z1s (σ : List (Nat × Nat)) : List (Nat × Nat) := (σ ++ [(100, 8)])
def z1r (ρ : Nat → Int → Option Nat) (F : Nat) : Nat → Int → Option Nat := (xur ρ F 2 (some (F + 1)))
def z1m (M : Nat → Int → Int) (F : Nat) : Nat → Int → Int := (xu (xu M F 0 1) F 1 0)
theorem isO.z1a {r ci : Nat} (h : isO σ r ci) : isO (z1s σ) r ci := (h).ap
theorem isA.z1a {r k n : Nat} (h : isA σ r k n) : isA (z1s σ) r k n := (h).ap
set_option maxHeartbeats 4000000 in
theorem t_X1_init {F : Nat} (hN : σ.length = F + 1) (o0 : isO σ F 1) (hf : frh σ ρ M) (hq : (z1s σ).length = F + 2 → frh (z1s σ) (z1r ρ F) (z1m M F) → Q none (z1s σ, z1r ρ F, z1m M F)) : xX G mX1_init 1 8 0 [(0, xP F)] [] (σ, ρ, M) Q := by
  refine x_aload_n (p2 := 1) rfl dX1_init_0 rfl ?_
  refine x_obj (p2 := 4) rfl dX1_init_1 w_1_3 w_oi2 w_oi3 ⟨Nat.le_of_ble_eq_true rfl, Nat.le_of_ble_eq_true rfl⟩ (Nat.le_of_ble_eq_true rfl) ?_
  refine x_aload_n (p2 := 5) rfl dX1_init_4 rfl ?_
  refine x_iconst (p2 := 6) rfl dX1_init_5 ⟨by decide, by decide⟩ ?_
  refine x_putiA (p2 := 9) (kz := 0) rfl dX1_init_6 f_1_9 rfl rfl rfl o0 hf (fun hf => ?_)
  refine x_aload_n (p2 := 10) rfl dX1_init_9 rfl ?_
  refine x_iconst (p2 := 11) rfl dX1_init_10 ⟨by decide, by decide⟩ ?_
  refine x_putiA (p2 := 14) (kz := 1) rfl dX1_init_11 f_1_15 rfl rfl rfl o0 hf (fun hf => ?_)
  refine x_aload_n (p2 := 15) rfl dX1_init_14 rfl ?_
  refine x_bipush (p2 := 17) rfl dX1_init_15 ⟨by decide, ⟨by decide, by decide⟩⟩ ?_
  have hP := hN
  refine x_newiA (p2 := 19) (N' := 8) rfl dX1_init_17 w_ai rfl (by decide) hN hf ⟨by decide, by decide⟩ (fun hN hf => ?_)
  have o0 := o0.ap (x := (100, 8))
  have a1 : isA (σ ++ [(100, 8)]) (F + 1) 100 8 := isA.nw hP
  refine x_putFA (p2 := 22) (kz := 2) rfl dX1_init_19 f_1_18 rfl ⟨_, Or.inl rfl⟩ rfl rfl rfl rfl o0 hf (fun hf => ?_)
  refine x_vret dX1_init_22 rfl ?_
  exact hq hN hf
def z2s (σ : List (Nat × Nat)) : List (Nat × Nat) := (z7s ((z7s ((z7s ((z7s ((z7s ((z7s ((z7s ((z7s ((z7s ((z7s ((z7s ((z7s ((z7s ((z7s ((σ ++ [(102, 14)]) ++ [(5, xN 5)])) ++ [(5, xN 5)])) ++ [(5, xN 5)])) ++ [(5, xN 5)])) ++ [(5, xN 5)])) ++ [(5, xN 5)])) ++ [(5, xN 5)])) ++ [(5, xN 5)])) ++ [(5, xN 5)])) ++ [(5, xN 5)])) ++ [(5, xN 5)])) ++ [(5, xN 5)])) ++ [(5, xN 5)])) ++ [(5, xN 5)]))
def z2r (ρ : Nat → Int → Option Nat) (_ : Nat) (F : Nat) : Nat → Int → Option Nat := (xur (z7r (xur (z7r (xur (z7r (xur (z7r (xur (z7r (xur (z7r (xur (z7r (xur (z7r (xur (z7r (xur (z7r (xur (z7r (xur (z7r (xur (z7r (xur (z7r (xur ρ 25 0 (some 26)) 27 F) 26 0 (some 27)) 32 F) 26 (0 + 1) (some 32)) 37 F) 26 ((0 + 1) + 1) (some 37)) 42 F) 26 (((0 + 1) + 1) + 1) (some 42)) 47 F) 26 ((((0 + 1) + 1) + 1) + 1) (some 47)) 52 F) 26 (((((0 + 1) + 1) + 1) + 1) + 1) (some 52)) 57 F) 26 ((((((0 + 1) + 1) + 1) + 1) + 1) + 1) (some 57)) 62 F) 26 (((((((0 + 1) + 1) + 1) + 1) + 1) + 1) + 1) (some 62)) 67 F) 26 ((((((((0 + 1) + 1) + 1) + 1) + 1) + 1) + 1) + 1) (some 67)) 72 F) 26 (((((((((0 + 1) + 1) + 1) + 1) + 1) + 1) + 1) + 1) + 1) (some 72)) 77 F) 26 ((((((((((0 + 1) + 1) + 1) + 1) + 1) + 1) + 1) + 1) + 1) + 1) (some 77)) 82 F) 26 (((((((((((0 + 1) + 1) + 1) + 1) + 1) + 1) + 1) + 1) + 1) + 1) + 1) (some 82)) 87 F) 26 ((((((((((((0 + 1) + 1) + 1) + 1) + 1) + 1) + 1) + 1) + 1) + 1) + 1) + 1) (some 87)) 92 F) 26 (((((((((((((0 + 1) + 1) + 1) + 1) + 1) + 1) + 1) + 1) + 1) + 1) + 1) + 1) + 1) (some 92))
def z2m (M : Nat → Int → Int) (_ : Nat) : Nat → Int → Int := (z7m (z7m (z7m (z7m (z7m (z7m (z7m (z7m (z7m (z7m (z7m (z7m (z7m (z7m (xu (xu M 25 1 0) 25 2 0) 27) 32) 37) 42) 47) 52) 57) 62) 67) 72) 77) 82) 87) 92)
theorem isO.z2a {r ci : Nat} (h : isO σ r ci) : isO (z2s σ) r ci := (((((((((((((((((((((((((((((h).ap).ap).z7a).ap).z7a).ap).z7a).ap).z7a).ap).z7a).ap).z7a).ap).z7a).ap).z7a).ap).z7a).ap).z7a).ap).z7a).ap).z7a).ap).z7a).ap).z7a
theorem isA.z2a {r k n : Nat} (h : isA σ r k n) : isA (z2s σ) r k n := (((((((((((((((((((((((((((((h).ap).ap).z7a).ap).z7a).ap).z7a).ap).z7a).ap).z7a).ap).z7a).ap).z7a).ap).z7a).ap).z7a).ap).z7a).ap).z7a).ap).z7a).ap).z7a).ap).z7a
set_option maxHeartbeats 4000000 in
theorem t_X2_init {F : Nat} (hN : σ.length = 26) (o0 : isO σ 25 2) (hf : frh σ ρ M) (hq : (z2s σ).length = 97 → frh (z2s σ) (z2r ρ 25 F) (z2m M 25) → Q none (z2s σ, z2r ρ 25 F, z2m M 25)) : xX G mX2_init 71 784 0 [(0, xP 25), (1, xP F)] [] (σ, ρ, M) Q := by
  refine x_aload_n (p2 := 1) rfl dX2_init_0 rfl ?_
  refine x_obj (p2 := 4) rfl dX2_init_1 w_2_3 w_oi2 w_oi3 ⟨Nat.le_of_ble_eq_true rfl, Nat.le_of_ble_eq_true rfl⟩ (Nat.le_of_ble_eq_true rfl) ?_
  refine x_aload_n (p2 := 5) rfl dX2_init_4 rfl ?_
  refine x_bipush (p2 := 7) rfl dX2_init_5 ⟨by decide, ⟨by decide, by decide⟩⟩ ?_
  have hP := hN
  refine x_newqA (p2 := 10) (N' := 14) rfl dX2_init_7 k_2_9.1 rfl (by decide) hN hf ⟨by decide, by decide⟩ (fun hN hf => ?_)
  have o0 := o0.ap (x := (102, 14))
  have a1 : isA (σ ++ [(102, 14)]) 26 102 14 := isA.nw hP
  refine x_putFA (p2 := 13) (kz := 0) rfl dX2_init_10 f_2_11 rfl ⟨_, Or.inl rfl⟩ rfl rfl rfl rfl o0 hf (fun hf => ?_)
  refine x_aload_n (p2 := 14) rfl dX2_init_13 rfl ?_
  refine x_iconst (p2 := 15) rfl dX2_init_14 ⟨by decide, by decide⟩ ?_
  refine x_putiA (p2 := 18) (kz := 1) rfl dX2_init_15 f_2_17 rfl rfl rfl o0 hf (fun hf => ?_)
  refine x_aload_n (p2 := 19) rfl dX2_init_18 rfl ?_
  refine x_iconst (p2 := 20) rfl dX2_init_19 ⟨by decide, by decide⟩ ?_
  refine x_putiA (p2 := 23) (kz := 2) rfl dX2_init_20 f_2_21 rfl rfl rfl o0 hf (fun hf => ?_)
  refine x_iconst (p2 := 24) rfl dX2_init_23 ⟨by decide, by decide⟩ ?_
  refine x_istore_n (p2 := 25) (i := 2) (L2 := [(0, _), (1, _), (2, _)]) rfl dX2_init_24 rfl ⟨rfl, Nat.le_of_ble_eq_true rfl⟩ rfl ?_
  refine x_iload_n (p2 := 26) rfl dX2_init_25 rfl ?_
  refine x_bipush (p2 := 28) rfl dX2_init_26 ⟨by decide, ⟨by decide, by decide⟩⟩ ?_
  refine x_ic_ge (p2 := 31) (t := 51) (by decide) rfl dX2_init_28 (fun hc => absurd hc (by decide)) (fun _ => ?_)
  refine x_aload_n (p2 := 32) rfl dX2_init_31 rfl ?_
  refine x_getr (p2 := 35) (q := 26) (kz := 0) rfl dX2_init_32 f_2_11 rfl rfl o0.sh rfl ?_
  refine x_iload_n (p2 := 36) rfl dX2_init_35 rfl ?_
  have hP := hN
  refine x_newA (p2 := 39) (ci := 5) rfl dX2_init_36 k_2_9 hN hf ⟨by decide, by decide⟩ (fun hN hf => ?_)
  have o0 := o0.ap (x := (5, xN 5))
  have a1 := a1.ap (x := (5, xN 5))
  have o2 : isO ((σ ++ [(102, 14)]) ++ [(5, xN 5)]) 27 5 := isO.nw hP
  refine x_dup (p2 := 40) rfl dX2_init_39 rfl ?_
  refine x_aload_n (p2 := 41) rfl dX2_init_40 rfl ?_
  refine x_i1 (p2 := 44) (mc := 4) (ms := 48) rfl dX2_init_41 (Or.inl l_2_24) ok_X7_init rfl rfl ⟨by decide, by decide⟩ ?_
  refine t_X7_init hN o2 hf (fun hN hf => ?_)
  have o0 := o0.z7a
  have a1 := a1.z7a
  have o2 := o2.z7a
  refine x_aastA (p2 := 45) rfl dX2_init_44 a1 (by decide) (by decide) o2 hf (fun hf => ?_)
  refine x_iinc (p2 := 48) (L2 := [(0, _), (1, _), (2, _)]) rfl dX2_init_45 rfl ⟨by omega, by omega⟩ ⟨rfl, Nat.le_of_ble_eq_true rfl⟩ rfl ?_
  refine x_goto (t := 25) (by decide) dX2_init_48 ?_
  refine x_iload_n (p2 := 26) rfl dX2_init_25 rfl ?_
  refine x_bipush (p2 := 28) rfl dX2_init_26 ⟨by decide, ⟨by decide, by decide⟩⟩ ?_
  refine x_ic_ge (p2 := 31) (t := 51) (by decide) rfl dX2_init_28 (fun hc => absurd hc (by decide)) (fun _ => ?_)
  refine x_aload_n (p2 := 32) rfl dX2_init_31 rfl ?_
  refine x_getr (p2 := 35) (q := 26) (kz := 0) rfl dX2_init_32 f_2_11 rfl rfl o0.sh rfl ?_
  refine x_iload_n (p2 := 36) rfl dX2_init_35 rfl ?_
  have hP := hN
  refine x_newA (p2 := 39) (ci := 5) rfl dX2_init_36 k_2_9 hN hf ⟨by decide, by decide⟩ (fun hN hf => ?_)
  have o0 := o0.ap (x := (5, xN 5))
  have a1 := a1.ap (x := (5, xN 5))
  have o2 := o2.ap (x := (5, xN 5))
  have o7 : isO ((z7s ((σ ++ [(102, 14)]) ++ [(5, xN 5)])) ++ [(5, xN 5)]) 32 5 := isO.nw hP
  refine x_dup (p2 := 40) rfl dX2_init_39 rfl ?_
  refine x_aload_n (p2 := 41) rfl dX2_init_40 rfl ?_
  refine x_i1 (p2 := 44) (mc := 4) (ms := 48) rfl dX2_init_41 (Or.inl l_2_24) ok_X7_init rfl rfl ⟨by decide, by decide⟩ ?_
  refine t_X7_init hN o7 hf (fun hN hf => ?_)
  have o0 := o0.z7a
  have a1 := a1.z7a
  have o2 := o2.z7a
  have o7 := o7.z7a
  refine x_aastA (p2 := 45) rfl dX2_init_44 a1 (by decide) (by decide) o7 hf (fun hf => ?_)
  refine x_iinc (p2 := 48) (L2 := [(0, _), (1, _), (2, _)]) rfl dX2_init_45 rfl ⟨by omega, by omega⟩ ⟨rfl, Nat.le_of_ble_eq_true rfl⟩ rfl ?_
  refine x_goto (t := 25) (by decide) dX2_init_48 ?_
  refine x_iload_n (p2 := 26) rfl dX2_init_25 rfl ?_
  refine x_bipush (p2 := 28) rfl dX2_init_26 ⟨by decide, ⟨by decide, by decide⟩⟩ ?_
  refine x_ic_ge (p2 := 31) (t := 51) (by decide) rfl dX2_init_28 (fun hc => absurd hc (by decide)) (fun _ => ?_)
  refine x_aload_n (p2 := 32) rfl dX2_init_31 rfl ?_
  refine x_getr (p2 := 35) (q := 26) (kz := 0) rfl dX2_init_32 f_2_11 rfl rfl o0.sh rfl ?_
  refine x_iload_n (p2 := 36) rfl dX2_init_35 rfl ?_
  have hP := hN
  refine x_newA (p2 := 39) (ci := 5) rfl dX2_init_36 k_2_9 hN hf ⟨by decide, by decide⟩ (fun hN hf => ?_)
  have o0 := o0.ap (x := (5, xN 5))
  have a1 := a1.ap (x := (5, xN 5))
  have o2 := o2.ap (x := (5, xN 5))
  have o7 := o7.ap (x := (5, xN 5))
  have o12 : isO ((z7s ((z7s ((σ ++ [(102, 14)]) ++ [(5, xN 5)])) ++ [(5, xN 5)])) ++ [(5, xN 5)]) 37 5 := isO.nw hP
  refine x_dup (p2 := 40) rfl dX2_init_39 rfl ?_
  refine x_aload_n (p2 := 41) rfl dX2_init_40 rfl ?_
  refine x_i1 (p2 := 44) (mc := 4) (ms := 48) rfl dX2_init_41 (Or.inl l_2_24) ok_X7_init rfl rfl ⟨by decide, by decide⟩ ?_
  refine t_X7_init hN o12 hf (fun hN hf => ?_)
  have o0 := o0.z7a
  have a1 := a1.z7a
  have o2 := o2.z7a
  have o7 := o7.z7a
  have o12 := o12.z7a
  refine x_aastA (p2 := 45) rfl dX2_init_44 a1 (by decide) (by decide) o12 hf (fun hf => ?_)
  refine x_iinc (p2 := 48) (L2 := [(0, _), (1, _), (2, _)]) rfl dX2_init_45 rfl ⟨by omega, by omega⟩ ⟨rfl, Nat.le_of_ble_eq_true rfl⟩ rfl ?_
  refine x_goto (t := 25) (by decide) dX2_init_48 ?_
  refine x_iload_n (p2 := 26) rfl dX2_init_25 rfl ?_
  refine x_bipush (p2 := 28) rfl dX2_init_26 ⟨by decide, ⟨by decide, by decide⟩⟩ ?_
  refine x_ic_ge (p2 := 31) (t := 51) (by decide) rfl dX2_init_28 (fun hc => absurd hc (by decide)) (fun _ => ?_)
  refine x_aload_n (p2 := 32) rfl dX2_init_31 rfl ?_
  refine x_getr (p2 := 35) (q := 26) (kz := 0) rfl dX2_init_32 f_2_11 rfl rfl o0.sh rfl ?_
  refine x_iload_n (p2 := 36) rfl dX2_init_35 rfl ?_
  have hP := hN
  refine x_newA (p2 := 39) (ci := 5) rfl dX2_init_36 k_2_9 hN hf ⟨by decide, by decide⟩ (fun hN hf => ?_)
  have o0 := o0.ap (x := (5, xN 5))
  have a1 := a1.ap (x := (5, xN 5))
  have o2 := o2.ap (x := (5, xN 5))
  have o7 := o7.ap (x := (5, xN 5))
  have o12 := o12.ap (x := (5, xN 5))
  have o17 : isO ((z7s ((z7s ((z7s ((σ ++ [(102, 14)]) ++ [(5, xN 5)])) ++ [(5, xN 5)])) ++ [(5, xN 5)])) ++ [(5, xN 5)]) 42 5 := isO.nw hP
  refine x_dup (p2 := 40) rfl dX2_init_39 rfl ?_
  refine x_aload_n (p2 := 41) rfl dX2_init_40 rfl ?_
  refine x_i1 (p2 := 44) (mc := 4) (ms := 48) rfl dX2_init_41 (Or.inl l_2_24) ok_X7_init rfl rfl ⟨by decide, by decide⟩ ?_
  refine t_X7_init hN o17 hf (fun hN hf => ?_)
  have o0 := o0.z7a
  have a1 := a1.z7a
  have o2 := o2.z7a
  have o7 := o7.z7a
  have o12 := o12.z7a
  have o17 := o17.z7a
  refine x_aastA (p2 := 45) rfl dX2_init_44 a1 (by decide) (by decide) o17 hf (fun hf => ?_)
  refine x_iinc (p2 := 48) (L2 := [(0, _), (1, _), (2, _)]) rfl dX2_init_45 rfl ⟨by omega, by omega⟩ ⟨rfl, Nat.le_of_ble_eq_true rfl⟩ rfl ?_
  refine x_goto (t := 25) (by decide) dX2_init_48 ?_
  refine x_iload_n (p2 := 26) rfl dX2_init_25 rfl ?_
  refine x_bipush (p2 := 28) rfl dX2_init_26 ⟨by decide, ⟨by decide, by decide⟩⟩ ?_
  refine x_ic_ge (p2 := 31) (t := 51) (by decide) rfl dX2_init_28 (fun hc => absurd hc (by decide)) (fun _ => ?_)
  refine x_aload_n (p2 := 32) rfl dX2_init_31 rfl ?_
  refine x_getr (p2 := 35) (q := 26) (kz := 0) rfl dX2_init_32 f_2_11 rfl rfl o0.sh rfl ?_
  refine x_iload_n (p2 := 36) rfl dX2_init_35 rfl ?_
  have hP := hN
  refine x_newA (p2 := 39) (ci := 5) rfl dX2_init_36 k_2_9 hN hf ⟨by decide, by decide⟩ (fun hN hf => ?_)
  have o0 := o0.ap (x := (5, xN 5))
  have a1 := a1.ap (x := (5, xN 5))
  have o2 := o2.ap (x := (5, xN 5))
  have o7 := o7.ap (x := (5, xN 5))
  have o12 := o12.ap (x := (5, xN 5))
  have o17 := o17.ap (x := (5, xN 5))
  have o22 : isO ((z7s ((z7s ((z7s ((z7s ((σ ++ [(102, 14)]) ++ [(5, xN 5)])) ++ [(5, xN 5)])) ++ [(5, xN 5)])) ++ [(5, xN 5)])) ++ [(5, xN 5)]) 47 5 := isO.nw hP
  refine x_dup (p2 := 40) rfl dX2_init_39 rfl ?_
  refine x_aload_n (p2 := 41) rfl dX2_init_40 rfl ?_
  refine x_i1 (p2 := 44) (mc := 4) (ms := 48) rfl dX2_init_41 (Or.inl l_2_24) ok_X7_init rfl rfl ⟨by decide, by decide⟩ ?_
  refine t_X7_init hN o22 hf (fun hN hf => ?_)
  have o0 := o0.z7a
  have a1 := a1.z7a
  have o2 := o2.z7a
  have o7 := o7.z7a
  have o12 := o12.z7a
  have o17 := o17.z7a
  have o22 := o22.z7a
  refine x_aastA (p2 := 45) rfl dX2_init_44 a1 (by decide) (by decide) o22 hf (fun hf => ?_)
  refine x_iinc (p2 := 48) (L2 := [(0, _), (1, _), (2, _)]) rfl dX2_init_45 rfl ⟨by omega, by omega⟩ ⟨rfl, Nat.le_of_ble_eq_true rfl⟩ rfl ?_
  refine x_goto (t := 25) (by decide) dX2_init_48 ?_
  refine x_iload_n (p2 := 26) rfl dX2_init_25 rfl ?_
  refine x_bipush (p2 := 28) rfl dX2_init_26 ⟨by decide, ⟨by decide, by decide⟩⟩ ?_
  refine x_ic_ge (p2 := 31) (t := 51) (by decide) rfl dX2_init_28 (fun hc => absurd hc (by decide)) (fun _ => ?_)
  refine x_aload_n (p2 := 32) rfl dX2_init_31 rfl ?_
  refine x_getr (p2 := 35) (q := 26) (kz := 0) rfl dX2_init_32 f_2_11 rfl rfl o0.sh rfl ?_
  refine x_iload_n (p2 := 36) rfl dX2_init_35 rfl ?_
  have hP := hN
  refine x_newA (p2 := 39) (ci := 5) rfl dX2_init_36 k_2_9 hN hf ⟨by decide, by decide⟩ (fun hN hf => ?_)
  have o0 := o0.ap (x := (5, xN 5))
  have a1 := a1.ap (x := (5, xN 5))
  have o2 := o2.ap (x := (5, xN 5))
  have o7 := o7.ap (x := (5, xN 5))
  have o12 := o12.ap (x := (5, xN 5))
  have o17 := o17.ap (x := (5, xN 5))
  have o22 := o22.ap (x := (5, xN 5))
  have o27 : isO ((z7s ((z7s ((z7s ((z7s ((z7s ((σ ++ [(102, 14)]) ++ [(5, xN 5)])) ++ [(5, xN 5)])) ++ [(5, xN 5)])) ++ [(5, xN 5)])) ++ [(5, xN 5)])) ++ [(5, xN 5)]) 52 5 := isO.nw hP
  refine x_dup (p2 := 40) rfl dX2_init_39 rfl ?_
  refine x_aload_n (p2 := 41) rfl dX2_init_40 rfl ?_
  refine x_i1 (p2 := 44) (mc := 4) (ms := 48) rfl dX2_init_41 (Or.inl l_2_24) ok_X7_init rfl rfl ⟨by decide, by decide⟩ ?_
  refine t_X7_init hN o27 hf (fun hN hf => ?_)
  have o0 := o0.z7a
  have a1 := a1.z7a
  have o2 := o2.z7a
  have o7 := o7.z7a
  have o12 := o12.z7a
  have o17 := o17.z7a
  have o22 := o22.z7a
  have o27 := o27.z7a
  refine x_aastA (p2 := 45) rfl dX2_init_44 a1 (by decide) (by decide) o27 hf (fun hf => ?_)
  refine x_iinc (p2 := 48) (L2 := [(0, _), (1, _), (2, _)]) rfl dX2_init_45 rfl ⟨by omega, by omega⟩ ⟨rfl, Nat.le_of_ble_eq_true rfl⟩ rfl ?_
  refine x_goto (t := 25) (by decide) dX2_init_48 ?_
  refine x_iload_n (p2 := 26) rfl dX2_init_25 rfl ?_
  refine x_bipush (p2 := 28) rfl dX2_init_26 ⟨by decide, ⟨by decide, by decide⟩⟩ ?_
  refine x_ic_ge (p2 := 31) (t := 51) (by decide) rfl dX2_init_28 (fun hc => absurd hc (by decide)) (fun _ => ?_)
  refine x_aload_n (p2 := 32) rfl dX2_init_31 rfl ?_
  refine x_getr (p2 := 35) (q := 26) (kz := 0) rfl dX2_init_32 f_2_11 rfl rfl o0.sh rfl ?_
  refine x_iload_n (p2 := 36) rfl dX2_init_35 rfl ?_
  have hP := hN
  refine x_newA (p2 := 39) (ci := 5) rfl dX2_init_36 k_2_9 hN hf ⟨by decide, by decide⟩ (fun hN hf => ?_)
  have o0 := o0.ap (x := (5, xN 5))
  have a1 := a1.ap (x := (5, xN 5))
  have o2 := o2.ap (x := (5, xN 5))
  have o7 := o7.ap (x := (5, xN 5))
  have o12 := o12.ap (x := (5, xN 5))
  have o17 := o17.ap (x := (5, xN 5))
  have o22 := o22.ap (x := (5, xN 5))
  have o27 := o27.ap (x := (5, xN 5))
  have o32 : isO ((z7s ((z7s ((z7s ((z7s ((z7s ((z7s ((σ ++ [(102, 14)]) ++ [(5, xN 5)])) ++ [(5, xN 5)])) ++ [(5, xN 5)])) ++ [(5, xN 5)])) ++ [(5, xN 5)])) ++ [(5, xN 5)])) ++ [(5, xN 5)]) 57 5 := isO.nw hP
  refine x_dup (p2 := 40) rfl dX2_init_39 rfl ?_
  refine x_aload_n (p2 := 41) rfl dX2_init_40 rfl ?_
  refine x_i1 (p2 := 44) (mc := 4) (ms := 48) rfl dX2_init_41 (Or.inl l_2_24) ok_X7_init rfl rfl ⟨by decide, by decide⟩ ?_
  refine t_X7_init hN o32 hf (fun hN hf => ?_)
  have o0 := o0.z7a
  have a1 := a1.z7a
  have o2 := o2.z7a
  have o7 := o7.z7a
  have o12 := o12.z7a
  have o17 := o17.z7a
  have o22 := o22.z7a
  have o27 := o27.z7a
  have o32 := o32.z7a
  refine x_aastA (p2 := 45) rfl dX2_init_44 a1 (by decide) (by decide) o32 hf (fun hf => ?_)
  refine x_iinc (p2 := 48) (L2 := [(0, _), (1, _), (2, _)]) rfl dX2_init_45 rfl ⟨by omega, by omega⟩ ⟨rfl, Nat.le_of_ble_eq_true rfl⟩ rfl ?_
  refine x_goto (t := 25) (by decide) dX2_init_48 ?_
  refine x_iload_n (p2 := 26) rfl dX2_init_25 rfl ?_
  refine x_bipush (p2 := 28) rfl dX2_init_26 ⟨by decide, ⟨by decide, by decide⟩⟩ ?_
  refine x_ic_ge (p2 := 31) (t := 51) (by decide) rfl dX2_init_28 (fun hc => absurd hc (by decide)) (fun _ => ?_)
  refine x_aload_n (p2 := 32) rfl dX2_init_31 rfl ?_
  refine x_getr (p2 := 35) (q := 26) (kz := 0) rfl dX2_init_32 f_2_11 rfl rfl o0.sh rfl ?_
  refine x_iload_n (p2 := 36) rfl dX2_init_35 rfl ?_
  have hP := hN
  refine x_newA (p2 := 39) (ci := 5) rfl dX2_init_36 k_2_9 hN hf ⟨by decide, by decide⟩ (fun hN hf => ?_)
  have o0 := o0.ap (x := (5, xN 5))
  have a1 := a1.ap (x := (5, xN 5))
  have o2 := o2.ap (x := (5, xN 5))
  have o7 := o7.ap (x := (5, xN 5))
  have o12 := o12.ap (x := (5, xN 5))
  have o17 := o17.ap (x := (5, xN 5))
  have o22 := o22.ap (x := (5, xN 5))
  have o27 := o27.ap (x := (5, xN 5))
  have o32 := o32.ap (x := (5, xN 5))
  have o37 : isO ((z7s ((z7s ((z7s ((z7s ((z7s ((z7s ((z7s ((σ ++ [(102, 14)]) ++ [(5, xN 5)])) ++ [(5, xN 5)])) ++ [(5, xN 5)])) ++ [(5, xN 5)])) ++ [(5, xN 5)])) ++ [(5, xN 5)])) ++ [(5, xN 5)])) ++ [(5, xN 5)]) 62 5 := isO.nw hP
  refine x_dup (p2 := 40) rfl dX2_init_39 rfl ?_
  refine x_aload_n (p2 := 41) rfl dX2_init_40 rfl ?_
  refine x_i1 (p2 := 44) (mc := 4) (ms := 48) rfl dX2_init_41 (Or.inl l_2_24) ok_X7_init rfl rfl ⟨by decide, by decide⟩ ?_
  refine t_X7_init hN o37 hf (fun hN hf => ?_)
  have o0 := o0.z7a
  have a1 := a1.z7a
  have o2 := o2.z7a
  have o7 := o7.z7a
  have o12 := o12.z7a
  have o17 := o17.z7a
  have o22 := o22.z7a
  have o27 := o27.z7a
  have o32 := o32.z7a
  have o37 := o37.z7a
  refine x_aastA (p2 := 45) rfl dX2_init_44 a1 (by decide) (by decide) o37 hf (fun hf => ?_)
  refine x_iinc (p2 := 48) (L2 := [(0, _), (1, _), (2, _)]) rfl dX2_init_45 rfl ⟨by omega, by omega⟩ ⟨rfl, Nat.le_of_ble_eq_true rfl⟩ rfl ?_
  refine x_goto (t := 25) (by decide) dX2_init_48 ?_
  refine x_iload_n (p2 := 26) rfl dX2_init_25 rfl ?_
  refine x_bipush (p2 := 28) rfl dX2_init_26 ⟨by decide, ⟨by decide, by decide⟩⟩ ?_
  refine x_ic_ge (p2 := 31) (t := 51) (by decide) rfl dX2_init_28 (fun hc => absurd hc (by decide)) (fun _ => ?_)
  refine x_aload_n (p2 := 32) rfl dX2_init_31 rfl ?_
  refine x_getr (p2 := 35) (q := 26) (kz := 0) rfl dX2_init_32 f_2_11 rfl rfl o0.sh rfl ?_
  refine x_iload_n (p2 := 36) rfl dX2_init_35 rfl ?_
  have hP := hN
  refine x_newA (p2 := 39) (ci := 5) rfl dX2_init_36 k_2_9 hN hf ⟨by decide, by decide⟩ (fun hN hf => ?_)
  have o0 := o0.ap (x := (5, xN 5))
  have a1 := a1.ap (x := (5, xN 5))
  have o2 := o2.ap (x := (5, xN 5))
  have o7 := o7.ap (x := (5, xN 5))
  have o12 := o12.ap (x := (5, xN 5))
  have o17 := o17.ap (x := (5, xN 5))
  have o22 := o22.ap (x := (5, xN 5))
  have o27 := o27.ap (x := (5, xN 5))
  have o32 := o32.ap (x := (5, xN 5))
  have o37 := o37.ap (x := (5, xN 5))
  have o42 : isO ((z7s ((z7s ((z7s ((z7s ((z7s ((z7s ((z7s ((z7s ((σ ++ [(102, 14)]) ++ [(5, xN 5)])) ++ [(5, xN 5)])) ++ [(5, xN 5)])) ++ [(5, xN 5)])) ++ [(5, xN 5)])) ++ [(5, xN 5)])) ++ [(5, xN 5)])) ++ [(5, xN 5)])) ++ [(5, xN 5)]) 67 5 := isO.nw hP
  refine x_dup (p2 := 40) rfl dX2_init_39 rfl ?_
  refine x_aload_n (p2 := 41) rfl dX2_init_40 rfl ?_
  refine x_i1 (p2 := 44) (mc := 4) (ms := 48) rfl dX2_init_41 (Or.inl l_2_24) ok_X7_init rfl rfl ⟨by decide, by decide⟩ ?_
  refine t_X7_init hN o42 hf (fun hN hf => ?_)
  have o0 := o0.z7a
  have a1 := a1.z7a
  have o2 := o2.z7a
  have o7 := o7.z7a
  have o12 := o12.z7a
  have o17 := o17.z7a
  have o22 := o22.z7a
  have o27 := o27.z7a
  have o32 := o32.z7a
  have o37 := o37.z7a
  have o42 := o42.z7a
  refine x_aastA (p2 := 45) rfl dX2_init_44 a1 (by decide) (by decide) o42 hf (fun hf => ?_)
  refine x_iinc (p2 := 48) (L2 := [(0, _), (1, _), (2, _)]) rfl dX2_init_45 rfl ⟨by omega, by omega⟩ ⟨rfl, Nat.le_of_ble_eq_true rfl⟩ rfl ?_
  refine x_goto (t := 25) (by decide) dX2_init_48 ?_
  refine x_iload_n (p2 := 26) rfl dX2_init_25 rfl ?_
  refine x_bipush (p2 := 28) rfl dX2_init_26 ⟨by decide, ⟨by decide, by decide⟩⟩ ?_
  refine x_ic_ge (p2 := 31) (t := 51) (by decide) rfl dX2_init_28 (fun hc => absurd hc (by decide)) (fun _ => ?_)
  refine x_aload_n (p2 := 32) rfl dX2_init_31 rfl ?_
  refine x_getr (p2 := 35) (q := 26) (kz := 0) rfl dX2_init_32 f_2_11 rfl rfl o0.sh rfl ?_
  refine x_iload_n (p2 := 36) rfl dX2_init_35 rfl ?_
  have hP := hN
  refine x_newA (p2 := 39) (ci := 5) rfl dX2_init_36 k_2_9 hN hf ⟨by decide, by decide⟩ (fun hN hf => ?_)
  have o0 := o0.ap (x := (5, xN 5))
  have a1 := a1.ap (x := (5, xN 5))
  have o2 := o2.ap (x := (5, xN 5))
  have o7 := o7.ap (x := (5, xN 5))
  have o12 := o12.ap (x := (5, xN 5))
  have o17 := o17.ap (x := (5, xN 5))
  have o22 := o22.ap (x := (5, xN 5))
  have o27 := o27.ap (x := (5, xN 5))
  have o32 := o32.ap (x := (5, xN 5))
  have o37 := o37.ap (x := (5, xN 5))
  have o42 := o42.ap (x := (5, xN 5))
  have o47 : isO ((z7s ((z7s ((z7s ((z7s ((z7s ((z7s ((z7s ((z7s ((z7s ((σ ++ [(102, 14)]) ++ [(5, xN 5)])) ++ [(5, xN 5)])) ++ [(5, xN 5)])) ++ [(5, xN 5)])) ++ [(5, xN 5)])) ++ [(5, xN 5)])) ++ [(5, xN 5)])) ++ [(5, xN 5)])) ++ [(5, xN 5)])) ++ [(5, xN 5)]) 72 5 := isO.nw hP
  refine x_dup (p2 := 40) rfl dX2_init_39 rfl ?_
  refine x_aload_n (p2 := 41) rfl dX2_init_40 rfl ?_
  refine x_i1 (p2 := 44) (mc := 4) (ms := 48) rfl dX2_init_41 (Or.inl l_2_24) ok_X7_init rfl rfl ⟨by decide, by decide⟩ ?_
  refine t_X7_init hN o47 hf (fun hN hf => ?_)
  have o0 := o0.z7a
  have a1 := a1.z7a
  have o2 := o2.z7a
  have o7 := o7.z7a
  have o12 := o12.z7a
  have o17 := o17.z7a
  have o22 := o22.z7a
  have o27 := o27.z7a
  have o32 := o32.z7a
  have o37 := o37.z7a
  have o42 := o42.z7a
  have o47 := o47.z7a
  refine x_aastA (p2 := 45) rfl dX2_init_44 a1 (by decide) (by decide) o47 hf (fun hf => ?_)
  refine x_iinc (p2 := 48) (L2 := [(0, _), (1, _), (2, _)]) rfl dX2_init_45 rfl ⟨by omega, by omega⟩ ⟨rfl, Nat.le_of_ble_eq_true rfl⟩ rfl ?_
  refine x_goto (t := 25) (by decide) dX2_init_48 ?_
  refine x_iload_n (p2 := 26) rfl dX2_init_25 rfl ?_
  refine x_bipush (p2 := 28) rfl dX2_init_26 ⟨by decide, ⟨by decide, by decide⟩⟩ ?_
  refine x_ic_ge (p2 := 31) (t := 51) (by decide) rfl dX2_init_28 (fun hc => absurd hc (by decide)) (fun _ => ?_)
  refine x_aload_n (p2 := 32) rfl dX2_init_31 rfl ?_
  refine x_getr (p2 := 35) (q := 26) (kz := 0) rfl dX2_init_32 f_2_11 rfl rfl o0.sh rfl ?_
  refine x_iload_n (p2 := 36) rfl dX2_init_35 rfl ?_
  have hP := hN
  refine x_newA (p2 := 39) (ci := 5) rfl dX2_init_36 k_2_9 hN hf ⟨by decide, by decide⟩ (fun hN hf => ?_)
  have o0 := o0.ap (x := (5, xN 5))
  have a1 := a1.ap (x := (5, xN 5))
  have o2 := o2.ap (x := (5, xN 5))
  have o7 := o7.ap (x := (5, xN 5))
  have o12 := o12.ap (x := (5, xN 5))
  have o17 := o17.ap (x := (5, xN 5))
  have o22 := o22.ap (x := (5, xN 5))
  have o27 := o27.ap (x := (5, xN 5))
  have o32 := o32.ap (x := (5, xN 5))
  have o37 := o37.ap (x := (5, xN 5))
  have o42 := o42.ap (x := (5, xN 5))
  have o47 := o47.ap (x := (5, xN 5))
  have o52 : isO ((z7s ((z7s ((z7s ((z7s ((z7s ((z7s ((z7s ((z7s ((z7s ((z7s ((σ ++ [(102, 14)]) ++ [(5, xN 5)])) ++ [(5, xN 5)])) ++ [(5, xN 5)])) ++ [(5, xN 5)])) ++ [(5, xN 5)])) ++ [(5, xN 5)])) ++ [(5, xN 5)])) ++ [(5, xN 5)])) ++ [(5, xN 5)])) ++ [(5, xN 5)])) ++ [(5, xN 5)]) 77 5 := isO.nw hP
  refine x_dup (p2 := 40) rfl dX2_init_39 rfl ?_
  refine x_aload_n (p2 := 41) rfl dX2_init_40 rfl ?_
  refine x_i1 (p2 := 44) (mc := 4) (ms := 48) rfl dX2_init_41 (Or.inl l_2_24) ok_X7_init rfl rfl ⟨by decide, by decide⟩ ?_
  refine t_X7_init hN o52 hf (fun hN hf => ?_)
  have o0 := o0.z7a
  have a1 := a1.z7a
  have o2 := o2.z7a
  have o7 := o7.z7a
  have o12 := o12.z7a
  have o17 := o17.z7a
  have o22 := o22.z7a
  have o27 := o27.z7a
  have o32 := o32.z7a
  have o37 := o37.z7a
  have o42 := o42.z7a
  have o47 := o47.z7a
  have o52 := o52.z7a
  refine x_aastA (p2 := 45) rfl dX2_init_44 a1 (by decide) (by decide) o52 hf (fun hf => ?_)
  refine x_iinc (p2 := 48) (L2 := [(0, _), (1, _), (2, _)]) rfl dX2_init_45 rfl ⟨by omega, by omega⟩ ⟨rfl, Nat.le_of_ble_eq_true rfl⟩ rfl ?_
  refine x_goto (t := 25) (by decide) dX2_init_48 ?_
  refine x_iload_n (p2 := 26) rfl dX2_init_25 rfl ?_
  refine x_bipush (p2 := 28) rfl dX2_init_26 ⟨by decide, ⟨by decide, by decide⟩⟩ ?_
  refine x_ic_ge (p2 := 31) (t := 51) (by decide) rfl dX2_init_28 (fun hc => absurd hc (by decide)) (fun _ => ?_)
  refine x_aload_n (p2 := 32) rfl dX2_init_31 rfl ?_
  refine x_getr (p2 := 35) (q := 26) (kz := 0) rfl dX2_init_32 f_2_11 rfl rfl o0.sh rfl ?_
  refine x_iload_n (p2 := 36) rfl dX2_init_35 rfl ?_
  have hP := hN
  refine x_newA (p2 := 39) (ci := 5) rfl dX2_init_36 k_2_9 hN hf ⟨by decide, by decide⟩ (fun hN hf => ?_)
  have o0 := o0.ap (x := (5, xN 5))
  have a1 := a1.ap (x := (5, xN 5))
  have o2 := o2.ap (x := (5, xN 5))
  have o7 := o7.ap (x := (5, xN 5))
  have o12 := o12.ap (x := (5, xN 5))
  have o17 := o17.ap (x := (5, xN 5))
  have o22 := o22.ap (x := (5, xN 5))
  have o27 := o27.ap (x := (5, xN 5))
  have o32 := o32.ap (x := (5, xN 5))
  have o37 := o37.ap (x := (5, xN 5))
  have o42 := o42.ap (x := (5, xN 5))
  have o47 := o47.ap (x := (5, xN 5))
  have o52 := o52.ap (x := (5, xN 5))
  have o57 : isO ((z7s ((z7s ((z7s ((z7s ((z7s ((z7s ((z7s ((z7s ((z7s ((z7s ((z7s ((σ ++ [(102, 14)]) ++ [(5, xN 5)])) ++ [(5, xN 5)])) ++ [(5, xN 5)])) ++ [(5, xN 5)])) ++ [(5, xN 5)])) ++ [(5, xN 5)])) ++ [(5, xN 5)])) ++ [(5, xN 5)])) ++ [(5, xN 5)])) ++ [(5, xN 5)])) ++ [(5, xN 5)])) ++ [(5, xN 5)]) 82 5 := isO.nw hP
  refine x_dup (p2 := 40) rfl dX2_init_39 rfl ?_
  refine x_aload_n (p2 := 41) rfl dX2_init_40 rfl ?_
  refine x_i1 (p2 := 44) (mc := 4) (ms := 48) rfl dX2_init_41 (Or.inl l_2_24) ok_X7_init rfl rfl ⟨by decide, by decide⟩ ?_
  refine t_X7_init hN o57 hf (fun hN hf => ?_)
  have o0 := o0.z7a
  have a1 := a1.z7a
  have o2 := o2.z7a
  have o7 := o7.z7a
  have o12 := o12.z7a
  have o17 := o17.z7a
  have o22 := o22.z7a
  have o27 := o27.z7a
  have o32 := o32.z7a
  have o37 := o37.z7a
  have o42 := o42.z7a
  have o47 := o47.z7a
  have o52 := o52.z7a
  have o57 := o57.z7a
  refine x_aastA (p2 := 45) rfl dX2_init_44 a1 (by decide) (by decide) o57 hf (fun hf => ?_)
  refine x_iinc (p2 := 48) (L2 := [(0, _), (1, _), (2, _)]) rfl dX2_init_45 rfl ⟨by omega, by omega⟩ ⟨rfl, Nat.le_of_ble_eq_true rfl⟩ rfl ?_
  refine x_goto (t := 25) (by decide) dX2_init_48 ?_
  refine x_iload_n (p2 := 26) rfl dX2_init_25 rfl ?_
  refine x_bipush (p2 := 28) rfl dX2_init_26 ⟨by decide, ⟨by decide, by decide⟩⟩ ?_
  refine x_ic_ge (p2 := 31) (t := 51) (by decide) rfl dX2_init_28 (fun hc => absurd hc (by decide)) (fun _ => ?_)
  refine x_aload_n (p2 := 32) rfl dX2_init_31 rfl ?_
  refine x_getr (p2 := 35) (q := 26) (kz := 0) rfl dX2_init_32 f_2_11 rfl rfl o0.sh rfl ?_
  refine x_iload_n (p2 := 36) rfl dX2_init_35 rfl ?_
  have hP := hN
  refine x_newA (p2 := 39) (ci := 5) rfl dX2_init_36 k_2_9 hN hf ⟨by decide, by decide⟩ (fun hN hf => ?_)
  have o0 := o0.ap (x := (5, xN 5))
  have a1 := a1.ap (x := (5, xN 5))
  have o2 := o2.ap (x := (5, xN 5))
  have o7 := o7.ap (x := (5, xN 5))
  have o12 := o12.ap (x := (5, xN 5))
  have o17 := o17.ap (x := (5, xN 5))
  have o22 := o22.ap (x := (5, xN 5))
  have o27 := o27.ap (x := (5, xN 5))
  have o32 := o32.ap (x := (5, xN 5))
  have o37 := o37.ap (x := (5, xN 5))
  have o42 := o42.ap (x := (5, xN 5))
  have o47 := o47.ap (x := (5, xN 5))
  have o52 := o52.ap (x := (5, xN 5))
  have o57 := o57.ap (x := (5, xN 5))
  have o62 : isO ((z7s ((z7s ((z7s ((z7s ((z7s ((z7s ((z7s ((z7s ((z7s ((z7s ((z7s ((z7s ((σ ++ [(102, 14)]) ++ [(5, xN 5)])) ++ [(5, xN 5)])) ++ [(5, xN 5)])) ++ [(5, xN 5)])) ++ [(5, xN 5)])) ++ [(5, xN 5)])) ++ [(5, xN 5)])) ++ [(5, xN 5)])) ++ [(5, xN 5)])) ++ [(5, xN 5)])) ++ [(5, xN 5)])) ++ [(5, xN 5)])) ++ [(5, xN 5)]) 87 5 := isO.nw hP
  refine x_dup (p2 := 40) rfl dX2_init_39 rfl ?_
  refine x_aload_n (p2 := 41) rfl dX2_init_40 rfl ?_
  refine x_i1 (p2 := 44) (mc := 4) (ms := 48) rfl dX2_init_41 (Or.inl l_2_24) ok_X7_init rfl rfl ⟨by decide, by decide⟩ ?_
  refine t_X7_init hN o62 hf (fun hN hf => ?_)
  have o0 := o0.z7a
  have a1 := a1.z7a
  have o2 := o2.z7a
  have o7 := o7.z7a
  have o12 := o12.z7a
  have o17 := o17.z7a
  have o22 := o22.z7a
  have o27 := o27.z7a
  have o32 := o32.z7a
  have o37 := o37.z7a
  have o42 := o42.z7a
  have o47 := o47.z7a
  have o52 := o52.z7a
  have o57 := o57.z7a
  have o62 := o62.z7a
  refine x_aastA (p2 := 45) rfl dX2_init_44 a1 (by decide) (by decide) o62 hf (fun hf => ?_)
  refine x_iinc (p2 := 48) (L2 := [(0, _), (1, _), (2, _)]) rfl dX2_init_45 rfl ⟨by omega, by omega⟩ ⟨rfl, Nat.le_of_ble_eq_true rfl⟩ rfl ?_
  refine x_goto (t := 25) (by decide) dX2_init_48 ?_
  refine x_iload_n (p2 := 26) rfl dX2_init_25 rfl ?_
  refine x_bipush (p2 := 28) rfl dX2_init_26 ⟨by decide, ⟨by decide, by decide⟩⟩ ?_
  refine x_ic_ge (p2 := 31) (t := 51) (by decide) rfl dX2_init_28 (fun hc => absurd hc (by decide)) (fun _ => ?_)
  refine x_aload_n (p2 := 32) rfl dX2_init_31 rfl ?_
  refine x_getr (p2 := 35) (q := 26) (kz := 0) rfl dX2_init_32 f_2_11 rfl rfl o0.sh rfl ?_
  refine x_iload_n (p2 := 36) rfl dX2_init_35 rfl ?_
  have hP := hN
  refine x_newA (p2 := 39) (ci := 5) rfl dX2_init_36 k_2_9 hN hf ⟨by decide, by decide⟩ (fun hN hf => ?_)
  have o0 := o0.ap (x := (5, xN 5))
  have a1 := a1.ap (x := (5, xN 5))
  have o2 := o2.ap (x := (5, xN 5))
  have o7 := o7.ap (x := (5, xN 5))
  have o12 := o12.ap (x := (5, xN 5))
  have o17 := o17.ap (x := (5, xN 5))
  have o22 := o22.ap (x := (5, xN 5))
  have o27 := o27.ap (x := (5, xN 5))
  have o32 := o32.ap (x := (5, xN 5))
  have o37 := o37.ap (x := (5, xN 5))
  have o42 := o42.ap (x := (5, xN 5))
  have o47 := o47.ap (x := (5, xN 5))
  have o52 := o52.ap (x := (5, xN 5))
  have o57 := o57.ap (x := (5, xN 5))
  have o62 := o62.ap (x := (5, xN 5))
  have o67 : isO ((z7s ((z7s ((z7s ((z7s ((z7s ((z7s ((z7s ((z7s ((z7s ((z7s ((z7s ((z7s ((z7s ((σ ++ [(102, 14)]) ++ [(5, xN 5)])) ++ [(5, xN 5)])) ++ [(5, xN 5)])) ++ [(5, xN 5)])) ++ [(5, xN 5)])) ++ [(5, xN 5)])) ++ [(5, xN 5)])) ++ [(5, xN 5)])) ++ [(5, xN 5)])) ++ [(5, xN 5)])) ++ [(5, xN 5)])) ++ [(5, xN 5)])) ++ [(5, xN 5)])) ++ [(5, xN 5)]) 92 5 := isO.nw hP
  refine x_dup (p2 := 40) rfl dX2_init_39 rfl ?_
  refine x_aload_n (p2 := 41) rfl dX2_init_40 rfl ?_
  refine x_i1 (p2 := 44) (mc := 4) (ms := 48) rfl dX2_init_41 (Or.inl l_2_24) ok_X7_init rfl rfl ⟨by decide, by decide⟩ ?_
  refine t_X7_init hN o67 hf (fun hN hf => ?_)
  have o0 := o0.z7a
  have a1 := a1.z7a
  have o2 := o2.z7a
  have o7 := o7.z7a
  have o12 := o12.z7a
  have o17 := o17.z7a
  have o22 := o22.z7a
  have o27 := o27.z7a
  have o32 := o32.z7a
  have o37 := o37.z7a
  have o42 := o42.z7a
  have o47 := o47.z7a
  have o52 := o52.z7a
  have o57 := o57.z7a
  have o62 := o62.z7a
  have o67 := o67.z7a
  refine x_aastA (p2 := 45) rfl dX2_init_44 a1 (by decide) (by decide) o67 hf (fun hf => ?_)
  refine x_iinc (p2 := 48) (L2 := [(0, _), (1, _), (2, _)]) rfl dX2_init_45 rfl ⟨by omega, by omega⟩ ⟨rfl, Nat.le_of_ble_eq_true rfl⟩ rfl ?_
  refine x_goto (t := 25) (by decide) dX2_init_48 ?_
  refine x_iload_n (p2 := 26) rfl dX2_init_25 rfl ?_
  refine x_bipush (p2 := 28) rfl dX2_init_26 ⟨by decide, ⟨by decide, by decide⟩⟩ ?_
  refine x_ic_ge (p2 := 31) (t := 51) (by decide) rfl dX2_init_28 (fun _ => ?_) (fun hc => absurd hc (by decide))
  refine x_vret dX2_init_51 rfl ?_
  exact hq hN hf
def z6s (σ : List (Nat × Nat)) : List (Nat × Nat) := ((z7s ((z1s (σ ++ [(1, xN 1)])) ++ [(5, xN 5)])) ++ [(100, 99)])
def z6r (ρ : Nat → Int → Option Nat) (_ : Nat) : Nat → Int → Option Nat := (xur (xur (z7r (xur (z1r ρ 98) 97 0 (some 98)) 100 98) 97 1 (some 100)) 97 2 (some 105))
def z6m (M : Nat → Int → Int) (_ : Nat) : Nat → Int → Int := (xu (xu (z7m (z1m M 98) 100) 97 3 0) 97 4 0)
theorem isO.z6a {r ci : Nat} (h : isO σ r ci) : isO (z6s σ) r ci := (((((h).ap).z1a).ap).z7a).ap
theorem isA.z6a {r k n : Nat} (h : isA σ r k n) : isA (z6s σ) r k n := (((((h).ap).z1a).ap).z7a).ap
set_option maxHeartbeats 4000000 in
theorem t_X6_init (hN : σ.length = 98) (o0 : isO σ 97 4) (hf : frh σ ρ M) (hq : (z6s σ).length = 106 → frh (z6s σ) (z6r ρ 97) (z6m M 97) → Q none (z6s σ, z6r ρ 97, z6m M 97)) : xX G mX6_init 8 165 0 [(0, xP 97)] [] (σ, ρ, M) Q := by
  refine x_aload_n (p2 := 1) rfl dX6_init_0 rfl ?_
  refine x_obj (p2 := 4) rfl dX6_init_1 w_6_3 w_oi2 w_oi3 ⟨Nat.le_of_ble_eq_true rfl, Nat.le_of_ble_eq_true rfl⟩ (Nat.le_of_ble_eq_true rfl) ?_
  refine x_aload_n (p2 := 5) rfl dX6_init_4 rfl ?_
  have hP := hN
  refine x_newA (p2 := 8) (ci := 1) rfl dX6_init_5 k_6_9 hN hf ⟨by decide, by decide⟩ (fun hN hf => ?_)
  have o0 := o0.ap (x := (1, xN 1))
  have o1 : isO (σ ++ [(1, xN 1)]) 98 1 := isO.nw hP
  refine x_dup (p2 := 9) rfl dX6_init_8 rfl ?_
  refine x_i0 (p2 := 12) (mc := 1) (ms := 8) rfl dX6_init_9 (Or.inr l_6_11) ok_X1_init rfl rfl ⟨by decide, by decide⟩ ?_
  refine t_X1_init hN o1 hf (fun hN hf => ?_)
  have o0 := o0.z1a
  have o1 := o1.z1a
  refine x_putFA (p2 := 15) (kz := 0) rfl dX6_init_12 f_6_12 rfl ⟨.int, Or.inr ⟨_, rfl⟩⟩ rfl rfl rfl rfl o0 hf (fun hf => ?_)
  refine x_aload_n (p2 := 16) rfl dX6_init_15 rfl ?_
  have hP := hN
  refine x_newA (p2 := 19) (ci := 5) rfl dX6_init_16 k_6_18 hN hf ⟨by decide, by decide⟩ (fun hN hf => ?_)
  have o0 := o0.ap (x := (5, xN 5))
  have o1 := o1.ap (x := (5, xN 5))
  have o3 : isO ((z1s (σ ++ [(1, xN 1)])) ++ [(5, xN 5)]) 100 5 := isO.nw hP
  refine x_dup (p2 := 20) rfl dX6_init_19 rfl ?_
  refine x_aload_n (p2 := 21) rfl dX6_init_20 rfl ?_
  refine x_getr (p2 := 24) (q := 98) (kz := 0) rfl dX6_init_21 f_6_12 rfl rfl o0.sh rfl ?_
  refine x_i1 (p2 := 27) (mc := 4) (ms := 48) rfl dX6_init_24 (Or.inl l_6_20) ok_X7_init rfl rfl ⟨by decide, by decide⟩ ?_
  refine t_X7_init hN o3 hf (fun hN hf => ?_)
  have o0 := o0.z7a
  have o1 := o1.z7a
  have o3 := o3.z7a
  refine x_putFA (p2 := 30) (kz := 1) rfl dX6_init_27 f_6_23 rfl ⟨.int, Or.inr ⟨_, rfl⟩⟩ rfl rfl rfl rfl o0 hf (fun hf => ?_)
  refine x_aload_n (p2 := 31) rfl dX6_init_30 rfl ?_
  refine x_bipush (p2 := 33) rfl dX6_init_31 ⟨by decide, ⟨by decide, by decide⟩⟩ ?_
  have hP := hN
  refine x_newiA (p2 := 35) (N' := 99) rfl dX6_init_33 w_ai rfl (by decide) hN hf ⟨by decide, by decide⟩ (fun hN hf => ?_)
  have o0 := o0.ap (x := (100, 99))
  have o1 := o1.ap (x := (100, 99))
  have o3 := o3.ap (x := (100, 99))
  have a8 : isA ((z7s ((z1s (σ ++ [(1, xN 1)])) ++ [(5, xN 5)])) ++ [(100, 99)]) 105 100 99 := isA.nw hP
  refine x_putFA (p2 := 38) (kz := 2) rfl dX6_init_35 f_6_27 rfl ⟨_, Or.inl rfl⟩ rfl rfl rfl rfl o0 hf (fun hf => ?_)
  refine x_aload_n (p2 := 39) rfl dX6_init_38 rfl ?_
  refine x_iconst (p2 := 40) rfl dX6_init_39 ⟨by decide, by decide⟩ ?_
  refine x_putiA (p2 := 43) (kz := 3) rfl dX6_init_40 f_6_31 rfl rfl rfl o0 hf (fun hf => ?_)
  refine x_aload_n (p2 := 44) rfl dX6_init_43 rfl ?_
  refine x_iconst (p2 := 45) rfl dX6_init_44 ⟨by decide, by decide⟩ ?_
  refine x_putiA (p2 := 48) (kz := 4) rfl dX6_init_45 f_6_35 rfl rfl rfl o0 hf (fun hf => ?_)
  refine x_vret dX6_init_48 rfl ?_
  exact hq hN hf
def z0s (σ : List (Nat × Nat)) : List (Nat × Nat) := (((σ ++ [(100, 8)]) ++ [(100, 8)]) ++ [(100, 16)])
def z0r (ρ : Nat → Int → Option Nat) (_ : Nat) : Nat → Int → Option Nat := (xur (xur (xur ρ 106 0 (some 107)) 106 1 (some 108)) 106 2 (some 109))
def z0m (M : Nat → Int → Int) (_ : Nat) : Nat → Int → Int := (xu (xu M 106 3 0) 106 4 0)
theorem isO.z0a {r ci : Nat} (h : isO σ r ci) : isO (z0s σ) r ci := (((h).ap).ap).ap
theorem isA.z0a {r k n : Nat} (h : isA σ r k n) : isA (z0s σ) r k n := (((h).ap).ap).ap
set_option maxHeartbeats 4000000 in
theorem t_X0_init (hN : σ.length = 107) (o0 : isO σ 106 0) (hf : frh σ ρ M) (hq : (z0s σ).length = 110 → frh (z0s σ) (z0r ρ 106) (z0m M 106) → Q none (z0s σ, z0r ρ 106, z0m M 106)) : xX G mX0_init 3 32 0 [(0, xP 106)] [] (σ, ρ, M) Q := by
  refine x_aload_n (p2 := 1) rfl dX0_init_0 rfl ?_
  refine x_obj (p2 := 4) rfl dX0_init_1 w_0_3 w_oi2 w_oi3 ⟨Nat.le_of_ble_eq_true rfl, Nat.le_of_ble_eq_true rfl⟩ (Nat.le_of_ble_eq_true rfl) ?_
  refine x_aload_n (p2 := 5) rfl dX0_init_4 rfl ?_
  refine x_bipush (p2 := 7) rfl dX0_init_5 ⟨by decide, ⟨by decide, by decide⟩⟩ ?_
  have hP := hN
  refine x_newiA (p2 := 9) (N' := 8) rfl dX0_init_7 w_ai rfl (by decide) hN hf ⟨by decide, by decide⟩ (fun hN hf => ?_)
  have o0 := o0.ap (x := (100, 8))
  have a1 : isA (σ ++ [(100, 8)]) 107 100 8 := isA.nw hP
  refine x_putFA (p2 := 12) (kz := 0) rfl dX0_init_9 f_0_9 rfl ⟨_, Or.inl rfl⟩ rfl rfl rfl rfl o0 hf (fun hf => ?_)
  refine x_aload_n (p2 := 13) rfl dX0_init_12 rfl ?_
  refine x_bipush (p2 := 15) rfl dX0_init_13 ⟨by decide, ⟨by decide, by decide⟩⟩ ?_
  have hP := hN
  refine x_newiA (p2 := 17) (N' := 8) rfl dX0_init_15 w_ai rfl (by decide) hN hf ⟨by decide, by decide⟩ (fun hN hf => ?_)
  have o0 := o0.ap (x := (100, 8))
  have a1 := a1.ap (x := (100, 8))
  have a2 : isA ((σ ++ [(100, 8)]) ++ [(100, 8)]) 108 100 8 := isA.nw hP
  refine x_putFA (p2 := 20) (kz := 1) rfl dX0_init_17 f_0_15 rfl ⟨_, Or.inl rfl⟩ rfl rfl rfl rfl o0 hf (fun hf => ?_)
  refine x_aload_n (p2 := 21) rfl dX0_init_20 rfl ?_
  refine x_bipush (p2 := 23) rfl dX0_init_21 ⟨by decide, ⟨by decide, by decide⟩⟩ ?_
  have hP := hN
  refine x_newiA (p2 := 25) (N' := 16) rfl dX0_init_23 w_ai rfl (by decide) hN hf ⟨by decide, by decide⟩ (fun hN hf => ?_)
  have o0 := o0.ap (x := (100, 16))
  have a1 := a1.ap (x := (100, 16))
  have a2 := a2.ap (x := (100, 16))
  have a3 : isA (((σ ++ [(100, 8)]) ++ [(100, 8)]) ++ [(100, 16)]) 109 100 16 := isA.nw hP
  refine x_putFA (p2 := 28) (kz := 2) rfl dX0_init_25 f_0_18 rfl ⟨_, Or.inl rfl⟩ rfl rfl rfl rfl o0 hf (fun hf => ?_)
  refine x_aload_n (p2 := 29) rfl dX0_init_28 rfl ?_
  refine x_iconst (p2 := 30) rfl dX0_init_29 ⟨by decide, by decide⟩ ?_
  refine x_putiA (p2 := 33) (kz := 3) rfl dX0_init_30 f_0_21 rfl rfl rfl o0 hf (fun hf => ?_)
  refine x_aload_n (p2 := 34) rfl dX0_init_33 rfl ?_
  refine x_iconst (p2 := 35) rfl dX0_init_34 ⟨by decide, by decide⟩ ?_
  refine x_putiA (p2 := 38) (kz := 4) rfl dX0_init_35 f_0_25 rfl rfl rfl o0 hf (fun hf => ?_)
  refine x_vret dX0_init_38 rfl ?_
  exact hq hN hf
def z3s (σ : List (Nat × Nat)) : List (Nat × Nat) := ((σ ++ [(100, 2048)]) ++ [(100, 72)])
def z3r (ρ : Nat → Int → Option Nat) (_ : Nat) : Nat → Int → Option Nat := (xur (xur ρ 110 0 (some 111)) 110 1 (some 112))
def z3m (M : Nat → Int → Int) (_ : Nat) : Nat → Int → Int := (xu M 110 2 0)
theorem isO.z3a {r ci : Nat} (h : isO σ r ci) : isO (z3s σ) r ci := ((h).ap).ap
theorem isA.z3a {r k n : Nat} (h : isA σ r k n) : isA (z3s σ) r k n := ((h).ap).ap
set_option maxHeartbeats 4000000 in
theorem t_X3_init (hN : σ.length = 111) (o0 : isO σ 110 3) (hf : frh σ ρ M) (hq : (z3s σ).length = 113 → frh (z3s σ) (z3r ρ 110) (z3m M 110) → Q none (z3s σ, z3r ρ 110, z3m M 110)) : xX G mX3_init 2 2120 0 [(0, xP 110)] [] (σ, ρ, M) Q := by
  refine x_aload_n (p2 := 1) rfl dX3_init_0 rfl ?_
  refine x_obj (p2 := 4) rfl dX3_init_1 w_3_3 w_oi2 w_oi3 ⟨Nat.le_of_ble_eq_true rfl, Nat.le_of_ble_eq_true rfl⟩ (Nat.le_of_ble_eq_true rfl) ?_
  refine x_aload_n (p2 := 5) rfl dX3_init_4 rfl ?_
  refine x_sipush (p2 := 8) rfl dX3_init_5 ⟨by decide, ⟨by decide, by decide⟩⟩ ?_
  have hP := hN
  refine x_newiA (p2 := 10) (N' := 2048) rfl dX3_init_8 w_ai rfl (by decide) hN hf ⟨by decide, by decide⟩ (fun hN hf => ?_)
  have o0 := o0.ap (x := (100, 2048))
  have a1 : isA (σ ++ [(100, 2048)]) 111 100 2048 := isA.nw hP
  refine x_putFA (p2 := 13) (kz := 0) rfl dX3_init_10 f_3_11 rfl ⟨_, Or.inl rfl⟩ rfl rfl rfl rfl o0 hf (fun hf => ?_)
  refine x_aload_n (p2 := 14) rfl dX3_init_13 rfl ?_
  refine x_bipush (p2 := 16) rfl dX3_init_14 ⟨by decide, ⟨by decide, by decide⟩⟩ ?_
  have hP := hN
  refine x_newiA (p2 := 18) (N' := 72) rfl dX3_init_16 w_ai rfl (by decide) hN hf ⟨by decide, by decide⟩ (fun hN hf => ?_)
  have o0 := o0.ap (x := (100, 72))
  have a1 := a1.ap (x := (100, 72))
  have a2 : isA ((σ ++ [(100, 2048)]) ++ [(100, 72)]) 112 100 72 := isA.nw hP
  refine x_putFA (p2 := 21) (kz := 1) rfl dX3_init_18 f_3_15 rfl ⟨_, Or.inl rfl⟩ rfl rfl rfl rfl o0 hf (fun hf => ?_)
  refine x_aload_n (p2 := 22) rfl dX3_init_21 rfl ?_
  refine x_iconst (p2 := 23) rfl dX3_init_22 ⟨by decide, by decide⟩ ?_
  refine x_putiA (p2 := 26) (kz := 2) rfl dX3_init_23 f_3_18 rfl rfl rfl o0 hf (fun hf => ?_)
  refine x_vret dX3_init_26 rfl ?_
  exact hq hN hf
def z9s (σ : List (Nat × Nat)) : List (Nat × Nat) := (z3s ((z0s ((z6s ((z2s (((z7s ((z7s (((z7s ((z7s ((z1s (σ ++ [(1, xN 1)])) ++ [(5, xN 5)])) ++ [(5, xN 5)])) ++ [(102, 2)]) ++ [(5, xN 5)])) ++ [(5, xN 5)])) ++ [(101, 2)]) ++ [(2, xN 2)])) ++ [(4, xN 4)])) ++ [(0, xN 0)])) ++ [(3, xN 3)]))
def z9r (ρ : Nat → Int → Option Nat) (_ : Nat) : Nat → Int → Option Nat := (xur (z3r (xur (z0r (xur (z6r (xur (z2r (xur (xur (z7r (xur (z7r (xur (xur (z7r (xur (z7r (xur (z1r ρ 1) 0 0 (some 1)) 3 1) 0 1 (some 3)) 8 1) 0 2 (some 8)) 0 3 (some 13)) 14 1) 13 0 (some 14)) 19 1) 13 (0 + 1) (some 19)) 0 4 (some 24)) 25 1) 0 5 (some 25)) 97) 0 6 (some 97)) 106) 0 7 (some 106)) 110) 0 8 (some 110))
def z9m (M : Nat → Int → Int) (_ : Nat) : Nat → Int → Int := (z3m (z0m (z6m (z2m (z7m (z7m (z7m (z7m (z1m M 1) 3) 8) 14) 19) 25) 97) 106) 110)
theorem isO.z9a {r ci : Nat} (h : isO σ r ci) : isO (z9s σ) r ci := ((((((((((((((((((((h).ap).z1a).ap).z7a).ap).z7a).ap).ap).z7a).ap).z7a).ap).ap).z2a).ap).z6a).ap).z0a).ap).z3a
theorem isA.z9a {r k n : Nat} (h : isA σ r k n) : isA (z9s σ) r k n := ((((((((((((((((((((h).ap).z1a).ap).z7a).ap).z7a).ap).ap).z7a).ap).z7a).ap).ap).z2a).ap).z6a).ap).z0a).ap).z3a
set_option maxHeartbeats 4000000 in
theorem t_X9_init (hN : σ.length = 1) (o0 : isO σ 0 6) (hf : frh σ ρ M) (hq : (z9s σ).length = 113 → frh (z9s σ) (z9r ρ 0) (z9m M 0) → Q none (z9s σ, z9r ρ 0, z9m M 0)) : xX G mX9_init 112 3352 0 [(0, xP 0)] [] (σ, ρ, M) Q := by
  refine x_aload_n (p2 := 1) rfl dX9_init_0 rfl ?_
  refine x_obj (p2 := 4) rfl dX9_init_1 w_9_3 w_oi2 w_oi3 ⟨Nat.le_of_ble_eq_true rfl, Nat.le_of_ble_eq_true rfl⟩ (Nat.le_of_ble_eq_true rfl) ?_
  refine x_aload_n (p2 := 5) rfl dX9_init_4 rfl ?_
  have hP := hN
  refine x_newA (p2 := 8) (ci := 1) rfl dX9_init_5 k_9_9 hN hf ⟨by decide, by decide⟩ (fun hN hf => ?_)
  have o0 := o0.ap (x := (1, xN 1))
  have o1 : isO (σ ++ [(1, xN 1)]) 1 1 := isO.nw hP
  refine x_dup (p2 := 9) rfl dX9_init_8 rfl ?_
  refine x_i0 (p2 := 12) (mc := 1) (ms := 8) rfl dX9_init_9 (Or.inr l_9_11) ok_X1_init rfl rfl ⟨by decide, by decide⟩ ?_
  refine t_X1_init hN o1 hf (fun hN hf => ?_)
  have o0 := o0.z1a
  have o1 := o1.z1a
  refine x_putFA (p2 := 15) (kz := 0) rfl dX9_init_12 f_9_12 rfl ⟨.int, Or.inr ⟨_, rfl⟩⟩ rfl rfl rfl rfl o0 hf (fun hf => ?_)
  refine x_aload_n (p2 := 16) rfl dX9_init_15 rfl ?_
  have hP := hN
  refine x_newA (p2 := 19) (ci := 5) rfl dX9_init_16 k_9_16 hN hf ⟨by decide, by decide⟩ (fun hN hf => ?_)
  have o0 := o0.ap (x := (5, xN 5))
  have o1 := o1.ap (x := (5, xN 5))
  have o3 : isO ((z1s (σ ++ [(1, xN 1)])) ++ [(5, xN 5)]) 3 5 := isO.nw hP
  refine x_dup (p2 := 20) rfl dX9_init_19 rfl ?_
  refine x_aload_n (p2 := 21) rfl dX9_init_20 rfl ?_
  refine x_getr (p2 := 24) (q := 1) (kz := 0) rfl dX9_init_21 f_9_12 rfl rfl o0.sh rfl ?_
  refine x_i1 (p2 := 27) (mc := 4) (ms := 48) rfl dX9_init_24 (Or.inl l_9_18) ok_X7_init rfl rfl ⟨by decide, by decide⟩ ?_
  refine t_X7_init hN o3 hf (fun hN hf => ?_)
  have o0 := o0.z7a
  have o1 := o1.z7a
  have o3 := o3.z7a
  refine x_putFA (p2 := 30) (kz := 1) rfl dX9_init_27 f_9_21 rfl ⟨.int, Or.inr ⟨_, rfl⟩⟩ rfl rfl rfl rfl o0 hf (fun hf => ?_)
  refine x_aload_n (p2 := 31) rfl dX9_init_30 rfl ?_
  have hP := hN
  refine x_newA (p2 := 34) (ci := 5) rfl dX9_init_31 k_9_16 hN hf ⟨by decide, by decide⟩ (fun hN hf => ?_)
  have o0 := o0.ap (x := (5, xN 5))
  have o1 := o1.ap (x := (5, xN 5))
  have o3 := o3.ap (x := (5, xN 5))
  have o8 : isO ((z7s ((z1s (σ ++ [(1, xN 1)])) ++ [(5, xN 5)])) ++ [(5, xN 5)]) 8 5 := isO.nw hP
  refine x_dup (p2 := 35) rfl dX9_init_34 rfl ?_
  refine x_aload_n (p2 := 36) rfl dX9_init_35 rfl ?_
  refine x_getr (p2 := 39) (q := 1) (kz := 0) rfl dX9_init_36 f_9_12 rfl rfl o0.sh rfl ?_
  refine x_i1 (p2 := 42) (mc := 4) (ms := 48) rfl dX9_init_39 (Or.inl l_9_18) ok_X7_init rfl rfl ⟨by decide, by decide⟩ ?_
  refine t_X7_init hN o8 hf (fun hN hf => ?_)
  have o0 := o0.z7a
  have o1 := o1.z7a
  have o3 := o3.z7a
  have o8 := o8.z7a
  refine x_putFA (p2 := 45) (kz := 2) rfl dX9_init_42 f_9_25 rfl ⟨.int, Or.inr ⟨_, rfl⟩⟩ rfl rfl rfl rfl o0 hf (fun hf => ?_)
  refine x_aload_n (p2 := 46) rfl dX9_init_45 rfl ?_
  refine x_iconst (p2 := 47) rfl dX9_init_46 ⟨by decide, by decide⟩ ?_
  have hP := hN
  refine x_newqA (p2 := 50) (N' := 2) rfl dX9_init_47 k_9_16.1 rfl (by decide) hN hf ⟨by decide, by decide⟩ (fun hN hf => ?_)
  have o0 := o0.ap (x := (102, 2))
  have o1 := o1.ap (x := (102, 2))
  have o3 := o3.ap (x := (102, 2))
  have o8 := o8.ap (x := (102, 2))
  have a13 : isA ((z7s ((z7s ((z1s (σ ++ [(1, xN 1)])) ++ [(5, xN 5)])) ++ [(5, xN 5)])) ++ [(102, 2)]) 13 102 2 := isA.nw hP
  refine x_putFA (p2 := 53) (kz := 3) rfl dX9_init_50 f_9_28 rfl ⟨_, Or.inl rfl⟩ rfl rfl rfl rfl o0 hf (fun hf => ?_)
  refine x_iconst (p2 := 54) rfl dX9_init_53 ⟨by decide, by decide⟩ ?_
  refine x_istore_n (p2 := 55) (i := 1) (L2 := [(0, _), (1, _)]) rfl dX9_init_54 rfl ⟨rfl, Nat.le_of_ble_eq_true rfl⟩ rfl ?_
  refine x_iload_n (p2 := 56) rfl dX9_init_55 rfl ?_
  refine x_iconst (p2 := 57) rfl dX9_init_56 ⟨by decide, by decide⟩ ?_
  refine x_ic_ge (p2 := 60) (t := 83) (by decide) rfl dX9_init_57 (fun hc => absurd hc (by decide)) (fun _ => ?_)
  refine x_aload_n (p2 := 61) rfl dX9_init_60 rfl ?_
  refine x_getr (p2 := 64) (q := 13) (kz := 3) rfl dX9_init_61 f_9_28 rfl rfl o0.sh rfl ?_
  refine x_iload_n (p2 := 65) rfl dX9_init_64 rfl ?_
  have hP := hN
  refine x_newA (p2 := 68) (ci := 5) rfl dX9_init_65 k_9_16 hN hf ⟨by decide, by decide⟩ (fun hN hf => ?_)
  have o0 := o0.ap (x := (5, xN 5))
  have o1 := o1.ap (x := (5, xN 5))
  have o3 := o3.ap (x := (5, xN 5))
  have o8 := o8.ap (x := (5, xN 5))
  have a13 := a13.ap (x := (5, xN 5))
  have o14 : isO (((z7s ((z7s ((z1s (σ ++ [(1, xN 1)])) ++ [(5, xN 5)])) ++ [(5, xN 5)])) ++ [(102, 2)]) ++ [(5, xN 5)]) 14 5 := isO.nw hP
  refine x_dup (p2 := 69) rfl dX9_init_68 rfl ?_
  refine x_aload_n (p2 := 70) rfl dX9_init_69 rfl ?_
  refine x_getr (p2 := 73) (q := 1) (kz := 0) rfl dX9_init_70 f_9_12 rfl rfl o0.sh rfl ?_
  refine x_i1 (p2 := 76) (mc := 4) (ms := 48) rfl dX9_init_73 (Or.inl l_9_18) ok_X7_init rfl rfl ⟨by decide, by decide⟩ ?_
  refine t_X7_init hN o14 hf (fun hN hf => ?_)
  have o0 := o0.z7a
  have o1 := o1.z7a
  have o3 := o3.z7a
  have o8 := o8.z7a
  have a13 := a13.z7a
  have o14 := o14.z7a
  refine x_aastA (p2 := 77) rfl dX9_init_76 a13 (by decide) (by decide) o14 hf (fun hf => ?_)
  refine x_iinc (p2 := 80) (L2 := [(0, _), (1, _)]) rfl dX9_init_77 rfl ⟨by omega, by omega⟩ ⟨rfl, Nat.le_of_ble_eq_true rfl⟩ rfl ?_
  refine x_goto (t := 55) (by decide) dX9_init_80 ?_
  refine x_iload_n (p2 := 56) rfl dX9_init_55 rfl ?_
  refine x_iconst (p2 := 57) rfl dX9_init_56 ⟨by decide, by decide⟩ ?_
  refine x_ic_ge (p2 := 60) (t := 83) (by decide) rfl dX9_init_57 (fun hc => absurd hc (by decide)) (fun _ => ?_)
  refine x_aload_n (p2 := 61) rfl dX9_init_60 rfl ?_
  refine x_getr (p2 := 64) (q := 13) (kz := 3) rfl dX9_init_61 f_9_28 rfl rfl o0.sh rfl ?_
  refine x_iload_n (p2 := 65) rfl dX9_init_64 rfl ?_
  have hP := hN
  refine x_newA (p2 := 68) (ci := 5) rfl dX9_init_65 k_9_16 hN hf ⟨by decide, by decide⟩ (fun hN hf => ?_)
  have o0 := o0.ap (x := (5, xN 5))
  have o1 := o1.ap (x := (5, xN 5))
  have o3 := o3.ap (x := (5, xN 5))
  have o8 := o8.ap (x := (5, xN 5))
  have a13 := a13.ap (x := (5, xN 5))
  have o14 := o14.ap (x := (5, xN 5))
  have o19 : isO ((z7s (((z7s ((z7s ((z1s (σ ++ [(1, xN 1)])) ++ [(5, xN 5)])) ++ [(5, xN 5)])) ++ [(102, 2)]) ++ [(5, xN 5)])) ++ [(5, xN 5)]) 19 5 := isO.nw hP
  refine x_dup (p2 := 69) rfl dX9_init_68 rfl ?_
  refine x_aload_n (p2 := 70) rfl dX9_init_69 rfl ?_
  refine x_getr (p2 := 73) (q := 1) (kz := 0) rfl dX9_init_70 f_9_12 rfl rfl o0.sh rfl ?_
  refine x_i1 (p2 := 76) (mc := 4) (ms := 48) rfl dX9_init_73 (Or.inl l_9_18) ok_X7_init rfl rfl ⟨by decide, by decide⟩ ?_
  refine t_X7_init hN o19 hf (fun hN hf => ?_)
  have o0 := o0.z7a
  have o1 := o1.z7a
  have o3 := o3.z7a
  have o8 := o8.z7a
  have a13 := a13.z7a
  have o14 := o14.z7a
  have o19 := o19.z7a
  refine x_aastA (p2 := 77) rfl dX9_init_76 a13 (by decide) (by decide) o19 hf (fun hf => ?_)
  refine x_iinc (p2 := 80) (L2 := [(0, _), (1, _)]) rfl dX9_init_77 rfl ⟨by omega, by omega⟩ ⟨rfl, Nat.le_of_ble_eq_true rfl⟩ rfl ?_
  refine x_goto (t := 55) (by decide) dX9_init_80 ?_
  refine x_iload_n (p2 := 56) rfl dX9_init_55 rfl ?_
  refine x_iconst (p2 := 57) rfl dX9_init_56 ⟨by decide, by decide⟩ ?_
  refine x_ic_ge (p2 := 60) (t := 83) (by decide) rfl dX9_init_57 (fun _ => ?_) (fun hc => absurd hc (by decide))
  refine x_aload_n (p2 := 84) rfl dX9_init_83 rfl ?_
  refine x_iconst (p2 := 85) rfl dX9_init_84 ⟨by decide, by decide⟩ ?_
  have hP := hN
  refine x_newzA (p2 := 87) (N' := 2) rfl dX9_init_85 w_az rfl (by decide) hN hf ⟨by decide, by decide⟩ (fun hN hf => ?_)
  have o0 := o0.ap (x := (101, 2))
  have o1 := o1.ap (x := (101, 2))
  have o3 := o3.ap (x := (101, 2))
  have o8 := o8.ap (x := (101, 2))
  have a13 := a13.ap (x := (101, 2))
  have o14 := o14.ap (x := (101, 2))
  have o19 := o19.ap (x := (101, 2))
  have a24 : isA ((z7s ((z7s (((z7s ((z7s ((z1s (σ ++ [(1, xN 1)])) ++ [(5, xN 5)])) ++ [(5, xN 5)])) ++ [(102, 2)]) ++ [(5, xN 5)])) ++ [(5, xN 5)])) ++ [(101, 2)]) 24 101 2 := isA.nw hP
  refine x_putFA (p2 := 90) (kz := 4) rfl dX9_init_87 f_9_32 rfl ⟨_, Or.inl rfl⟩ rfl rfl rfl rfl o0 hf (fun hf => ?_)
  refine x_aload_n (p2 := 91) rfl dX9_init_90 rfl ?_
  have hP := hN
  refine x_newA (p2 := 94) (ci := 2) rfl dX9_init_91 k_9_36 hN hf ⟨by decide, by decide⟩ (fun hN hf => ?_)
  have o0 := o0.ap (x := (2, xN 2))
  have o1 := o1.ap (x := (2, xN 2))
  have o3 := o3.ap (x := (2, xN 2))
  have o8 := o8.ap (x := (2, xN 2))
  have a13 := a13.ap (x := (2, xN 2))
  have o14 := o14.ap (x := (2, xN 2))
  have o19 := o19.ap (x := (2, xN 2))
  have a24 := a24.ap (x := (2, xN 2))
  have o25 : isO (((z7s ((z7s (((z7s ((z7s ((z1s (σ ++ [(1, xN 1)])) ++ [(5, xN 5)])) ++ [(5, xN 5)])) ++ [(102, 2)]) ++ [(5, xN 5)])) ++ [(5, xN 5)])) ++ [(101, 2)]) ++ [(2, xN 2)]) 25 2 := isO.nw hP
  refine x_dup (p2 := 95) rfl dX9_init_94 rfl ?_
  refine x_aload_n (p2 := 96) rfl dX9_init_95 rfl ?_
  refine x_getr (p2 := 99) (q := 1) (kz := 0) rfl dX9_init_96 f_9_12 rfl rfl o0.sh rfl ?_
  refine x_i1 (p2 := 102) (mc := 71) (ms := 784) rfl dX9_init_99 (Or.inl l_9_38) ok_X2_init rfl rfl ⟨by decide, by decide⟩ ?_
  refine t_X2_init hN o25 hf (fun hN hf => ?_)
  have o0 := o0.z2a
  have o1 := o1.z2a
  have o3 := o3.z2a
  have o8 := o8.z2a
  have a13 := a13.z2a
  have o14 := o14.z2a
  have o19 := o19.z2a
  have a24 := a24.z2a
  have o25 := o25.z2a
  refine x_putFA (p2 := 105) (kz := 5) rfl dX9_init_102 f_9_39 rfl ⟨.int, Or.inr ⟨_, rfl⟩⟩ rfl rfl rfl rfl o0 hf (fun hf => ?_)
  refine x_aload_n (p2 := 106) rfl dX9_init_105 rfl ?_
  have hP := hN
  refine x_newA (p2 := 109) (ci := 4) rfl dX9_init_106 k_9_43 hN hf ⟨by decide, by decide⟩ (fun hN hf => ?_)
  have o0 := o0.ap (x := (4, xN 4))
  have o1 := o1.ap (x := (4, xN 4))
  have o3 := o3.ap (x := (4, xN 4))
  have o8 := o8.ap (x := (4, xN 4))
  have a13 := a13.ap (x := (4, xN 4))
  have o14 := o14.ap (x := (4, xN 4))
  have o19 := o19.ap (x := (4, xN 4))
  have a24 := a24.ap (x := (4, xN 4))
  have o25 := o25.ap (x := (4, xN 4))
  have o97 : isO ((z2s (((z7s ((z7s (((z7s ((z7s ((z1s (σ ++ [(1, xN 1)])) ++ [(5, xN 5)])) ++ [(5, xN 5)])) ++ [(102, 2)]) ++ [(5, xN 5)])) ++ [(5, xN 5)])) ++ [(101, 2)]) ++ [(2, xN 2)])) ++ [(4, xN 4)]) 97 4 := isO.nw hP
  refine x_dup (p2 := 110) rfl dX9_init_109 rfl ?_
  refine x_i0 (p2 := 113) (mc := 8) (ms := 165) rfl dX9_init_110 (Or.inr l_9_45) ok_X6_init rfl rfl ⟨by decide, by decide⟩ ?_
  refine t_X6_init hN o97 hf (fun hN hf => ?_)
  have o0 := o0.z6a
  have o1 := o1.z6a
  have o3 := o3.z6a
  have o8 := o8.z6a
  have a13 := a13.z6a
  have o14 := o14.z6a
  have o19 := o19.z6a
  have a24 := a24.z6a
  have o25 := o25.z6a
  have o97 := o97.z6a
  refine x_putFA (p2 := 116) (kz := 6) rfl dX9_init_113 f_9_46 rfl ⟨.int, Or.inr ⟨_, rfl⟩⟩ rfl rfl rfl rfl o0 hf (fun hf => ?_)
  refine x_aload_n (p2 := 117) rfl dX9_init_116 rfl ?_
  have hP := hN
  refine x_newA (p2 := 120) (ci := 0) rfl dX9_init_117 k_9_50 hN hf ⟨by decide, by decide⟩ (fun hN hf => ?_)
  have o0 := o0.ap (x := (0, xN 0))
  have o1 := o1.ap (x := (0, xN 0))
  have o3 := o3.ap (x := (0, xN 0))
  have o8 := o8.ap (x := (0, xN 0))
  have a13 := a13.ap (x := (0, xN 0))
  have o14 := o14.ap (x := (0, xN 0))
  have o19 := o19.ap (x := (0, xN 0))
  have a24 := a24.ap (x := (0, xN 0))
  have o25 := o25.ap (x := (0, xN 0))
  have o97 := o97.ap (x := (0, xN 0))
  have o106 : isO ((z6s ((z2s (((z7s ((z7s (((z7s ((z7s ((z1s (σ ++ [(1, xN 1)])) ++ [(5, xN 5)])) ++ [(5, xN 5)])) ++ [(102, 2)]) ++ [(5, xN 5)])) ++ [(5, xN 5)])) ++ [(101, 2)]) ++ [(2, xN 2)])) ++ [(4, xN 4)])) ++ [(0, xN 0)]) 106 0 := isO.nw hP
  refine x_dup (p2 := 121) rfl dX9_init_120 rfl ?_
  refine x_i0 (p2 := 124) (mc := 3) (ms := 32) rfl dX9_init_121 (Or.inr l_9_52) ok_X0_init rfl rfl ⟨by decide, by decide⟩ ?_
  refine t_X0_init hN o106 hf (fun hN hf => ?_)
  have o0 := o0.z0a
  have o1 := o1.z0a
  have o3 := o3.z0a
  have o8 := o8.z0a
  have a13 := a13.z0a
  have o14 := o14.z0a
  have o19 := o19.z0a
  have a24 := a24.z0a
  have o25 := o25.z0a
  have o97 := o97.z0a
  have o106 := o106.z0a
  refine x_putFA (p2 := 127) (kz := 7) rfl dX9_init_124 f_9_53 rfl ⟨.int, Or.inr ⟨_, rfl⟩⟩ rfl rfl rfl rfl o0 hf (fun hf => ?_)
  refine x_aload_n (p2 := 128) rfl dX9_init_127 rfl ?_
  have hP := hN
  refine x_newA (p2 := 131) (ci := 3) rfl dX9_init_128 k_9_57 hN hf ⟨by decide, by decide⟩ (fun hN hf => ?_)
  have o0 := o0.ap (x := (3, xN 3))
  have o1 := o1.ap (x := (3, xN 3))
  have o3 := o3.ap (x := (3, xN 3))
  have o8 := o8.ap (x := (3, xN 3))
  have a13 := a13.ap (x := (3, xN 3))
  have o14 := o14.ap (x := (3, xN 3))
  have o19 := o19.ap (x := (3, xN 3))
  have a24 := a24.ap (x := (3, xN 3))
  have o25 := o25.ap (x := (3, xN 3))
  have o97 := o97.ap (x := (3, xN 3))
  have o106 := o106.ap (x := (3, xN 3))
  have o110 : isO ((z0s ((z6s ((z2s (((z7s ((z7s (((z7s ((z7s ((z1s (σ ++ [(1, xN 1)])) ++ [(5, xN 5)])) ++ [(5, xN 5)])) ++ [(102, 2)]) ++ [(5, xN 5)])) ++ [(5, xN 5)])) ++ [(101, 2)]) ++ [(2, xN 2)])) ++ [(4, xN 4)])) ++ [(0, xN 0)])) ++ [(3, xN 3)]) 110 3 := isO.nw hP
  refine x_dup (p2 := 132) rfl dX9_init_131 rfl ?_
  refine x_i0 (p2 := 135) (mc := 2) (ms := 2120) rfl dX9_init_132 (Or.inr l_9_59) ok_X3_init rfl rfl ⟨by decide, by decide⟩ ?_
  refine t_X3_init hN o110 hf (fun hN hf => ?_)
  have o0 := o0.z3a
  have o1 := o1.z3a
  have o3 := o3.z3a
  have o8 := o8.z3a
  have a13 := a13.z3a
  have o14 := o14.z3a
  have o19 := o19.z3a
  have a24 := a24.z3a
  have o25 := o25.z3a
  have o97 := o97.z3a
  have o106 := o106.z3a
  have o110 := o110.z3a
  refine x_putFA (p2 := 138) (kz := 8) rfl dX9_init_135 f_9_60 rfl ⟨.int, Or.inr ⟨_, rfl⟩⟩ rfl rfl rfl rfl o0 hf (fun hf => ?_)
  refine x_vret dX9_init_138 rfl ?_
  exact hq hN hf
def z10s (σ : List (Nat × Nat)) : List (Nat × Nat) := ((((((((((((((σ ++ [(100, 99)]) ++ [(100, 8)]) ++ [(100, 50)]) ++ [(100, 50)]) ++ [(100, 50)]) ++ [(100, 700)]) ++ [(100, 100)]) ++ [(101, 2)]) ++ [(100, 8)]) ++ [(100, 50)]) ++ [(100, 8)]) ++ [(100, 8)]) ++ [(101, 8)]) ++ [(100, 8)])
def z10r (ρ : Nat → Int → Option Nat) (_ : Nat) : Nat → Int → Option Nat := (xur (xur (xur (xur (xur (xur (xur (xur (xur (xur (xur (xur (xur (xur ρ 113 0 (some 114)) 113 3 (some 115)) 113 5 (some 116)) 113 6 (some 117)) 113 7 (some 118)) 113 8 (some 119)) 113 11 (some 120)) 113 12 (some 121)) 113 16 (some 122)) 113 17 (some 123)) 113 18 (some 124)) 113 19 (some 125)) 113 20 (some 126)) 113 21 (some 127))
def z10m (M : Nat → Int → Int) (_ : Nat) : Nat → Int → Int := (xu (xu (xu M 113 2 1) 116 0 1) 116 1 1)
theorem isO.z10a {r ci : Nat} (h : isO σ r ci) : isO (z10s σ) r ci := ((((((((((((((h).ap).ap).ap).ap).ap).ap).ap).ap).ap).ap).ap).ap).ap).ap
theorem isA.z10a {r k n : Nat} (h : isA σ r k n) : isA (z10s σ) r k n := ((((((((((((((h).ap).ap).ap).ap).ap).ap).ap).ap).ap).ap).ap).ap).ap).ap
set_option maxHeartbeats 4000000 in
theorem t_X10_init (hN : σ.length = 114) (o0 : isO σ 113 7) (hf : frh σ ρ M) (hq : (z10s σ).length = 128 → frh (z10s σ) (z10r ρ 113) (z10m M 113) → Q none (z10s σ, z10r ρ 113, z10m M 113)) : xX G mX10_init 14 1149 0 [(0, xP 113)] [] (σ, ρ, M) Q := by
  refine x_aload_n (p2 := 1) rfl dX10_init_0 rfl ?_
  refine x_obj (p2 := 4) rfl dX10_init_1 w_10_1 w_oi2 w_oi3 ⟨Nat.le_of_ble_eq_true rfl, Nat.le_of_ble_eq_true rfl⟩ (Nat.le_of_ble_eq_true rfl) ?_
  refine x_aload_n (p2 := 5) rfl dX10_init_4 rfl ?_
  refine x_bipush (p2 := 7) rfl dX10_init_5 ⟨by decide, ⟨by decide, by decide⟩⟩ ?_
  have hP := hN
  refine x_newiA (p2 := 9) (N' := 99) rfl dX10_init_7 w_ai rfl (by decide) hN hf ⟨by decide, by decide⟩ (fun hN hf => ?_)
  have o0 := o0.ap (x := (100, 99))
  have a1 : isA (σ ++ [(100, 99)]) 114 100 99 := isA.nw hP
  refine x_putFA (p2 := 12) (kz := 0) rfl dX10_init_9 f_10_7 rfl ⟨_, Or.inl rfl⟩ rfl rfl rfl rfl o0 hf (fun hf => ?_)
  refine x_aload_n (p2 := 13) rfl dX10_init_12 rfl ?_
  refine x_bipush (p2 := 15) rfl dX10_init_13 ⟨by decide, ⟨by decide, by decide⟩⟩ ?_
  have hP := hN
  refine x_newiA (p2 := 17) (N' := 8) rfl dX10_init_15 w_ai rfl (by decide) hN hf ⟨by decide, by decide⟩ (fun hN hf => ?_)
  have o0 := o0.ap (x := (100, 8))
  have a1 := a1.ap (x := (100, 8))
  have a2 : isA ((σ ++ [(100, 99)]) ++ [(100, 8)]) 115 100 8 := isA.nw hP
  refine x_putFA (p2 := 20) (kz := 3) rfl dX10_init_17 f_10_13 rfl ⟨_, Or.inl rfl⟩ rfl rfl rfl rfl o0 hf (fun hf => ?_)
  refine x_aload_n (p2 := 21) rfl dX10_init_20 rfl ?_
  refine x_bipush (p2 := 23) rfl dX10_init_21 ⟨by decide, ⟨by decide, by decide⟩⟩ ?_
  have hP := hN
  refine x_newiA (p2 := 25) (N' := 50) rfl dX10_init_23 w_ai rfl (by decide) hN hf ⟨by decide, by decide⟩ (fun hN hf => ?_)
  have o0 := o0.ap (x := (100, 50))
  have a1 := a1.ap (x := (100, 50))
  have a2 := a2.ap (x := (100, 50))
  have a3 : isA (((σ ++ [(100, 99)]) ++ [(100, 8)]) ++ [(100, 50)]) 116 100 50 := isA.nw hP
  refine x_putFA (p2 := 28) (kz := 5) rfl dX10_init_25 f_10_16 rfl ⟨_, Or.inl rfl⟩ rfl rfl rfl rfl o0 hf (fun hf => ?_)
  refine x_aload_n (p2 := 29) rfl dX10_init_28 rfl ?_
  refine x_bipush (p2 := 31) rfl dX10_init_29 ⟨by decide, ⟨by decide, by decide⟩⟩ ?_
  have hP := hN
  refine x_newiA (p2 := 33) (N' := 50) rfl dX10_init_31 w_ai rfl (by decide) hN hf ⟨by decide, by decide⟩ (fun hN hf => ?_)
  have o0 := o0.ap (x := (100, 50))
  have a1 := a1.ap (x := (100, 50))
  have a2 := a2.ap (x := (100, 50))
  have a3 := a3.ap (x := (100, 50))
  have a4 : isA ((((σ ++ [(100, 99)]) ++ [(100, 8)]) ++ [(100, 50)]) ++ [(100, 50)]) 117 100 50 := isA.nw hP
  refine x_putFA (p2 := 36) (kz := 6) rfl dX10_init_33 f_10_19 rfl ⟨_, Or.inl rfl⟩ rfl rfl rfl rfl o0 hf (fun hf => ?_)
  refine x_aload_n (p2 := 37) rfl dX10_init_36 rfl ?_
  refine x_bipush (p2 := 39) rfl dX10_init_37 ⟨by decide, ⟨by decide, by decide⟩⟩ ?_
  have hP := hN
  refine x_newiA (p2 := 41) (N' := 50) rfl dX10_init_39 w_ai rfl (by decide) hN hf ⟨by decide, by decide⟩ (fun hN hf => ?_)
  have o0 := o0.ap (x := (100, 50))
  have a1 := a1.ap (x := (100, 50))
  have a2 := a2.ap (x := (100, 50))
  have a3 := a3.ap (x := (100, 50))
  have a4 := a4.ap (x := (100, 50))
  have a5 : isA (((((σ ++ [(100, 99)]) ++ [(100, 8)]) ++ [(100, 50)]) ++ [(100, 50)]) ++ [(100, 50)]) 118 100 50 := isA.nw hP
  refine x_putFA (p2 := 44) (kz := 7) rfl dX10_init_41 f_10_22 rfl ⟨_, Or.inl rfl⟩ rfl rfl rfl rfl o0 hf (fun hf => ?_)
  refine x_aload_n (p2 := 45) rfl dX10_init_44 rfl ?_
  refine x_sipush (p2 := 48) rfl dX10_init_45 ⟨by decide, ⟨by decide, by decide⟩⟩ ?_
  have hP := hN
  refine x_newiA (p2 := 50) (N' := 700) rfl dX10_init_48 w_ai rfl (by decide) hN hf ⟨by decide, by decide⟩ (fun hN hf => ?_)
  have o0 := o0.ap (x := (100, 700))
  have a1 := a1.ap (x := (100, 700))
  have a2 := a2.ap (x := (100, 700))
  have a3 := a3.ap (x := (100, 700))
  have a4 := a4.ap (x := (100, 700))
  have a5 := a5.ap (x := (100, 700))
  have a6 : isA ((((((σ ++ [(100, 99)]) ++ [(100, 8)]) ++ [(100, 50)]) ++ [(100, 50)]) ++ [(100, 50)]) ++ [(100, 700)]) 119 100 700 := isA.nw hP
  refine x_putFA (p2 := 53) (kz := 8) rfl dX10_init_50 f_10_25 rfl ⟨_, Or.inl rfl⟩ rfl rfl rfl rfl o0 hf (fun hf => ?_)
  refine x_aload_n (p2 := 54) rfl dX10_init_53 rfl ?_
  refine x_bipush (p2 := 56) rfl dX10_init_54 ⟨by decide, ⟨by decide, by decide⟩⟩ ?_
  have hP := hN
  refine x_newiA (p2 := 58) (N' := 100) rfl dX10_init_56 w_ai rfl (by decide) hN hf ⟨by decide, by decide⟩ (fun hN hf => ?_)
  have o0 := o0.ap (x := (100, 100))
  have a1 := a1.ap (x := (100, 100))
  have a2 := a2.ap (x := (100, 100))
  have a3 := a3.ap (x := (100, 100))
  have a4 := a4.ap (x := (100, 100))
  have a5 := a5.ap (x := (100, 100))
  have a6 := a6.ap (x := (100, 100))
  have a7 : isA (((((((σ ++ [(100, 99)]) ++ [(100, 8)]) ++ [(100, 50)]) ++ [(100, 50)]) ++ [(100, 50)]) ++ [(100, 700)]) ++ [(100, 100)]) 120 100 100 := isA.nw hP
  refine x_putFA (p2 := 61) (kz := 11) rfl dX10_init_58 f_10_28 rfl ⟨_, Or.inl rfl⟩ rfl rfl rfl rfl o0 hf (fun hf => ?_)
  refine x_aload_n (p2 := 62) rfl dX10_init_61 rfl ?_
  refine x_iconst (p2 := 63) rfl dX10_init_62 ⟨by decide, by decide⟩ ?_
  have hP := hN
  refine x_newzA (p2 := 65) (N' := 2) rfl dX10_init_63 w_az rfl (by decide) hN hf ⟨by decide, by decide⟩ (fun hN hf => ?_)
  have o0 := o0.ap (x := (101, 2))
  have a1 := a1.ap (x := (101, 2))
  have a2 := a2.ap (x := (101, 2))
  have a3 := a3.ap (x := (101, 2))
  have a4 := a4.ap (x := (101, 2))
  have a5 := a5.ap (x := (101, 2))
  have a6 := a6.ap (x := (101, 2))
  have a7 := a7.ap (x := (101, 2))
  have a8 : isA ((((((((σ ++ [(100, 99)]) ++ [(100, 8)]) ++ [(100, 50)]) ++ [(100, 50)]) ++ [(100, 50)]) ++ [(100, 700)]) ++ [(100, 100)]) ++ [(101, 2)]) 121 101 2 := isA.nw hP
  refine x_putFA (p2 := 68) (kz := 12) rfl dX10_init_65 f_10_31 rfl ⟨_, Or.inl rfl⟩ rfl rfl rfl rfl o0 hf (fun hf => ?_)
  refine x_aload_n (p2 := 69) rfl dX10_init_68 rfl ?_
  refine x_bipush (p2 := 71) rfl dX10_init_69 ⟨by decide, ⟨by decide, by decide⟩⟩ ?_
  have hP := hN
  refine x_newiA (p2 := 73) (N' := 8) rfl dX10_init_71 w_ai rfl (by decide) hN hf ⟨by decide, by decide⟩ (fun hN hf => ?_)
  have o0 := o0.ap (x := (100, 8))
  have a1 := a1.ap (x := (100, 8))
  have a2 := a2.ap (x := (100, 8))
  have a3 := a3.ap (x := (100, 8))
  have a4 := a4.ap (x := (100, 8))
  have a5 := a5.ap (x := (100, 8))
  have a6 := a6.ap (x := (100, 8))
  have a7 := a7.ap (x := (100, 8))
  have a8 := a8.ap (x := (100, 8))
  have a9 : isA (((((((((σ ++ [(100, 99)]) ++ [(100, 8)]) ++ [(100, 50)]) ++ [(100, 50)]) ++ [(100, 50)]) ++ [(100, 700)]) ++ [(100, 100)]) ++ [(101, 2)]) ++ [(100, 8)]) 122 100 8 := isA.nw hP
  refine x_putFA (p2 := 76) (kz := 16) rfl dX10_init_73 f_10_35 rfl ⟨_, Or.inl rfl⟩ rfl rfl rfl rfl o0 hf (fun hf => ?_)
  refine x_aload_n (p2 := 77) rfl dX10_init_76 rfl ?_
  refine x_bipush (p2 := 79) rfl dX10_init_77 ⟨by decide, ⟨by decide, by decide⟩⟩ ?_
  have hP := hN
  refine x_newiA (p2 := 81) (N' := 50) rfl dX10_init_79 w_ai rfl (by decide) hN hf ⟨by decide, by decide⟩ (fun hN hf => ?_)
  have o0 := o0.ap (x := (100, 50))
  have a1 := a1.ap (x := (100, 50))
  have a2 := a2.ap (x := (100, 50))
  have a3 := a3.ap (x := (100, 50))
  have a4 := a4.ap (x := (100, 50))
  have a5 := a5.ap (x := (100, 50))
  have a6 := a6.ap (x := (100, 50))
  have a7 := a7.ap (x := (100, 50))
  have a8 := a8.ap (x := (100, 50))
  have a9 := a9.ap (x := (100, 50))
  have a10 : isA ((((((((((σ ++ [(100, 99)]) ++ [(100, 8)]) ++ [(100, 50)]) ++ [(100, 50)]) ++ [(100, 50)]) ++ [(100, 700)]) ++ [(100, 100)]) ++ [(101, 2)]) ++ [(100, 8)]) ++ [(100, 50)]) 123 100 50 := isA.nw hP
  refine x_putFA (p2 := 84) (kz := 17) rfl dX10_init_81 f_10_38 rfl ⟨_, Or.inl rfl⟩ rfl rfl rfl rfl o0 hf (fun hf => ?_)
  refine x_aload_n (p2 := 85) rfl dX10_init_84 rfl ?_
  refine x_bipush (p2 := 87) rfl dX10_init_85 ⟨by decide, ⟨by decide, by decide⟩⟩ ?_
  have hP := hN
  refine x_newiA (p2 := 89) (N' := 8) rfl dX10_init_87 w_ai rfl (by decide) hN hf ⟨by decide, by decide⟩ (fun hN hf => ?_)
  have o0 := o0.ap (x := (100, 8))
  have a1 := a1.ap (x := (100, 8))
  have a2 := a2.ap (x := (100, 8))
  have a3 := a3.ap (x := (100, 8))
  have a4 := a4.ap (x := (100, 8))
  have a5 := a5.ap (x := (100, 8))
  have a6 := a6.ap (x := (100, 8))
  have a7 := a7.ap (x := (100, 8))
  have a8 := a8.ap (x := (100, 8))
  have a9 := a9.ap (x := (100, 8))
  have a10 := a10.ap (x := (100, 8))
  have a11 : isA (((((((((((σ ++ [(100, 99)]) ++ [(100, 8)]) ++ [(100, 50)]) ++ [(100, 50)]) ++ [(100, 50)]) ++ [(100, 700)]) ++ [(100, 100)]) ++ [(101, 2)]) ++ [(100, 8)]) ++ [(100, 50)]) ++ [(100, 8)]) 124 100 8 := isA.nw hP
  refine x_putFA (p2 := 92) (kz := 18) rfl dX10_init_89 f_10_41 rfl ⟨_, Or.inl rfl⟩ rfl rfl rfl rfl o0 hf (fun hf => ?_)
  refine x_aload_n (p2 := 93) rfl dX10_init_92 rfl ?_
  refine x_bipush (p2 := 95) rfl dX10_init_93 ⟨by decide, ⟨by decide, by decide⟩⟩ ?_
  have hP := hN
  refine x_newiA (p2 := 97) (N' := 8) rfl dX10_init_95 w_ai rfl (by decide) hN hf ⟨by decide, by decide⟩ (fun hN hf => ?_)
  have o0 := o0.ap (x := (100, 8))
  have a1 := a1.ap (x := (100, 8))
  have a2 := a2.ap (x := (100, 8))
  have a3 := a3.ap (x := (100, 8))
  have a4 := a4.ap (x := (100, 8))
  have a5 := a5.ap (x := (100, 8))
  have a6 := a6.ap (x := (100, 8))
  have a7 := a7.ap (x := (100, 8))
  have a8 := a8.ap (x := (100, 8))
  have a9 := a9.ap (x := (100, 8))
  have a10 := a10.ap (x := (100, 8))
  have a11 := a11.ap (x := (100, 8))
  have a12 : isA ((((((((((((σ ++ [(100, 99)]) ++ [(100, 8)]) ++ [(100, 50)]) ++ [(100, 50)]) ++ [(100, 50)]) ++ [(100, 700)]) ++ [(100, 100)]) ++ [(101, 2)]) ++ [(100, 8)]) ++ [(100, 50)]) ++ [(100, 8)]) ++ [(100, 8)]) 125 100 8 := isA.nw hP
  refine x_putFA (p2 := 100) (kz := 19) rfl dX10_init_97 f_10_44 rfl ⟨_, Or.inl rfl⟩ rfl rfl rfl rfl o0 hf (fun hf => ?_)
  refine x_aload_n (p2 := 101) rfl dX10_init_100 rfl ?_
  refine x_bipush (p2 := 103) rfl dX10_init_101 ⟨by decide, ⟨by decide, by decide⟩⟩ ?_
  have hP := hN
  refine x_newzA (p2 := 105) (N' := 8) rfl dX10_init_103 w_az rfl (by decide) hN hf ⟨by decide, by decide⟩ (fun hN hf => ?_)
  have o0 := o0.ap (x := (101, 8))
  have a1 := a1.ap (x := (101, 8))
  have a2 := a2.ap (x := (101, 8))
  have a3 := a3.ap (x := (101, 8))
  have a4 := a4.ap (x := (101, 8))
  have a5 := a5.ap (x := (101, 8))
  have a6 := a6.ap (x := (101, 8))
  have a7 := a7.ap (x := (101, 8))
  have a8 := a8.ap (x := (101, 8))
  have a9 := a9.ap (x := (101, 8))
  have a10 := a10.ap (x := (101, 8))
  have a11 := a11.ap (x := (101, 8))
  have a12 := a12.ap (x := (101, 8))
  have a13 : isA (((((((((((((σ ++ [(100, 99)]) ++ [(100, 8)]) ++ [(100, 50)]) ++ [(100, 50)]) ++ [(100, 50)]) ++ [(100, 700)]) ++ [(100, 100)]) ++ [(101, 2)]) ++ [(100, 8)]) ++ [(100, 50)]) ++ [(100, 8)]) ++ [(100, 8)]) ++ [(101, 8)]) 126 101 8 := isA.nw hP
  refine x_putFA (p2 := 108) (kz := 20) rfl dX10_init_105 f_10_47 rfl ⟨_, Or.inl rfl⟩ rfl rfl rfl rfl o0 hf (fun hf => ?_)
  refine x_aload_n (p2 := 109) rfl dX10_init_108 rfl ?_
  refine x_bipush (p2 := 111) rfl dX10_init_109 ⟨by decide, ⟨by decide, by decide⟩⟩ ?_
  have hP := hN
  refine x_newiA (p2 := 113) (N' := 8) rfl dX10_init_111 w_ai rfl (by decide) hN hf ⟨by decide, by decide⟩ (fun hN hf => ?_)
  have o0 := o0.ap (x := (100, 8))
  have a1 := a1.ap (x := (100, 8))
  have a2 := a2.ap (x := (100, 8))
  have a3 := a3.ap (x := (100, 8))
  have a4 := a4.ap (x := (100, 8))
  have a5 := a5.ap (x := (100, 8))
  have a6 := a6.ap (x := (100, 8))
  have a7 := a7.ap (x := (100, 8))
  have a8 := a8.ap (x := (100, 8))
  have a9 := a9.ap (x := (100, 8))
  have a10 := a10.ap (x := (100, 8))
  have a11 := a11.ap (x := (100, 8))
  have a12 := a12.ap (x := (100, 8))
  have a13 := a13.ap (x := (100, 8))
  have a14 : isA ((((((((((((((σ ++ [(100, 99)]) ++ [(100, 8)]) ++ [(100, 50)]) ++ [(100, 50)]) ++ [(100, 50)]) ++ [(100, 700)]) ++ [(100, 100)]) ++ [(101, 2)]) ++ [(100, 8)]) ++ [(100, 50)]) ++ [(100, 8)]) ++ [(100, 8)]) ++ [(101, 8)]) ++ [(100, 8)]) 127 100 8 := isA.nw hP
  refine x_putFA (p2 := 116) (kz := 21) rfl dX10_init_113 f_10_50 rfl ⟨_, Or.inl rfl⟩ rfl rfl rfl rfl o0 hf (fun hf => ?_)
  refine x_aload_n (p2 := 117) rfl dX10_init_116 rfl ?_
  refine x_iconst (p2 := 118) rfl dX10_init_117 ⟨by decide, by decide⟩ ?_
  refine x_putiA (p2 := 121) (kz := 2) rfl dX10_init_118 f_10_53 rfl rfl rfl o0 hf (fun hf => ?_)
  refine x_aload_n (p2 := 122) rfl dX10_init_121 rfl ?_
  refine x_getr (p2 := 125) (q := 116) (kz := 5) rfl dX10_init_122 f_10_16 rfl rfl o0.sh rfl ?_
  refine x_iconst (p2 := 126) rfl dX10_init_125 ⟨by decide, by decide⟩ ?_
  refine x_iconst (p2 := 127) rfl dX10_init_126 ⟨by decide, by decide⟩ ?_
  refine x_iastA (p2 := 128) rfl dX10_init_127 a3 (by decide) (by decide) hf (fun hf => ?_)
  refine x_aload_n (p2 := 129) rfl dX10_init_128 rfl ?_
  refine x_getr (p2 := 132) (q := 116) (kz := 5) rfl dX10_init_129 f_10_16 rfl rfl o0.sh rfl ?_
  refine x_iconst (p2 := 133) rfl dX10_init_132 ⟨by decide, by decide⟩ ?_
  refine x_iconst (p2 := 134) rfl dX10_init_133 ⟨by decide, by decide⟩ ?_
  refine x_iastA (p2 := 135) rfl dX10_init_134 a3 (by decide) (by decide) hf (fun hf => ?_)
  refine x_vret dX10_init_135 rfl ?_
  exact hq hN hf
end XNW
