section XH
variable {G : xG} {y : xM} {bc bs pc p2 : Nat} {L L2 : List (Nat × xV)} {S : List xV} {σ : List (Nat × Nat)} {ρ : Nat → Int → Option Nat} {M : Nat → Int → Int} {Q : Option xV → xH → Prop}
theorem xfs_at {k ci n j : Nat} (h : j < n) : (xfs G ρ M k ci n)[j]? = some (xfv G ρ M k ci j) := by
  unfold xfs
  rw [List.getElem?_map, List.getElem?_range h]; rfl
theorem xfs_len {k ci n : Nat} : (xfs G ρ M k ci n).length = n := by simp [xfs]
theorem xcl_obj {k ci n : Nat} (h : ci < 8) : xcl G ρ M k (ci, n) = .inr (ci, xfs G ρ M k ci n) := by
  unfold xcl
  rw [if_neg (show ¬ ci = 100 by omega), if_neg (show ¬ ci = 101 by omega), if_neg (show ¬ ci = 102 by omega)]
theorem xcl_i {k n : Nat} : xcl G ρ M k (100, n) = .inl (G.2.1.1, n, .inl (fun j => Int32.ofInt (M k j))) := rfl
theorem xcl_z {k n : Nat} : xcl G ρ M k (101, n) = .inl (G.2.1.2.1, n, .inl (fun j => Int32.ofInt (M k j))) := rfl
theorem xcl_q {k n : Nat} : xcl G ρ M k (102, n) = .inl (G.2.1.2.2, n, .inr (.inr (.inr (.inr (fun j => xrf G (ρ k j)))))) := rfl
/-- a field that is a number -/
theorem x_geti {i ci k r : Nat} {kz : Int} (e2 : pc + 3 = p2) (d : decode (xcd y) pc = .ok (.getfield i, 3)) (hf : xFl (xow y) i ci k) (hi : xfr ci k = false) (ez : (k : Int) = kz) (hs : σ[r]? = some (ci, xN ci)) (kk : xX G y bc bs p2 L (xI (M r kz) :: S) (σ, ρ, M) Q) : xX G y bc bs pc L (xP r :: S) (σ, ρ, M) Q := by
  subst e2
  subst ez
  intro p l e R s m args below meth c H locs cells slots ls QF C hl hL hS hR hV hc hsl hret
  obtain ⟨hv, hS⟩ := xc_1 hS
  have C2 := C
  obtain ⟨hx, hb, hml, hr, hlk, hnm, hown, hts, hne, hao, hfr, hlo, hK, hX⟩ := C2
  refine va_get (D := G.1) (cl := vwCl) (T := xTb ci) (C := xC ci) (N := xN ci) (ci := ci) (fs := xfs G ρ M r ci (xN ci)) hx hb hts (fun w hw => xW_in.mpr (xin_ok hf.2.2 w hw)) hown hK hR.1 r (by rw [← xcl_obj hf.2.2]; exact xws_at hs) (xcl_at hf.2.2) k hf.2.1 (hts _ (xW_in.mpr hf.1)) (fun _ h9 => h9) (xfs_at hf.2.1) d ?_
  have e3 : xfv G ρ M r ci k = .int (Int32.ofInt (M r k)) := by unfold xfv; rw [hi]; rfl
  rw [e3]
  exact kk p l e R s m args below meth c H locs cells slots ls QF C hl hL (List.forall_mem_cons.mpr ⟨hR.2 r k, hS⟩) hR hV hc hsl hret
/-- a field that is a reference -/
theorem x_getr {i ci k r q : Nat} {kz : Int} (e2 : pc + 3 = p2) (d : decode (xcd y) pc = .ok (.getfield i, 3)) (hf : xFl (xow y) i ci k) (hi : xfr ci k = true) (ez : (k : Int) = kz) (hs : σ[r]? = some (ci, xN ci)) (hq : ρ r kz = some q) (kk : xX G y bc bs p2 L (xP q :: S) (σ, ρ, M) Q) : xX G y bc bs pc L (xP r :: S) (σ, ρ, M) Q := by
  subst e2
  subst ez
  intro p l e R s m args below meth c H locs cells slots ls QF C hl hL hS hR hV hc hsl hret
  obtain ⟨hv, hS⟩ := xc_1 hS
  have C2 := C
  obtain ⟨hx, hb, hml, hr, hlk, hnm, hown, hts, hne, hao, hfr, hlo, hK, hX⟩ := C2
  refine va_get (D := G.1) (cl := vwCl) (T := xTb ci) (C := xC ci) (N := xN ci) (ci := ci) (fs := xfs G ρ M r ci (xN ci)) hx hb hts (fun w hw => xW_in.mpr (xin_ok hf.2.2 w hw)) hown hK hR.1 r (by rw [← xcl_obj hf.2.2]; exact xws_at hs) (xcl_at hf.2.2) k hf.2.1 (hts _ (xW_in.mpr hf.1)) (fun _ h9 => h9) (xfs_at hf.2.1) d ?_
  have e3 : xfv G ρ M r ci k = .ref (gB G + q) := by unfold xfv; rw [hi, hq]; rfl
  rw [e3]
  exact kk p l e R s m args below meth c H locs cells slots ls QF C hl hL (List.forall_mem_cons.mpr ⟨trivial, hS⟩) hR hV hc hsl hret
theorem xfs_seti {k ci n j : Nat} {v : Int} (h : xfr ci j = false) (hj : j < n) : (xfs G ρ M k ci n).set j (.int (Int32.ofInt v)) = xfs G ρ (xu M k j v) k ci n := by
  apply List.ext_getElem?
  intro i
  by_cases hi : i = j
  · subst hi
    rw [List.getElem?_set_self (by rw [xfs_len]; exact hj), xfs_at hj]
    unfold xfv xu
    rw [h]; simp
  · rw [List.getElem?_set_ne (Ne.symm hi)]
    by_cases hl : i < n
    · rw [xfs_at hl, xfs_at hl]
      unfold xfv xu
      have : ¬ ((i : Int) = (j : Int)) := by omega
      simp [this]
    · rw [List.getElem?_eq_none (by rw [xfs_len]; omega), List.getElem?_eq_none (by rw [xfs_len]; omega)]
theorem xfs_setr {k ci n j q : Nat} (h : xfr ci j = true) (hj : j < n) : (xfs G ρ M k ci n).set j (.ref (gB G + q)) = xfs G (xur ρ k j (some q)) M k ci n := by
  apply List.ext_getElem?
  intro i
  by_cases hi : i = j
  · subst hi
    rw [List.getElem?_set_self (by rw [xfs_len]; exact hj), xfs_at hj]
    unfold xfv xur
    rw [h]; simp [xrf, va_rf]
  · rw [List.getElem?_set_ne (Ne.symm hi)]
    by_cases hl : i < n
    · rw [xfs_at hl, xfs_at hl]
      unfold xfv xur
      have : ¬ ((i : Int) = (j : Int)) := by omega
      simp [this]
    · rw [List.getElem?_eq_none (by rw [xfs_len]; omega), List.getElem?_eq_none (by rw [xfs_len]; omega)]
theorem xu_ne {k a : Nat} {j v : Int} (h : a ≠ k) : M a = xu M k j v a := by
  funext b; unfold xu; rw [if_neg (fun z => h z.1)]
theorem xur_ne {k a : Nat} {j : Int} {v : Option Nat} (h : a ≠ k) : ρ a = xur ρ k j v a := by
  funext b; unfold xur; rw [if_neg (fun z => h z.1)]
theorem xu_in {k : Nat} {j v : Int} (hv : xin v) (h : ∀ k j, xin (M k j)) : ∀ a b, xin (xu M k j v a b) := by
  intro a b; unfold xu; split
  · exact hv
  · exact h a b
theorem xfr_int {ci k : Nat} (h : xfr ci k = false) : xTy ci k = .int := by
  unfold xfr at h
  split at h
  · assumption
  · cases h
theorem xfr_fit {ci k : Nat} (h : ∃ t, xTy ci k = .array t ∨ ∃ n, xTy ci k = .object n) (q : Nat) : narrow (xTy ci k) (.ref q) = .ref q ∧ fits (xTy ci k) (.ref q) = true := by
  obtain ⟨t, h | ⟨n, h⟩⟩ := h <;> rw [h] <;> exact ⟨rfl, rfl⟩
theorem x_puti {i ci k r : Nat} {v kz : Int} (e2 : pc + 3 = p2) (d : decode (xcd y) pc = .ok (.putfield i, 3)) (hf : xFl (xow y) i ci k) (hi : xfr ci k = false) (hfin : (xTb ci k).2.2.2 = false) (ez : (k : Int) = kz) (hs : σ[r]? = some (ci, xN ci)) (kk : xX G y bc bs p2 L S (σ, ρ, xu M r kz v) Q) : xX G y bc bs pc L (xI v :: xP r :: S) (σ, ρ, M) Q := by
  subst e2
  subst ez
  intro p l e R s m args below meth c H locs cells slots ls QF C hl hL hS hR hV hc hsl hret
  obtain ⟨hv, hS⟩ := xc_1 hS
  obtain ⟨-, hS⟩ := xc_1 hS
  have C2 := C
  obtain ⟨hx, hb, hml, hr, hlk, hnm, hown, hts, hne, hao, hfr, hlo, hK, hX⟩ := C2
  have hat : (xws G σ ρ M)[r]? = some (gB G + r, .inr (ci, xfs G ρ M r ci (xN ci))) := by rw [← xcl_obj hf.2.2]; exact xws_at hs
  refine va_put (D := G.1) (cl := vwCl) (T := xTb ci) (C := xC ci) (N := xN ci) (ci := ci) (fs := xfs G ρ M r ci (xN ci)) (v := .int (Int32.ofInt v)) (ty := .int) hx hb hts (fun w hw => xW_in.mpr (xin_ok hf.2.2 w hw)) (xTy ci) (xty_ok hf.2.2) (xnm_ok hf.2.2) hown hK hR.1 (xws_D G σ ρ M) hV r hat (xcl_at hf.2.2) k hf.2.1 (hts _ (xW_in.mpr hf.1)) (fun _ h9 => h9) hfin (by rw [xty_ok hf.2.2 k hf.2.1, xfr_int hi]) rfl rfl (by rw [xfs_len]; exact hf.2.1) d (fun H1 locs1 hP1 _ hS1 => ?_)
  rw [xfs_seti hi hf.2.1, ← xcl_obj hf.2.2, ← xws_set hs (fun _ _ => rfl) (fun a ha => xu_ne ha)] at hP1
  exact kk p l e R s m args below meth c H1 locs1 cells slots ls QF C hl hL hS ⟨hP1, xu_in hv hR.2⟩ hS1 hc hsl hret
/-- a final field, in the constructor -/
theorem x_putF {i ci k r q : Nat} {kz : Int} (e2 : pc + 3 = p2) (d : decode (xcd y) pc = .ok (.putfield i, 3)) (hf : xFl (xow y) i ci k) (hi : xfr ci k = true) (ht : ∃ t, xTy ci k = .array t ∨ ∃ n, xTy ci k = .object n) (hfin : (xTb ci k).2.2.2 = true) (hin : (xnm y).name = "<init>") (hd : (xTb ci k).1 = xR (xow y)) (ez : (k : Int) = kz) (hs : σ[r]? = some (ci, xN ci)) (kk : xX G y bc bs p2 L S (σ, xur ρ r kz (some q), M) Q) : xX G y bc bs pc L (xP q :: xP r :: S) (σ, ρ, M) Q := by
  subst e2
  subst ez
  intro p l e R s m args below meth c H locs cells slots ls QF C hl hL hS hR hV hc hsl hret
  obtain ⟨hv, hS⟩ := xc_1 hS
  obtain ⟨-, hS⟩ := xc_1 hS
  have C2 := C
  obtain ⟨hx, hb, hml, hr, hlk, hnm, hown, hts, hne, hao, hfr, hlo, hK, hX⟩ := C2
  have hat : (xws G σ ρ M)[r]? = some (gB G + r, .inr (ci, xfs G ρ M r ci (xN ci))) := by rw [← xcl_obj hf.2.2]; exact xws_at hs
  refine va_putF (D := G.1) (cl := vwCl) (T := xTb ci) (C := xC ci) (N := xN ci) (ci := ci) (fs := xfs G ρ M r ci (xN ci)) (v := .ref (gB G + q)) (ty := xTy ci k) hx hb hts (fun w hw => xW_in.mpr (xin_ok hf.2.2 w hw)) (xTy ci) (xty_ok hf.2.2) (xnm_ok hf.2.2) hown hK hR.1 (xws_D G σ ρ M) hV r hat (xcl_at hf.2.2) k hf.2.1 (hts _ (xW_in.mpr hf.1)) (fun _ h9 => h9) hfin (hnm hin) hd (xty_ok hf.2.2 k hf.2.1) (xfr_fit ht _).1 (xfr_fit ht _).2 (by rw [xfs_len]; exact hf.2.1) d (fun H1 locs1 hP1 _ hS1 => ?_)
  rw [xfs_setr hi hf.2.1, ← xcl_obj hf.2.2, ← xws_set hs (fun a ha => xur_ne ha) (fun _ _ => rfl)] at hP1
  exact kk p l e R s m args below meth c H1 locs1 cells slots ls QF C hl hL hS ⟨hP1, hR.2⟩ hS1 hc hsl hret
/-- arrays of numbers -/
theorem x_iald {r n : Nat} {i : Int} (e2 : pc + 1 = p2) (d : decode (xcd y) pc = .ok (.iaload, 1)) (hs : σ[r]? = some (100, n)) (h0 : 0 ≤ i) (h1 : i < n) (kk : xX G y bc bs p2 L (xI (M r i) :: S) (σ, ρ, M) Q) : xX G y bc bs pc L (xI i :: xP r :: S) (σ, ρ, M) Q := by
  subst e2
  intro p l e R s m args below meth c H locs cells slots ls QF C hl hL hS hR hV hc hsl hret
  obtain ⟨hv, hS⟩ := xc_1 hS
  obtain ⟨-, hS⟩ := xc_1 hS
  refine va_iald (D := G.1) (cl := vwCl) (tys := gtys G) C.1 C.2.1 C.2.2.2.2.2.2.2.2.2.2.2.2.1 hR.1 r 0 (by rw [← xcl_i]; exact xws_at hs) rfl (xi_in hv h0 h1) d ?_
  rw [xi_nat hv, Int.toNat_of_nonneg h0]
  exact kk p l e R s m args below meth c H locs cells slots ls QF C hl hL (List.forall_mem_cons.mpr ⟨hR.2 r i, hS⟩) hR hV hc hsl hret
theorem x_zald {r n : Nat} {i : Int} (e2 : pc + 1 = p2) (d : decode (xcd y) pc = .ok (.baload, 1)) (hs : σ[r]? = some (101, n)) (h0 : 0 ≤ i) (h1 : i < n) (kk : xX G y bc bs p2 L (xI (M r i) :: S) (σ, ρ, M) Q) : xX G y bc bs pc L (xI i :: xP r :: S) (σ, ρ, M) Q := by
  subst e2
  intro p l e R s m args below meth c H locs cells slots ls QF C hl hL hS hR hV hc hsl hret
  obtain ⟨hv, hS⟩ := xc_1 hS
  obtain ⟨-, hS⟩ := xc_1 hS
  refine va_zald (D := G.1) (cl := vwCl) (tys := gtys G) C.1 C.2.1 C.2.2.2.2.2.2.2.2.2.2.2.2.1 hR.1 r 1 (by rw [← xcl_z]; exact xws_at hs) rfl (xi_in hv h0 h1) d ?_
  rw [xi_nat hv, Int.toNat_of_nonneg h0]
  exact kk p l e R s m args below meth c H locs cells slots ls QF C hl hL (List.forall_mem_cons.mpr ⟨hR.2 r i, hS⟩) hR hV hc hsl hret
theorem x_aald {r n q : Nat} {i : Int} (e2 : pc + 1 = p2) (d : decode (xcd y) pc = .ok (.aaload, 1)) (hs : σ[r]? = some (102, n)) (h0 : 0 ≤ i) (h1 : i < n) (hq : ρ r i = some q) (kk : xX G y bc bs p2 L (xP q :: S) (σ, ρ, M) Q) : xX G y bc bs pc L (xI i :: xP r :: S) (σ, ρ, M) Q := by
  subst e2
  intro p l e R s m args below meth c H locs cells slots ls QF C hl hL hS hR hV hc hsl hret
  obtain ⟨hv, hS⟩ := xc_1 hS
  obtain ⟨-, hS⟩ := xc_1 hS
  refine va_aldq (D := G.1) (cl := vwCl) (tys := gtys G) (C := RX7) C.1 C.2.1 C.2.2.2.2.2.2.2.2.2.2.2.2.1 hR.1 r 2 (by rw [← xcl_q]; exact xws_at hs) rfl (xi_in hv h0 h1) d ?_
  have hq' : (σ, ρ, M).snd.fst r i = some q := hq
  rw [xi_nat hv, Int.toNat_of_nonneg h0, hq']
  exact kk p l e R s m args below meth c H locs cells slots ls QF C hl hL (List.forall_mem_cons.mpr ⟨trivial, hS⟩) hR hV hc hsl hret
theorem xupd {k : Nat} {i v : Int} (h0 : 0 ≤ i) : upd (fun j : Nat => Int32.ofInt (M k j)) i.toNat (Int32.ofInt v) = (fun j : Nat => Int32.ofInt (xu M k i v k j)) := by
  funext j
  unfold upd xu
  by_cases h : j = i.toNat
  · rw [if_pos h, if_pos ⟨rfl, by omega⟩]
  · rw [if_neg h, if_neg (fun z => h (by have := z.2; omega))]
theorem x_iast {r n : Nat} {i v : Int} (e2 : pc + 1 = p2) (d : decode (xcd y) pc = .ok (.iastore, 1)) (hs : σ[r]? = some (100, n)) (h0 : 0 ≤ i) (h1 : i < n) (kk : xX G y bc bs p2 L S (σ, ρ, xu M r i v) Q) : xX G y bc bs pc L (xI v :: xI i :: xP r :: S) (σ, ρ, M) Q := by
  subst e2
  intro p l e R s m args below meth c H locs cells slots ls QF C hl hL hS hR hV hc hsl hret
  obtain ⟨hw, hS⟩ := xc_1 hS
  obtain ⟨hv, hS⟩ := xc_1 hS
  obtain ⟨-, hS⟩ := xc_1 hS
  refine va_iast (D := G.1) (cl := vwCl) (tys := gtys G) (x := Int32.ofInt v) C.1 C.2.1 C.2.2.2.2.2.2.2.2.2.2.2.2.1 hR.1 (xws_D G σ ρ M) hV r 0 (by rw [← xcl_i]; exact xws_at hs) rfl (xi_in hv h0 h1) d (fun H1 locs1 hP1 _ hS1 => ?_)
  rw [xi_nat hv, xupd h0, ← xcl_i (ρ := ρ), ← xws_set hs (fun _ _ => rfl) (fun a ha => xu_ne ha)] at hP1
  exact kk p l e R s m args below meth c H1 locs1 cells slots ls QF C hl hL hS ⟨hP1, xu_in hw hR.2⟩ hS1 hc hsl hret
theorem xnarz {v : Int} (h : v = 0 ∨ v = 1) : vp_nar .boolean (Int32.ofInt v) = Int32.ofInt v := by
  rcases h with rfl | rfl <;> rfl
theorem x_zast {r n : Nat} {i v : Int} (e2 : pc + 1 = p2) (d : decode (xcd y) pc = .ok (.bastore, 1)) (hs : σ[r]? = some (101, n)) (h0 : 0 ≤ i) (h1 : i < n) (h2 : v = 0 ∨ v = 1) (kk : xX G y bc bs p2 L S (σ, ρ, xu M r i v) Q) : xX G y bc bs pc L (xI v :: xI i :: xP r :: S) (σ, ρ, M) Q := by
  subst e2
  intro p l e R s m args below meth c H locs cells slots ls QF C hl hL hS hR hV hc hsl hret
  obtain ⟨hw, hS⟩ := xc_1 hS
  obtain ⟨hv, hS⟩ := xc_1 hS
  obtain ⟨-, hS⟩ := xc_1 hS
  refine va_zast (D := G.1) (cl := vwCl) (tys := gtys G) (x := Int32.ofInt v) C.1 C.2.1 C.2.2.2.2.2.2.2.2.2.2.2.2.1 hR.1 (xws_D G σ ρ M) hV r 1 (by rw [← xcl_z]; exact xws_at hs) rfl (xi_in hv h0 h1) d (fun H1 locs1 hP1 _ hS1 => ?_)
  rw [xi_nat hv, xnarz h2, xupd h0, ← xcl_z (ρ := ρ), ← xws_set hs (fun _ _ => rfl) (fun a ha => xu_ne ha)] at hP1
  exact kk p l e R s m args below meth c H1 locs1 cells slots ls QF C hl hL hS ⟨hP1, xu_in hw hR.2⟩ hS1 hc hsl hret
theorem xupq {k q : Nat} {i : Int} (h0 : 0 ≤ i) : va_up (fun j : Nat => xrf G (ρ k j)) i.toNat (some (gB G + q)) = (fun j : Nat => xrf G (xur ρ k i (some q) k j)) := by
  funext j
  unfold va_up xur
  by_cases h : j = i.toNat
  · rw [if_pos h, if_pos ⟨rfl, by omega⟩]; rfl
  · rw [if_neg h, if_neg (fun z => h (by have := z.2; omega))]
/-- an object of class State into an array of them -/
theorem x_aast {r n q : Nat} {i : Int} (e2 : pc + 1 = p2) (d : decode (xcd y) pc = .ok (.aastore, 1)) (hs : σ[r]? = some (102, n)) (h0 : 0 ≤ i) (h1 : i < n) (hq : σ[q]? = some (5, xN 5)) (kk : xX G y bc bs p2 L S (σ, xur ρ r i (some q), M) Q) : xX G y bc bs pc L (xP q :: xI i :: xP r :: S) (σ, ρ, M) Q := by
  subst e2
  intro p l e R s m args below meth c H locs cells slots ls QF C hl hL hS hR hV hc hsl hret
  obtain ⟨-, hS⟩ := xc_1 hS
  obtain ⟨hv, hS⟩ := xc_1 hS
  obtain ⟨-, hS⟩ := xc_1 hS
  refine va_astq (D := G.1) (cl := vwCl) (tys := gtys G) (r := (RX7, TX7, 7)) C.1 C.2.1 C.2.2.2.2.2.2.2.2.2.2.2.2.1 hR.1 (xws_D G σ ρ M) hV r 2 q 5 (v := gB G + q) (vs := xfs G ρ M q 5 (xN 5)) (by rw [← xcl_q]; exact xws_at hs) rfl (by rw [← xcl_obj (by decide)]; exact xws_at hq) rfl (xi_in hv h0 h1) d (fun H1 locs1 hP1 _ hS1 => ?_)
  rw [xi_nat hv, xupq h0, ← xcl_q (M := M), ← xws_set hs (fun a ha => xur_ne ha) (fun _ _ => rfl)] at hP1
  exact kk p l e R s m args below meth c H1 locs1 cells slots ls QF C hl hL hS ⟨hP1, hR.2⟩ hS1 hc hsl hret
/-- the script -/
theorem x_sld {i : Int} (e2 : pc + 1 = p2) (d : decode (xcd y) pc = .ok (.iaload, 1)) (h0 : 0 ≤ i) (h1 : i < gN G) (kk : xX G y bc bs p2 L (xI (gx G i.toNat).toInt :: S) (σ, ρ, M) Q) : xX G y bc bs pc L (xI i :: xS :: S) (σ, ρ, M) Q := by
  subst e2
  intro p l e R s m args below meth c H locs cells slots ls QF C hl hL hS hR hV hc hsl hret
  obtain ⟨hv, hS⟩ := xc_1 hS
  obtain ⟨-, hS⟩ := xc_1 hS
  have C2 := C
  obtain ⟨hx, hb, hml, hr, hlk, hnm, hown, hts, hne, hao, hfr, hlo, hK, hX, hb1, hb2⟩ := C2
  refine va_sld hx hb hX (Nat.lt_of_lt_of_le hb1 hb2) (Nat.not_le.mpr hb1) hV (xi_in hv h0 h1) d ?_
  rw [xi_nat hv]
  have e3 : gx G i.toNat = Int32.ofInt (gx G i.toNat).toInt := (Int32.ofInt_toInt _).symm
  rw [e3]
  exact kk p l e R s m args below meth c H locs cells slots ls QF C hl hL (List.forall_mem_cons.mpr ⟨x32 _, hS⟩) hR hV hc hsl hret
theorem x_slen (e2 : pc + 1 = p2) (d : decode (xcd y) pc = .ok (.arraylength, 1)) (hN : gN G ≤ 2048) (kk : xX G y bc bs p2 L (xI (gN G) :: S) (σ, ρ, M) Q) : xX G y bc bs pc L (xS :: S) (σ, ρ, M) Q := by
  subst e2
  intro p l e R s m args below meth c H locs cells slots ls QF C hl hL hS hR hV hc hsl hret
  obtain ⟨-, hS⟩ := xc_1 hS
  have C2 := C
  obtain ⟨hx, hb, hml, hr, hlk, hnm, hown, hts, hne, hao, hfr, hlo, hK, hX, hb1, hb2⟩ := C2
  refine va_slen hx hb hX (Nat.lt_of_lt_of_le hb1 hb2) (Nat.not_le.mpr hb1) hV d ?_
  rw [← Int32.ofInt_eq_ofNat]
  exact kk p l e R s m args below meth c H locs cells slots ls QF C hl hL (List.forall_mem_cons.mpr ⟨(show xin (gN G) from ⟨by omega, by omega⟩), hS⟩) hR hV hc hsl hret
end XH
