section XM
variable {G : xG} {y : xM} {bc bs pc p2 : Nat} {L L2 : List (Nat × xV)} {S : List xV} {σ : List (Nat × Nat)} {ρ : Nat → Int → Option Nat} {M : Nat → Int → Int} {Q : Option xV → xH → Prop}
theorem xty_kind {ci : Nat} (h : ci < 8) : ∀ j, j < xN ci → xTy ci j = .int ∨ (xfr ci j = true ∧ defaultValue (xTy ci j) = .null) := by
  rcases (by omega : ci = 0 ∨ ci = 1 ∨ ci = 2 ∨ ci = 3 ∨ ci = 4 ∨ ci = 5 ∨ ci = 6 ∨ ci = 7) with rfl | rfl | rfl | rfl | rfl | rfl | rfl | rfl <;> decide +kernel
/-- Object's constructor -/
theorem x_obj {i r : Nat} (e2 : pc + 3 = p2) (d : decode (xcd y) pc = .ok (.invokespecial i, 3)) (hw1 : xW (.methodLink (xR (xow y)) i objectInit)) (hw2 : xW (.instanceMethod objectInit)) (hw3 : xW (.code objectInit ⟨#[0xb1]⟩ 1 none)) (hd : 1 ≤ xdp y ∧ 20 ≤ xlo y) (hw : (S.map xcat).sum ≤ 8) (kk : xX G y bc bs p2 L S (σ, ρ, M) Q) : xX G y bc bs pc L (xP r :: S) (σ, ρ, M) Q := by
  subst e2
  intro p l e R s m args below meth c H locs cells slots ls QF C hl hL hS hR hV hc hsl hret
  obtain ⟨-, hS⟩ := xc_1 hS
  have C2 := C
  obtain ⟨hx, hb0, hml, hr, hlk, hnm, hown, hts, hne, hao, hfr, hlo, hK, hX0, hb1, hb2⟩ := C2
  have h8 := lv_room (m := m) (pc := pc) (ls := ls) (rest := (xP r :: S).map (xcv G)) (x_fit (G := G) hw)
  refine W.objInit hx hb0 hown (hts _ (xW_in.mpr hw1)) (hts _ (xW_in.mpr hw2)) (hts _ (xW_in.mpr hw3)) rfl (by rw [hml]; exact hl.1) rfl d (by omega) (by omega) ?_
  exact kk p l e R s m args below meth c H locs cells slots ls QF C hl hL hS hR hV hc hsl hret
/-- an object is made -/
theorem x_new {i ci : Nat} (e2 : pc + 3 = p2) (d : decode (xcd y) pc = .ok (.new i, 3)) (hk : xCl (xow y) i ci) (hz : ∀ j, M σ.length j = 0) (hn : ∀ j, ρ σ.length j = none) (hb : 1 ≤ bc ∧ xN ci ≤ bs) (kk : xX G y (bc - 1) (bs - xN ci) p2 L (xP σ.length :: S) (σ ++ [(ci, xN ci)], ρ, M) Q) : xX G y bc bs pc L S (σ, ρ, M) Q := by
  subst e2
  intro p l e R s m args below meth c H locs cells slots ls QF C hl hL hS hR hV hc hsl hret
  have C2 := C
  obtain ⟨hx, hb0, hml, hr, hlk, hnm, hown, hts, hne, hao, hfr, hlo, hK, hX0, hb1, hb2⟩ := C2
  have hc1 : s.heap.size + cells = gB G + σ.length := hc.1
  refine x_size (x_low hR hV hb2) hc.1 (fun hsz => ?_)
  have hKn := hK.1 ci _ (xcl_at hk.2.2.2)
  refine W.newcK hx hb0 hown (hts _ (xW_in.mpr hk.1)) (hts _ (xW_in.mpr hk.2.1)) (hts _ (xW_in.mpr hk.2.2.1)) rfl d (by have := hc.2; omega) (by omega) hKn.2.1 hsz fun H1 kC hkC e1 z1 o1 => ?_
  have hk1 : ∀ (k : Nat) (x : Nat × va_E), (xws G σ ρ M)[k]? = some x → H1[x.1]? = H[x.1]? := fun k x hx => o1 x.1 (by rw [← hsz]; exact (hR.1 k x hx).lt)
  have hP1 : va_P G.1 vwCl (xws G (σ ++ [(ci, xN ci)]) ρ M) H1 := by
    rw [xws_push (fun _ _ => rfl) (fun _ _ => rfl), xcl_obj hk.2.2.2]
    refine (hR.1.kept hk1).app (fun k x hx => ?_)
    have hk0 : k < 1 := (List.getElem?_eq_some_iff.mp hx).1
    rw [show k = 0 by omega] at hx
    cases hx
    refine ⟨_, xcl_at hk.2.2.2, (u_born (xTy ci) hts (fun w hw => xW_in.mpr (xin_ok hk.2.2.2 w hw)) hKn hkC e1 (xty_ok hk.2.2.2)).to (fun j hj => ?_)⟩
    unfold vp_V
    rw [List.getD_eq_getElem?_getD, xfs_at hj]
    unfold xfv
    rw [hz, hn]
    rcases xty_kind hk.2.2.2 j hj with hty | ⟨hty, hd⟩
    · have e9 : xfr ci j = false := by unfold xfr; rw [hty]
      rw [e9, hty]; rfl
    · rw [hty, hd]; rfl
  refine kk p l e R s m args below meth c H1 locs (cells + 1) (slots + xN ci) ls QF C hl hL (List.forall_mem_cons.mpr ⟨trivial, hS⟩) ⟨hP1, hR.2⟩ ?_ ⟨by simp; omega, by have := hc.2; omega⟩ (by omega) ?_
  · refine ⟨Nat.le_trans hV.1 (by omega), fun q h1 h2 => ?_, hV.2.2⟩
    rw [o1 q (by have := hV.1; omega)]
    exact hV.2.1 q h1 h2
  · intro pc' ls' r' h2 H' locs' cells' slots' g1 g2 g3 g4 g5 g6 g7
    exact hret pc' ls' r' h2 H' locs' cells' slots' g1 g2 g3 g4 g5 ⟨g6.1, by have := g6.2; omega⟩ (by omega)
theorem x_arrK {p : Program} {l : Launch} {e : Env} {R : Room} {s : State} {m : MethodId} {args : Array Value} {below : List Frame} {meth : Method} {c : Code} {H H1 : Heap} {locs : List Loc} {cells slots : Nat} {ls : Array Slot} {QF : State → Prop} {kd N' : Nat} {pc2 : Nat}
    (C : xCtx G y p R s m args meth c) (hl : lv_has ls (xml y) (L.map fun q => (q.1, xcv G q.2))) (hL : ∀ q ∈ L, xok q.2) (hS : ∀ v ∈ S, xok v) (hR : xRep G (σ, ρ, M) H) (hV : va_S (xA G) s.heap H locs) (hc : s.heap.size + cells = gB G + σ.length ∧ cells + bc ≤ R.cells) (hsl : slots + bs ≤ R.slots)
    (hret : ∀ (pc' : Nat) (ls' : Array Slot) (r : Option xV) (h' : xH) (H' : Heap) (locs' : List Loc) (cells' slots' : Nat), Q r h' → xEnd y pc' r → (∀ v ∈ r, xok v) → xRep G h' H' → va_S (xA G) s.heap H' locs' → (s.heap.size + cells' = gB G + h'.1.length ∧ cells' = cells + bc) → slots' ≤ slots + bs → W p l e R s m args below meth c H' locs' cells' slots' QF (F0 m pc' ls' ((xpush r []).map (xcv G))))
    (hsz : H.size = gB G + σ.length) (hb : 1 ≤ bc ∧ N' ≤ bs) (e1 : va_at G.1 vwCl (gB G + σ.length, xcl G ρ M σ.length (kd, N')) H1) (z1 : H1.size = gB G + σ.length + 1) (o1 : ∀ q, q < gB G + σ.length → H1[q]? = H[q]?)
    (kk : xX G y (bc - 1) (bs - N') pc2 L (xP σ.length :: S) (σ ++ [(kd, N')], ρ, M) Q) :
    W p l e R s m args below meth c H1 locs (cells + 1) (slots + N') QF (F0 m pc2 ls (.ref (gB G + σ.length) :: S.map (xcv G))) := by
  have hk1 : ∀ (k : Nat) (x : Nat × va_E), (xws G σ ρ M)[k]? = some x → H1[x.1]? = H[x.1]? := fun k x hx => o1 x.1 (by rw [← hsz]; exact (hR.1 k x hx).lt)
  have hP1 : va_P G.1 vwCl (xws G (σ ++ [(kd, N')]) ρ M) H1 := by
    rw [xws_push (fun _ _ => rfl) (fun _ _ => rfl)]
    refine (hR.1.kept hk1).app (fun k x hx => ?_)
    have hz : k < 1 := (List.getElem?_eq_some_iff.mp hx).1
    rw [show k = 0 by omega] at hx
    cases hx
    exact e1
  have hb2 := C.2.2.2.2.2.2.2.2.2.2.2.2.2.2.2
  refine kk p l e R s m args below meth c H1 locs (cells + 1) (slots + N') ls QF C hl hL (List.forall_mem_cons.mpr ⟨trivial, hS⟩) ⟨hP1, hR.2⟩ ?_ ⟨by simp; omega, by have := hc.2; omega⟩ (by omega) ?_
  · refine ⟨Nat.le_trans hV.1 (by omega), fun q h1 h2 => ?_, hV.2.2⟩
    rw [o1 q (by have := hV.1; omega)]
    exact hV.2.1 q h1 h2
  · intro pc' ls' r' h2 H' locs' cells' slots' g1 g2 g3 g4 g5 g6 g7
    exact hret pc' ls' r' h2 H' locs' cells' slots' g1 g2 g3 g4 g5 ⟨g6.1, by have := g6.2; omega⟩ (by omega)
theorem x_newi {n : Int} {N' : Nat} (e2 : pc + 2 = p2) (d : decode (xcd y) pc = .ok (.newarray .int, 2)) (hw : xW (.arrayClass .int)) (hN : n = (N' : Int)) (h9 : N' ≤ 100000) (hz : ∀ j, M σ.length j = 0) (hb : 1 ≤ bc ∧ N' ≤ bs) (kk : xX G y (bc - 1) (bs - N') p2 L (xP σ.length :: S) (σ ++ [(100, N')], ρ, M) Q) : xX G y bc bs pc L (xI n :: S) (σ, ρ, M) Q := by
  subst e2
  subst hN
  intro p l e R s m args below meth c H locs cells slots ls QF C hl hL hS hR hV hc hsl hret
  obtain ⟨hv, hS⟩ := xc_1 hS
  have C2 := C
  obtain ⟨hx, hb0, hml, hr, hlk, hnm, hown, hts, hne, hao, hfr, hlo, hK, hX0, hb1, hb2⟩ := C2
  refine x_size (x_low hR hV hb2) hc.1 (fun hsz => ?_)
  have h0 : ¬ Int32.ofInt (N' : Int) < 0 := fun q => by
    have := (xi_lt hv ⟨by decide, by decide⟩).mp (show Int32.ofInt (N' : Int) < Int32.ofInt 0 from q)
    omega
  refine va_newaK (atype := .int) (N := N') hx hb0 (hts _ (xW_in.mpr hw)) rfl d rfl h0 (by rw [xi_nat hv]; rfl) (by show N' * 4 ≤ 536870912; omega) (by have := hc.2; omega) (by omega) hsz fun H1 cA e1 z1 o1 hAr hNm => ?_
  have hcA : G.2.1.1 = cA := by
    have h3 := (hK.2 0 _ rfl).2
    exact Option.some.inj (h3.symm.trans hNm)
  refine x_arrK C hl hL hS hR hV hc hsl hret hsz hb ?_ z1 o1 kk
  show H1[gB G + σ.length]? = some (vp_cell _ _)
  rw [e1, vp_cell_i, hcA]
  congr 2
  funext j
  rw [hz]; rfl
theorem x_newz {n : Int} {N' : Nat} (e2 : pc + 2 = p2) (d : decode (xcd y) pc = .ok (.newarray .boolean, 2)) (hw : xW (.arrayClass .boolean)) (hN : n = (N' : Int)) (h9 : N' ≤ 100000) (hz : ∀ j, M σ.length j = 0) (hb : 1 ≤ bc ∧ N' ≤ bs) (kk : xX G y (bc - 1) (bs - N') p2 L (xP σ.length :: S) (σ ++ [(101, N')], ρ, M) Q) : xX G y bc bs pc L (xI n :: S) (σ, ρ, M) Q := by
  subst e2
  subst hN
  intro p l e R s m args below meth c H locs cells slots ls QF C hl hL hS hR hV hc hsl hret
  obtain ⟨hv, hS⟩ := xc_1 hS
  have C2 := C
  obtain ⟨hx, hb0, hml, hr, hlk, hnm, hown, hts, hne, hao, hfr, hlo, hK, hX0, hb1, hb2⟩ := C2
  refine x_size (x_low hR hV hb2) hc.1 (fun hsz => ?_)
  have h0 : ¬ Int32.ofInt (N' : Int) < 0 := fun q => by
    have := (xi_lt hv ⟨by decide, by decide⟩).mp (show Int32.ofInt (N' : Int) < Int32.ofInt 0 from q)
    omega
  refine va_newaK (atype := .boolean) (N := N') hx hb0 (hts _ (xW_in.mpr hw)) rfl d rfl h0 (by rw [xi_nat hv]; rfl) (by show N' * 1 ≤ 536870912; omega) (by have := hc.2; omega) (by omega) hsz fun H1 cA e1 z1 o1 hAr hNm => ?_
  have hcA : G.2.1.2.1 = cA := by
    have h3 := (hK.2 1 _ rfl).2
    exact Option.some.inj (h3.symm.trans hNm)
  refine x_arrK C hl hL hS hR hV hc hsl hret hsz hb ?_ z1 o1 kk
  show H1[gB G + σ.length]? = some (vp_cell _ _)
  rw [e1, vp_cell_i, hcA]
  congr 2
  funext j
  rw [hz]; rfl
theorem x_newq {i : Nat} {n : Int} {N' : Nat} (e2 : pc + 3 = p2) (d : decode (xcd y) pc = .ok (.anewarray i, 3)) (hw : xW (.classLink (xR (xow y)) i RX7)) (hN : n = (N' : Int)) (h9 : N' ≤ 100000) (hz : ∀ j, ρ σ.length j = none) (hb : 1 ≤ bc ∧ N' ≤ bs) (kk : xX G y (bc - 1) (bs - N') p2 L (xP σ.length :: S) (σ ++ [(102, N')], ρ, M) Q) : xX G y bc bs pc L (xI n :: S) (σ, ρ, M) Q := by
  subst e2
  subst hN
  intro p l e R s m args below meth c H locs cells slots ls QF C hl hL hS hR hV hc hsl hret
  obtain ⟨hv, hS⟩ := xc_1 hS
  have C2 := C
  obtain ⟨hx, hb0, hml, hr, hlk, hnm, hown, hts, hne, hao, hfr, hlo, hK, hX0, hb1, hb2⟩ := C2
  refine x_size (x_low hR hV hb2) hc.1 (fun hsz => ?_)
  have h0 : ¬ Int32.ofInt (N' : Int) < 0 := fun q => by
    have := (xi_lt hv ⟨by decide, by decide⟩).mp (show Int32.ofInt (N' : Int) < Int32.ofInt 0 from q)
    omega
  have hNN : (Int32.ofInt (N' : Int)).toNatClampNeg = N' := by rw [xi_nat hv]; rfl
  refine W.anew (C := RX7) hx hb0 hown (hts _ (xW_in.mpr hw)) (va_AO.use hao) rfl d rfl h0 (by rw [hNN]; omega) (by have := hc.2; omega) (by rw [hNN]; omega) fun cA kA comp f1 f2 f3 f4 => ?_
  rw [hNN, hsz]
  have hcA : G.2.1.2.2 = cA := by
    obtain ⟨kA', comp', k1, k2, k3, k4⟩ := (hK.2 2 _ rfl).2
    exact Option.some.inj (k4.symm.trans f1)
  refine x_arrK C hl hL hS hR hV hc hsl hret hsz hb ?_ (by rw [Array.size_push, hsz]) (fun q hq => by rw [Array.getElem?_push, if_neg (Nat.ne_of_lt (by omega))]) kk
  show (H.push _)[gB G + σ.length]? = some (vp_cell _ _)
  have e5 : arrV cA N' (fun j : Nat => va_rf (xrf G (ρ σ.length j))) = arrV cA N' (fun _ => Value.null) := by
    congr 1; funext j; rw [hz]; rfl
  rw [← hsz, Array.getElem?_push_size, vp_cell_q, hcA]
  show _ = some (arrV cA N' (fun j : Nat => va_rf (xrf G (ρ σ.length j))))
  rw [e5, ← arrV_new]
/-- System.arraycopy over whole numbers, from place 0 to place 0 -/
def xcp (M : Nat → Int → Int) (a b : Nat) (n : Int) : Nat → Int → Int := fun k j => if k = b ∧ 0 ≤ j ∧ j < n then M a j else M k j
theorem xcp_in {a b : Nat} {n : Int} (h : ∀ k j, xin (M k j)) : ∀ k j, xin (xcp M a b n k j) := by
  intro k j; unfold xcp; split <;> exact h _ _
theorem x_copy {i a b n0 n1 : Nat} {n : Int} (e2 : pc + 3 = p2) (d : decode (xcd y) pc = .ok (.invokestatic i, 3)) (hw1 : xW (.methodLink (xR (xow y)) i arraycopyName)) (hw2 : xW (.native arraycopyName)) (hw3 : xW (.static arraycopyName)) (hw4 : xW (.initialized "java/lang/System")) (hd : 1 ≤ xdp y ∧ 40 ≤ xlo y) (hw : (S.map xcat).sum ≤ 8)
    (ha : σ[a]? = some (100, n0)) (hb : σ[b]? = some (100, n1)) (h0 : 0 ≤ n) (h1 : n ≤ n0) (h2 : n ≤ n1) (kk : xX G y bc bs p2 L S (σ, ρ, xcp M a b n) Q) : xX G y bc bs pc L (xI n :: xI 0 :: xP b :: xI 0 :: xP a :: S) (σ, ρ, M) Q := by
  subst e2
  intro p l e R s m args below meth c H locs cells slots ls QF C hl hL hS hR hV hc hsl hret
  obtain ⟨hv, hS⟩ := xc_1 hS
  obtain ⟨-, hS⟩ := xc_1 hS
  obtain ⟨-, hS⟩ := xc_1 hS
  obtain ⟨-, hS⟩ := xc_1 hS
  obtain ⟨-, hS⟩ := xc_1 hS
  have C2 := C
  obtain ⟨hx, hb0, hml, hr, hlk, hnm, hown, hts, hne, hao, hfr, hlo, hK, hX0, hb1, hb2⟩ := C2
  have hnn : ¬ Int32.ofInt n < 0 := fun q => by
    have := (xi_lt hv ⟨by decide, by decide⟩).mp (show Int32.ofInt n < Int32.ofInt 0 from q)
    omega
  have z0 : ¬ Int32.ofInt 0 < 0 := by decide
  have zz : (Int32.ofInt 0).toNatClampNeg = 0 := by decide
  have hw8 := x_fit (G := G) hw
  refine va_copyi (D := G.1) (cl := vwCl) (tys := gtys G) (ty := .int) hx hb0 (by rw [hml]; exact hl.1.symm) hown (hts _ (xW_in.mpr hw1)) (hts _ (xW_in.mpr hw2)) (hts _ (xW_in.mpr hw3)) (hts _ (xW_in.mpr hw4)) hK hR.1 (xws_D G σ ρ M) hV a b 0 0 (by rw [← xcl_i]; exact xws_at ha) (by rw [← xcl_i]; exact xws_at hb) rfl rfl rfl z0 z0 hnn (by rw [zz, xi_nat hv]; omega) (by rw [zz, xi_nat hv]; omega) (fun _ _ => rfl) (by omega) (by
    have e9 : nativeFrameWords "java/lang/System" "arraycopy" 5 = 7 := by decide
    rw [e9]; omega) d (fun H1 locs1 hP1 _ hS1 => ?_)
  have e4 : (va_cpy (fun j : Nat => Int32.ofInt (M a j)) (fun j : Nat => Int32.ofInt (M b j)) (Int32.ofInt 0).toNatClampNeg (Int32.ofInt 0).toNatClampNeg (Int32.ofInt n).toNatClampNeg) = (fun j : Nat => Int32.ofInt (xcp M a b n b j)) := by
    funext j
    unfold va_cpy xcp
    rw [zz, xi_nat hv]
    by_cases hj : j < n.toNat
    · rw [if_pos ⟨by omega, by omega⟩, if_pos ⟨rfl, by omega, by omega⟩]
      simp
    · rw [if_neg (by omega), if_neg (fun z => hj (by have := z.2.2; omega))]
  rw [e4, ← xcl_i (ρ := ρ), ← xws_set hb (fun _ _ => rfl) (fun k hk => by funext j; unfold xcp; rw [if_neg (fun z => hk z.1)])] at hP1
  exact kk p l e R s m args below meth c H1 locs1 cells slots ls QF C hl hL hS ⟨hP1, xcp_in hR.2⟩ hS1 hc hsl hret
theorem x_min {i : Nat} {a b : Int} (e2 : pc + 3 = p2) (d : decode (xcd y) pc = .ok (.invokestatic i, 3)) (hw1 : xW (.methodLink (xR (xow y)) i Lib.Math.min.name)) (hw3 : xW (.static Lib.Math.min.name)) (hw4 : xW (.initialized "java/lang/Math")) (hw5 : xW (.code Lib.Math.min.name Lib.Math.min.code 2 (some .int))) (hd : 1 ≤ xdp y ∧ 21 ≤ xlo y) (hw : (S.map xcat).sum ≤ 8)
    (kk : xX G y bc bs p2 L (xI (if b < a then b else a) :: S) (σ, ρ, M) Q) : xX G y bc bs pc L (xI b :: xI a :: S) (σ, ρ, M) Q := by
  subst e2
  intro p l e R s m args below meth c H locs cells slots ls QF C hl hL hS hR hV hc hsl hret
  obtain ⟨hv, hS⟩ := xc_1 hS
  obtain ⟨hu, hS⟩ := xc_1 hS
  have C2 := C
  obtain ⟨hx, hb0, hml, hr, hlk, hnm, hown, hts, hne, hao, hfr, hlo, hK, hX0, hb1, hb2⟩ := C2
  have hw8 := x_fit (G := G) hw
  refine va_mmin hx hb0 (by rw [hml]; exact hl.1.symm) hown (hts _ (xW_in.mpr hw1)) (hts _ (xW_in.mpr hw3)) (hts _ (xW_in.mpr hw4)) (hts _ (xW_in.mpr hw5)) (by omega) (by omega) (by have := hc.2; omega) (by omega) d ?_
  have e3 : (if Int32.ofInt b < Int32.ofInt a then Int32.ofInt b else Int32.ofInt a) = Int32.ofInt (if b < a then b else a) := by
    by_cases h : b < a
    · rw [if_pos h, if_pos ((xi_lt hv hu).mpr h)]
    · rw [if_neg h, if_neg (fun z => h ((xi_lt hv hu).mp z))]
  rw [e3]
  exact kk p l e R s m args below meth c H locs cells slots ls QF C hl hL (List.forall_mem_cons.mpr ⟨(by show xin _; split; exact hv; exact hu), hS⟩) hR hV hc hsl hret
end XM
