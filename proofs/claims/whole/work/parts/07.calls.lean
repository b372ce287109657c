section XK
variable {G : xG} {y : xM} {bc bs pc p2 : Nat} {L L2 : List (Nat × xV)} {S : List xV} {σ : List (Nat × Nat)} {ρ : Nat → Int → Option Nat} {M : Nat → Int → Int} {Q : Option xV → xH → Prop}
theorem x_low {H H0 : Heap} {locs : List Loc} (hR : xRep G (σ, ρ, M) H) (hV : va_S (xA G) H0 H locs) (hb : gB G ≤ H0.size) : gB G + σ.length ≤ H.size := by
  by_cases h : σ.length = 0
  · have := hV.1
    omega
  · have hlt : σ.length - 1 < σ.length := by omega
    have hg : σ[σ.length - 1]? = some σ[σ.length - 1] := List.getElem?_eq_getElem hlt
    have := (hR.1 _ _ (xws_at (G := G) (ρ := ρ) (M := M) hg)).lt
    simp only at this
    omega
theorem x_size {p : Program} {l : Launch} {e : Env} {R : Room} {s : State} {m : MethodId} {args : Array Value} {below : List Frame} {meth : Method} {c : Code} {H : Heap} {locs : List Loc} {cells slots n : Nat} {QF : State → Prop} {g : JFrame}
    (h1 : n ≤ H.size) (h2 : s.heap.size + cells = n) (k : H.size = n → W p l e R s m args below meth c H locs cells slots QF g) : W p l e R s m args below meth c H locs cells slots QF g := by
  intro T hT X
  have h3 := X.heapSize
  rw [hT] at h3
  exact k (by omega) T hT X
/-- answers -/
theorem x_iret {v : Int} (d : decode (xcd y) pc = .ok (.ireturn, 1)) (hr : xrt y = some .int) (hq : Q (some (xI v)) (σ, ρ, M)) : xX G y 0 0 pc L [xI v] (σ, ρ, M) Q := by
  intro p l e R s m args below meth c H locs cells slots ls QF C hl hL hS hR hV hc hsl hret
  exact hret pc ls (some (xI v)) (σ, ρ, M) H locs cells slots hq ⟨d, Or.inl hr⟩ (fun w hw => by cases hw; exact hS _ List.mem_cons_self) hR hV ⟨hc.1, rfl⟩ (Nat.le_refl _)
theorem x_zret {v : Int} (d : decode (xcd y) pc = .ok (.ireturn, 1)) (hr : xrt y = some .boolean) (hz : v = 0 ∨ v = 1) (hq : Q (some (xI v)) (σ, ρ, M)) : xX G y 0 0 pc L [xI v] (σ, ρ, M) Q := by
  intro p l e R s m args below meth c H locs cells slots ls QF C hl hL hS hR hV hc hsl hret
  exact hret pc ls (some (xI v)) (σ, ρ, M) H locs cells slots hq ⟨d, Or.inr ⟨hr, hz⟩⟩ (fun w hw => by cases hw; exact hS _ List.mem_cons_self) hR hV ⟨hc.1, rfl⟩ (Nat.le_refl _)
theorem x_lret {v : Int} (d : decode (xcd y) pc = .ok (.lreturn, 1)) (hr : xrt y = some .long) (hq : Q (some (xL v)) (σ, ρ, M)) : xX G y 0 0 pc L [xL v] (σ, ρ, M) Q := by
  intro p l e R s m args below meth c H locs cells slots ls QF C hl hL hS hR hV hc hsl hret
  exact hret pc ls (some (xL v)) (σ, ρ, M) H locs cells slots hq ⟨d, hr⟩ (fun w hw => by cases hw; exact hS _ List.mem_cons_self) hR hV ⟨hc.1, rfl⟩ (Nat.le_refl _)
theorem x_vret (d : decode (xcd y) pc = .ok (.return_, 1)) (hr : xrt y = none) (hq : Q none (σ, ρ, M)) : xX G y 0 0 pc L [] (σ, ρ, M) Q := by
  intro p l e R s m args below meth c H locs cells slots ls QF C hl hL hS hR hV hc hsl hret
  exact hret pc ls none (σ, ρ, M) H locs cells slots hq ⟨d, hr⟩ (fun w hw => by cases hw) hR hV ⟨hc.1, rfl⟩ (Nat.le_refl _)
/-- a method's start and end -/
def xPre (G : xG) (h : xH) (U : State) : Prop := U.heap.size = gB G + h.1.length ∧ xRep G h U.heap ∧ va_K G.1 vwCl (gtys G) U ∧ va_X (gb G) (gN G) (gx G) U U.heap ∧ (∀ (o i : Nat) (z : xM), xLn o i z → va_Nw (.methodLinkNest (xR o) i (xnm z) RX9) U) ∧ va_AO RX7 U ∧ gb G < gB G
def xPost (G : xG) (h : xH) (mc : Nat) (Q : Option xV → xH → Prop) : Array Value → State → Outcome → State → Prop := fun _ st o t =>
  (∃ (r : Option xV) (h' : xH), o = .returned (r.map (xcv G)) ∧ Q r h' ∧ (∀ v ∈ r, xok v) ∧ xRep G h' t.heap ∧ h'.1.length = h.1.length + mc) ∧ va_F (xA G) st t
theorem x_blind {vs : List Value} {h : xH} : FrameBlind (va_Pc vs (xPre G h)) := by
  intro a U g mk hP
  obtain ⟨e0, h1, h2, h3, h4, h5, h6, h7⟩ := hP
  exact ⟨e0, h1, h2, va_K.moved (u := U) (U := U.calling g mk a) (Vm.Alike.refl U.vm) h3, va_X.moved (u := U) (U := U.calling g mk a) (Vm.Alike.refl U.vm) h4, fun o i z hz => va_Nw.same (u := U) (U := U.calling g mk a) rfl rfl (h5 o i z hz), va_AO.moved (u := U) (U := U.calling g mk a) (Vm.Alike.refl U.vm) h6, h7⟩
theorem x_sl (G : xG) : ∀ vs : List xV, (lg_sl (vs.map (xcv G))).length = (vs.map xcat).sum
  | [] => rfl
  | v :: vs => by
    have ih := x_sl G vs
    simp only [lg_sl, List.map_cons, List.flatMap_cons, List.length_append, List.sum_cons] at ih ⊢
    rw [ih]
    rcases v with x | x | _ | k <;> simp [xcv, xcat, Value.category]
abbrev xws1 (y : xM) : List Cond := .code (xnm y) (xcd y) (xml y) (xrt y) :: xT
abbrev xrm (y : xM) (mc ms : Nat) : Room := { frames := xdp y, cells := mc, slots := ms, locals := xlo y }
theorem xMet (l : Launch) {mc ms : Nat} {vs : List xV} {h : xH} (hok : xOk y) (hvs : ∀ v ∈ vs, xok v) (hn : (vs.map xcat).sum ≤ xml y) (hX : xX G y mc ms 0 (xargs 0 vs) [] h Q) :
    Met l (xnm y) (xws1 y) (xrm y mc ms) (va_Pc (vs.map (xcv G)) (xPre G h)) (xPost G h mc Q) mc ms (xA G) := by
  refine Met.ofW (cc := xcd y) (maxL := xml y) (ret := xrt y) hok.2.1 rfl ?_
  intro p e s m args below meth c s₁ B hml hv
  obtain ⟨rfl, hsz, hR, hK, hX0, hne, hao, hbb⟩ := hv
  have hts := atoms_spec (ws := xws1 y) B.pre
  have hown : s.vm.findClass (xnm y).cls = some m.cls := findClass_of_methodNamed B.named
  have hl := lv_entry (vs.map (xcv G)) (n := xml y) (by rw [x_sl]; exact hn)
  rw [lg_entry_eq]
  generalize (lg_sl (vs.map (xcv G)) ++ List.replicate (xml y - (lg_sl (vs.map (xcv G))).length) Slot.unset).toArray = ls at hl ⊢
  have hlocks := B.notSynchronized
  refine hX p l e _ s m _ below meth c s.heap [] 0 0 ls _ ⟨B.exec, B.bytes, hml, B.returns, hlocks, fun h => (name_of_methodNamed B.named B.method).1.trans h, by rw [hok.2.2.2.2.1]; exact hown, fun w hw => hts w (List.mem_cons_of_mem _ hw), hne, hao, Nat.le_refl _, Nat.le_refl _, hK, hX0, hbb, by rw [hsz]; exact Nat.le_add_right _ _⟩ (by rw [xargs_ok]; exact hl) (fun q hq => hvs _ (xargs_mem hq)) (fun v hv => by cases hv) hR va_S.rf ⟨by rw [hsz]; rfl, by rw [Nat.zero_add]; exact Nat.le_refl _⟩ (by rw [Nat.zero_add]; exact Nat.le_refl _) ?_
  intro pc' ls' r h' H' locs' cells' slots' hq hend hr hR' hV' hc' hs'
  have hc2 : cells' = mc := by have := hc'.2; omega
  subst hc2
  refine W.widen (k := cells') (n := ms) (Nat.le_refl _) (by omega) ?_
  have hlen : h'.1.length = h.1.length + cells' := by have := hc'.1; omega
  have post : ∀ t : State, t.heap = H' → s.WarmedH t.vm → xPost G h cells' Q (vs.map (xcv G)).toArray s (.returned (r.map (xcv G))) t := fun t ht _ => ⟨⟨r, h', rfl, hq, hr, by rw [ht]; exact hR', hlen⟩, hV'.F ht⟩
  rcases r with _ | v | v | v
  · exact W.vret B.exec B.bytes (B.returns.trans hend.2) post hV'.2.2 hend.1
  · rcases hend.2 with h2 | ⟨h2, h3⟩
    · exact W.iret (v := Int32.ofInt v) B.exec B.bytes (B.returns.trans h2) post hV'.2.2 hend.1
    · exact W.zret (v := Int32.ofInt v) (ty := .boolean) B.exec B.bytes (B.returns.trans h2) (by rcases h3 with rfl | rfl <;> rfl) post hV'.2.2 hend.1
  · exact W.lret (v := Int64.ofInt v) B.exec B.bytes (B.returns.trans hend.2) post hV'.2.2 hend.1
  · exact hend.elim
theorem x_good (z : xM) (hok : xOk z) : ∀ w ∈ xws1 z, w ∈ xT ∧ ((w.onTables && w.keeps) = true ∨ ∃ ty, w = .arrayClass ty) := by
  intro w hw
  have h : xW w := by
    rcases List.mem_cons.mp hw with rfl | hw
    · exact hok.1
    · exact xW_in.mp hw
  exact ⟨xW_in.mpr h, good_of_word h.2⟩
theorem x_back {p : Program} {l : Launch} {e : Env} {R : Room} {s : State} {m : MethodId} {args : Array Value} {below : List Frame} {meth : Method} {c : Code} {H : Heap} {locs : List Loc} {cells slots mc ms : Nat} {ls : Array Slot} {QF : State → Prop} {st0 : List Value} {a : Array Value} {h : xH}
    (hr : va_Run p l e R s m args below meth c H locs cells slots mc ms (F0 m pc ls st0) (S.map (xcv G)) (xPost G h mc Q a) (xA G)) (hV : va_S (xA G) s.heap H locs)
    (kk : ∀ (r : Option xV) (h' : xH) (H1 : Heap) (locs1 : List Loc), Q r h' → (∀ v ∈ r, xok v) → xRep G h' H1 → h'.1.length = h.1.length + mc → va_S (xA G) s.heap H1 locs1 → W p l e R s m args below meth c H1 locs1 (cells + mc) (slots + ms) QF (F0 m (pc + 3) ls ((xpush r S).map (xcv G)))) :
    W p l e R s m args below meth c H locs cells slots QF (F0 m pc ls st0) := by
  intro T hT X
  obtain ⟨v, st₀, t, T', L, h0, X', hL, e1, e2, ⟨⟨r, h', hv, hq, hrok, hR', hlen⟩, hz, hk⟩, st⟩ := hr T hT X
  cases hv
  rw [h0] at hz hk
  obtain ⟨t2, a1, b1⟩ := kk r h' T'.heap (locs ++ L) hq hrok (by rw [e1]; exact hR') hlen
    ⟨Nat.le_trans hV.1 (by rw [e1]; exact hz), fun q h1 h2 => by rw [e1, hk q (Nat.lt_of_lt_of_le h1 hV.1) h2]; exact hV.2.1 q h1 h2, fun q hq => by
      rcases List.mem_append.mp hq with h | h
      · exact hV.2.2 q h
      · exact hL q h⟩ T' rfl X'
  refine ⟨t2, st t2 ?_, b1⟩
  rcases r with _ | r <;> exact a1
theorem x_fit (h : (S.map xcat).sum ≤ 8) : ((S.map (xcv G)).map fun v => v.category).sum ≤ 8 := by
  have e : (S.map (xcv G)).map (fun v => v.category) = S.map xcat := by
    rw [List.map_map]
    exact List.map_congr_left (fun v _ => xcat_ok G v)
  rw [e]; exact h
/-- what a caller hands over -/
theorem x_give {h : xH} {p : Program} {R : Room} {s U : State} {m : MethodId} {args : Array Value} {meth : Method} {c : Code} {H : Heap} {locs : List Loc} (C : xCtx G y p R s m args meth c) (hR : xRep G h H) (hV : va_S (xA G) s.heap H locs) (hsz : H.size = gB G + h.1.length) (hU : U.heap = H) (hW : s.WarmedH U.vm) : xPre G h U := by
  obtain ⟨hx, hb, hml, hr, hlk, hnm, hown, hts, hne, hao, hfr, hlo, hK, hX, hb1, hb2⟩ := C
  refine ⟨by rw [hU]; exact hsz, by rw [hU]; exact hR, va_K.moved hW.alike hK, ?_, fun o i z hz => va_Nw.warmM hW (hne o i z hz), va_AO.moved hW.alike hao, hb1⟩
  refine (va_X.moved hW.alike hX).kept ?_
  rw [hU]
  exact hV.2.1 _ (Nat.lt_of_lt_of_le hb1 hb2) (Nat.not_le.mpr hb1)
theorem x_callV {i ci r mc ms : Nat} {z : xM} {As : List xV} (e2 : pc + 3 = p2) (d : decode (xcd y) pc = .ok (.invokevirtual i, 3)) (hk : xLv (xow y) i ci z) (hok : xOk z) (hd : xdp z + 1 ≤ xdp y ∧ 8 + (xml z + 11) + xlo z ≤ xlo y) (hs : σ[r]? = some (ci, xN ci)) (hn : As.length = xar z ∧ ((xP r :: As).map xcat).sum ≤ xml z) (hw : (S.map xcat).sum ≤ 8) (hb : mc ≤ bc ∧ ms ≤ bs)
    (hX : xX G z mc ms 0 (xargs 0 (xP r :: As)) [] (σ, ρ, M) (fun a h' => xX G y (bc - mc) (bs - ms) p2 L (xpush a S) h' Q)) : xX G y bc bs pc L (As.reverse ++ xP r :: S) (σ, ρ, M) Q := by
  subst e2
  intro p l e R s m args below meth c H locs cells slots ls QF C hl hL hS hR hV hc hsl hret
  have C2 := C
  obtain ⟨hx, hb0, hml, hr, hlk, hnm, hown, hts, hne, hao, hfr, hlo, hK, hX0, hb1, hb2⟩ := C2
  have hS1 : ∀ v ∈ S, xok v := fun v hv => hS v (List.mem_append_right _ (List.mem_cons_of_mem _ hv))
  have hA1 : ∀ v ∈ xP r :: As, xok v := fun v hv => by
    rcases List.mem_cons.mp hv with rfl | hv
    · exact trivial
    · exact hS v (List.mem_append_left _ (List.mem_reverse.mpr hv))
  refine x_size (x_low hR hV hb2) hc.1 (fun hsz => ?_)
  have hM := xMet (Q := fun a h' => xX G y (bc - mc) (bs - ms) (pc + 3) L (xpush a S) h' Q) l hok hA1 hn.2 hX
  have hcw : CallW R s args (xR (xow y)) (xC ci) i (xnm z) (xcd z) (xml z) (xrt z) (xws1 z) (xrm z mc ms) mc ms (xar z) := by
    refine ⟨callB_of (xar z) hts (x_good z hok) rfl rfl rfl (hts _ (xW_in.mpr hok.2.2.2.1)) (hts _ (xW_in.mpr hk.2.2.1)) ⟨hok.2.2.1.1, hok.2.2.1.2, hok.2.2.2.2.2⟩ ⟨Nat.le_trans hd.1 hfr, Nat.le_trans hd.2 hlo⟩, hts _ (xW_in.mpr hk.2.2.2.1), hts _ (xW_in.mpr hk.2.2.2.2)⟩
  have e0 : (As.reverse ++ xP r :: S).map (xcv G) = (As.map (xcv G)).reverse ++ .ref (gB G + r) :: S.map (xcv G) := by
    rw [List.map_append, List.map_reverse]; rfl
  rw [e0]
  refine x_back (va_runV (As := As.map (xcv G)) (rest := S.map (xcv G)) ⟨hx, hb0, hml, hown, hts⟩ hM hcw ⟨x_blind, va_recv hK hR.1 (xcl_at hk.2.1) (by rw [← xcl_obj hk.2.1]; exact xws_at hs), fun U hU hW => ⟨rfl, x_give C hR hV hsz hU hW⟩⟩ rfl (by rw [List.length_map]; exact hn.1) hl.1 rfl (lv_room (x_fit hw)) d ⟨by have := hc.2; omega, by omega⟩) hV ?_
  intro a h' H1 locs1 hq hrok hR' hlen hV'
  refine hq p l e R s m args below meth c H1 locs1 _ _ ls QF C hl hL ?_ hR' hV' ⟨by have := hc.1; simp only at hlen this; omega, by have := hc.2; omega⟩ (by omega) ?_
  · intro v hv
    rcases a with _ | a
    · exact hS1 v hv
    · rcases List.mem_cons.mp hv with rfl | hv
      · exact hrok _ rfl
      · exact hS1 v hv
  · intro pc' ls' r' h2 H' locs' cells' slots' g1 g2 g3 g4 g5 g6 g7
    exact hret pc' ls' r' h2 H' locs' cells' slots' g1 g2 g3 g4 g5 ⟨g6.1, by have := g6.2; omega⟩ (by omega)
theorem x_callS {i mc ms : Nat} {z : xM} {As : List xV} (e2 : pc + 3 = p2) (d : decode (xcd y) pc = .ok (.invokestatic i, 3)) (hk : xLs (xow y) i z) (hok : xOk z) (hd : xdp z + 1 ≤ xdp y ∧ 8 + (xml z + 11) + xlo z ≤ xlo y) (hn : As.length = xar z ∧ (As.map xcat).sum ≤ xml z) (hw : (S.map xcat).sum ≤ 8) (hb : mc ≤ bc ∧ ms ≤ bs)
    (hX : xX G z mc ms 0 (xargs 0 As) [] (σ, ρ, M) (fun a h' => xX G y (bc - mc) (bs - ms) p2 L (xpush a S) h' Q)) : xX G y bc bs pc L (As.reverse ++ S) (σ, ρ, M) Q := by
  subst e2
  intro p l e R s m args below meth c H locs cells slots ls QF C hl hL hS hR hV hc hsl hret
  have C2 := C
  obtain ⟨hx, hb0, hml, hr, hlk, hnm, hown, hts, hne, hao, hfr, hlo, hK, hX0, hb1, hb2⟩ := C2
  have hS1 : ∀ v ∈ S, xok v := fun v hv => hS v (List.mem_append_right _ hv)
  have hA1 : ∀ v ∈ As, xok v := fun v hv => hS v (List.mem_append_left _ (List.mem_reverse.mpr hv))
  refine x_size (x_low hR hV hb2) hc.1 (fun hsz => ?_)
  have hM := xMet (Q := fun a h' => xX G y (bc - mc) (bs - ms) (pc + 3) L (xpush a S) h' Q) l hok hA1 hn.2 hX
  have hcw : CallB R s args (xR (xow y)) i (xnm z) (xcd z) (xml z) (xrt z) (xws1 z) (xrm z mc ms) mc ms (xar z) ∧ (Cond.static (xnm z)).before args s = true := by
    refine ⟨callB_of (xar z) hts (x_good z hok) rfl rfl rfl (hts _ (xW_in.mpr hok.2.2.2.1)) (hts _ (xW_in.mpr hk.1)) ⟨hok.2.2.1.1, hok.2.2.1.2, hok.2.2.2.2.2⟩ ⟨Nat.le_trans hd.1 hfr, Nat.le_trans hd.2 hlo⟩, hts _ (xW_in.mpr hk.2)⟩
  have e0 : (As.reverse ++ S).map (xcv G) = (As.map (xcv G)).reverse ++ S.map (xcv G) := by
    rw [List.map_append, List.map_reverse]
  rw [e0]
  refine x_back (va_runS (As := As.map (xcv G)) (rest := S.map (xcv G)) ⟨hx, hb0, hml, hown, hts⟩ hM hcw ⟨x_blind, fun U hU hW => ⟨rfl, x_give C hR hV hsz hU hW⟩⟩ rfl (by rw [List.length_map]; exact hn.1) hl.1 rfl (lv_room (x_fit hw)) d ⟨by have := hc.2; omega, by omega⟩) hV ?_
  intro a h' H1 locs1 hq hrok hR' hlen hV'
  refine hq p l e R s m args below meth c H1 locs1 _ _ ls QF C hl hL ?_ hR' hV' ⟨by have := hc.1; simp only at hlen this; omega, by have := hc.2; omega⟩ (by omega) ?_
  · intro v hv
    rcases a with _ | a
    · exact hS1 v hv
    · rcases List.mem_cons.mp hv with rfl | hv
      · exact hrok _ rfl
      · exact hS1 v hv
  · intro pc' ls' r' h2 H' locs' cells' slots' g1 g2 g3 g4 g5 g6 g7
    exact hret pc' ls' r' h2 H' locs' cells' slots' g1 g2 g3 g4 g5 ⟨g6.1, by have := g6.2; omega⟩ (by omega)
/-- a constructor -/
theorem x_callI {i r mc ms : Nat} {z : xM} {As : List xV} (e2 : pc + 3 = p2) (d : decode (xcd y) pc = .ok (.invokespecial i, 3)) (hk : xLi (xow y) i z ∨ xLn (xow y) i z) (hok : xOk z) (hd : xdp z + 1 ≤ xdp y ∧ 8 + (xml z + 11) + xlo z ≤ xlo y) (hn : As.length = xar z ∧ ((xP r :: As).map xcat).sum ≤ xml z) (hw : (S.map xcat).sum ≤ 8) (hb : mc ≤ bc ∧ ms ≤ bs)
    (hX : xX G z mc ms 0 (xargs 0 (xP r :: As)) [] (σ, ρ, M) (fun a h' => xX G y (bc - mc) (bs - ms) p2 L (xpush a S) h' Q)) : xX G y bc bs pc L (As.reverse ++ xP r :: S) (σ, ρ, M) Q := by
  subst e2
  intro p l e R s m args below meth c H locs cells slots ls QF C hl hL hS hR hV hc hsl hret
  have C2 := C
  obtain ⟨hx, hb0, hml, hr, hlk, hnm, hown, hts, hne, hao, hfr, hlo, hK, hX0, hb1, hb2⟩ := C2
  have hS1 : ∀ v ∈ S, xok v := fun v hv => hS v (List.mem_append_right _ (List.mem_cons_of_mem _ hv))
  have hA1 : ∀ v ∈ xP r :: As, xok v := fun v hv => by
    rcases List.mem_cons.mp hv with rfl | hv
    · exact trivial
    · exact hS v (List.mem_append_left _ (List.mem_reverse.mpr hv))
  refine x_size (x_low hR hV hb2) hc.1 (fun hsz => ?_)
  have hM := xMet (Q := fun a h' => xX G y (bc - mc) (bs - ms) (pc + 3) L (xpush a S) h' Q) l hok hA1 hn.2 hX
  have e0 : (As.reverse ++ xP r :: S).map (xcv G) = (As.map (xcv G)).reverse ++ .ref (gB G + r) :: S.map (xcv G) := by
    rw [List.map_append, List.map_reverse]; rfl
  rw [e0]
  have fin : ∀ (a : Option xV) (h' : xH) (H1 : Heap) (locs1 : List Loc), xX G y (bc - mc) (bs - ms) (pc + 3) L (xpush a S) h' Q → (∀ v ∈ a, xok v) → xRep G h' H1 → h'.1.length = σ.length + mc → va_S (xA G) s.heap H1 locs1 → W p l e R s m args below meth c H1 locs1 (cells + mc) (slots + ms) QF (F0 m (pc + 3) ls ((xpush a S).map (xcv G))) := by
    intro a h' H1 locs1 hq hrok hR' hlen hV'
    refine hq p l e R s m args below meth c H1 locs1 _ _ ls QF C hl hL ?_ hR' hV' ⟨by have := hc.1; simp only at hlen this; omega, by have := hc.2; omega⟩ (by omega) ?_
    · intro v hv
      rcases a with _ | a
      · exact hS1 v hv
      · rcases List.mem_cons.mp hv with rfl | hv
        · exact hrok _ rfl
        · exact hS1 v hv
    · intro pc' ls' r' h2 H' locs' cells' slots' g1 g2 g3 g4 g5 g6 g7
      exact hret pc' ls' r' h2 H' locs' cells' slots' g1 g2 g3 g4 g5 ⟨g6.1, by have := g6.2; omega⟩ (by omega)
  rcases hk with hk | hk
  · have hcw : CallB R s args (xR (xow y)) i (xnm z) (xcd z) (xml z) none (xws1 z) (xrm z mc ms) mc ms (xar z) ∧ (xnm z).name = "<init>" ∧ (Cond.instanceMethod (xnm z)).before args s = true := by
      refine ⟨callB_of (ws' := xT) (xar z) hts (x_good z hok) (by rw [← hk.2.2.2]) rfl rfl (hts _ (xW_in.mpr hok.2.2.2.1)) (hts _ (xW_in.mpr hk.1)) ⟨hok.2.2.1.1, hok.2.2.1.2, hok.2.2.2.2.2⟩ ⟨Nat.le_trans hd.1 hfr, Nat.le_trans hd.2 hlo⟩, hk.2.2.1, hts _ (xW_in.mpr hk.2.1)⟩
    exact x_back (va_runI (As := As.map (xcv G)) (rest := S.map (xcv G)) ⟨hx, hb0, hml, hown, hts⟩ hM hcw ⟨x_blind, fun U hU hW => ⟨rfl, x_give C hR hV hsz hU hW⟩⟩ rfl (by rw [List.length_map]; exact hn.1) hl.1 rfl (lv_room (x_fit hw)) d ⟨by have := hc.2; omega, by omega⟩) hV fin
  · have hcw : va_CN R s args (xR (xow y)) i (xnm z) RX9 (xcd z) (xml z) none (xws1 z) (xrm z mc ms) mc ms (xar z) ∧ (xnm z).name = "<init>" ∧ (Cond.instanceMethod (xnm z)).before args s = true := by
      refine ⟨va_cnB (ws' := xT) (xar z) hts (x_good z hok) (by rw [← hk.2.2.2]) rfl rfl (hne _ _ _ hk) (hts _ (xW_in.mpr hok.2.2.2.1)) ⟨hok.2.2.1.1, hok.2.2.1.2, hok.2.2.2.2.2⟩ ⟨Nat.le_trans hd.1 hfr, Nat.le_trans hd.2 hlo⟩, hk.2.2.1, hts _ (xW_in.mpr hk.2.1)⟩
    exact x_back (va_runIN (As := As.map (xcv G)) (rest := S.map (xcv G)) ⟨hx, hb0, hml, hown, hts⟩ hM hcw ⟨x_blind, fun U hU hW => ⟨rfl, x_give C hR hV hsz hU hW⟩⟩ rfl (by rw [List.length_map]; exact hn.1) hl.1 rfl (lv_room (x_fit hw)) d ⟨by have := hc.2; omega, by omega⟩) hV fin
end XK
