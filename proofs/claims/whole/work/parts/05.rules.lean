section XR
variable {G : xG} {y : xM} {bc bs pc p2 : Nat} {L L2 : List (Nat × xV)} {S : List xV} {h : xH} {Q : Option xV → xH → Prop}
theorem xc_1 {a : xV} {S : List xV} {P : xV → Prop} (h : ∀ v ∈ a :: S, P v) : P a ∧ ∀ v ∈ S, P v := List.forall_mem_cons.mp h
theorem x_loc {ls : Array Slot} {n i : Nat} {v : xV} (hl : lv_has ls n (L.map fun q => (q.1, xcv G q.2))) (h : xlk i L = some v) : ls[i]? = some (.val (xcv G v)) := hl.2.2 (i, xcv G v) (List.mem_map.mpr ⟨(i, v), xlk_mem h, rfl⟩)
theorem x_lvs {ls : Array Slot} {n : Nat} {l l' : List (Nat × Value)} (h : lv_has ls n l) (hs : ∀ q ∈ l', q ∈ l) : lv_has ls n l' := ⟨h.1, h.2.1, fun q hq => h.2.2 q (hs q hq)⟩
/-- fewer locals -/
theorem x_keep (hs : ∀ q ∈ L2, q ∈ L) (kk : xX G y bc bs pc L2 S h Q) : xX G y bc bs pc L S h Q := by
  intro p l e R s m args below meth c H locs cells slots ls QF C hl hL hS hR hV hc hs' hret
  refine kk p l e R s m args below meth c H locs cells slots ls QF C (x_lvs hl fun q hq => ?_) (fun q hq => hL q (hs q hq)) hS hR hV hc hs' hret
  obtain ⟨z, hz, rfl⟩ := List.mem_map.mp hq
  exact List.mem_map.mpr ⟨z, hs z hz, rfl⟩
/-- fewer locals, by their numbers -/
def xpick (ks : List Nat) (L : List (Nat × xV)) : List (Nat × xV) := match ks with
  | [] => []
  | k :: ks => match xlk k L with
    | some v => (k, v) :: xpick ks L
    | none => xpick ks L
theorem xpick_mem : ∀ {ks : List Nat} {q : Nat × xV}, q ∈ xpick ks L → q ∈ L
  | [], q, h => by cases h
  | k :: ks, q, h => by
    unfold xpick at h
    cases hk : xlk k L with
    | none => rw [hk] at h; exact xpick_mem h
    | some v =>
      rw [hk] at h
      rcases List.mem_cons.mp h with rfl | h
      · exact xlk_mem hk
      · exact xpick_mem h
theorem x_pick (ks : List Nat) (e : xpick ks L = L2) (kk : xX G y bc bs pc L2 S h Q) : xX G y bc bs pc L S h Q := x_keep (fun q hq => xpick_mem (ks := ks) (by rw [e]; exact hq)) kk
theorem x_post {Q' : Option xV → xH → Prop} (hq : ∀ r h', Q' r h' → Q r h') (kk : xX G y bc bs pc L S h Q') : xX G y bc bs pc L S h Q := by
  intro p l e R s m args below meth c H locs cells slots ls QF C hl hL hS hR hV hc hs hret
  exact kk p l e R s m args below meth c H locs cells slots ls QF C hl hL hS hR hV hc hs (fun pc' ls' r h' H' locs' cells' slots' a => hret pc' ls' r h' H' locs' cells' slots' (hq r h' a))
theorem x_iconst {n : Int} (e2 : pc + 1 = p2) (d : decode (xcd y) pc = .ok (.iconst n, 1)) (hn : xin n) (kk : xX G y bc bs p2 L (xI n :: S) h Q) : xX G y bc bs pc L S h Q := by
  subst e2
  intro p l e R s m args below meth c H locs cells slots ls QF C hl hL hS hR hV hc hs hret
  refine lv_iconst C.1 C.2.1 d rfl ?_
  exact kk p l e R s m args below meth c H locs cells slots ls QF C hl hL (List.forall_mem_cons.mpr ⟨hn, hS⟩) hR hV hc hs hret
theorem x_bipush {n : Int} (e2 : pc + 2 = p2) (d : decode (xcd y) pc = .ok (.bipush n, 2)) (hn : (Int8.ofInt n).toInt32 = Int32.ofInt n ∧ xin n) (kk : xX G y bc bs p2 L (xI n :: S) h Q) : xX G y bc bs pc L S h Q := by
  subst e2
  intro p l e R s m args below meth c H locs cells slots ls QF C hl hL hS hR hV hc hs hret
  refine lv_bipush C.1 C.2.1 d hn.1 ?_
  exact kk p l e R s m args below meth c H locs cells slots ls QF C hl hL (List.forall_mem_cons.mpr ⟨hn.2, hS⟩) hR hV hc hs hret
theorem x_sipush {n : Int} (e2 : pc + 3 = p2) (d : decode (xcd y) pc = .ok (.sipush n, 3)) (hn : (Int16.ofInt n).toInt32 = Int32.ofInt n ∧ xin n) (kk : xX G y bc bs p2 L (xI n :: S) h Q) : xX G y bc bs pc L S h Q := by
  subst e2
  intro p l e R s m args below meth c H locs cells slots ls QF C hl hL hS hR hV hc hs hret
  refine lv_sipush C.1 C.2.1 d hn.1 ?_
  exact kk p l e R s m args below meth c H locs cells slots ls QF C hl hL (List.forall_mem_cons.mpr ⟨hn.2, hS⟩) hR hV hc hs hret
theorem x_lconst {n : Fin 2} {v : Int} (e2 : pc + 1 = p2) (d : decode (xcd y) pc = .ok (.lconst n, 1)) (hn : Int64.ofNat (n : Nat) = Int64.ofInt v ∧ xlin v) (kk : xX G y bc bs p2 L (xL v :: S) h Q) : xX G y bc bs pc L S h Q := by
  subst e2
  intro p l e R s m args below meth c H locs cells slots ls QF C hl hL hS hR hV hc hs hret
  refine lv_lconst C.1 C.2.1 d hn.1 ?_
  exact kk p l e R s m args below meth c H locs cells slots ls QF C hl hL (List.forall_mem_cons.mpr ⟨hn.2, hS⟩) hR hV hc hs hret
theorem x_ldc {i : Nat} {v : Int} (e2 : pc + 2 = p2) (d : decode (xcd y) pc = .ok (.ldc i, 2)) (hk : xK1 (xow y) i v) (kk : xX G y bc bs p2 L (xI v :: S) h Q) : xX G y bc bs pc L S h Q := by
  subst e2
  intro p l e R s m args below meth c H locs cells slots ls QF C hl hL hS hR hV hc hs hret
  have C2 := C
  obtain ⟨hx, hb, hml, hr, hlk, hnm, hown, hts, -⟩ := C2
  refine lv_ldc hx hb hown (hts _ (xW_in.mpr hk.1)) d ?_
  exact kk p l e R s m args below meth c H locs cells slots ls QF C hl hL (List.forall_mem_cons.mpr ⟨hk.2, hS⟩) hR hV hc hs hret
theorem x_ldcw {i : Nat} {v : Int} (e2 : pc + 3 = p2) (d : decode (xcd y) pc = .ok (.ldc_w i, 3)) (hk : xK1 (xow y) i v) (kk : xX G y bc bs p2 L (xI v :: S) h Q) : xX G y bc bs pc L S h Q := by
  subst e2
  intro p l e R s m args below meth c H locs cells slots ls QF C hl hL hS hR hV hc hs hret
  have C2 := C
  obtain ⟨hx, hb, hml, hr, hlk, hnm, hown, hts, -⟩ := C2
  refine lv_ldcw hx hb hown (hts _ (xW_in.mpr hk.1)) d ?_
  exact kk p l e R s m args below meth c H locs cells slots ls QF C hl hL (List.forall_mem_cons.mpr ⟨hk.2, hS⟩) hR hV hc hs hret
theorem x_ldc2 {i : Nat} {v : Int} (e2 : pc + 3 = p2) (d : decode (xcd y) pc = .ok (.ldc2_w i, 3)) (hk : xK2 (xow y) i v) (kk : xX G y bc bs p2 L (xL v :: S) h Q) : xX G y bc bs pc L S h Q := by
  subst e2
  intro p l e R s m args below meth c H locs cells slots ls QF C hl hL hS hR hV hc hs hret
  have C2 := C
  obtain ⟨hx, hb, hml, hr, hlk, hnm, hown, hts, -⟩ := C2
  refine lv_ldc2 hx hb hown (hts _ (xW_in.mpr hk.1)) d ?_
  exact kk p l e R s m args below meth c H locs cells slots ls QF C hl hL (List.forall_mem_cons.mpr ⟨hk.2, hS⟩) hR hV hc hs hret
theorem x_iload_n {k : Fin 4} {x : Int} (e2 : pc + 1 = p2) (d : decode (xcd y) pc = .ok (.iload_n k, 1)) (hk : xlk k.val L = some (xI x)) (kk : xX G y bc bs p2 L (xI x :: S) h Q) : xX G y bc bs pc L S h Q := by
  subst e2
  intro p l e R s m args below meth c H locs cells slots ls QF C hl hL hS hR hV hc hs hret
  refine lv_iload_n C.1 C.2.1 d rfl (x_loc hl hk) ?_
  exact kk p l e R s m args below meth c H locs cells slots ls QF C hl hL (List.forall_mem_cons.mpr ⟨hL _ (xlk_mem hk), hS⟩) hR hV hc hs hret
theorem x_iload {i : Nat} {x : Int} (e2 : pc + 2 = p2) (d : decode (xcd y) pc = .ok (.iload i, 2)) (hk : xlk i L = some (xI x)) (kk : xX G y bc bs p2 L (xI x :: S) h Q) : xX G y bc bs pc L S h Q := by
  subst e2
  intro p l e R s m args below meth c H locs cells slots ls QF C hl hL hS hR hV hc hs hret
  refine lv_iload C.1 C.2.1 d (x_loc hl hk) ?_
  exact kk p l e R s m args below meth c H locs cells slots ls QF C hl hL (List.forall_mem_cons.mpr ⟨hL _ (xlk_mem hk), hS⟩) hR hV hc hs hret
theorem x_lload_n {k : Fin 4} {x : Int} (e2 : pc + 1 = p2) (d : decode (xcd y) pc = .ok (.lload_n k, 1)) (hk : xlk k.val L = some (xL x)) (kk : xX G y bc bs p2 L (xL x :: S) h Q) : xX G y bc bs pc L S h Q := by
  subst e2
  intro p l e R s m args below meth c H locs cells slots ls QF C hl hL hS hR hV hc hs hret
  refine lv_lload_n C.1 C.2.1 d rfl (x_loc hl hk) ?_
  exact kk p l e R s m args below meth c H locs cells slots ls QF C hl hL (List.forall_mem_cons.mpr ⟨hL _ (xlk_mem hk), hS⟩) hR hV hc hs hret
theorem x_lload {i : Nat} {x : Int} (e2 : pc + 2 = p2) (d : decode (xcd y) pc = .ok (.lload i, 2)) (hk : xlk i L = some (xL x)) (kk : xX G y bc bs p2 L (xL x :: S) h Q) : xX G y bc bs pc L S h Q := by
  subst e2
  intro p l e R s m args below meth c H locs cells slots ls QF C hl hL hS hR hV hc hs hret
  refine lv_lload C.1 C.2.1 d (x_loc hl hk) ?_
  exact kk p l e R s m args below meth c H locs cells slots ls QF C hl hL (List.forall_mem_cons.mpr ⟨hL _ (xlk_mem hk), hS⟩) hR hV hc hs hret
theorem x_aload_n {k : Fin 4} {x : Nat} (e2 : pc + 1 = p2) (d : decode (xcd y) pc = .ok (.aload_n k, 1)) (hk : xlk k.val L = some (xP x)) (kk : xX G y bc bs p2 L (xP x :: S) h Q) : xX G y bc bs pc L S h Q := by
  subst e2
  intro p l e R s m args below meth c H locs cells slots ls QF C hl hL hS hR hV hc hs hret
  refine lv_aload_n C.1 C.2.1 d rfl (x_loc hl hk) ?_
  exact kk p l e R s m args below meth c H locs cells slots ls QF C hl hL (List.forall_mem_cons.mpr ⟨hL _ (xlk_mem hk), hS⟩) hR hV hc hs hret
theorem x_aload {i : Nat} {x : Nat} (e2 : pc + 2 = p2) (d : decode (xcd y) pc = .ok (.aload i, 2)) (hk : xlk i L = some (xP x)) (kk : xX G y bc bs p2 L (xP x :: S) h Q) : xX G y bc bs pc L S h Q := by
  subst e2
  intro p l e R s m args below meth c H locs cells slots ls QF C hl hL hS hR hV hc hs hret
  refine lv_aload C.1 C.2.1 d (x_loc hl hk) ?_
  exact kk p l e R s m args below meth c H locs cells slots ls QF C hl hL (List.forall_mem_cons.mpr ⟨hL _ (xlk_mem hk), hS⟩) hR hV hc hs hret
theorem x_sload_n {k : Fin 4} (e2 : pc + 1 = p2) (d : decode (xcd y) pc = .ok (.aload_n k, 1)) (hk : xlk k.val L = some xS) (kk : xX G y bc bs p2 L (xS :: S) h Q) : xX G y bc bs pc L S h Q := by
  subst e2
  intro p l e R s m args below meth c H locs cells slots ls QF C hl hL hS hR hV hc hs hret
  refine lv_aload_n C.1 C.2.1 d rfl (x_loc hl hk) ?_
  exact kk p l e R s m args below meth c H locs cells slots ls QF C hl hL (List.forall_mem_cons.mpr ⟨hL _ (xlk_mem hk), hS⟩) hR hV hc hs hret
def xst1 (i : Nat) (L : List (Nat × xV)) : Bool := xinc L && L.all (fun q => !(Nat.beq (q.1 + 1) i && Nat.beq (xcat q.2) 2))
def xset2 (i : Nat) (v : xV) (L : List (Nat × xV)) : List (Nat × xV) := xset i v (L.filter (fun q => !(Nat.beq q.1 (i + 1))))
theorem x_st1 {i : Nat} {v : xV} {ls : Array Slot} {n : Nat} (hk : xst1 i L = true) (hl : lv_has ls n ((i, xcv G v) :: (L.map fun q => (q.1, xcv G q.2)).filter (fun q => !(q.1 == i) && !(q.1 + 1 == i && q.2.category == 2)))) : lv_has ls n ((xset i v L).map fun q => (q.1, xcv G q.2)) := by
  unfold xst1 at hk
  rw [Bool.and_eq_true, List.all_eq_true] at hk
  refine x_lvs hl fun q hq => ?_
  obtain ⟨z, hz, rfl⟩ := List.mem_map.mp hq
  rcases xset_mem (xinc_ok hk.1) hz with rfl | ⟨h1, h2⟩
  · exact List.mem_cons_self
  · refine List.mem_cons_of_mem _ (List.mem_filter.mpr ⟨List.mem_map.mpr ⟨z, h1, rfl⟩, ?_⟩)
    have h3 := hk.2 z h1
    simp only [xcat_ok]
    simp only [Nat.beq_eq_true_eq, Bool.not_eq_true', Bool.and_eq_false_iff, Bool.and_eq_true, beq_eq_false_iff_ne, ne_eq] at h3 ⊢
    refine ⟨h2, ?_⟩
    rcases h3 with h3 | h3
    · exact Or.inl (fun z => by rw [z] at h3; simp at h3)
    · exact Or.inr (fun z => by rw [z] at h3; simp at h3)
theorem x_ok1 {i : Nat} {v : xV} (hk : xst1 i L = true) (hv : xok v) (hL : ∀ q ∈ L, xok q.2) : ∀ q ∈ xset i v L, xok q.2 := by
  unfold xst1 at hk
  rw [Bool.and_eq_true] at hk
  intro q hq
  rcases xset_mem (xinc_ok hk.1) hq with rfl | ⟨h1, -⟩
  · exact hv
  · exact hL q h1
theorem x_st2 {i : Nat} {v : xV} {ls : Array Slot} {n : Nat} (hk : xst1 i L = true) (hl : lv_has ls n ((i, xcv G v) :: (L.map fun q => (q.1, xcv G q.2)).filter (fun q => !(q.1 == i) && (!(q.1 == i + 1) && !(q.1 + 1 == i && q.2.category == 2))))) : lv_has ls n ((xset2 i v L).map fun q => (q.1, xcv G q.2)) := by
  unfold xst1 at hk
  rw [Bool.and_eq_true, List.all_eq_true] at hk
  refine x_lvs hl fun q hq => ?_
  obtain ⟨z, hz, rfl⟩ := List.mem_map.mp hq
  rcases xset_mem ((xinc_ok hk.1).filter _) hz with rfl | ⟨h1, h2⟩
  · exact List.mem_cons_self
  · obtain ⟨h1, h4⟩ := List.mem_filter.mp h1
    refine List.mem_cons_of_mem _ (List.mem_filter.mpr ⟨List.mem_map.mpr ⟨z, h1, rfl⟩, ?_⟩)
    have h3 := hk.2 z h1
    simp only [xcat_ok]
    simp only [Nat.beq_eq_true_eq, Bool.not_eq_true', Bool.and_eq_false_iff, Bool.and_eq_true, beq_eq_false_iff_ne, ne_eq] at h3 h4 ⊢
    refine ⟨h2, fun z => by rw [z] at h4; simp at h4, ?_⟩
    rcases h3 with h3 | h3
    · exact Or.inl (fun z => by rw [z] at h3; simp at h3)
    · exact Or.inr (fun z => by rw [z] at h3; simp at h3)
theorem x_ok2 {i : Nat} {v : xV} (hk : xst1 i L = true) (hv : xok v) (hL : ∀ q ∈ L, xok q.2) : ∀ q ∈ xset2 i v L, xok q.2 := by
  unfold xst1 at hk
  rw [Bool.and_eq_true] at hk
  intro q hq
  rcases xset_mem ((xinc_ok hk.1).filter _) hq with rfl | ⟨h1, -⟩
  · exact hv
  · exact hL q (List.mem_filter.mp h1).1
theorem x_istore {i : Nat} {x : Int} (e2 : pc + 2 = p2) (d : decode (xcd y) pc = .ok (.istore i, 2)) (hk : xst1 i L = true ∧ i < xml y) (eL : xset i (xI x) L = L2) (kk : xX G y bc bs p2 L2 S h Q) : xX G y bc bs pc L (xI x :: S) h Q := by
  subst e2
  subst eL
  intro p l e R s m args below meth c H locs cells slots ls QF C hl hL hS hR hV hc hs hret
  obtain ⟨hv, hS⟩ := xc_1 hS
  refine lv_istore C.1 C.2.1 d hl hk.2 rfl (fun ls hl => ?_)
  exact kk p l e R s m args below meth c H locs cells slots ls QF C (x_st1 (v := xI x) hk.1 hl) (x_ok1 hk.1 hv hL) hS hR hV hc hs hret
theorem x_istore_n {k : Fin 4} {i : Nat} {x : Int} (e2 : pc + 1 = p2) (d : decode (xcd y) pc = .ok (.istore_n k, 1)) (hi : k.val = i) (hk : xst1 i L = true ∧ i < xml y) (eL : xset i (xI x) L = L2) (kk : xX G y bc bs p2 L2 S h Q) : xX G y bc bs pc L (xI x :: S) h Q := by
  subst e2
  subst eL
  intro p l e R s m args below meth c H locs cells slots ls QF C hl hL hS hR hV hc hs hret
  obtain ⟨hv, hS⟩ := xc_1 hS
  refine lv_istore_n C.1 C.2.1 d hi hl hk.2 rfl (fun ls hl => ?_)
  exact kk p l e R s m args below meth c H locs cells slots ls QF C (x_st1 (v := xI x) hk.1 hl) (x_ok1 hk.1 hv hL) hS hR hV hc hs hret
theorem x_astore {i : Nat} {x : Nat} (e2 : pc + 2 = p2) (d : decode (xcd y) pc = .ok (.astore i, 2)) (hk : xst1 i L = true ∧ i < xml y) (eL : xset i (xP x) L = L2) (kk : xX G y bc bs p2 L2 S h Q) : xX G y bc bs pc L (xP x :: S) h Q := by
  subst e2
  subst eL
  intro p l e R s m args below meth c H locs cells slots ls QF C hl hL hS hR hV hc hs hret
  obtain ⟨hv, hS⟩ := xc_1 hS
  refine lv_astore C.1 C.2.1 d hl hk.2 rfl (fun ls hl => ?_)
  exact kk p l e R s m args below meth c H locs cells slots ls QF C (x_st1 (v := xP x) hk.1 hl) (x_ok1 hk.1 hv hL) hS hR hV hc hs hret
theorem x_astore_n {k : Fin 4} {i : Nat} {x : Nat} (e2 : pc + 1 = p2) (d : decode (xcd y) pc = .ok (.astore_n k, 1)) (hi : k.val = i) (hk : xst1 i L = true ∧ i < xml y) (eL : xset i (xP x) L = L2) (kk : xX G y bc bs p2 L2 S h Q) : xX G y bc bs pc L (xP x :: S) h Q := by
  subst e2
  subst eL
  intro p l e R s m args below meth c H locs cells slots ls QF C hl hL hS hR hV hc hs hret
  obtain ⟨hv, hS⟩ := xc_1 hS
  refine lv_astore_n C.1 C.2.1 d hi hl hk.2 rfl (fun ls hl => ?_)
  exact kk p l e R s m args below meth c H locs cells slots ls QF C (x_st1 (v := xP x) hk.1 hl) (x_ok1 hk.1 hv hL) hS hR hV hc hs hret
theorem x_lstore {i : Nat} {x : Int} (e2 : pc + 2 = p2) (d : decode (xcd y) pc = .ok (.lstore i, 2)) (hk : xst1 i L = true ∧ i + 1 < xml y) (eL : xset2 i (xL x) L = L2) (kk : xX G y bc bs p2 L2 S h Q) : xX G y bc bs pc L (xL x :: S) h Q := by
  subst e2
  subst eL
  intro p l e R s m args below meth c H locs cells slots ls QF C hl hL hS hR hV hc hs hret
  obtain ⟨hv, hS⟩ := xc_1 hS
  refine lv_lstore C.1 C.2.1 d hl hk.2 rfl (fun ls hl => ?_)
  exact kk p l e R s m args below meth c H locs cells slots ls QF C (x_st2 (v := xL x) hk.1 hl) (x_ok2 hk.1 hv hL) hS hR hV hc hs hret
theorem x_lstore_n {k : Fin 4} {i : Nat} {x : Int} (e2 : pc + 1 = p2) (d : decode (xcd y) pc = .ok (.lstore_n k, 1)) (hi : k.val = i) (hk : xst1 i L = true ∧ i + 1 < xml y) (eL : xset2 i (xL x) L = L2) (kk : xX G y bc bs p2 L2 S h Q) : xX G y bc bs pc L (xL x :: S) h Q := by
  subst e2
  subst eL
  intro p l e R s m args below meth c H locs cells slots ls QF C hl hL hS hR hV hc hs hret
  obtain ⟨hv, hS⟩ := xc_1 hS
  refine lv_lstore_n C.1 C.2.1 d hi hl hk.2 rfl (fun ls hl => ?_)
  exact kk p l e R s m args below meth c H locs cells slots ls QF C (x_st2 (v := xL x) hk.1 hl) (x_ok2 hk.1 hv hL) hS hR hV hc hs hret
theorem x_iinc {i : Nat} {n x : Int} (e2 : pc + 3 = p2) (d : decode (xcd y) pc = .ok (.iinc i n, 3)) (hl0 : xlk i L = some (xI x)) (hx : xin (x + n)) (hk : xst1 i L = true ∧ i < xml y) (eL : xset i (xI (x + n)) L = L2) (kk : xX G y bc bs p2 L2 S h Q) : xX G y bc bs pc L S h Q := by
  subst e2
  subst eL
  intro p l e R s m args below meth c H locs cells slots ls QF C hl hL hS hR hV hc hs hret
  obtain ⟨k, hk0⟩ := List.getElem?_of_mem (List.mem_map.mpr ⟨(i, xI x), xlk_mem hl0, rfl⟩ : (i, xcv G (xI x)) ∈ L.map fun q => (q.1, xcv G q.2))
  refine lv_iinc (v := Int32.ofInt (x + n)) C.1 C.2.1 d hl hk0 (by rw [Int32.ofInt_add]) hk.2 rfl (fun ls hl => ?_)
  exact kk p l e R s m args below meth c H locs cells slots ls QF C (x_st1 (v := xI (x + n)) hk.1 hl) (x_ok1 hk.1 hx hL) hS hR hV hc hs hret
theorem x_iadd {a b : Int} (e2 : pc + 1 = p2) (d : decode (xcd y) pc = .ok (.iadd, 1)) (hx : xin (a + b)) (kk : xX G y bc bs p2 L (xI (a + b) :: S) h Q) : xX G y bc bs pc L (xI b :: xI a :: S) h Q := by
  subst e2
  intro p l e R s m args below meth c H locs cells slots ls QF C hl hL hS hR hV hc hs hret
  obtain ⟨hv, hS⟩ := xc_1 hS
  obtain ⟨hw, hS⟩ := xc_1 hS
  refine lv_iadd C.1 C.2.1 d ?_
  rw [← Int32.ofInt_add]
  exact kk p l e R s m args below meth c H locs cells slots ls QF C hl hL (List.forall_mem_cons.mpr ⟨hx, hS⟩) hR hV hc hs hret
theorem x_isub {a b : Int} (e2 : pc + 1 = p2) (d : decode (xcd y) pc = .ok (.isub, 1)) (hx : xin (a - b)) (kk : xX G y bc bs p2 L (xI (a - b) :: S) h Q) : xX G y bc bs pc L (xI b :: xI a :: S) h Q := by
  subst e2
  intro p l e R s m args below meth c H locs cells slots ls QF C hl hL hS hR hV hc hs hret
  obtain ⟨hv, hS⟩ := xc_1 hS
  obtain ⟨hw, hS⟩ := xc_1 hS
  refine lv_isub C.1 C.2.1 d ?_
  rw [← Int32.ofInt_sub]
  exact kk p l e R s m args below meth c H locs cells slots ls QF C hl hL (List.forall_mem_cons.mpr ⟨hx, hS⟩) hR hV hc hs hret
theorem x_imul {a b : Int} (e2 : pc + 1 = p2) (d : decode (xcd y) pc = .ok (.imul, 1)) (hx : xin (a * b)) (kk : xX G y bc bs p2 L (xI (a * b) :: S) h Q) : xX G y bc bs pc L (xI b :: xI a :: S) h Q := by
  subst e2
  intro p l e R s m args below meth c H locs cells slots ls QF C hl hL hS hR hV hc hs hret
  obtain ⟨hv, hS⟩ := xc_1 hS
  obtain ⟨hw, hS⟩ := xc_1 hS
  refine lv_imul C.1 C.2.1 d ?_
  rw [← Int32.ofInt_mul]
  exact kk p l e R s m args below meth c H locs cells slots ls QF C hl hL (List.forall_mem_cons.mpr ⟨hx, hS⟩) hR hV hc hs hret
theorem xi_div {a b : Int} (ha : xin a) (hb : xin b) (h0 : 0 ≤ a) (h1 : 0 < b) : Int32.ofInt a / Int32.ofInt b = Int32.ofInt (a / b) ∧ xin (a / b) := by
  have h2 : 0 ≤ a / b := Int.ediv_nonneg h0 (by omega)
  have h3 : a / b ≤ a := Int.ediv_le_self b h0
  have h4 : xin (a / b) := ⟨by omega, by have := ha.2; omega⟩
  refine ⟨?_, h4⟩
  rw [← Int32.toInt_inj, Int32.toInt_div_of_ne_right _ _ (fun z => by
    have h5 := congrArg Int32.toInt z
    rw [xi_toInt hb] at h5
    have : (-1 : Int32).toInt = -1 := rfl
    omega), xi_toInt ha, xi_toInt hb, xi_toInt h4, Int.tdiv_eq_ediv_of_nonneg h0]
theorem xi_mod {a b : Int} (ha : xin a) (hb : xin b) (h0 : 0 ≤ a) (h1 : 0 < b) : Int32.ofInt a - Int32.ofInt a / Int32.ofInt b * Int32.ofInt b = Int32.ofInt (a % b) ∧ xin (a % b) := by
  have h2 := Int.emod_nonneg a (show b ≠ 0 by omega)
  have h3 := Int.emod_lt_of_pos a h1
  refine ⟨?_, ⟨by omega, by have := hb.2; omega⟩⟩
  rw [(xi_div ha hb h0 h1).1, ← Int32.ofInt_mul, ← Int32.ofInt_sub, Int.emod_def, Int.mul_comm]
theorem xl_div {a b : Int} (ha : xlin a) (hb : xlin b) (h0 : 0 ≤ a) (h1 : 0 < b) : Int64.ofInt a / Int64.ofInt b = Int64.ofInt (a / b) ∧ xlin (a / b) := by
  have h2 : 0 ≤ a / b := Int.ediv_nonneg h0 (by omega)
  have h3 : a / b ≤ a := Int.ediv_le_self b h0
  have h4 : xlin (a / b) := ⟨by omega, by have := ha.2; omega⟩
  refine ⟨?_, h4⟩
  rw [← Int64.toInt_inj, Int64.toInt_div_of_ne_right _ _ (fun z => by
    have h5 := congrArg Int64.toInt z
    rw [xl_toInt hb] at h5
    have : (-1 : Int64).toInt = -1 := rfl
    omega), xl_toInt ha, xl_toInt hb, xl_toInt h4, Int.tdiv_eq_ediv_of_nonneg h0]
theorem xl_mod {a b : Int} (ha : xlin a) (hb : xlin b) (h0 : 0 ≤ a) (h1 : 0 < b) : Int64.ofInt a - Int64.ofInt a / Int64.ofInt b * Int64.ofInt b = Int64.ofInt (a % b) ∧ xlin (a % b) := by
  have h2 := Int.emod_nonneg a (show b ≠ 0 by omega)
  have h3 := Int.emod_lt_of_pos a h1
  refine ⟨?_, ⟨by omega, by have := hb.2; omega⟩⟩
  rw [(xl_div ha hb h0 h1).1, ← Int64.ofInt_mul, ← Int64.ofInt_sub, Int.emod_def, Int.mul_comm]
theorem xi_ne0 {b : Int} (hb : xin b) (h1 : 0 < b) : ¬ Int32.ofInt b = 0 := fun z => by
  have := (xi_eq hb ⟨by omega, by omega⟩).mp (z.trans x0.symm)
  omega
theorem xl_ne0 {b : Int} (hb : xlin b) (h1 : 0 < b) : ¬ Int64.ofInt b = 0 := fun z => by
  have h2 : Int64.ofInt b = Int64.ofInt 0 := z
  have := (xl_eq hb ⟨by omega, by omega⟩).mp h2
  omega
theorem x_idiv {a b : Int} (e2 : pc + 1 = p2) (d : decode (xcd y) pc = .ok (.idiv, 1)) (h0 : 0 ≤ a) (h1 : 0 < b) (kk : xX G y bc bs p2 L (xI (a / b) :: S) h Q) : xX G y bc bs pc L (xI b :: xI a :: S) h Q := by
  subst e2
  intro p l e R s m args below meth c H locs cells slots ls QF C hl hL hS hR hV hc hs hret
  obtain ⟨hv, hS⟩ := xc_1 hS
  obtain ⟨hw, hS⟩ := xc_1 hS
  refine lv_idiv C.1 C.2.1 d (xi_ne0 hv h1) ?_
  rw [(xi_div hw hv h0 h1).1]
  exact kk p l e R s m args below meth c H locs cells slots ls QF C hl hL (List.forall_mem_cons.mpr ⟨(xi_div hw hv h0 h1).2, hS⟩) hR hV hc hs hret
theorem x_irem {a b : Int} (e2 : pc + 1 = p2) (d : decode (xcd y) pc = .ok (.irem, 1)) (h0 : 0 ≤ a) (h1 : 0 < b) (kk : xX G y bc bs p2 L (xI (a % b) :: S) h Q) : xX G y bc bs pc L (xI b :: xI a :: S) h Q := by
  subst e2
  intro p l e R s m args below meth c H locs cells slots ls QF C hl hL hS hR hV hc hs hret
  obtain ⟨hv, hS⟩ := xc_1 hS
  obtain ⟨hw, hS⟩ := xc_1 hS
  refine lv_irem C.1 C.2.1 d (xi_ne0 hv h1) ?_
  rw [(xi_mod hw hv h0 h1).1]
  exact kk p l e R s m args below meth c H locs cells slots ls QF C hl hL (List.forall_mem_cons.mpr ⟨(xi_mod hw hv h0 h1).2, hS⟩) hR hV hc hs hret
theorem x_ldiv {a b : Int} (e2 : pc + 1 = p2) (d : decode (xcd y) pc = .ok (.ldiv, 1)) (h0 : 0 ≤ a) (h1 : 0 < b) (kk : xX G y bc bs p2 L (xL (a / b) :: S) h Q) : xX G y bc bs pc L (xL b :: xL a :: S) h Q := by
  subst e2
  intro p l e R s m args below meth c H locs cells slots ls QF C hl hL hS hR hV hc hs hret
  obtain ⟨hv, hS⟩ := xc_1 hS
  obtain ⟨hw, hS⟩ := xc_1 hS
  refine lv_ldiv C.1 C.2.1 d (xl_ne0 hv h1) ?_
  rw [(xl_div hw hv h0 h1).1]
  exact kk p l e R s m args below meth c H locs cells slots ls QF C hl hL (List.forall_mem_cons.mpr ⟨(xl_div hw hv h0 h1).2, hS⟩) hR hV hc hs hret
theorem x_lrem {a b : Int} (e2 : pc + 1 = p2) (d : decode (xcd y) pc = .ok (.lrem, 1)) (h0 : 0 ≤ a) (h1 : 0 < b) (kk : xX G y bc bs p2 L (xL (a % b) :: S) h Q) : xX G y bc bs pc L (xL b :: xL a :: S) h Q := by
  subst e2
  intro p l e R s m args below meth c H locs cells slots ls QF C hl hL hS hR hV hc hs hret
  obtain ⟨hv, hS⟩ := xc_1 hS
  obtain ⟨hw, hS⟩ := xc_1 hS
  refine lv_lrem C.1 C.2.1 d (xl_ne0 hv h1) ?_
  rw [(xl_mod hw hv h0 h1).1]
  exact kk p l e R s m args below meth c H locs cells slots ls QF C hl hL (List.forall_mem_cons.mpr ⟨(xl_mod hw hv h0 h1).2, hS⟩) hR hV hc hs hret
theorem x_ineg {a : Int} (e2 : pc + 1 = p2) (d : decode (xcd y) pc = .ok (.ineg, 1)) (hx : xin (-a)) (kk : xX G y bc bs p2 L (xI (-a) :: S) h Q) : xX G y bc bs pc L (xI a :: S) h Q := by
  subst e2
  intro p l e R s m args below meth c H locs cells slots ls QF C hl hL hS hR hV hc hs hret
  obtain ⟨hv, hS⟩ := xc_1 hS
  refine lv_ineg C.1 C.2.1 d ?_
  rw [← Int32.ofInt_neg]
  exact kk p l e R s m args below meth c H locs cells slots ls QF C hl hL (List.forall_mem_cons.mpr ⟨hx, hS⟩) hR hV hc hs hret
def xiand (a b : Int) : Int := (Int32.ofInt a &&& Int32.ofInt b).toInt
theorem x_iand {a b : Int} (e2 : pc + 1 = p2) (d : decode (xcd y) pc = .ok (.iand, 1)) (kk : xX G y bc bs p2 L (xI (xiand a b) :: S) h Q) : xX G y bc bs pc L (xI b :: xI a :: S) h Q := by
  subst e2
  intro p l e R s m args below meth c H locs cells slots ls QF C hl hL hS hR hV hc hs hret
  obtain ⟨hv, hS⟩ := xc_1 hS
  obtain ⟨hw, hS⟩ := xc_1 hS
  have hk := kk p l e R s m args below meth c H locs cells slots ls QF C hl hL (List.forall_mem_cons.mpr ⟨x32 _, hS⟩) hR hV hc hs hret
  have e3 : Int32.ofInt (xiand a b) = Int32.ofInt a &&& Int32.ofInt b := Int32.ofInt_toInt _
  refine lv_iand C.1 C.2.1 d ?_
  rw [← e3]
  exact hk
def xior (a b : Int) : Int := (Int32.ofInt a ||| Int32.ofInt b).toInt
theorem x_ior {a b : Int} (e2 : pc + 1 = p2) (d : decode (xcd y) pc = .ok (.ior, 1)) (kk : xX G y bc bs p2 L (xI (xior a b) :: S) h Q) : xX G y bc bs pc L (xI b :: xI a :: S) h Q := by
  subst e2
  intro p l e R s m args below meth c H locs cells slots ls QF C hl hL hS hR hV hc hs hret
  obtain ⟨hv, hS⟩ := xc_1 hS
  obtain ⟨hw, hS⟩ := xc_1 hS
  have hk := kk p l e R s m args below meth c H locs cells slots ls QF C hl hL (List.forall_mem_cons.mpr ⟨x32 _, hS⟩) hR hV hc hs hret
  have e3 : Int32.ofInt (xior a b) = Int32.ofInt a ||| Int32.ofInt b := Int32.ofInt_toInt _
  refine lv_ior C.1 C.2.1 d ?_
  rw [← e3]
  exact hk
def xixor (a b : Int) : Int := (Int32.ofInt a ^^^ Int32.ofInt b).toInt
theorem x_ixor {a b : Int} (e2 : pc + 1 = p2) (d : decode (xcd y) pc = .ok (.ixor, 1)) (kk : xX G y bc bs p2 L (xI (xixor a b) :: S) h Q) : xX G y bc bs pc L (xI b :: xI a :: S) h Q := by
  subst e2
  intro p l e R s m args below meth c H locs cells slots ls QF C hl hL hS hR hV hc hs hret
  obtain ⟨hv, hS⟩ := xc_1 hS
  obtain ⟨hw, hS⟩ := xc_1 hS
  have hk := kk p l e R s m args below meth c H locs cells slots ls QF C hl hL (List.forall_mem_cons.mpr ⟨x32 _, hS⟩) hR hV hc hs hret
  have e3 : Int32.ofInt (xixor a b) = Int32.ofInt a ^^^ Int32.ofInt b := Int32.ofInt_toInt _
  refine lv_ixor C.1 C.2.1 d ?_
  rw [← e3]
  exact hk
def xishl (a b : Int) : Int := (Int32.ofInt a <<< (Int32.ofInt b &&& 31)).toInt
theorem x_ishl {a b : Int} (e2 : pc + 1 = p2) (d : decode (xcd y) pc = .ok (.ishl, 1)) (kk : xX G y bc bs p2 L (xI (xishl a b) :: S) h Q) : xX G y bc bs pc L (xI b :: xI a :: S) h Q := by
  subst e2
  intro p l e R s m args below meth c H locs cells slots ls QF C hl hL hS hR hV hc hs hret
  obtain ⟨hv, hS⟩ := xc_1 hS
  obtain ⟨hw, hS⟩ := xc_1 hS
  have hk := kk p l e R s m args below meth c H locs cells slots ls QF C hl hL (List.forall_mem_cons.mpr ⟨x32 _, hS⟩) hR hV hc hs hret
  have e3 : Int32.ofInt (xishl a b) = Int32.ofInt a <<< (Int32.ofInt b &&& 31) := Int32.ofInt_toInt _
  refine lv_ishl C.1 C.2.1 d ?_
  rw [← e3]
  exact hk
def xishr (a b : Int) : Int := (Int32.ofInt a >>> (Int32.ofInt b &&& 31)).toInt
theorem x_ishr {a b : Int} (e2 : pc + 1 = p2) (d : decode (xcd y) pc = .ok (.ishr, 1)) (kk : xX G y bc bs p2 L (xI (xishr a b) :: S) h Q) : xX G y bc bs pc L (xI b :: xI a :: S) h Q := by
  subst e2
  intro p l e R s m args below meth c H locs cells slots ls QF C hl hL hS hR hV hc hs hret
  obtain ⟨hv, hS⟩ := xc_1 hS
  obtain ⟨hw, hS⟩ := xc_1 hS
  have hk := kk p l e R s m args below meth c H locs cells slots ls QF C hl hL (List.forall_mem_cons.mpr ⟨x32 _, hS⟩) hR hV hc hs hret
  have e3 : Int32.ofInt (xishr a b) = Int32.ofInt a >>> (Int32.ofInt b &&& 31) := Int32.ofInt_toInt _
  refine lv_ishr C.1 C.2.1 d ?_
  rw [← e3]
  exact hk
def xiushr (a b : Int) : Int := (((Int32.ofInt a).toUInt32 >>> ((Int32.ofInt b).toUInt32 &&& Int32.toUInt32 31)).toInt32).toInt
theorem x_iushr {a b : Int} (e2 : pc + 1 = p2) (d : decode (xcd y) pc = .ok (.iushr, 1)) (kk : xX G y bc bs p2 L (xI (xiushr a b) :: S) h Q) : xX G y bc bs pc L (xI b :: xI a :: S) h Q := by
  subst e2
  intro p l e R s m args below meth c H locs cells slots ls QF C hl hL hS hR hV hc hs hret
  obtain ⟨hv, hS⟩ := xc_1 hS
  obtain ⟨hw, hS⟩ := xc_1 hS
  have hk := kk p l e R s m args below meth c H locs cells slots ls QF C hl hL (List.forall_mem_cons.mpr ⟨x32 _, hS⟩) hR hV hc hs hret
  have e3 : Int32.ofInt (xiushr a b) = ((Int32.ofInt a).toUInt32 >>> ((Int32.ofInt b).toUInt32 &&& Int32.toUInt32 31)).toInt32 := Int32.ofInt_toInt _
  refine lv_iushr C.1 C.2.1 d (Int32.ofInt_toInt _).symm ?_
  exact hk
def xladd (a b : Int) : Int := (Int64.ofInt a + Int64.ofInt b).toInt
theorem x_ladd {a b : Int} (e2 : pc + 1 = p2) (d : decode (xcd y) pc = .ok (.ladd, 1)) (kk : xX G y bc bs p2 L (xL (xladd a b) :: S) h Q) : xX G y bc bs pc L (xL b :: xL a :: S) h Q := by
  subst e2
  intro p l e R s m args below meth c H locs cells slots ls QF C hl hL hS hR hV hc hs hret
  obtain ⟨hv, hS⟩ := xc_1 hS
  obtain ⟨hw, hS⟩ := xc_1 hS
  have hk := kk p l e R s m args below meth c H locs cells slots ls QF C hl hL (List.forall_mem_cons.mpr ⟨x64 _, hS⟩) hR hV hc hs hret
  have e3 : Int64.ofInt (xladd a b) = Int64.ofInt a + Int64.ofInt b := Int64.ofInt_toInt _
  refine lv_ladd C.1 C.2.1 d ?_
  rw [← e3]
  exact hk
def xlsub (a b : Int) : Int := (Int64.ofInt a - Int64.ofInt b).toInt
theorem x_lsub {a b : Int} (e2 : pc + 1 = p2) (d : decode (xcd y) pc = .ok (.lsub, 1)) (kk : xX G y bc bs p2 L (xL (xlsub a b) :: S) h Q) : xX G y bc bs pc L (xL b :: xL a :: S) h Q := by
  subst e2
  intro p l e R s m args below meth c H locs cells slots ls QF C hl hL hS hR hV hc hs hret
  obtain ⟨hv, hS⟩ := xc_1 hS
  obtain ⟨hw, hS⟩ := xc_1 hS
  have hk := kk p l e R s m args below meth c H locs cells slots ls QF C hl hL (List.forall_mem_cons.mpr ⟨x64 _, hS⟩) hR hV hc hs hret
  have e3 : Int64.ofInt (xlsub a b) = Int64.ofInt a - Int64.ofInt b := Int64.ofInt_toInt _
  refine lv_lsub C.1 C.2.1 d ?_
  rw [← e3]
  exact hk
def xlmul (a b : Int) : Int := (Int64.ofInt a * Int64.ofInt b).toInt
theorem x_lmul {a b : Int} (e2 : pc + 1 = p2) (d : decode (xcd y) pc = .ok (.lmul, 1)) (kk : xX G y bc bs p2 L (xL (xlmul a b) :: S) h Q) : xX G y bc bs pc L (xL b :: xL a :: S) h Q := by
  subst e2
  intro p l e R s m args below meth c H locs cells slots ls QF C hl hL hS hR hV hc hs hret
  obtain ⟨hv, hS⟩ := xc_1 hS
  obtain ⟨hw, hS⟩ := xc_1 hS
  have hk := kk p l e R s m args below meth c H locs cells slots ls QF C hl hL (List.forall_mem_cons.mpr ⟨x64 _, hS⟩) hR hV hc hs hret
  have e3 : Int64.ofInt (xlmul a b) = Int64.ofInt a * Int64.ofInt b := Int64.ofInt_toInt _
  refine lv_lmul C.1 C.2.1 d ?_
  rw [← e3]
  exact hk
def xland (a b : Int) : Int := (Int64.ofInt a &&& Int64.ofInt b).toInt
theorem x_land {a b : Int} (e2 : pc + 1 = p2) (d : decode (xcd y) pc = .ok (.land, 1)) (kk : xX G y bc bs p2 L (xL (xland a b) :: S) h Q) : xX G y bc bs pc L (xL b :: xL a :: S) h Q := by
  subst e2
  intro p l e R s m args below meth c H locs cells slots ls QF C hl hL hS hR hV hc hs hret
  obtain ⟨hv, hS⟩ := xc_1 hS
  obtain ⟨hw, hS⟩ := xc_1 hS
  have hk := kk p l e R s m args below meth c H locs cells slots ls QF C hl hL (List.forall_mem_cons.mpr ⟨x64 _, hS⟩) hR hV hc hs hret
  have e3 : Int64.ofInt (xland a b) = Int64.ofInt a &&& Int64.ofInt b := Int64.ofInt_toInt _
  refine lv_land C.1 C.2.1 d ?_
  rw [← e3]
  exact hk
def xlor (a b : Int) : Int := (Int64.ofInt a ||| Int64.ofInt b).toInt
theorem x_lor {a b : Int} (e2 : pc + 1 = p2) (d : decode (xcd y) pc = .ok (.lor, 1)) (kk : xX G y bc bs p2 L (xL (xlor a b) :: S) h Q) : xX G y bc bs pc L (xL b :: xL a :: S) h Q := by
  subst e2
  intro p l e R s m args below meth c H locs cells slots ls QF C hl hL hS hR hV hc hs hret
  obtain ⟨hv, hS⟩ := xc_1 hS
  obtain ⟨hw, hS⟩ := xc_1 hS
  have hk := kk p l e R s m args below meth c H locs cells slots ls QF C hl hL (List.forall_mem_cons.mpr ⟨x64 _, hS⟩) hR hV hc hs hret
  have e3 : Int64.ofInt (xlor a b) = Int64.ofInt a ||| Int64.ofInt b := Int64.ofInt_toInt _
  refine lv_lor C.1 C.2.1 d ?_
  rw [← e3]
  exact hk
theorem xladd_eq {a b : Int} (h : xlin (a + b)) : xladd a b = a + b := by
  unfold xladd
  rw [← Int64.ofInt_add, xl_toInt h]
theorem xlsub_eq {a b : Int} (h : xlin (a - b)) : xlsub a b = a - b := by
  unfold xlsub
  rw [← Int64.ofInt_sub, xl_toInt h]
theorem xlmul_eq {a b : Int} (h : xlin (a * b)) : xlmul a b = a * b := by
  unfold xlmul
  rw [← Int64.ofInt_mul, xl_toInt h]
def xlshl (a b : Int) : Int := (Int64.ofInt a <<< ((Int32.ofInt b).toInt64 &&& 63)).toInt
def xlushr (a b : Int) : Int := ((Int64.ofInt a).toUInt64 >>> ((Int32.ofInt b).toInt64.toUInt64 &&& Int64.toUInt64 63)).toInt64.toInt
theorem x_lshl {a b : Int} (e2 : pc + 1 = p2) (d : decode (xcd y) pc = .ok (.lshl, 1)) (kk : xX G y bc bs p2 L (xL (xlshl a b) :: S) h Q) : xX G y bc bs pc L (xI b :: xL a :: S) h Q := by
  subst e2
  intro p l e R s m args below meth c H locs cells slots ls QF C hl hL hS hR hV hc hs hret
  obtain ⟨hv, hS⟩ := xc_1 hS
  obtain ⟨hw, hS⟩ := xc_1 hS
  refine lv_lshl C.1 C.2.1 d (Int64.ofInt_toInt _).symm ?_
  exact kk p l e R s m args below meth c H locs cells slots ls QF C hl hL (List.forall_mem_cons.mpr ⟨x64 _, hS⟩) hR hV hc hs hret
theorem x_lushr {a b : Int} (e2 : pc + 1 = p2) (d : decode (xcd y) pc = .ok (.lushr, 1)) (kk : xX G y bc bs p2 L (xL (xlushr a b) :: S) h Q) : xX G y bc bs pc L (xI b :: xL a :: S) h Q := by
  subst e2
  intro p l e R s m args below meth c H locs cells slots ls QF C hl hL hS hR hV hc hs hret
  obtain ⟨hv, hS⟩ := xc_1 hS
  obtain ⟨hw, hS⟩ := xc_1 hS
  refine lv_lushr C.1 C.2.1 d (Int64.ofInt_toInt _).symm ?_
  exact kk p l e R s m args below meth c H locs cells slots ls QF C hl hL (List.forall_mem_cons.mpr ⟨x64 _, hS⟩) hR hV hc hs hret
theorem x_i2l {a : Int} (e2 : pc + 1 = p2) (d : decode (xcd y) pc = .ok (.i2l, 1)) (kk : xX G y bc bs p2 L (xL a :: S) h Q) : xX G y bc bs pc L (xI a :: S) h Q := by
  subst e2
  intro p l e R s m args below meth c H locs cells slots ls QF C hl hL hS hR hV hc hs hret
  obtain ⟨hv, hS⟩ := xc_1 hS
  have h1 : xin a := hv
  refine lv_i2l (v := Int64.ofInt a) C.1 C.2.1 d (Int32.toInt64_ofInt (show (-2147483648 : Int) ≤ a from h1.1) (show a ≤ (2147483647 : Int) from h1.2)) ?_
  exact kk p l e R s m args below meth c H locs cells slots ls QF C hl hL (List.forall_mem_cons.mpr ⟨(show xlin a from ⟨by have := h1.1; omega, by have := h1.2; omega⟩), hS⟩) hR hV hc hs hret
theorem x_l2i {a : Int} (e2 : pc + 1 = p2) (d : decode (xcd y) pc = .ok (.l2i, 1)) (hx : xin a) (kk : xX G y bc bs p2 L (xI a :: S) h Q) : xX G y bc bs pc L (xL a :: S) h Q := by
  subst e2
  intro p l e R s m args below meth c H locs cells slots ls QF C hl hL hS hR hV hc hs hret
  obtain ⟨hv, hS⟩ := xc_1 hS
  refine lv_l2i (v := Int32.ofInt a) C.1 C.2.1 d Int64.toInt32_ofInt ?_
  exact kk p l e R s m args below meth c H locs cells slots ls QF C hl hL (List.forall_mem_cons.mpr ⟨hx, hS⟩) hR hV hc hs hret
theorem x_lcmp {a b : Int} (e2 : pc + 1 = p2) (d : decode (xcd y) pc = .ok (.lcmp, 1)) (k1 : b < a → xX G y bc bs p2 L (xI 1 :: S) h Q) (k2 : a = b → xX G y bc bs p2 L (xI 0 :: S) h Q) (k3 : a < b → xX G y bc bs p2 L (xI (-1) :: S) h Q) : xX G y bc bs pc L (xL b :: xL a :: S) h Q := by
  subst e2
  intro p l e R s m args below meth c H locs cells slots ls QF C hl hL hS hR hV hc hs hret
  obtain ⟨hv, hS⟩ := xc_1 hS
  obtain ⟨hw, hS⟩ := xc_1 hS
  refine W.lcmp C.1 C.2.1 d ?_
  unfold lg_cmp
  by_cases h1 : b < a
  · rw [if_pos ((xl_lt hv hw).mpr h1)]
    exact k1 h1 p l e R s m args below meth c H locs cells slots ls QF C hl hL (List.forall_mem_cons.mpr ⟨⟨by decide, by decide⟩, hS⟩) hR hV hc hs hret
  · rw [if_neg (fun z => h1 ((xl_lt hv hw).mp z))]
    by_cases h2 : a = b
    · rw [if_pos (by rw [h2])]
      exact k2 h2 p l e R s m args below meth c H locs cells slots ls QF C hl hL (List.forall_mem_cons.mpr ⟨⟨by decide, by decide⟩, hS⟩) hR hV hc hs hret
    · rw [if_neg (fun z => h2 ((xl_eq hw hv).mp z))]
      exact k3 (by omega) p l e R s m args below meth c H locs cells slots ls QF C hl hL (List.forall_mem_cons.mpr ⟨⟨by decide, by decide⟩, hS⟩) hR hV hc hs hret
theorem x_dup {v : xV} (e2 : pc + 1 = p2) (d : decode (xcd y) pc = .ok (.dup, 1)) (hc1 : xcat v = 1) (kk : xX G y bc bs p2 L (v :: v :: S) h Q) : xX G y bc bs pc L (v :: S) h Q := by
  subst e2
  intro p l e R s m args below meth c H locs cells slots ls QF C hl hL hS hR hV hc hs hret
  obtain ⟨hv, hS⟩ := xc_1 hS
  refine lv_dup C.1 C.2.1 d (by rw [xcat_ok]; exact hc1) ?_
  exact kk p l e R s m args below meth c H locs cells slots ls QF C hl hL (List.forall_mem_cons.mpr ⟨hv, (List.forall_mem_cons.mpr ⟨hv, hS⟩)⟩) hR hV hc hs hret
theorem x_pop {v : xV} (e2 : pc + 1 = p2) (d : decode (xcd y) pc = .ok (.pop, 1)) (hc1 : xcat v = 1) (kk : xX G y bc bs p2 L S h Q) : xX G y bc bs pc L (v :: S) h Q := by
  subst e2
  intro p l e R s m args below meth c H locs cells slots ls QF C hl hL hS hR hV hc hs hret
  obtain ⟨hv, hS⟩ := xc_1 hS
  refine lv_pop C.1 C.2.1 d (by rw [xcat_ok]; exact hc1) ?_
  exact kk p l e R s m args below meth c H locs cells slots ls QF C hl hL hS hR hV hc hs hret
theorem x_if_eq {x off : Int} {t : Nat} (ht : (pc : Int) + off = (t : Int)) (e2 : pc + 3 = p2) (d : decode (xcd y) pc = .ok (.ifCond .eq off, 3)) (kt : x = 0 → xX G y bc bs t L S h Q) (kf : ¬ x = 0 → xX G y bc bs p2 L S h Q) : xX G y bc bs pc L (xI x :: S) h Q := by
  subst e2
  intro p l e R s m args below meth c H locs cells slots ls QF C hl hL hS hR hV hc hs hret
  obtain ⟨hv, hS⟩ := xc_1 hS
  have hz : xin 0 := ⟨by decide, by decide⟩
  have E := xi_eq hv hz
  refine lv_if_eq C.1 C.2.1 d ht (fun q => ?_) (fun q => ?_)
  · exact kt (E.mp q) p l e R s m args below meth c H locs cells slots ls QF C hl hL hS hR hV hc hs hret
  · exact kf (fun z => q (E.mpr z)) p l e R s m args below meth c H locs cells slots ls QF C hl hL hS hR hV hc hs hret
theorem x_ic_eq {x b off : Int} {t : Nat} (ht : (pc : Int) + off = (t : Int)) (e2 : pc + 3 = p2) (d : decode (xcd y) pc = .ok (.if_icmp .eq off, 3)) (kt : x = b → xX G y bc bs t L S h Q) (kf : ¬ x = b → xX G y bc bs p2 L S h Q) : xX G y bc bs pc L (xI b :: xI x :: S) h Q := by
  subst e2
  intro p l e R s m args below meth c H locs cells slots ls QF C hl hL hS hR hV hc hs hret
  obtain ⟨hz, hS⟩ := xc_1 hS
  obtain ⟨hv, hS⟩ := xc_1 hS
  have E := xi_eq hv hz
  refine lv_icmp_eq C.1 C.2.1 d ht (fun q => ?_) (fun q => ?_)
  · exact kt (E.mp q) p l e R s m args below meth c H locs cells slots ls QF C hl hL hS hR hV hc hs hret
  · exact kf (fun z => q (E.mpr z)) p l e R s m args below meth c H locs cells slots ls QF C hl hL hS hR hV hc hs hret
theorem x_if_ne {x off : Int} {t : Nat} (ht : (pc : Int) + off = (t : Int)) (e2 : pc + 3 = p2) (d : decode (xcd y) pc = .ok (.ifCond .ne off, 3)) (kt : ¬ x = 0 → xX G y bc bs t L S h Q) (kf : x = 0 → xX G y bc bs p2 L S h Q) : xX G y bc bs pc L (xI x :: S) h Q := by
  subst e2
  intro p l e R s m args below meth c H locs cells slots ls QF C hl hL hS hR hV hc hs hret
  obtain ⟨hv, hS⟩ := xc_1 hS
  have hz : xin 0 := ⟨by decide, by decide⟩
  have E := xi_eq hv hz
  refine lv_if_ne C.1 C.2.1 d ht (fun q => ?_) (fun q => ?_)
  · exact kt (fun z => q (E.mpr z)) p l e R s m args below meth c H locs cells slots ls QF C hl hL hS hR hV hc hs hret
  · exact kf (E.mp q) p l e R s m args below meth c H locs cells slots ls QF C hl hL hS hR hV hc hs hret
theorem x_ic_ne {x b off : Int} {t : Nat} (ht : (pc : Int) + off = (t : Int)) (e2 : pc + 3 = p2) (d : decode (xcd y) pc = .ok (.if_icmp .ne off, 3)) (kt : ¬ x = b → xX G y bc bs t L S h Q) (kf : x = b → xX G y bc bs p2 L S h Q) : xX G y bc bs pc L (xI b :: xI x :: S) h Q := by
  subst e2
  intro p l e R s m args below meth c H locs cells slots ls QF C hl hL hS hR hV hc hs hret
  obtain ⟨hz, hS⟩ := xc_1 hS
  obtain ⟨hv, hS⟩ := xc_1 hS
  have E := xi_eq hv hz
  refine lv_icmp_ne C.1 C.2.1 d ht (fun q => ?_) (fun q => ?_)
  · exact kt (fun z => q (E.mpr z)) p l e R s m args below meth c H locs cells slots ls QF C hl hL hS hR hV hc hs hret
  · exact kf (E.mp q) p l e R s m args below meth c H locs cells slots ls QF C hl hL hS hR hV hc hs hret
theorem x_if_lt {x off : Int} {t : Nat} (ht : (pc : Int) + off = (t : Int)) (e2 : pc + 3 = p2) (d : decode (xcd y) pc = .ok (.ifCond .lt off, 3)) (kt : x < 0 → xX G y bc bs t L S h Q) (kf : 0 ≤ x → xX G y bc bs p2 L S h Q) : xX G y bc bs pc L (xI x :: S) h Q := by
  subst e2
  intro p l e R s m args below meth c H locs cells slots ls QF C hl hL hS hR hV hc hs hret
  obtain ⟨hv, hS⟩ := xc_1 hS
  have hz : xin 0 := ⟨by decide, by decide⟩
  have E := xi_lt hv hz
  refine lv_if_lt C.1 C.2.1 d ht (fun q => ?_) (fun q => ?_)
  · exact kt (E.mp q) p l e R s m args below meth c H locs cells slots ls QF C hl hL hS hR hV hc hs hret
  · exact kf (Int.not_lt.mp (fun z => q (E.mpr z))) p l e R s m args below meth c H locs cells slots ls QF C hl hL hS hR hV hc hs hret
theorem x_ic_lt {x b off : Int} {t : Nat} (ht : (pc : Int) + off = (t : Int)) (e2 : pc + 3 = p2) (d : decode (xcd y) pc = .ok (.if_icmp .lt off, 3)) (kt : x < b → xX G y bc bs t L S h Q) (kf : b ≤ x → xX G y bc bs p2 L S h Q) : xX G y bc bs pc L (xI b :: xI x :: S) h Q := by
  subst e2
  intro p l e R s m args below meth c H locs cells slots ls QF C hl hL hS hR hV hc hs hret
  obtain ⟨hz, hS⟩ := xc_1 hS
  obtain ⟨hv, hS⟩ := xc_1 hS
  have E := xi_lt hv hz
  refine lv_icmp_lt C.1 C.2.1 d ht (fun q => ?_) (fun q => ?_)
  · exact kt (E.mp q) p l e R s m args below meth c H locs cells slots ls QF C hl hL hS hR hV hc hs hret
  · exact kf (Int.not_lt.mp (fun z => q (E.mpr z))) p l e R s m args below meth c H locs cells slots ls QF C hl hL hS hR hV hc hs hret
theorem x_if_ge {x off : Int} {t : Nat} (ht : (pc : Int) + off = (t : Int)) (e2 : pc + 3 = p2) (d : decode (xcd y) pc = .ok (.ifCond .ge off, 3)) (kt : 0 ≤ x → xX G y bc bs t L S h Q) (kf : x < 0 → xX G y bc bs p2 L S h Q) : xX G y bc bs pc L (xI x :: S) h Q := by
  subst e2
  intro p l e R s m args below meth c H locs cells slots ls QF C hl hL hS hR hV hc hs hret
  obtain ⟨hv, hS⟩ := xc_1 hS
  have hz : xin 0 := ⟨by decide, by decide⟩
  have E := xi_le hz hv
  refine lv_if_ge C.1 C.2.1 d ht (fun q => ?_) (fun q => ?_)
  · exact kt (E.mp q) p l e R s m args below meth c H locs cells slots ls QF C hl hL hS hR hV hc hs hret
  · exact kf (Int.not_le.mp (fun z => q (E.mpr z))) p l e R s m args below meth c H locs cells slots ls QF C hl hL hS hR hV hc hs hret
theorem x_ic_ge {x b off : Int} {t : Nat} (ht : (pc : Int) + off = (t : Int)) (e2 : pc + 3 = p2) (d : decode (xcd y) pc = .ok (.if_icmp .ge off, 3)) (kt : b ≤ x → xX G y bc bs t L S h Q) (kf : x < b → xX G y bc bs p2 L S h Q) : xX G y bc bs pc L (xI b :: xI x :: S) h Q := by
  subst e2
  intro p l e R s m args below meth c H locs cells slots ls QF C hl hL hS hR hV hc hs hret
  obtain ⟨hz, hS⟩ := xc_1 hS
  obtain ⟨hv, hS⟩ := xc_1 hS
  have E := xi_le hz hv
  refine lv_icmp_ge C.1 C.2.1 d ht (fun q => ?_) (fun q => ?_)
  · exact kt (E.mp q) p l e R s m args below meth c H locs cells slots ls QF C hl hL hS hR hV hc hs hret
  · exact kf (Int.not_le.mp (fun z => q (E.mpr z))) p l e R s m args below meth c H locs cells slots ls QF C hl hL hS hR hV hc hs hret
theorem x_if_gt {x off : Int} {t : Nat} (ht : (pc : Int) + off = (t : Int)) (e2 : pc + 3 = p2) (d : decode (xcd y) pc = .ok (.ifCond .gt off, 3)) (kt : 0 < x → xX G y bc bs t L S h Q) (kf : x ≤ 0 → xX G y bc bs p2 L S h Q) : xX G y bc bs pc L (xI x :: S) h Q := by
  subst e2
  intro p l e R s m args below meth c H locs cells slots ls QF C hl hL hS hR hV hc hs hret
  obtain ⟨hv, hS⟩ := xc_1 hS
  have hz : xin 0 := ⟨by decide, by decide⟩
  have E := xi_lt hz hv
  refine lv_if_gt C.1 C.2.1 d ht (fun q => ?_) (fun q => ?_)
  · exact kt (E.mp q) p l e R s m args below meth c H locs cells slots ls QF C hl hL hS hR hV hc hs hret
  · exact kf (Int.not_lt.mp (fun z => q (E.mpr z))) p l e R s m args below meth c H locs cells slots ls QF C hl hL hS hR hV hc hs hret
theorem x_ic_gt {x b off : Int} {t : Nat} (ht : (pc : Int) + off = (t : Int)) (e2 : pc + 3 = p2) (d : decode (xcd y) pc = .ok (.if_icmp .gt off, 3)) (kt : b < x → xX G y bc bs t L S h Q) (kf : x ≤ b → xX G y bc bs p2 L S h Q) : xX G y bc bs pc L (xI b :: xI x :: S) h Q := by
  subst e2
  intro p l e R s m args below meth c H locs cells slots ls QF C hl hL hS hR hV hc hs hret
  obtain ⟨hz, hS⟩ := xc_1 hS
  obtain ⟨hv, hS⟩ := xc_1 hS
  have E := xi_lt hz hv
  refine lv_icmp_gt C.1 C.2.1 d ht (fun q => ?_) (fun q => ?_)
  · exact kt (E.mp q) p l e R s m args below meth c H locs cells slots ls QF C hl hL hS hR hV hc hs hret
  · exact kf (Int.not_lt.mp (fun z => q (E.mpr z))) p l e R s m args below meth c H locs cells slots ls QF C hl hL hS hR hV hc hs hret
theorem x_if_le {x off : Int} {t : Nat} (ht : (pc : Int) + off = (t : Int)) (e2 : pc + 3 = p2) (d : decode (xcd y) pc = .ok (.ifCond .le off, 3)) (kt : x ≤ 0 → xX G y bc bs t L S h Q) (kf : 0 < x → xX G y bc bs p2 L S h Q) : xX G y bc bs pc L (xI x :: S) h Q := by
  subst e2
  intro p l e R s m args below meth c H locs cells slots ls QF C hl hL hS hR hV hc hs hret
  obtain ⟨hv, hS⟩ := xc_1 hS
  have hz : xin 0 := ⟨by decide, by decide⟩
  have E := xi_le hv hz
  refine lv_if_le C.1 C.2.1 d ht (fun q => ?_) (fun q => ?_)
  · exact kt (E.mp q) p l e R s m args below meth c H locs cells slots ls QF C hl hL hS hR hV hc hs hret
  · exact kf (Int.not_le.mp (fun z => q (E.mpr z))) p l e R s m args below meth c H locs cells slots ls QF C hl hL hS hR hV hc hs hret
theorem x_ic_le {x b off : Int} {t : Nat} (ht : (pc : Int) + off = (t : Int)) (e2 : pc + 3 = p2) (d : decode (xcd y) pc = .ok (.if_icmp .le off, 3)) (kt : x ≤ b → xX G y bc bs t L S h Q) (kf : b < x → xX G y bc bs p2 L S h Q) : xX G y bc bs pc L (xI b :: xI x :: S) h Q := by
  subst e2
  intro p l e R s m args below meth c H locs cells slots ls QF C hl hL hS hR hV hc hs hret
  obtain ⟨hz, hS⟩ := xc_1 hS
  obtain ⟨hv, hS⟩ := xc_1 hS
  have E := xi_le hv hz
  refine lv_icmp_le C.1 C.2.1 d ht (fun q => ?_) (fun q => ?_)
  · exact kt (E.mp q) p l e R s m args below meth c H locs cells slots ls QF C hl hL hS hR hV hc hs hret
  · exact kf (Int.not_le.mp (fun z => q (E.mpr z))) p l e R s m args below meth c H locs cells slots ls QF C hl hL hS hR hV hc hs hret
theorem x_goto {off : Int} {t : Nat} (ht : (pc : Int) + off = (t : Int)) (d : decode (xcd y) pc = .ok (.goto off, 3)) (kk : xX G y bc bs t L S h Q) : xX G y bc bs pc L S h Q := by
  intro p l e R s m args below meth c H locs cells slots ls QF C hl hL hS hR hV hc hs hret
  refine lv_goto C.1 C.2.1 d ht ?_
  exact kk p l e R s m args below meth c H locs cells slots ls QF C hl hL hS hR hV hc hs hret
theorem x_tsOut {x dflt lo hi : Int} {offs : Array Int} {len t : Nat} (d : decode (xcd y) pc = .ok (.tableswitch dflt lo hi offs, len)) (hx : x < lo ∨ hi < x) (ht : (pc : Int) + dflt = (t : Int)) (kk : xX G y bc bs t L S h Q) : xX G y bc bs pc L (xI x :: S) h Q := by
  intro p l e R s m args below meth c H locs cells slots ls QF C hl hL hS hR hV hc hs hret
  obtain ⟨hv, hS⟩ := xc_1 hS
  refine lv_tableOut C.1 C.2.1 d (by rw [xi_toInt hv]; exact hx) ht ?_
  exact kk p l e R s m args below meth c H locs cells slots ls QF C hl hL hS hR hV hc hs hret
theorem x_tsIn {x dflt lo hi off : Int} {offs : Array Int} {len t : Nat} (d : decode (xcd y) pc = .ok (.tableswitch dflt lo hi offs, len)) (h1 : lo ≤ x) (h2 : x ≤ hi) (ho : offs[(x - lo).toNat]? = some off) (ht : (pc : Int) + off = (t : Int)) (kk : xX G y bc bs t L S h Q) : xX G y bc bs pc L (xI x :: S) h Q := by
  intro p l e R s m args below meth c H locs cells slots ls QF C hl hL hS hR hV hc hs hret
  obtain ⟨hv, hS⟩ := xc_1 hS
  refine lv_tableIn C.1 C.2.1 d (by rw [xi_toInt hv]; omega) (by rw [xi_toInt hv]; omega) (by rw [xi_toInt hv]; exact ho) ht ?_
  exact kk p l e R s m args below meth c H locs cells slots ls QF C hl hL hS hR hV hc hs hret
end XR
