/-! the small machine's states as the machine's -/
def gB (G : xG) : Nat := G.2.2.1
def gb (G : xG) : Nat := G.2.2.2.1
def gN (G : xG) : Nat := G.2.2.2.2.1
def gx (G : xG) : Nat → Int32 := G.2.2.2.2.2
def gtys (G : xG) : List (ClassId × FieldType) := [(G.2.1.1, .int), (G.2.1.2.1, .boolean), (G.2.1.2.2, .object RX7)]
def xcv (G : xG) (v : xV) : Value := match v with
  | .inl x => .int (Int32.ofInt x)
  | .inr (.inl x) => .long (Int64.ofInt x)
  | .inr (.inr none) => .ref (gb G)
  | .inr (.inr (some k)) => .ref (gB G + k)
def xok (v : xV) : Prop := match v with
  | .inl x => xin x
  | .inr (.inl x) => xlin x
  | .inr (.inr _) => True
def xcat (v : xV) : Nat := match v with
  | .inr (.inl _) => 2
  | _ => 1
theorem xcat_ok (G : xG) (v : xV) : (xcv G v).category = xcat v := by
  rcases v with x | x | _ | k <;> rfl
def xrf (G : xG) (r : Option Nat) : Option Nat := r.map (fun k => gB G + k)
def xfv (G : xG) (ρ : Nat → Int → Option Nat) (M : Nat → Int → Int) (k ci j : Nat) : Value := if xfr ci j then va_rf (xrf G (ρ k j)) else .int (Int32.ofInt (M k j))
def xfs (G : xG) (ρ : Nat → Int → Option Nat) (M : Nat → Int → Int) (k ci n : Nat) : List Value := (List.range n).map (xfv G ρ M k ci)
def xcl (G : xG) (ρ : Nat → Int → Option Nat) (M : Nat → Int → Int) (k : Nat) (q : Nat × Nat) : va_E :=
  if q.1 = 100 then .inl (G.2.1.1, q.2, .inl (fun j => Int32.ofInt (M k j)))
  else if q.1 = 101 then .inl (G.2.1.2.1, q.2, .inl (fun j => Int32.ofInt (M k j)))
  else if q.1 = 102 then .inl (G.2.1.2.2, q.2, .inr (.inr (.inr (.inr (fun j => xrf G (ρ k j))))))
  else .inr (q.1, xfs G ρ M k q.1 q.2)
def xws (G : xG) (σ : List (Nat × Nat)) (ρ : Nat → Int → Option Nat) (M : Nat → Int → Int) : va_W := σ.zipIdx.map (fun q => (gB G + q.2, xcl G ρ M q.2 q.1))
theorem xws_get {G : xG} {σ : List (Nat × Nat)} {ρ : Nat → Int → Option Nat} {M : Nat → Int → Int} (k : Nat) : (xws G σ ρ M)[k]? = (σ[k]?).map (fun q => (gB G + k, xcl G ρ M k q)) := by
  unfold xws
  rw [List.getElem?_map, List.getElem?_zipIdx]
  cases h : σ[k]? <;> simp
theorem xws_at {G : xG} {σ : List (Nat × Nat)} {ρ : Nat → Int → Option Nat} {M : Nat → Int → Int} {k : Nat} {q : Nat × Nat} (h : σ[k]? = some q) : (xws G σ ρ M)[k]? = some (gB G + k, xcl G ρ M k q) := by
  rw [xws_get, h]; rfl
def xA (G : xG) : Nat → Prop := fun q => gB G ≤ q
theorem xws_D (G : xG) (σ : List (Nat × Nat)) (ρ : Nat → Int → Option Nat) (M : Nat → Int → Int) : va_D (xA G) (xws G σ ρ M) := by
  have key : ∀ (k : Nat) (q : Nat × va_E), (xws G σ ρ M)[k]? = some q → q.1 = gB G + k := by
    intro k q h
    rw [xws_get] at h
    cases hs : σ[k]? with
    | none => rw [hs] at h; cases h
    | some x => rw [hs] at h; cases h; rfl
  refine ⟨fun i j p q h1 h2 h3 => ?_, fun k q h => ?_⟩
  · have := key i p h1
    have := key j q h2
    omega
  · have := key k q h
    show gB G ≤ q.1
    omega
def xu (M : Nat → Int → Int) (k : Nat) (j v : Int) : Nat → Int → Int := fun a b => if a = k ∧ b = j then v else M a b
def xur (ρ : Nat → Int → Option Nat) (k : Nat) (j : Int) (v : Option Nat) : Nat → Int → Option Nat := fun a b => if a = k ∧ b = j then v else ρ a b
theorem xcl_cong {G : xG} {ρ ρ' : Nat → Int → Option Nat} {M M' : Nat → Int → Int} {k : Nat} {q : Nat × Nat} (h1 : ρ k = ρ' k) (h2 : M k = M' k) : xcl G ρ M k q = xcl G ρ' M' k q := by
  unfold xcl xfs xfv
  rw [h1, h2]
/-- all cells but one as they were -/
theorem xws_set {G : xG} {σ : List (Nat × Nat)} {ρ ρ' : Nat → Int → Option Nat} {M M' : Nat → Int → Int} {k : Nat} {q : Nat × Nat} (hq : σ[k]? = some q) (h1 : ∀ a, a ≠ k → ρ a = ρ' a) (h2 : ∀ a, a ≠ k → M a = M' a) : xws G σ ρ' M' = (xws G σ ρ M).set k (gB G + k, xcl G ρ' M' k q) := by
  apply List.ext_getElem?
  intro i
  by_cases hi : i = k
  · subst hi
    have hl : i < (xws G σ ρ M).length := (List.getElem?_eq_some_iff.mp (xws_at (G := G) (ρ := ρ) (M := M) hq)).1
    rw [List.getElem?_set_self hl, xws_at hq]
  · rw [List.getElem?_set_ne (Ne.symm hi), xws_get, xws_get]
    cases hs : σ[i]? with
    | none => rfl
    | some x => simp only [Option.map_some]; rw [xcl_cong (h1 i hi) (h2 i hi)]
theorem xws_push {G : xG} {σ : List (Nat × Nat)} {ρ ρ' : Nat → Int → Option Nat} {M M' : Nat → Int → Int} {q : Nat × Nat} (h1 : ∀ a, a < σ.length → ρ a = ρ' a) (h2 : ∀ a, a < σ.length → M a = M' a) : xws G (σ ++ [q]) ρ' M' = xws G σ ρ M ++ [(gB G + σ.length, xcl G ρ' M' σ.length q)] := by
  have hlen : (xws G σ ρ M).length = σ.length := by simp [xws]
  apply List.ext_getElem?
  intro i
  rw [xws_get]
  by_cases hi : i < σ.length
  · rw [List.getElem?_append_left hi, List.getElem?_append_left (by omega), xws_get]
    cases hs : σ[i]? with
    | none => rfl
    | some x => simp only [Option.map_some]; rw [xcl_cong (h1 i hi) (h2 i hi)]
  · by_cases hi2 : i = σ.length
    · subst hi2
      rw [List.getElem?_append_right (Nat.le_refl _), List.getElem?_append_right (by omega), hlen, Nat.sub_self]
      rfl
    · rw [List.getElem?_eq_none (by simp; omega), List.getElem?_eq_none (by simp [xws]; omega)]
      rfl
def xRep (G : xG) (h : xH) (H : Heap) : Prop := va_P G.1 vwCl (xws G h.1 h.2.1 h.2.2) H ∧ ∀ k j, xin (h.2.2 k j)
theorem xi_toInt {a : Int} (h : xin a) : (Int32.ofInt a).toInt = a := Int32.toInt_ofInt_of_le (by have := h.1; omega) (by have := h.2; omega)
theorem xl_toInt {a : Int} (h : xlin a) : (Int64.ofInt a).toInt = a := Int64.toInt_ofInt_of_le (by have := h.1; omega) (by have := h.2; omega)
theorem xi_eq {a b : Int} (ha : xin a) (hb : xin b) : Int32.ofInt a = Int32.ofInt b ↔ a = b := by
  rw [← Int32.toInt_inj, xi_toInt ha, xi_toInt hb]
theorem xi_le {a b : Int} (ha : xin a) (hb : xin b) : Int32.ofInt a ≤ Int32.ofInt b ↔ a ≤ b := by
  rw [Int32.le_iff_toInt_le, xi_toInt ha, xi_toInt hb]
theorem xi_lt {a b : Int} (ha : xin a) (hb : xin b) : Int32.ofInt a < Int32.ofInt b ↔ a < b := by
  rw [Int32.lt_iff_toInt_lt, xi_toInt ha, xi_toInt hb]
theorem xl_lt {a b : Int} (ha : xlin a) (hb : xlin b) : Int64.ofInt a < Int64.ofInt b ↔ a < b := by
  rw [Int64.lt_iff_toInt_lt, xl_toInt ha, xl_toInt hb]
theorem xl_eq {a b : Int} (ha : xlin a) (hb : xlin b) : Int64.ofInt a = Int64.ofInt b ↔ a = b := by
  rw [← Int64.toInt_inj, xl_toInt ha, xl_toInt hb]
theorem xi_nat {a : Int} (h : xin a) : (Int32.ofInt a).toNatClampNeg = a.toNat := Int32.toNatClampNeg_ofInt_of_le (by have := h.1; omega) (by have := h.2; omega)
theorem xi_in {a : Int} {n : Nat} (h : xin a) (h0 : 0 ≤ a) (h1 : a < n) : vp_in (Int32.ofInt a) n := vp_in_iff.mpr (by rw [xi_toInt h]; exact ⟨h0, h1⟩)
theorem x32 (v : Int32) : xin v.toInt := ⟨by have := v.le_toInt; omega, by have := v.toInt_lt; omega⟩
theorem x64 (v : Int64) : xlin v.toInt := ⟨by have := v.le_toInt; omega, by have := v.toInt_lt; omega⟩
theorem x0 : Int32.ofInt 0 = 0 := rfl
/-- what holds of the method that runs -/
def xCtx (G : xG) (y : xM) (p : Program) (R : Room) (s : State) (m : MethodId) (args : Array Value) (meth : Method) (c : Code) : Prop :=
  p.tables.exec = Jvm.exec ∧ c.code = xcd y ∧ c.maxLocals = xml y ∧ meth.sig.returnType = xrt y ∧ meth.locks = false ∧ ((xnm y).name = "<init>" → meth.name = "<init>") ∧ s.vm.findClass (xR (xow y)) = some m.cls ∧
  (∀ w ∈ xT, w.before args s = true) ∧ (∀ (o i : Nat) (z : xM), xLn o i z → va_Nw (.methodLinkNest (xR o) i (xnm z) RX9) s) ∧ va_AO RX7 s ∧ xdp y ≤ R.frames ∧ xlo y ≤ R.locals ∧ va_K G.1 vwCl (gtys G) s ∧
  va_X (gb G) (gN G) (gx G) s s.heap ∧ gb G < gB G ∧ gB G ≤ s.heap.size
def xpush (r : Option xV) (S : List xV) : List xV := match r with
  | none => S
  | some v => v :: S
/-- the instruction that ends a method with the answer r -/
def xEnd (y : xM) (pc : Nat) (r : Option xV) : Prop := match r with
  | none => decode (xcd y) pc = .ok (.return_, 1) ∧ xrt y = none
  | some (.inl v) => decode (xcd y) pc = .ok (.ireturn, 1) ∧ (xrt y = some .int ∨ (xrt y = some .boolean ∧ (v = 0 ∨ v = 1)))
  | some (.inr (.inl _)) => decode (xcd y) pc = .ok (.lreturn, 1) ∧ xrt y = some .long
  | _ => False
/-- THE JUDGEMENT: from this place the method comes to an end with Q -/
def xX (G : xG) (y : xM) (bc bs pc : Nat) (L : List (Nat × xV)) (S : List xV) (h : xH) (Q : Option xV → xH → Prop) : Prop :=
  ∀ (p : Program) (l : Launch) (e : Env) (R : Room) (s : State) (m : MethodId) (args : Array Value) (below : List Frame) (meth : Method) (c : Code) (H : Heap) (locs : List Loc) (cells slots : Nat) (ls : Array Slot) (QF : State → Prop),
  xCtx G y p R s m args meth c → lv_has ls (xml y) (L.map fun q => (q.1, xcv G q.2)) → (∀ q ∈ L, xok q.2) → (∀ v ∈ S, xok v) → xRep G h H → va_S (xA G) s.heap H locs → (s.heap.size + cells = gB G + h.1.length ∧ cells + bc ≤ R.cells) → slots + bs ≤ R.slots →
  (∀ (pc' : Nat) (ls' : Array Slot) (r : Option xV) (h' : xH) (H' : Heap) (locs' : List Loc) (cells' slots' : Nat), Q r h' → xEnd y pc' r → (∀ v ∈ r, xok v) → xRep G h' H' → va_S (xA G) s.heap H' locs' → (s.heap.size + cells' = gB G + h'.1.length ∧ cells' = cells + bc) → slots' ≤ slots + bs →
    W p l e R s m args below meth c H' locs' cells' slots' QF (F0 m pc' ls' ((xpush r []).map (xcv G)))) →
  W p l e R s m args below meth c H locs cells slots QF (F0 m pc ls (S.map (xcv G)))
def xlk (i : Nat) : List (Nat × xV) → Option xV
  | [] => none
  | (j, v) :: t => bif Nat.beq i j then some v else xlk i t
theorem xlk_mem {i : Nat} {v : xV} : ∀ {L : List (Nat × xV)}, xlk i L = some v → (i, v) ∈ L
  | [], h => by cases h
  | (j, w) :: t, h => by
    unfold xlk at h
    cases hb : Nat.beq i j with
    | true =>
      rw [hb] at h
      have := Nat.eq_of_beq_eq_true hb
      subst this
      cases h
      exact List.mem_cons_self
    | false =>
      rw [hb] at h
      exact List.mem_cons_of_mem _ (xlk_mem h)
def xset (i : Nat) (v : xV) : List (Nat × xV) → List (Nat × xV)
  | [] => [(i, v)]
  | (j, w) :: t => bif Nat.blt i j then (i, v) :: (j, w) :: t else bif Nat.beq i j then (i, v) :: t else (j, w) :: xset i v t
theorem xset_mem {i : Nat} {v : xV} {q : Nat × xV} : ∀ {L : List (Nat × xV)}, L.Pairwise (fun a b => a.1 < b.1) → q ∈ xset i v L → q = (i, v) ∨ (q ∈ L ∧ q.1 ≠ i)
  | [], _, h => by
    simp [xset] at h
    exact Or.inl h
  | (j, w) :: t, hp, h => by
    unfold xset at h
    obtain ⟨hp1, hp2⟩ := List.pairwise_cons.mp hp
    cases hb : Nat.blt i j with
    | true =>
      have hlt : i < j := by simpa [Nat.blt, Nat.lt_iff_add_one_le] using Nat.le_of_ble_eq_true hb
      rw [hb] at h
      rcases List.mem_cons.mp h with rfl | h
      · exact Or.inl rfl
      · refine Or.inr ⟨h, ?_⟩
        rcases List.mem_cons.mp h with rfl | h
        · exact Nat.ne_of_gt hlt
        · exact Nat.ne_of_gt (Nat.lt_trans hlt (hp1 q h))
    | false =>
      rw [hb] at h
      cases hc : Nat.beq i j with
      | true =>
        rw [hc] at h
        have := Nat.eq_of_beq_eq_true hc
        subst this
        rcases List.mem_cons.mp h with rfl | h
        · exact Or.inl rfl
        · exact Or.inr ⟨List.mem_cons_of_mem _ h, Nat.ne_of_gt (hp1 q h)⟩
      | false =>
        rw [hc] at h
        rcases List.mem_cons.mp h with rfl | h
        · exact Or.inr ⟨List.mem_cons_self, fun z => by
            have : Nat.beq i j = true := by rw [← z]; simp
            rw [this] at hc; cases hc⟩
        · rcases xset_mem hp2 h with z | ⟨z1, z2⟩
          · exact Or.inl z
          · exact Or.inr ⟨List.mem_cons_of_mem _ z1, z2⟩
/-- the keys of the locals grow -/
def xinc : List (Nat × xV) → Bool
  | [] => true
  | [_] => true
  | a :: b :: t => Nat.blt a.1 b.1 && xinc (b :: t)
theorem xinc_ok : ∀ {L : List (Nat × xV)}, xinc L = true → L.Pairwise (fun a b => a.1 < b.1)
  | [], _ => List.Pairwise.nil
  | [a], _ => by simp
  | a :: b :: t, h => by
    unfold xinc at h
    rw [Bool.and_eq_true] at h
    have hlt : a.1 < b.1 := by simpa [Nat.blt, Nat.lt_iff_add_one_le] using Nat.le_of_ble_eq_true h.1
    have ih := xinc_ok (L := b :: t) h.2
    refine List.pairwise_cons.mpr ⟨fun q hq => ?_, ih⟩
    rcases List.mem_cons.mp hq with rfl | hq
    · exact hlt
    · exact Nat.lt_trans hlt ((List.pairwise_cons.mp ih).1 q hq)
def xargs : Nat → List xV → List (Nat × xV)
  | _, [] => []
  | i, v :: vs => (i, v) :: xargs (i + xcat v) vs
theorem xargs_ok (G : xG) : ∀ (vs : List xV) (i : Nat), (xargs i vs).map (fun q => (q.1, xcv G q.2)) = lv_args i (vs.map (xcv G))
  | [], _ => rfl
  | v :: vs, i => by
    simp only [xargs, List.map_cons, lv_args, xcat_ok]
    rw [xargs_ok G vs]
    rcases v with x | x | _ | k <;> rfl
theorem xargs_mem : ∀ {vs : List xV} {i : Nat} {q : Nat × xV}, q ∈ xargs i vs → q.2 ∈ vs
  | [], _, q, h => by cases h
  | v :: vs, i, q, h => by
    rcases List.mem_cons.mp h with rfl | h
    · exact List.mem_cons_self
    · exact List.mem_cons_of_mem _ (xargs_mem h)
