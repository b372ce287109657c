/-! THE CLAIM OUT OF ONE WALK OF THE LAW'S BODY. Your part is whole_start (and what it stands on); all else here is the same for every law, but numbers. -/
def R_law : String := "BlockLayoutLaw"
def lw_P (b : Addr) (xs : List Int32) (args : Array Value) (s : State) : Prop := args = #[.ref b] ∧ s.IntsAt b xs ∧ xs.length ≤ 2048 ∧ (Jvm.Cond.and given_1 narrow_1).before args s = true
def lw_Q (_ : Array Value) (s : State) (o : Outcome) (t : State) : Prop := o = .returned (some (.int 1)) ∧ Framed s o t [] 600000 7302250
def lw_Z (below : List Frame) (a : Array Value) (s : State) : State → Prop := fun t => ∃ o, t.status = .running ∧ Ended t below o ∧ lw_Q a s o t
/-- the law's own end, with 1 on the stack, nothing written that was there before, its room as the claim has it -/
theorem lw_ret {p : Program} {l : Launch} {e : Env} {s : State} {m : MethodId} {below : List Frame} {meth : Method} {c : Code} {b : Nat} (hx : p.tables.exec = Jvm.exec) (hb : c.code = code) (hr : meth.sig.returnType = ret) (hlocks : meth.locks = false) {pc : Nat} {H : Heap} {ls : Array Slot} (hdg : decode code pc = .ok (.ireturn, 1)) : W p l e room_1 s m #[Value.ref b] below meth c H [] 600000 7302250 (lw_Z below #[Value.ref b] s) (F0 m pc ls [.int 1]) := by
  intro T hT X
  obtain ⟨fs, hret, hrun, hended, hW, hframe⟩ := X.leave (v := some (.int 1)) (hlocks := hlocks) (fun h => by rw [hr] at h; cases h)
  have hmeth' : T.vm.method? m = some meth := X.method'
  refine ⟨T.setFrames fs, ?_, .returned (some (.int 1)), hrun, hended, rfl, ⟨_, rfl⟩, hW, hframe⟩
  jvm_step X.here [X.here.top, hx, hb, hdg, hmeth', hr, ret, narrow_b1]
  (try refine ⟨rfl, ?_⟩); (try refine ⟨rfl, ?_⟩)
  first | (intro acts; rw [hret _ acts rfl rfl rfl]) | rw [hret _ _ rfl rfl rfl]
  exact Steps.refl _
/-- what holds at the law's entry: the machine, the code, the tables' words (any of lw_tbl by 'hts w (by decide +kernel)'), the script of L ints xs at the cell b, what the Statement gives of the start (any of its parts by flat_of_before) -/
def lw_At (p : Program) (s : State) (m : MethodId) (meth : Method) (c : Code) (b L : Nat) (xs : Nat → Int32) : Prop :=
  p.tables.exec = Jvm.exec ∧ c.code = code ∧ meth.sig.returnType = ret ∧ c.maxLocals = 4 ∧ s.vm.findClass R_law = some m.cls ∧ (∀ w ∈ lw_tbl, w.before #[Value.ref b] s = true) ∧ va_X b L xs s s.heap ∧ b < s.heap.size ∧ meth.locks = false ∧ (Jvm.Cond.and given_1 narrow_1).before #[Value.ref b] s = true

section XLW
/-- the law from its entry, out of the small machine's run -/
theorem law_entry {bcT bsT : Nat} (hbc : bcT ≤ 600000) (hbs : bsT ≤ 7302250) (hX : ∀ G : xG, gN G ≤ 2048 → xX G mL_law bcT bsT 0 [(0, xS)] [] ([], fun _ _ => none, fun _ _ => 0) (fun r _ => r = some (xI 1)))
    {p : Program} {e : Env} {s : State} {m : MethodId} {below : List Frame} {meth : Method} {c : Code} (l : Launch) {b L : Nat} {xs : Nat → Int32} (hL : L ≤ 2048) (C0 : lw_At p s m meth c b L xs) : W p l e room_1 s m #[Value.ref b] below meth c s.heap [] 0 0 (lw_Z below #[Value.ref b] s) (entryFrame m ([Value.ref b] : List Value).toArray 4) := by
  obtain ⟨hx, hb, hr, hml, hown, hts0, hX0, hbl, hlocks, hgv⟩ := C0
  have hts : ∀ w ∈ xT, w.before #[Value.ref b] s = true := fun w hw => hts0 w (xW_in.mp hw).1
  have hkn : ∀ ci, ci < 8 → ∃ (cC : ClassId) (iS : Nat → Nat), u_Kn s (xC ci) (xTb ci) (xN ci) cC iS := by
    intro ci hci
    have hin : xW (.instantiable (xC ci) (xN ci)) := by
      rcases (by omega : ci = 0 ∨ ci = 1 ∨ ci = 2 ∨ ci = 3 ∨ ci = 4 ∨ ci = 5 ∨ ci = 6 ∨ ci = 7) with rfl | rfl | rfl | rfl | rfl | rfl | rfl | rfl
      · exact xW_t 148 (by decide +kernel) (by decide +kernel)
      · exact xW_t 24 (by decide +kernel) (by decide +kernel)
      · exact xW_t 101 (by decide +kernel) (by decide +kernel)
      · exact xW_t 171 (by decide +kernel) (by decide +kernel)
      · exact xW_t 120 (by decide +kernel) (by decide +kernel)
      · exact xW_t 53 (by decide +kernel) (by decide +kernel)
      · exact xW_t 16 (by decide +kernel) (by decide +kernel)
      · exact xW_t 671 (by decide +kernel) (by decide +kernel)
    exact u_known hts (fun w hw => xW_in.mpr (xin_ok hci w hw)) (hts _ (xW_in.mpr hin))
  obtain ⟨dC, dI, hKc⟩ : ∃ (dC : Nat → ClassId) (dI : Nat → Nat → Nat), ∀ ci, ci < 8 → u_Kn s (xC ci) (xTb ci) (xN ci) (dC ci) (dI ci) := by
    refine ⟨fun ci => if h : ci < 8 then Classical.choose (hkn ci h) else 0, fun ci => if h : ci < 8 then Classical.choose (Classical.choose_spec (hkn ci h)) else fun _ => 0, fun ci hci => ?_⟩
    simp only [hci, dif_pos]
    exact Classical.choose_spec (Classical.choose_spec (hkn ci hci))
  obtain ⟨cI, kI, mI, i1, i2, i3⟩ := Cond.arrayClass_spec (hts _ (xW_in.mpr w_ai))
  obtain ⟨cZ, kZ, mZ, z1, z2, z3⟩ := Cond.arrayClass_spec (hts _ (xW_in.mpr w_az))
  have hao : va_AO RX7 s := va_AO.of (hts0 (.arrayOver (.object RX7)) (List.mem_append_right _ (List.mem_of_getElem? (i := 99) (by decide +kernel))))
  obtain ⟨comp, cS, kS, s1, s2, s3, s4, s5⟩ := Cond.arrayOver_spec hao
  have hK : va_K (dC, dI) vwCl [(cI, .int), (cZ, .boolean), (cS, .object RX7)] s := by
    refine ⟨fun k q hq => ?_, fun k q hq => ?_⟩
    · have hk : k < 8 := (List.getElem?_eq_some_iff.mp hq).1
      have := (xcl_at hk).symm.trans hq
      cases this
      exact hKc k hk
    · have hk : k < 3 := (List.getElem?_eq_some_iff.mp hq).1
      rcases (by omega : k = 0 ∨ k = 1 ∨ k = 2) with rfl | rfl | rfl
      · cases hq
        exact ⟨fun N z => ⟨fun k h => (by cases h), kI, i2, mI, i3⟩, i1⟩
      · cases hq
        exact ⟨fun N z => ⟨fun k h => (by cases h), kZ, z2, mZ, z3⟩, z1⟩
      · cases hq
        exact ⟨fun N z => ⟨fun k h => (by cases h), kS, s3, comp, s4⟩, kS, comp, s3, s4, s1, s5⟩
  have hl := lv_entry ([.ref b]) (n := 4) (Nat.le_of_ble_eq_true rfl)
  rw [lg_entry_eq]
  generalize (lg_sl ([.ref b]) ++ List.replicate (4 - (lg_sl ([.ref b])).length) Slot.unset).toArray = ls at hl ⊢
  refine hX ((dC, dI), (cI, cZ, cS), (s.heap.size, b, L, xs)) hL p l e room_1 s m #[Value.ref b] below meth c s.heap [] 0 0 ls _ ⟨hx, hb, hml, hr, hlocks, fun h => absurd h (by decide), hown, hts, fun o i z hz => va_Nw.of rfl (hts0 _ hz.1), hao, by decide, by decide, hK, hX0, hbl, Nat.le_refl _⟩ hl (fun q hq => ?_) (fun v hv => by cases hv) ⟨fun k q h => by simp [xws] at h, fun _ _ => (show xin 0 from ⟨by decide, by decide⟩)⟩ va_S.rf ⟨rfl, by rw [Nat.zero_add]; exact hbc⟩ (by rw [Nat.zero_add]; exact hbs) ?_
  · rcases List.mem_cons.mp hq with rfl | hq
    · exact trivial
    · cases hq
  · intro pc' ls' r h' H' locs' cells' slots' hq hend hrok hR' hV' hc' hs'
    subst hq
    refine va_forget (fun q hq => hV'.2.2 q hq) ?_
    refine W.widen (k := 600000) (n := 7302250) (by have := hc'.2; omega) (by omega) ?_
    exact lw_ret hx hb hr hlocks hend.1
end XLW
