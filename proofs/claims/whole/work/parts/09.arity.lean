section XC
variable {G : xG} {y z : xM} {bc bs pc p2 i : Nat} {L : List (Nat × xV)} {S : List xV} {σ : List (Nat × Nat)} {ρ : Nat → Int → Option Nat} {M : Nat → Int → Int} {Q : Option xV → xH → Prop}
def xcc (y z : xM) (n k : Nat) : Bool := Nat.ble (xdp z + 1) (xdp y) && (Nat.ble (8 + (xml z + 11) + xlo z) (xlo y) && (Nat.beq n (xar z) && Nat.ble k (xml z)))
theorem xcc_ok {n k : Nat} (h : xcc y z n k = true) : (xdp z + 1 ≤ xdp y ∧ 8 + (xml z + 11) + xlo z ≤ xlo y) ∧ n = xar z ∧ k ≤ xml z := by
  unfold xcc at h
  simp only [Bool.and_eq_true] at h
  exact ⟨⟨Nat.le_of_ble_eq_true h.1, Nat.le_of_ble_eq_true h.2.1⟩, Nat.eq_of_beq_eq_true h.2.2.1, Nat.le_of_ble_eq_true h.2.2.2⟩
theorem x_v0 {ci r : Nat} (e2 : pc + 3 = p2) (d : decode (xcd y) pc = .ok (.invokevirtual i, 3)) (hk : xLv (xow y) i ci z) (hok : xOk z) (hq : xcc y z 0 (([xP r] : List xV).map xcat).sum = true) (hs : σ[r]? = some (ci, xN ci)) (hw : Nat.ble (S.map xcat).sum 8 = true) (hX : xX G z 0 0 0 (xargs 0 [xP r]) [] (σ, ρ, M) (fun a h2 => xX G y 0 0 p2 L (xpush a S) h2 Q)) : xX G y 0 0 pc L (xP r :: S) (σ, ρ, M) Q :=
  x_callV (As := []) (mc := 0) (ms := 0) e2 d hk hok (xcc_ok hq).1 hs ⟨(xcc_ok hq).2.1, (xcc_ok hq).2.2⟩ (Nat.le_of_ble_eq_true hw) ⟨Nat.le_refl 0, Nat.le_refl 0⟩ hX
theorem x_v1 {ci r : Nat} {a1 : xV} (e2 : pc + 3 = p2) (d : decode (xcd y) pc = .ok (.invokevirtual i, 3)) (hk : xLv (xow y) i ci z) (hok : xOk z) (hq : xcc y z 1 (([xP r, a1] : List xV).map xcat).sum = true) (hs : σ[r]? = some (ci, xN ci)) (hw : Nat.ble (S.map xcat).sum 8 = true) (hX : xX G z 0 0 0 (xargs 0 [xP r, a1]) [] (σ, ρ, M) (fun a h2 => xX G y 0 0 p2 L (xpush a S) h2 Q)) : xX G y 0 0 pc L (a1 :: xP r :: S) (σ, ρ, M) Q :=
  x_callV (As := [a1]) (mc := 0) (ms := 0) e2 d hk hok (xcc_ok hq).1 hs ⟨(xcc_ok hq).2.1, (xcc_ok hq).2.2⟩ (Nat.le_of_ble_eq_true hw) ⟨Nat.le_refl 0, Nat.le_refl 0⟩ hX
theorem x_v2 {ci r : Nat} {a1 a2 : xV} (e2 : pc + 3 = p2) (d : decode (xcd y) pc = .ok (.invokevirtual i, 3)) (hk : xLv (xow y) i ci z) (hok : xOk z) (hq : xcc y z 2 (([xP r, a1, a2] : List xV).map xcat).sum = true) (hs : σ[r]? = some (ci, xN ci)) (hw : Nat.ble (S.map xcat).sum 8 = true) (hX : xX G z 0 0 0 (xargs 0 [xP r, a1, a2]) [] (σ, ρ, M) (fun a h2 => xX G y 0 0 p2 L (xpush a S) h2 Q)) : xX G y 0 0 pc L (a2 :: a1 :: xP r :: S) (σ, ρ, M) Q :=
  x_callV (As := [a1, a2]) (mc := 0) (ms := 0) e2 d hk hok (xcc_ok hq).1 hs ⟨(xcc_ok hq).2.1, (xcc_ok hq).2.2⟩ (Nat.le_of_ble_eq_true hw) ⟨Nat.le_refl 0, Nat.le_refl 0⟩ hX
theorem x_v3 {ci r : Nat} {a1 a2 a3 : xV} (e2 : pc + 3 = p2) (d : decode (xcd y) pc = .ok (.invokevirtual i, 3)) (hk : xLv (xow y) i ci z) (hok : xOk z) (hq : xcc y z 3 (([xP r, a1, a2, a3] : List xV).map xcat).sum = true) (hs : σ[r]? = some (ci, xN ci)) (hw : Nat.ble (S.map xcat).sum 8 = true) (hX : xX G z 0 0 0 (xargs 0 [xP r, a1, a2, a3]) [] (σ, ρ, M) (fun a h2 => xX G y 0 0 p2 L (xpush a S) h2 Q)) : xX G y 0 0 pc L (a3 :: a2 :: a1 :: xP r :: S) (σ, ρ, M) Q :=
  x_callV (As := [a1, a2, a3]) (mc := 0) (ms := 0) e2 d hk hok (xcc_ok hq).1 hs ⟨(xcc_ok hq).2.1, (xcc_ok hq).2.2⟩ (Nat.le_of_ble_eq_true hw) ⟨Nat.le_refl 0, Nat.le_refl 0⟩ hX
theorem x_v4 {ci r : Nat} {a1 a2 a3 a4 : xV} (e2 : pc + 3 = p2) (d : decode (xcd y) pc = .ok (.invokevirtual i, 3)) (hk : xLv (xow y) i ci z) (hok : xOk z) (hq : xcc y z 4 (([xP r, a1, a2, a3, a4] : List xV).map xcat).sum = true) (hs : σ[r]? = some (ci, xN ci)) (hw : Nat.ble (S.map xcat).sum 8 = true) (hX : xX G z 0 0 0 (xargs 0 [xP r, a1, a2, a3, a4]) [] (σ, ρ, M) (fun a h2 => xX G y 0 0 p2 L (xpush a S) h2 Q)) : xX G y 0 0 pc L (a4 :: a3 :: a2 :: a1 :: xP r :: S) (σ, ρ, M) Q :=
  x_callV (As := [a1, a2, a3, a4]) (mc := 0) (ms := 0) e2 d hk hok (xcc_ok hq).1 hs ⟨(xcc_ok hq).2.1, (xcc_ok hq).2.2⟩ (Nat.le_of_ble_eq_true hw) ⟨Nat.le_refl 0, Nat.le_refl 0⟩ hX
theorem x_s1 {a1 : xV} (e2 : pc + 3 = p2) (d : decode (xcd y) pc = .ok (.invokestatic i, 3)) (hk : xLs (xow y) i z) (hok : xOk z) (hq : xcc y z 1 (([a1] : List xV).map xcat).sum = true) (hw : Nat.ble (S.map xcat).sum 8 = true) (hX : xX G z 0 0 0 (xargs 0 [a1]) [] (σ, ρ, M) (fun a h2 => xX G y 0 0 p2 L (xpush a S) h2 Q)) : xX G y 0 0 pc L (a1 :: S) (σ, ρ, M) Q :=
  x_callS (As := [a1]) (mc := 0) (ms := 0) e2 d hk hok (xcc_ok hq).1 ⟨(xcc_ok hq).2.1, (xcc_ok hq).2.2⟩ (Nat.le_of_ble_eq_true hw) ⟨Nat.le_refl 0, Nat.le_refl 0⟩ hX
theorem x_s2 {a1 a2 : xV} (e2 : pc + 3 = p2) (d : decode (xcd y) pc = .ok (.invokestatic i, 3)) (hk : xLs (xow y) i z) (hok : xOk z) (hq : xcc y z 2 (([a1, a2] : List xV).map xcat).sum = true) (hw : Nat.ble (S.map xcat).sum 8 = true) (hX : xX G z 0 0 0 (xargs 0 [a1, a2]) [] (σ, ρ, M) (fun a h2 => xX G y 0 0 p2 L (xpush a S) h2 Q)) : xX G y 0 0 pc L (a2 :: a1 :: S) (σ, ρ, M) Q :=
  x_callS (As := [a1, a2]) (mc := 0) (ms := 0) e2 d hk hok (xcc_ok hq).1 ⟨(xcc_ok hq).2.1, (xcc_ok hq).2.2⟩ (Nat.le_of_ble_eq_true hw) ⟨Nat.le_refl 0, Nat.le_refl 0⟩ hX
theorem x_s3 {a1 a2 a3 : xV} (e2 : pc + 3 = p2) (d : decode (xcd y) pc = .ok (.invokestatic i, 3)) (hk : xLs (xow y) i z) (hok : xOk z) (hq : xcc y z 3 (([a1, a2, a3] : List xV).map xcat).sum = true) (hw : Nat.ble (S.map xcat).sum 8 = true) (hX : xX G z 0 0 0 (xargs 0 [a1, a2, a3]) [] (σ, ρ, M) (fun a h2 => xX G y 0 0 p2 L (xpush a S) h2 Q)) : xX G y 0 0 pc L (a3 :: a2 :: a1 :: S) (σ, ρ, M) Q :=
  x_callS (As := [a1, a2, a3]) (mc := 0) (ms := 0) e2 d hk hok (xcc_ok hq).1 ⟨(xcc_ok hq).2.1, (xcc_ok hq).2.2⟩ (Nat.le_of_ble_eq_true hw) ⟨Nat.le_refl 0, Nat.le_refl 0⟩ hX
theorem x_i0 {r mc ms : Nat} (e2 : pc + 3 = p2) (d : decode (xcd y) pc = .ok (.invokespecial i, 3)) (hk : xLi (xow y) i z ∨ xLn (xow y) i z) (hok : xOk z) (hq : xcc y z 0 (([xP r] : List xV).map xcat).sum = true) (hw : Nat.ble (S.map xcat).sum 8 = true) (hb : mc ≤ bc ∧ ms ≤ bs) (hX : xX G z mc ms 0 (xargs 0 [xP r]) [] (σ, ρ, M) (fun a h2 => xX G y (bc - mc) (bs - ms) p2 L (xpush a S) h2 Q)) : xX G y bc bs pc L (xP r :: S) (σ, ρ, M) Q :=
  x_callI (As := []) e2 d hk hok (xcc_ok hq).1 ⟨(xcc_ok hq).2.1, (xcc_ok hq).2.2⟩ (Nat.le_of_ble_eq_true hw) hb hX
theorem x_i1 {r mc ms : Nat} {a1 : xV} (e2 : pc + 3 = p2) (d : decode (xcd y) pc = .ok (.invokespecial i, 3)) (hk : xLi (xow y) i z ∨ xLn (xow y) i z) (hok : xOk z) (hq : xcc y z 1 (([xP r, a1] : List xV).map xcat).sum = true) (hw : Nat.ble (S.map xcat).sum 8 = true) (hb : mc ≤ bc ∧ ms ≤ bs) (hX : xX G z mc ms 0 (xargs 0 [xP r, a1]) [] (σ, ρ, M) (fun a h2 => xX G y (bc - mc) (bs - ms) p2 L (xpush a S) h2 Q)) : xX G y bc bs pc L (a1 :: xP r :: S) (σ, ρ, M) Q :=
  x_callI (As := [a1]) e2 d hk hok (xcc_ok hq).1 ⟨(xcc_ok hq).2.1, (xcc_ok hq).2.2⟩ (Nat.le_of_ble_eq_true hw) hb hX
theorem w_oi2 : xW (.instanceMethod objectInit) := xW_t 21 (by decide +kernel) (by decide +kernel)
theorem w_oi3 : xW (.code objectInit ⟨#[0xb1]⟩ 1 none) := xW_t 22 (by decide +kernel) (by decide +kernel)
theorem w_ac2 : xW (.native arraycopyName) := xW_t 291 (by decide +kernel) (by decide +kernel)
theorem w_ac3 : xW (.static arraycopyName) := xW_t 290 (by decide +kernel) (by decide +kernel)
theorem w_ac4 : xW (.initialized "java/lang/System") := xW_t 10 (by decide +kernel) (by decide +kernel)
theorem w_mn3 : xW (.static Lib.Math.min.name) := xW_t 263 (by decide +kernel) (by decide +kernel)
theorem w_mn4 : xW (.initialized "java/lang/Math") := xW_t 9 (by decide +kernel) (by decide +kernel)
theorem w_mn5 : xW (.code Lib.Math.min.name Lib.Math.min.code 2 (some .int)) := xW_t 264 (by decide +kernel) (by decide +kernel)
theorem w_ai : xW (.arrayClass .int) := xW_t 51 (by decide +kernel) (by decide +kernel)
theorem w_az : xW (.arrayClass .boolean) := xW_t 118 (by decide +kernel) (by decide +kernel)
theorem w_9_3 : xW (.methodLink (xR 9) 3 objectInit) := xW_t 20 (by decide +kernel) (by decide +kernel)
theorem w_0_3 : xW (.methodLink (xR 0) 3 objectInit) := xW_t 152 (by decide +kernel) (by decide +kernel)
theorem w_1_3 : xW (.methodLink (xR 1) 3 objectInit) := xW_t 28 (by decide +kernel) (by decide +kernel)
theorem w_1_22 : xW (.methodLink (xR 1) 22 arraycopyName) := xW_t 289 (by decide +kernel) (by decide +kernel)
theorem w_2_3 : xW (.methodLink (xR 2) 3 objectInit) := xW_t 105 (by decide +kernel) (by decide +kernel)
theorem w_3_3 : xW (.methodLink (xR 3) 3 objectInit) := xW_t 175 (by decide +kernel) (by decide +kernel)
theorem w_6_3 : xW (.methodLink (xR 6) 3 objectInit) := xW_t 124 (by decide +kernel) (by decide +kernel)
theorem w_6_69 : xW (.methodLink (xR 6) 69 Lib.Math.min.name) := xW_t 262 (by decide +kernel) (by decide +kernel)
theorem w_7_3 : xW (.methodLink (xR 7) 3 objectInit) := xW_t 57 (by decide +kernel) (by decide +kernel)
theorem w_7_35 : xW (.methodLink (xR 7) 35 arraycopyName) := xW_t 296 (by decide +kernel) (by decide +kernel)
theorem w_7_91 : xW (.methodLink (xR 7) 91 Lib.Math.min.name) := xW_t 576 (by decide +kernel) (by decide +kernel)
theorem w_10_1 : xW (.methodLink (xR 10) 1 objectInit) := xW_t 675 (by decide +kernel) (by decide +kernel)
end XC
