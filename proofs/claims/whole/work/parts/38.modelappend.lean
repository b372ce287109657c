section XMP
variable {G : xG} {σ : List (Nat × Nat)} {ρ : Nat → Int → Option Nat} {M : Nat → Int → Int} {Q : Option xV → xH → Prop}
set_option maxHeartbeats 4000000 in
theorem t_X10_append {D : Nat} (hD : isMd σ ρ D) {x : Int} (hl : 0 ≤ M D 1 ∧ M D 1 ≤ 99) (k2 : ¬ (0 ≤ x ∧ x ≤ 255) → Q (some (xI (-2))) (σ, ρ, M)) (k4 : (0 ≤ x ∧ x ≤ 255) → M D 1 = 99 → Q (some (xI (-4))) (σ, ρ, M)) (k0 : (0 ≤ x ∧ x ≤ 255) → M D 1 < 99 → Q (some (xI (M D 1 + 1))) (σ, ρ, xu (xu M (D + 1) (M D 1) x) D 1 (M D 1 + 1))) : xX G mX10_append 0 0 0 [(0, xP D), (1, xI x)] [] (σ, ρ, M) Q := by
  refine x_iload_n (p2 := 1) rfl dX10_append_0 rfl ?_
  refine x_i2l (p2 := 2) rfl dX10_append_1 ?_
  refine x_lconst (p2 := 3) (v := 0) rfl dX10_append_2 ⟨by decide, ⟨by decide, by decide⟩⟩ ?_
  refine x_ldc2 (p2 := 6) rfl dX10_append_3 q_10_65 ?_
  refine x_s3 (p2 := 9) rfl dX10_append_6 l_10_57 ok_X10_in rfl rfl ?_
  refine t_X10_in (fun hb6 => ?_) (fun hb6 => ?_)
  · skip
    refine x_if_ne (p2 := 12) (t := 15) (by decide) rfl dX10_append_9 (fun _ => ?_) (fun hc => absurd hc (by decide))
    refine x_aload_n (p2 := 16) rfl dX10_append_15 rfl ?_
    refine x_geti (p2 := 19) (kz := 1) rfl dX10_append_16 f_10_67 rfl rfl hD.sh ?_
    refine x_bipush (p2 := 21) rfl dX10_append_19 ⟨by decide, ⟨by decide, by decide⟩⟩ ?_
    refine x_ic_ne (p2 := 24) (t := 27) (by decide) rfl dX10_append_21 (fun hc21 => ?_) (fun hc21 => ?_)
    · skip
      refine x_aload_n (p2 := 28) rfl dX10_append_27 rfl ?_
      refine x_getr (p2 := 31) (kz := 0) rfl dX10_append_28 f_10_7 rfl rfl hD.sh hD.r0 ?_
      refine x_aload_n (p2 := 32) rfl dX10_append_31 rfl ?_
      refine x_geti (p2 := 35) (kz := 1) rfl dX10_append_32 f_10_67 rfl rfl hD.sh ?_
      refine x_iload_n (p2 := 36) rfl dX10_append_35 rfl ?_
      refine x_iast (p2 := 37) rfl dX10_append_36 hD.a0 (by omega) (by omega) ?_
      refine x_aload_n (p2 := 38) rfl dX10_append_37 rfl ?_
      refine x_dup (p2 := 39) rfl dX10_append_38 rfl ?_
      refine x_geti (p2 := 42) (kz := 1) rfl dX10_append_39 f_10_67 rfl rfl hD.sh ?_
      rw [xu_c (by omega)]
      refine x_iconst (p2 := 43) rfl dX10_append_42 ⟨by decide, by decide⟩ ?_
      refine x_iadd (p2 := 44) rfl dX10_append_43 ⟨by omega, by omega⟩ ?_
      refine x_puti (p2 := 47) (kz := 1) rfl dX10_append_44 f_10_67 rfl rfl rfl hD.sh ?_
      refine x_aload_n (p2 := 48) rfl dX10_append_47 rfl ?_
      refine x_geti (p2 := 51) (kz := 1) rfl dX10_append_48 f_10_67 rfl rfl hD.sh ?_
      rw [xu_s]
      refine x_iret dX10_append_51 rfl ?_
      exact k0 (by omega) (by omega)
    · skip
      refine x_bipush (p2 := 26) rfl dX10_append_24 ⟨by decide, ⟨by decide, by decide⟩⟩ ?_
      refine x_iret dX10_append_26 rfl ?_
      exact k4 (by omega) (by omega)
  · skip
    refine x_if_ne (p2 := 12) (t := 15) (by decide) rfl dX10_append_9 (fun hc => absurd hc (by decide)) (fun _ => ?_)
    refine x_bipush (p2 := 14) rfl dX10_append_12 ⟨by decide, ⟨by decide, by decide⟩⟩ ?_
    refine x_iret dX10_append_14 rfl ?_
    exact k2 (by omega)
set_option maxHeartbeats 4000000 in
theorem t_X10_clearText {D : Nat} (hD : isMd σ ρ D) (hq : Q (some (xI (M D 1))) (σ, ρ, xu M D 1 0)) : xX G mX10_clearText 0 0 0 [(0, xP D)] [] (σ, ρ, M) Q := by
  refine x_aload_n (p2 := 1) rfl dX10_clearText_0 rfl ?_
  refine x_geti (p2 := 4) (kz := 1) rfl dX10_clearText_1 f_10_67 rfl rfl hD.sh ?_
  refine x_istore_n (p2 := 5) (i := 1) (L2 := [(0, _), (1, _)]) rfl dX10_clearText_4 rfl ⟨rfl, Nat.le_of_ble_eq_true rfl⟩ rfl ?_
  refine x_aload_n (p2 := 6) rfl dX10_clearText_5 rfl ?_
  refine x_iconst (p2 := 7) rfl dX10_clearText_6 ⟨by decide, by decide⟩ ?_
  refine x_puti (p2 := 10) (kz := 1) rfl dX10_clearText_7 f_10_67 rfl rfl rfl hD.sh ?_
  refine x_iload_n (p2 := 11) rfl dX10_clearText_10 rfl ?_
  refine x_iret dX10_clearText_11 rfl ?_
  exact hq
end XMP
