section XLL
variable {G : xG} {σ : List (Nat × Nat)} {ρ : Nat → Int → Option Nat} {M : Nat → Int → Int} {Q : Option xV → xH → Prop}
theorem and31 (x : Int) : ∃ k : Nat, k < 32 ∧ xiand x 31 = (k : Int) := by
  have h1 : (Int32.ofInt x &&& Int32.ofInt 31).toInt = ((Int32.ofInt x &&& Int32.ofInt 31).toInt.toNat : Int) ∧ (Int32.ofInt x &&& Int32.ofInt 31).toInt.toNat < 32 := by
    have hb : (Int32.ofInt x &&& Int32.ofInt 31).toBitVec = (Int32.ofInt x).toBitVec &&& 31#32 := rfl
    have hu : ((Int32.ofInt x).toBitVec &&& 31#32).toNat ≤ 31 := by
      rw [BitVec.toNat_and]; exact Nat.and_le_right
    have hi : (Int32.ofInt x &&& Int32.ofInt 31).toInt = (((Int32.ofInt x).toBitVec &&& 31#32).toNat : Int) := by
      show (Int32.ofInt x &&& Int32.ofInt 31).toBitVec.toInt = _
      rw [hb, BitVec.toInt_eq_toNat_of_lt (by omega)]
    omega
  exact ⟨_, h1.2, h1.1⟩
set_option maxHeartbeats 4000000 in
theorem t_law_l {B F S T V Z H X C P D : Nat} (hB : isBL σ ρ B F S T V Z H X C P) (hD : isMd σ ρ D) (ho : ord B F S T V Z H X C P D) (hN : gN G ≤ 2048) : ∀ (m : Nat) (i : Int) (M : Nat → Int → Int), rel M F S V Z H X D → 0 ≤ i → (gN G : Int) ≤ i + 4 * m + 3 → xX G mL_law 0 0 18 [(0, xS), (1, xP B), (2, xP D), (3, xI i)] [] (σ, ρ, M) (fun r _ => r = some (xI 1)) := by
  intro m
  induction m with
  | zero =>
    intro i M h h0 hm
    refine x_iload_n (p2 := 19) rfl dL_law_18 rfl ?_
    refine x_sload_n (p2 := 20) rfl dL_law_19 rfl ?_
    refine x_slen (p2 := 21) rfl dL_law_20 hN ?_
    refine x_iconst (p2 := 22) rfl dL_law_21 ⟨by decide, by decide⟩ ?_
    refine x_isub (p2 := 23) rfl dL_law_22 ⟨by omega, by omega⟩ ?_
    refine x_ic_gt (p2 := 26) (t := 968) (by decide) rfl dL_law_23 (fun hc23 => ?_) (fun hc23 => absurd hc23 (by omega))
    refine x_iconst (p2 := 969) rfl dL_law_968 ⟨by decide, by decide⟩ ?_
    refine x_zret dL_law_969 rfl (by omega) ?_
    rfl
  | succ m ih =>
    intro i M h h0 hm
    refine x_iload_n (p2 := 19) rfl dL_law_18 rfl ?_
    refine x_sload_n (p2 := 20) rfl dL_law_19 rfl ?_
    refine x_slen (p2 := 21) rfl dL_law_20 hN ?_
    refine x_iconst (p2 := 22) rfl dL_law_21 ⟨by decide, by decide⟩ ?_
    refine x_isub (p2 := 23) rfl dL_law_22 ⟨by omega, by omega⟩ ?_
    refine x_ic_gt (p2 := 26) (t := 968) (by decide) rfl dL_law_23 (fun hc23 => ?_) (fun hc23 => ?_)
    · skip
      refine x_iconst (p2 := 969) rfl dL_law_968 ⟨by decide, by decide⟩ ?_
      refine x_zret dL_law_969 rfl (by omega) ?_
      rfl
    · skip
      refine x_sload_n (p2 := 27) rfl dL_law_26 rfl ?_
      refine x_iload_n (p2 := 28) rfl dL_law_27 rfl ?_
      refine x_sld (p2 := 29) rfl dL_law_28 (by omega) (by omega) ?_
      refine x_bipush (p2 := 31) rfl dL_law_29 ⟨by decide, ⟨by decide, by decide⟩⟩ ?_
      refine x_iand (p2 := 32) rfl dL_law_31 ?_
      obtain ⟨k, hk, ek⟩ := and31 (gx G i.toNat).toInt
      rw [ek]
      have hgo : ∀ M2, rel M2 F S V Z H X D → xX G mL_law 0 0 962 [(0, xS), (1, xP B), (2, xP D), (3, xI i)] [] (σ, ρ, M2) (fun r _ => r = some (xI 1)) := by
        intro M2 h2
        refine x_iinc (p2 := 965) (L2 := [(0, _), (1, _), (2, _), (3, _)]) rfl dL_law_962 rfl ⟨by omega, by omega⟩ ⟨rfl, Nat.le_of_ble_eq_true rfl⟩ rfl ?_
        refine x_goto (t := 18) (by decide) dL_law_965 ?_
        refine x_pick (L2 := [(0, _), (1, _), (2, _), (3, _)]) [0, 1, 2, 3] rfl ?_
        exact ih (i + 4) M2 h2 (by omega) (by omega)
      rcases (show k = 0 ∨ k = 1 ∨ k = 2 ∨ k = 3 ∨ k = 4 ∨ k = 5 ∨ k = 6 ∨ k = 7 ∨ k = 8 ∨ k = 9 ∨ k = 10 ∨ k = 11 ∨ k = 12 ∨ k = 13 ∨ k = 14 ∨ k = 15 ∨ k = 16 ∨ k = 17 ∨ k = 18 ∨ k = 19 ∨ k = 20 ∨ k = 21 ∨ k = 22 ∨ k = 23 ∨ k = 24 ∨ k = 25 ∨ k = 26 ∨ k = 27 ∨ k = 28 ∨ k = 29 ∨ k = 30 ∨ k = 31 by omega) with rfl | rfl | rfl | rfl | rfl | rfl | rfl | rfl | rfl | rfl | rfl | rfl | rfl | rfl | rfl | rfl | rfl | rfl | rfl | rfl | rfl | rfl | rfl | rfl | rfl | rfl | rfl | rfl | rfl | rfl | rfl | rfl
      · refine x_tsIn (t := 176) (off := 144) dL_law_32 (by decide) (by decide) (by decide) (by decide) ?_
        exact t_law_0 hB hD ho hN h (by omega) hgo
      · refine x_tsIn (t := 199) (off := 167) dL_law_32 (by decide) (by decide) (by decide) (by decide) ?_
        exact t_law_1 hB hD ho hN h (by omega) hgo
      · refine x_tsIn (t := 212) (off := 180) dL_law_32 (by decide) (by decide) (by decide) (by decide) ?_
        exact t_law_2 hB hD ho hN h (by omega) hgo
      · refine x_tsIn (t := 225) (off := 193) dL_law_32 (by decide) (by decide) (by decide) (by decide) ?_
        exact t_law_3 hB hD ho hN h (by omega) hgo
      · refine x_tsIn (t := 238) (off := 206) dL_law_32 (by decide) (by decide) (by decide) (by decide) ?_
        exact t_law_4 hB hD ho hN h (by omega) hgo
      · refine x_tsIn (t := 251) (off := 219) dL_law_32 (by decide) (by decide) (by decide) (by decide) ?_
        exact t_law_5 hB hD ho hN h (by omega) hgo
      · refine x_tsIn (t := 274) (off := 242) dL_law_32 (by decide) (by decide) (by decide) (by decide) ?_
        exact t_law_6 hB hD ho hN h (by omega) hgo
      · refine x_tsIn (t := 307) (off := 275) dL_law_32 (by decide) (by decide) (by decide) (by decide) ?_
        exact t_law_7 hB hD ho hN h (by omega) hgo
      · refine x_tsIn (t := 340) (off := 308) dL_law_32 (by decide) (by decide) (by decide) (by decide) ?_
        exact t_law_8 hB hD ho hN h (by omega) hgo
      · refine x_tsIn (t := 363) (off := 331) dL_law_32 (by decide) (by decide) (by decide) (by decide) ?_
        exact t_law_9 hB hD ho hN h (by omega) hgo
      · refine x_tsIn (t := 386) (off := 354) dL_law_32 (by decide) (by decide) (by decide) (by decide) ?_
        exact t_law_10 hB hD ho hN h (by omega) hgo
      · refine x_tsIn (t := 399) (off := 367) dL_law_32 (by decide) (by decide) (by decide) (by decide) ?_
        exact t_law_11 hB hD ho hN h (by omega) hgo
      · refine x_tsIn (t := 412) (off := 380) dL_law_32 (by decide) (by decide) (by decide) (by decide) ?_
        exact t_law_12 hB hD ho hN h (by omega) hgo
      · refine x_tsIn (t := 425) (off := 393) dL_law_32 (by decide) (by decide) (by decide) (by decide) ?_
        exact t_law_13 hB hD ho hN h (by omega) hgo
      · refine x_tsIn (t := 448) (off := 416) dL_law_32 (by decide) (by decide) (by decide) (by decide) ?_
        exact t_law_14 hB hD ho hN h (by omega) hgo
      · refine x_tsIn (t := 471) (off := 439) dL_law_32 (by decide) (by decide) (by decide) (by decide) ?_
        exact t_law_15 hB hD ho hN h (by omega) hgo
      · refine x_tsIn (t := 504) (off := 472) dL_law_32 (by decide) (by decide) (by decide) (by decide) ?_
        exact t_law_16 hB hD ho hN h (by omega) hgo
      · refine x_tsIn (t := 527) (off := 495) dL_law_32 (by decide) (by decide) (by decide) (by decide) ?_
        exact t_law_17 hB hD ho hN h (by omega) hgo
      · refine x_tsIn (t := 540) (off := 508) dL_law_32 (by decide) (by decide) (by decide) (by decide) ?_
        exact t_law_18 hB hD ho hN h (by omega) hgo
      · refine x_tsIn (t := 573) (off := 541) dL_law_32 (by decide) (by decide) (by decide) (by decide) ?_
        exact t_law_19 hB hD ho hN h (by omega) hgo
      · refine x_tsIn (t := 586) (off := 554) dL_law_32 (by decide) (by decide) (by decide) (by decide) ?_
        exact t_law_20 hB hD ho hN h (by omega) hgo
      · refine x_tsIn (t := 599) (off := 567) dL_law_32 (by decide) (by decide) (by decide) (by decide) ?_
        exact t_law_21 hB hD ho hN h (by omega) hgo
      · refine x_tsIn (t := 632) (off := 600) dL_law_32 (by decide) (by decide) (by decide) (by decide) ?_
        exact t_law_22 hB hD ho hN h (by omega) hgo
      · refine x_tsIn (t := 665) (off := 633) dL_law_32 (by decide) (by decide) (by decide) (by decide) ?_
        exact t_law_23 hB hD ho hN h (by omega) hgo
      · refine x_tsIn (t := 688) (off := 656) dL_law_32 (by decide) (by decide) (by decide) (by decide) ?_
        exact t_law_24 hB hD ho hN h (by omega) hgo
      · refine x_tsIn (t := 711) (off := 679) dL_law_32 (by decide) (by decide) (by decide) (by decide) ?_
        exact t_law_25 hB hD ho hN h (by omega) hgo
      · refine x_tsIn (t := 754) (off := 722) dL_law_32 (by decide) (by decide) (by decide) (by decide) ?_
        exact t_law_26 hB hD ho hN h (by omega) hgo
      · refine x_tsIn (t := 777) (off := 745) dL_law_32 (by decide) (by decide) (by decide) (by decide) ?_
        exact t_law_27 hB hD ho hN h (by omega) hgo
      · refine x_tsIn (t := 790) (off := 758) dL_law_32 (by decide) (by decide) (by decide) (by decide) ?_
        exact t_law_28 hB hD ho hN h (by omega) hgo
      · refine x_tsIn (t := 853) (off := 821) dL_law_32 (by decide) (by decide) (by decide) (by decide) ?_
        exact t_law_29 hB hD ho hN h (by omega) hgo
      · refine x_tsIn (t := 916) (off := 884) dL_law_32 (by decide) (by decide) (by decide) (by decide) ?_
        exact t_law_30 hB hD ho hN h (by omega) hgo
      · refine x_tsIn (t := 939) (off := 907) dL_law_32 (by decide) (by decide) (by decide) (by decide) ?_
        exact t_law_31 hB hD ho hN h (by omega) hgo
def bcT : Nat := 128
def bsT : Nat := 4533

set_option maxHeartbeats 4000000 in
theorem law_X (G : xG) (hN : gN G ≤ 2048) : xX G mL_law bcT bsT 0 [(0, xS)] [] ([], fun _ _ => none, fun _ _ => 0) (fun r _ => r = some (xI 1)) := by
  have hf : frh [] (fun _ _ => none) (fun _ _ => 0) := fun c _ => ⟨fun _ => rfl, fun _ => rfl⟩
  have hZ : ([] : List (Nat × Nat)).length = 0 := rfl
  refine x_newA (p2 := 3) (ci := 6) rfl dL_law_0 k_11_7 hZ hf ⟨by decide, by decide⟩ (fun hN1 hf1 => ?_)
  refine x_dup (p2 := 4) rfl dL_law_3 rfl ?_
  refine x_i0 (p2 := 7) (mc := 112) (ms := 3352) rfl dL_law_4 (Or.inl l_11_9) ok_X9_init rfl rfl ⟨by decide, by decide⟩ ?_
  refine t_X9_init hN1 (isO.nw hZ) hf1 (fun hN2 hf2 => ?_)
  refine x_astore_n (i := 1) (L2 := [(0, xS), (1, xP 0)]) (p2 := 8) rfl dL_law_7 rfl ⟨rfl, Nat.le_of_ble_eq_true rfl⟩ rfl ?_
  refine x_newA (p2 := 11) (ci := 7) rfl dL_law_8 k_11_10 hN2 hf2 ⟨by decide, by decide⟩ (fun hN3 hf3 => ?_)
  refine x_dup (p2 := 12) rfl dL_law_11 rfl ?_
  refine x_i0 (p2 := 15) (mc := 14) (ms := 1149) rfl dL_law_12 (Or.inl l_11_12) ok_X10_init rfl rfl ⟨by decide, by decide⟩ ?_
  refine t_X10_init hN3 (isO.nw hN2) hf3 (fun hN4 hf4 => ?_)
  refine x_astore_n (i := 2) (L2 := [(0, xS), (1, xP 0), (2, xP 113)]) (p2 := 16) rfl dL_law_15 rfl ⟨rfl, Nat.le_of_ble_eq_true rfl⟩ rfl ?_
  refine x_iconst (p2 := 17) rfl dL_law_16 ⟨by decide, by decide⟩ ?_
  refine x_istore_n (i := 3) (L2 := [(0, xS), (1, xP 0), (2, xP 113), (3, xI 0)]) (p2 := 18) rfl dL_law_17 rfl ⟨rfl, Nat.le_of_ble_eq_true rfl⟩ rfl ?_
  exact t_law_l st_b st_d st_ord hN 512 0 gM st_rel (by omega) (by omega)
end XLL
