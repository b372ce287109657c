section XV
variable {G : xG} {σ : List (Nat × Nat)} {ρ : Nat → Int → Option Nat} {M : Nat → Int → Int} {Q : Option xV → xH → Prop}
theorem xu_s {c : Nat} {j v : Int} : xu M c j v c j = v := if_pos ⟨rfl, rfl⟩
theorem xu_c {a c : Nat} {j v : Int} (h : a ≠ c) : xu M c j v a = M a := (xu_ne h).symm
theorem xu_j {a c : Nat} {i j v : Int} (h : i ≠ j) : xu M c j v a i = M a i := if_neg (fun z => h z.2)
theorem xcp_c {a b c : Nat} {n : Int} (h : c ≠ b) : xcp M a b n c = M c := by
  funext j; unfold xcp; rw [if_neg (fun z => h z.1)]
theorem xcp_s {a b : Nat} {n j : Int} (h0 : 0 ≤ j) (h1 : j < n) : xcp M a b n b j = M a j := if_pos ⟨rfl, h0, h1⟩
/-- State S has become a copy of State T -/
def cpSt (M M' : Nat → Int → Int) (S T : Nat) : Prop := (∀ j, 0 ≤ j → j < 8 → M' (S + 1) j = M (T + 1) j) ∧ (∀ j, 0 ≤ j → j < 16 → M' (S + 2) j = M (T + 2) j) ∧ (∀ j, 0 ≤ j → j < 16 → M' (S + 3) j = M (T + 3) j) ∧ (∀ j, 0 ≤ j → j < 8 → M' (S + 4) j = M (T + 4) j) ∧ M' S 5 = M T 5 ∧ M' S 6 = M T 6 ∧ ∀ c, c < S ∨ S + 4 < c → M' c = M c
def cpFr (M M' : Nat → Int → Int) (F E : Nat) : Prop := M' F 0 = M E 0 ∧ M' F 1 = M E 1 ∧ (∀ j, 0 ≤ j → j < 8 → M' (F + 1) j = M (E + 1) j) ∧ ∀ c, c < F ∨ F + 1 < c → M' c = M c
set_option maxHeartbeats 4000000 in
theorem t_X7_copyFrom {S F T E : Nat} (hS : isSt σ ρ S F) (hT : isSt σ ρ T E) (hd : S + 4 < T ∨ T + 4 < S) (hq : ∀ M2, cpSt M M2 S T → Q none (σ, ρ, M2)) : xX G mX7_copyFrom 0 0 0 [(0, xP S), (1, xP T)] [] (σ, ρ, M) Q := by
  refine x_aload_n (p2 := 1) rfl dX7_copyFrom_0 rfl ?_
  refine x_getr (p2 := 4) (kz := 1) rfl dX7_copyFrom_1 f_7_9 rfl rfl hT.sh hT.r1 ?_
  refine x_iconst (p2 := 5) rfl dX7_copyFrom_4 ⟨by decide, by decide⟩ ?_
  refine x_aload_n (p2 := 6) rfl dX7_copyFrom_5 rfl ?_
  refine x_getr (p2 := 9) (kz := 1) rfl dX7_copyFrom_6 f_7_9 rfl rfl hS.sh hS.r1 ?_
  refine x_iconst (p2 := 10) rfl dX7_copyFrom_9 ⟨by decide, by decide⟩ ?_
  refine x_bipush (p2 := 12) rfl dX7_copyFrom_10 ⟨by decide, ⟨by decide, by decide⟩⟩ ?_
  refine x_copy (p2 := 15) rfl dX7_copyFrom_12 w_7_35 w_ac2 w_ac3 w_ac4 ⟨Nat.le_of_ble_eq_true rfl, Nat.le_of_ble_eq_true rfl⟩ (Nat.le_of_ble_eq_true rfl) hT.a1 hS.a1 (by omega) (by omega) (by omega) ?_
  refine x_aload_n (p2 := 16) rfl dX7_copyFrom_15 rfl ?_
  refine x_getr (p2 := 19) (kz := 2) rfl dX7_copyFrom_16 f_7_15 rfl rfl hT.sh hT.r2 ?_
  refine x_iconst (p2 := 20) rfl dX7_copyFrom_19 ⟨by decide, by decide⟩ ?_
  refine x_aload_n (p2 := 21) rfl dX7_copyFrom_20 rfl ?_
  refine x_getr (p2 := 24) (kz := 2) rfl dX7_copyFrom_21 f_7_15 rfl rfl hS.sh hS.r2 ?_
  refine x_iconst (p2 := 25) rfl dX7_copyFrom_24 ⟨by decide, by decide⟩ ?_
  refine x_bipush (p2 := 27) rfl dX7_copyFrom_25 ⟨by decide, ⟨by decide, by decide⟩⟩ ?_
  refine x_copy (p2 := 30) rfl dX7_copyFrom_27 w_7_35 w_ac2 w_ac3 w_ac4 ⟨Nat.le_of_ble_eq_true rfl, Nat.le_of_ble_eq_true rfl⟩ (Nat.le_of_ble_eq_true rfl) hT.a2 hS.a2 (by omega) (by omega) (by omega) ?_
  refine x_aload_n (p2 := 31) rfl dX7_copyFrom_30 rfl ?_
  refine x_getr (p2 := 34) (kz := 3) rfl dX7_copyFrom_31 f_7_18 rfl rfl hT.sh hT.r3 ?_
  refine x_iconst (p2 := 35) rfl dX7_copyFrom_34 ⟨by decide, by decide⟩ ?_
  refine x_aload_n (p2 := 36) rfl dX7_copyFrom_35 rfl ?_
  refine x_getr (p2 := 39) (kz := 3) rfl dX7_copyFrom_36 f_7_18 rfl rfl hS.sh hS.r3 ?_
  refine x_iconst (p2 := 40) rfl dX7_copyFrom_39 ⟨by decide, by decide⟩ ?_
  refine x_bipush (p2 := 42) rfl dX7_copyFrom_40 ⟨by decide, ⟨by decide, by decide⟩⟩ ?_
  refine x_copy (p2 := 45) rfl dX7_copyFrom_42 w_7_35 w_ac2 w_ac3 w_ac4 ⟨Nat.le_of_ble_eq_true rfl, Nat.le_of_ble_eq_true rfl⟩ (Nat.le_of_ble_eq_true rfl) hT.a3 hS.a3 (by omega) (by omega) (by omega) ?_
  refine x_aload_n (p2 := 46) rfl dX7_copyFrom_45 rfl ?_
  refine x_getr (p2 := 49) (kz := 4) rfl dX7_copyFrom_46 f_7_21 rfl rfl hT.sh hT.r4 ?_
  refine x_iconst (p2 := 50) rfl dX7_copyFrom_49 ⟨by decide, by decide⟩ ?_
  refine x_aload_n (p2 := 51) rfl dX7_copyFrom_50 rfl ?_
  refine x_getr (p2 := 54) (kz := 4) rfl dX7_copyFrom_51 f_7_21 rfl rfl hS.sh hS.r4 ?_
  refine x_iconst (p2 := 55) rfl dX7_copyFrom_54 ⟨by decide, by decide⟩ ?_
  refine x_bipush (p2 := 57) rfl dX7_copyFrom_55 ⟨by decide, ⟨by decide, by decide⟩⟩ ?_
  refine x_copy (p2 := 60) rfl dX7_copyFrom_57 w_7_35 w_ac2 w_ac3 w_ac4 ⟨Nat.le_of_ble_eq_true rfl, Nat.le_of_ble_eq_true rfl⟩ (Nat.le_of_ble_eq_true rfl) hT.a4 hS.a4 (by omega) (by omega) (by omega) ?_
  refine x_aload_n (p2 := 61) rfl dX7_copyFrom_60 rfl ?_
  refine x_aload_n (p2 := 62) rfl dX7_copyFrom_61 rfl ?_
  refine x_geti (p2 := 65) (kz := 5) rfl dX7_copyFrom_62 f_7_24 rfl rfl hT.sh ?_
  refine x_puti (p2 := 68) (kz := 5) rfl dX7_copyFrom_65 f_7_24 rfl rfl rfl hS.sh ?_
  refine x_aload_n (p2 := 69) rfl dX7_copyFrom_68 rfl ?_
  refine x_aload_n (p2 := 70) rfl dX7_copyFrom_69 rfl ?_
  refine x_geti (p2 := 73) (kz := 6) rfl dX7_copyFrom_70 f_7_28 rfl rfl hT.sh ?_
  refine x_puti (p2 := 76) (kz := 6) rfl dX7_copyFrom_73 f_7_28 rfl rfl rfl hS.sh ?_
  refine x_vret dX7_copyFrom_76 rfl ?_
  refine hq _ ⟨fun j h0 h1 => ?_, fun j h0 h1 => ?_, fun j h0 h1 => ?_, fun j h0 h1 => ?_, ?_, ?_, fun c hc => ?_⟩
  · rw [xu_c (by omega), xu_c (by omega), xcp_c (by omega), xcp_c (by omega), xcp_c (by omega), xcp_s h0 h1]
  · rw [xu_c (by omega), xu_c (by omega), xcp_c (by omega), xcp_c (by omega), xcp_s h0 h1, xcp_c (by omega)]
  · rw [xu_c (by omega), xu_c (by omega), xcp_c (by omega), xcp_s h0 h1, xcp_c (by omega), xcp_c (by omega)]
  · rw [xu_c (by omega), xu_c (by omega), xcp_s h0 h1, xcp_c (by omega), xcp_c (by omega), xcp_c (by omega)]
  · rw [xu_j (by omega), xu_s, xcp_c (by omega), xcp_c (by omega), xcp_c (by omega), xcp_c (by omega)]
  · rw [xu_s, xu_c (by omega), xcp_c (by omega), xcp_c (by omega), xcp_c (by omega), xcp_c (by omega)]
  · rw [xu_c (by omega), xu_c (by omega), xcp_c (by omega), xcp_c (by omega), xcp_c (by omega), xcp_c (by omega)]
set_option maxHeartbeats 4000000 in
theorem t_X1_copyFrom {F E : Nat} (hF : isFr σ ρ F) (hE : isFr σ ρ E) (hd : F + 1 < E ∨ E + 1 < F) (hq : ∀ M2, cpFr M M2 F E → Q none (σ, ρ, M2)) : xX G mX1_copyFrom 0 0 0 [(0, xP F), (1, xP E)] [] (σ, ρ, M) Q := by
  refine x_aload_n (p2 := 1) rfl dX1_copyFrom_0 rfl ?_
  refine x_aload_n (p2 := 2) rfl dX1_copyFrom_1 rfl ?_
  refine x_geti (p2 := 5) (kz := 0) rfl dX1_copyFrom_2 f_1_9 rfl rfl hE.sh ?_
  refine x_puti (p2 := 8) (kz := 0) rfl dX1_copyFrom_5 f_1_9 rfl rfl rfl hF.sh ?_
  refine x_aload_n (p2 := 9) rfl dX1_copyFrom_8 rfl ?_
  refine x_aload_n (p2 := 10) rfl dX1_copyFrom_9 rfl ?_
  refine x_geti (p2 := 13) (kz := 1) rfl dX1_copyFrom_10 f_1_15 rfl rfl hE.sh ?_
  refine x_puti (p2 := 16) (kz := 1) rfl dX1_copyFrom_13 f_1_15 rfl rfl rfl hF.sh ?_
  refine x_aload_n (p2 := 17) rfl dX1_copyFrom_16 rfl ?_
  refine x_getr (p2 := 20) (kz := 2) rfl dX1_copyFrom_17 f_1_18 rfl rfl hE.sh hE.r2 ?_
  refine x_iconst (p2 := 21) rfl dX1_copyFrom_20 ⟨by decide, by decide⟩ ?_
  refine x_aload_n (p2 := 22) rfl dX1_copyFrom_21 rfl ?_
  refine x_getr (p2 := 25) (kz := 2) rfl dX1_copyFrom_22 f_1_18 rfl rfl hF.sh hF.r2 ?_
  refine x_iconst (p2 := 26) rfl dX1_copyFrom_25 ⟨by decide, by decide⟩ ?_
  refine x_bipush (p2 := 28) rfl dX1_copyFrom_26 ⟨by decide, ⟨by decide, by decide⟩⟩ ?_
  refine x_copy (p2 := 31) rfl dX1_copyFrom_28 w_1_22 w_ac2 w_ac3 w_ac4 ⟨Nat.le_of_ble_eq_true rfl, Nat.le_of_ble_eq_true rfl⟩ (Nat.le_of_ble_eq_true rfl) hE.a2 hF.a2 (by omega) (by omega) (by omega) ?_
  refine x_vret dX1_copyFrom_31 rfl ?_
  refine hq _ ⟨?_, ?_, fun j h0 h1 => ?_, fun c hc => ?_⟩
  · rw [xcp_c (by omega), xu_j (by omega), xu_s]
  · rw [xcp_c (by omega), xu_s, xu_c (by omega)]
  · rw [xcp_s h0 h1, xu_c (by omega), xu_c (by omega)]
  · rw [xcp_c (by omega), xu_c (by omega), xu_c (by omega)]
set_option maxHeartbeats 4000000 in
theorem t_lon_l {S F : Nat} (hS : isSt σ ρ S F) (hq : ∀ r : Int → Int, (∀ j, 0 ≤ j → j < 8 → r j = j) → xX G mX7_layOutByNumber 0 0 21 [(0, xP S)] [] (σ, ρ, xw M (S + 4) r) Q) : ∀ (n : Nat) (i : Int) (r : Int → Int), 0 ≤ i → i + n = 8 → (∀ j, 0 ≤ j → j < i → r j = j) → xX G mX7_layOutByNumber 0 0 2 [(0, xP S), (1, xI i)] [] (σ, ρ, xw M (S + 4) r) Q := by
  intro n
  induction n with
  | zero =>
    intro i r h0 hk hr
    refine x_iload_n (p2 := 3) rfl dX7_layOutByNumber_2 rfl ?_
    refine x_bipush (p2 := 5) rfl dX7_layOutByNumber_3 ⟨by decide, ⟨by decide, by decide⟩⟩ ?_
    refine x_ic_ge (p2 := 8) (t := 21) (by decide) rfl dX7_layOutByNumber_5 (fun hc5 => ?_) (fun hc5 => absurd hc5 (by omega))
    refine x_pick (L2 := [(0, _)]) [0] rfl ?_
    exact hq r (fun j a b => hr j a (by omega))
  | succ n ih =>
    intro i r h0 hk hr
    refine x_iload_n (p2 := 3) rfl dX7_layOutByNumber_2 rfl ?_
    refine x_bipush (p2 := 5) rfl dX7_layOutByNumber_3 ⟨by decide, ⟨by decide, by decide⟩⟩ ?_
    refine x_ic_ge (p2 := 8) (t := 21) (by decide) rfl dX7_layOutByNumber_5 (fun hc5 => ?_) (fun hc5 => ?_)
    · exact absurd hc5 (by omega)
    refine x_aload_n (p2 := 9) rfl dX7_layOutByNumber_8 rfl ?_
    refine x_getr (p2 := 12) (kz := 4) rfl dX7_layOutByNumber_9 f_7_21 rfl rfl hS.sh hS.r4 ?_
    refine x_iload_n (p2 := 13) rfl dX7_layOutByNumber_12 rfl ?_
    refine x_iload_n (p2 := 14) rfl dX7_layOutByNumber_13 rfl ?_
    refine x_iast (p2 := 15) rfl dX7_layOutByNumber_14 hS.a4 (by omega) (by omega) ?_
    rw [xu_xw]
    refine x_iinc (p2 := 18) (L2 := [(0, _), (1, _)]) rfl dX7_layOutByNumber_15 rfl ⟨by omega, by omega⟩ ⟨rfl, Nat.le_of_ble_eq_true rfl⟩ rfl ?_
    refine x_goto (t := 2) (by decide) dX7_layOutByNumber_18 ?_
    refine x_pick (L2 := [(0, _), (1, _)]) [0, 1] rfl ?_
    refine ih _ _ (by omega) (by omega) (fun j a b => ?_)
    by_cases hj : j = i
    · rw [hj, upf_s]
    · rw [upf_n hj]; exact hr j a (by omega)
set_option maxHeartbeats 4000000 in
theorem t_X7_layOutByNumber {S F : Nat} (hS : isSt σ ρ S F) (hq : ∀ M2, (∀ j, 0 ≤ j → j < 8 → M2 (S + 4) j = j) → M2 S 5 = M F 0 → M2 S 6 = 1 → (∀ c, c ≠ S → c ≠ S + 4 → M2 c = M c) → Q none (σ, ρ, M2)) : xX G mX7_layOutByNumber 0 0 0 [(0, xP S)] [] (σ, ρ, M) Q := by
  refine x_iconst (p2 := 1) rfl dX7_layOutByNumber_0 ⟨by decide, by decide⟩ ?_
  refine x_istore_n (p2 := 2) (i := 1) (L2 := [(0, _), (1, _)]) rfl dX7_layOutByNumber_1 rfl ⟨rfl, Nat.le_of_ble_eq_true rfl⟩ rfl ?_
  refine x_pick (L2 := [(0, _), (1, _)]) [0, 1] rfl ?_
  rw [show (σ, ρ, M) = (σ, ρ, xw M (S + 4) (M (S + 4))) by rw [xw_id]]
  refine t_lon_l hS (fun r hr => ?_) 8 0 _ (by omega) (by omega) (fun j a b => by omega)
  have hlt := hS.lt
  refine x_aload_n (p2 := 22) rfl dX7_layOutByNumber_21 rfl ?_
  refine x_aload_n (p2 := 23) rfl dX7_layOutByNumber_22 rfl ?_
  refine x_getr (p2 := 26) (kz := 0) rfl dX7_layOutByNumber_23 f_7_31 rfl rfl hS.sh hS.r0 ?_
  refine x_geti (p2 := 29) (kz := 0) rfl dX7_layOutByNumber_26 f_7_41 rfl rfl hS.fr.sh ?_
  refine x_puti (p2 := 32) (kz := 5) rfl dX7_layOutByNumber_29 f_7_24 rfl rfl rfl hS.sh ?_
  refine x_aload_n (p2 := 33) rfl dX7_layOutByNumber_32 rfl ?_
  refine x_iconst (p2 := 34) rfl dX7_layOutByNumber_33 ⟨by decide, by decide⟩ ?_
  refine x_puti (p2 := 37) (kz := 6) rfl dX7_layOutByNumber_34 f_7_28 rfl rfl rfl hS.sh ?_
  refine x_vret dX7_layOutByNumber_37 rfl ?_
  refine hq _ (fun j a b => ?_) ?_ ?_ (fun c h1 h2 => ?_)
  · rw [xu_c (by omega), xu_c (by omega), xw_s]; exact hr j a b
  · rw [xu_j (by omega), xu_s, xw_n (by omega)]
  · rw [xu_s]
  · rw [xu_c h1, xu_c h1, xw_n h2]
def wfS (M : Nat → Int → Int) (S F : Nat) : Prop := wfG (M F 0) (M (S + 1)) (M (S + 2)) (M (S + 3)) ∧ wfO (M F 0) (M (S + 4)) (M S 5) ∧ (M S 6 = 1 ∨ M S 6 = 2 ∨ M S 6 = 4 ∨ M S 6 = 8 ∨ M S 6 = 16) ∧ (0 ≤ M F 1 ∧ M F 1 ≤ 99) ∧ ∀ b, 0 ≤ b → b < M F 0 → 0 ≤ M (F + 1) b ∧ M (F + 1) b ≤ 9
def rup (e u : Int) : Int := (e + u - 1) / u * u
theorem rup_tab : ∀ e, e < 320 → ∀ u ∈ ([1, 2, 4, 8, 16] : List Nat), xiand ((e : Nat) + (u : Int) - 1) (-(u : Int)) = rup (e : Nat) (u : Int) := by decide +kernel
theorem rup_ok {e u : Int} (h0 : 0 ≤ e) (h1 : e < 320) (hu : u = 1 ∨ u = 2 ∨ u = 4 ∨ u = 8 ∨ u = 16) : xiand (e + u - 1) (-u) = rup e u := by
  have he : e = (e.toNat : Int) := by omega
  rcases hu with rfl | rfl | rfl | rfl | rfl <;> rw [he] <;> exact rup_tab e.toNat (by omega) _ (by decide)
theorem rup_bd {e u : Int} (h0 : 0 ≤ e) (hu : u = 1 ∨ u = 2 ∨ u = 4 ∨ u = 8 ∨ u = 16) : e ≤ rup e u ∧ rup e u ≤ e + 15 := by
  unfold rup
  rcases hu with rfl | rfl | rfl | rfl | rfl <;> omega
def ldb (ex tg : Int → Int) (b c : Int) : Bool := decide ((0 < ex b ∧ tg (2 * b + 0) = c) ∨ (1 < ex b ∧ tg (2 * b + 1) = c))
theorem ldb_t {ex tg : Int → Int} {b c : Int} (hx : ex b ≤ 2) (h : ∃ j, 0 ≤ j ∧ j < ex b ∧ tg (2 * b + j) = c) : ldb ex tg b c = true := by
  obtain ⟨j, h0, h1, h2⟩ := h
  rcases (by omega : j = 0 ∨ j = 1) with rfl | rfl
  · exact decide_eq_true (Or.inl ⟨h1, h2⟩)
  · exact decide_eq_true (Or.inr ⟨h1, h2⟩)
theorem ldb_f {ex tg : Int → Int} {b c : Int} (h : ∀ j, 0 ≤ j → j < ex b → tg (2 * b + j) ≠ c) : ldb ex tg b c = false := by
  refine decide_eq_false (fun z => ?_)
  rcases z with ⟨z1, z2⟩ | ⟨z1, z2⟩
  · exact h 0 (by omega) z1 z2
  · exact h 1 (by omega) z1 z2
def lhf (ex tg od : Int → Int) (i : Int) : Nat → Int → Bool
  | 0, _ => false
  | k + 1, j => if ldb ex tg (od j) (od i) then true else lhf ex tg od i k (j + 1)
def lhd (ex tg od : Int → Int) (hot i : Int) : Bool := lhf ex tg od i (hot - i).toNat i
def sta (ex tg od : Int → Int) (hot al i e : Int) : Int := if i = hot then rup e 16 else if lhd ex tg od hot i then rup e al else e
def bya (n : Int) (ex tg od byt : Int → Int) (hot i : Int) : Int := byt (od i) + bbf ex tg (od i) (fa n od hot i)
def eoc (n : Int) (ex tg od byt : Int → Int) (hot al : Int) : Nat → Int → Int → Int
  | 0, _, e => e
  | k + 1, i, e => eoc n ex tg od byt hot al k (i + 1) (sta ex tg od hot al i e + bya n ex tg od byt hot i)
def sof (n : Int) (ex tg od byt : Int → Int) (hot al b : Int) : Nat → Int → Int → Int
  | 0, _, _ => -1
  | k + 1, i, e => if od i = b then sta ex tg od hot al i e else sof n ex tg od byt hot al b k (i + 1) (sta ex tg od hot al i e + bya n ex tg od byt hot i)
theorem bbf_bd {ex tg : Int → Int} {b f : Int} (h0 : 0 ≤ ex b) (h1 : ex b ≤ 2) : 0 ≤ bbf ex tg b f ∧ bbf ex tg b f ≤ 4 := by
  have := sg_bd (f := fun k => if tg (2 * b + k) = f then 0 else 2) (c := 2) (ex b).toNat 0 (fun j _ _ => by
    split <;> omega)
  unfold bbf
  omega
theorem sta_bd {ex tg od : Int → Int} {hot al i e : Int} (h0 : 0 ≤ e) (hu : al = 1 ∨ al = 2 ∨ al = 4 ∨ al = 8 ∨ al = 16) : e ≤ sta ex tg od hot al i e ∧ sta ex tg od hot al i e ≤ e + 15 := by
  unfold sta
  have h1 := rup_bd (u := 16) h0 (by omega)
  have h2 := rup_bd h0 hu
  repeat' split
  all_goals omega
set_option maxHeartbeats 4000000 in
theorem t_X4_roundUp {e u : Int} (h0 : 0 ≤ e) (h1 : e < 320) (hu : u = 1 ∨ u = 2 ∨ u = 4 ∨ u = 8 ∨ u = 16) (hq : Q (some (xI (rup e u))) (σ, ρ, M)) : xX G mX4_roundUp 0 0 0 [(0, xI e), (1, xI u)] [] (σ, ρ, M) Q := by
  refine x_iload_n (p2 := 1) rfl dX4_roundUp_0 rfl ?_
  refine x_iload_n (p2 := 2) rfl dX4_roundUp_1 rfl ?_
  refine x_iadd (p2 := 3) rfl dX4_roundUp_2 ⟨by omega, by omega⟩ ?_
  refine x_iconst (p2 := 4) rfl dX4_roundUp_3 ⟨by decide, by decide⟩ ?_
  refine x_isub (p2 := 5) rfl dX4_roundUp_4 ⟨by omega, by omega⟩ ?_
  refine x_iload_n (p2 := 6) rfl dX4_roundUp_5 rfl ?_
  refine x_ineg (p2 := 7) rfl dX4_roundUp_6 ⟨by omega, by omega⟩ ?_
  refine x_iand (p2 := 8) rfl dX4_roundUp_7 ?_
  refine x_iret dX4_roundUp_8 rfl ?_
  rw [rup_ok h0 h1 hu]; exact hq
set_option maxHeartbeats 4000000 in
theorem t_lh_l {S F : Nat} (hS : isSt σ ρ S F) (hW : wfS M S F) {i : Int} (hi : 0 ≤ i ∧ i < M F 0) : ∀ (n : Nat) (j : Int), i ≤ j → j + n = max j (M S 5) → (lhf (M (S + 1)) (M (S + 2)) (M (S + 4)) i n j = true → Q (some (xI 1)) (σ, ρ, M)) → (lhf (M (S + 1)) (M (S + 2)) (M (S + 4)) i n j = false → Q (some (xI 0)) (σ, ρ, M)) → xX G mX4_isLoopHead 0 0 2 [(0, xP S), (1, xI i), (2, xI j)] [] (σ, ρ, M) Q := by
  have hn1 := hW.1.1
  have hn8 := hW.1.2.1
  have ho1 := hW.2.1.2.2.2.1
  have ho2 := hW.2.1.2.2.2.2
  have hal := hW.2.2.1
  intro n
  induction n with
  | zero =>
    intro j h0 hk k1 k0
    refine x_iload_n (p2 := 3) rfl dX4_isLoopHead_2 rfl ?_
    refine x_aload_n (p2 := 4) rfl dX4_isLoopHead_3 rfl ?_
    refine x_geti (p2 := 7) (kz := 5) rfl dX4_isLoopHead_4 f_4_35 rfl rfl hS.sh ?_
    refine x_ic_ge (p2 := 10) (t := 37) (by decide) rfl dX4_isLoopHead_7 (fun hc7 => ?_) (fun hc7 => absurd hc7 (by omega))
    refine x_iconst (p2 := 38) rfl dX4_isLoopHead_37 ⟨by decide, by decide⟩ ?_
    refine x_zret dX4_isLoopHead_38 rfl (by omega) ?_
    exact k0 rfl
  | succ n ih =>
    intro j h0 hk k1 k0
    unfold lhf at k1 k0
    refine x_iload_n (p2 := 3) rfl dX4_isLoopHead_2 rfl ?_
    refine x_aload_n (p2 := 4) rfl dX4_isLoopHead_3 rfl ?_
    refine x_geti (p2 := 7) (kz := 5) rfl dX4_isLoopHead_4 f_4_35 rfl rfl hS.sh ?_
    refine x_ic_ge (p2 := 10) (t := 37) (by decide) rfl dX4_isLoopHead_7 (fun hc7 => ?_) (fun hc7 => ?_)
    · exact absurd hc7 (by omega)
    have hj1 := hW.2.1.1 j (by omega) (by omega)
    have hw := hW.1.2.2 _ hj1.1 hj1.2
    have hw0 := hw.1
    have hw1 := hw.2.1
    refine x_aload_n (p2 := 11) rfl dX4_isLoopHead_10 rfl ?_
    refine x_aload_n (p2 := 12) rfl dX4_isLoopHead_11 rfl ?_
    refine x_getr (p2 := 15) (kz := 4) rfl dX4_isLoopHead_12 f_4_27 rfl rfl hS.sh hS.r4 ?_
    refine x_iload_n (p2 := 16) rfl dX4_isLoopHead_15 rfl ?_
    refine x_iald (p2 := 17) rfl dX4_isLoopHead_16 hS.a4 (by omega) (by omega) ?_
    refine x_aload_n (p2 := 18) rfl dX4_isLoopHead_17 rfl ?_
    refine x_getr (p2 := 21) (kz := 4) rfl dX4_isLoopHead_18 f_4_27 rfl rfl hS.sh hS.r4 ?_
    refine x_iload_n (p2 := 22) rfl dX4_isLoopHead_21 rfl ?_
    refine x_iald (p2 := 23) rfl dX4_isLoopHead_22 hS.a4 (by omega) (by omega) ?_
    refine x_v2 (p2 := 26) rfl dX4_isLoopHead_23 l_4_59 ok_X7_leadsTo rfl hS.sh rfl ?_
    refine t_X7_leadsTo hS (by omega) (by omega) (fun hb23 => ?_) (fun hb23 => ?_)
    · skip
      refine x_if_eq (p2 := 29) (t := 31) (by decide) rfl dX4_isLoopHead_26 (fun hc => absurd hc (by decide)) (fun _ => ?_)
      refine x_iconst (p2 := 30) rfl dX4_isLoopHead_29 ⟨by decide, by decide⟩ ?_
      refine x_zret dX4_isLoopHead_30 rfl (by omega) ?_
      exact k1 (if_pos (ldb_t hw1 hb23))
    · skip
      refine x_if_eq (p2 := 29) (t := 31) (by decide) rfl dX4_isLoopHead_26 (fun _ => ?_) (fun hc => absurd hc (by decide))
      refine x_iinc (p2 := 34) (L2 := [(0, _), (1, _), (2, _)]) rfl dX4_isLoopHead_31 rfl ⟨by omega, by omega⟩ ⟨rfl, Nat.le_of_ble_eq_true rfl⟩ rfl ?_
      refine x_goto (t := 2) (by decide) dX4_isLoopHead_34 ?_
      refine x_pick (L2 := [(0, _), (1, _), (2, _)]) [0, 1, 2] rfl ?_
      rw [if_neg (by rw [ldb_f hb23]; decide)] at k1 k0
      exact ih _ (by omega) (by omega) k1 k0
set_option maxHeartbeats 4000000 in
theorem t_X4_isLoopHead {S F : Nat} (hS : isSt σ ρ S F) (hW : wfS M S F) {i : Int} (hi : 0 ≤ i ∧ i < M F 0) (k1 : lhd (M (S + 1)) (M (S + 2)) (M (S + 4)) (M S 5) i = true → Q (some (xI 1)) (σ, ρ, M)) (k0 : lhd (M (S + 1)) (M (S + 2)) (M (S + 4)) (M S 5) i = false → Q (some (xI 0)) (σ, ρ, M)) : xX G mX4_isLoopHead 0 0 0 [(0, xP S), (1, xI i)] [] (σ, ρ, M) Q := by
  refine x_iload_n (p2 := 1) rfl dX4_isLoopHead_0 rfl ?_
  refine x_istore_n (p2 := 2) (i := 2) (L2 := [(0, _), (1, _), (2, _)]) rfl dX4_isLoopHead_1 rfl ⟨rfl, Nat.le_of_ble_eq_true rfl⟩ rfl ?_
  refine x_pick (L2 := [(0, _), (1, _), (2, _)]) [0, 1, 2] rfl ?_
  exact t_lh_l hS hW hi _ _ (by omega) (by omega) k1 k0
set_option maxHeartbeats 4000000 in
theorem t_X4_startAt {S F : Nat} (hS : isSt σ ρ S F) (hW : wfS M S F) {i e : Int} (hi : 0 ≤ i ∧ i < M F 0) (he : 0 ≤ e ∧ e < 320) (hq : Q (some (xI (sta (M (S + 1)) (M (S + 2)) (M (S + 4)) (M S 5) (M S 6) i e))) (σ, ρ, M)) : xX G mX4_startAt 0 0 0 [(0, xP S), (1, xI i), (2, xI e)] [] (σ, ρ, M) Q := by
  have hn1 := hW.1.1
  have hn8 := hW.1.2.1
  have ho1 := hW.2.1.2.2.2.1
  have ho2 := hW.2.1.2.2.2.2
  have hal := hW.2.2.1
  unfold sta at hq
  refine x_iload_n (p2 := 1) rfl dX4_startAt_0 rfl ?_
  refine x_aload_n (p2 := 2) rfl dX4_startAt_1 rfl ?_
  refine x_geti (p2 := 5) (kz := 5) rfl dX4_startAt_2 f_4_35 rfl rfl hS.sh ?_
  refine x_ic_ne (p2 := 8) (t := 15) (by decide) rfl dX4_startAt_5 (fun hc5 => ?_) (fun hc5 => ?_)
  · skip
    refine x_aload_n (p2 := 16) rfl dX4_startAt_15 rfl ?_
    refine x_iload_n (p2 := 17) rfl dX4_startAt_16 rfl ?_
    refine x_s2 (p2 := 20) rfl dX4_startAt_17 l_4_42 ok_X4_isLoopHead rfl rfl ?_
    refine t_X4_isLoopHead hS hW (by omega) (fun hb17 => ?_) (fun hb17 => ?_)
    · skip
      refine x_if_eq (p2 := 23) (t := 34) (by decide) rfl dX4_startAt_20 (fun hc => absurd hc (by decide)) (fun _ => ?_)
      refine x_iload_n (p2 := 24) rfl dX4_startAt_23 rfl ?_
      refine x_aload_n (p2 := 25) rfl dX4_startAt_24 rfl ?_
      refine x_geti (p2 := 28) (kz := 6) rfl dX4_startAt_25 f_4_46 rfl rfl hS.sh ?_
      refine x_s2 (p2 := 31) rfl dX4_startAt_28 l_4_38 ok_X4_roundUp rfl rfl ?_
      refine t_X4_roundUp (by omega) (by omega) (by omega) ?_
      refine x_goto (t := 35) (by decide) dX4_startAt_31 ?_
      refine x_iret dX4_startAt_35 rfl ?_
      rw [if_neg hc5] at hq
      first
        | (rw [if_pos hb17] at hq; exact hq)
        | (rw [if_neg (by rw [hb17]; decide)] at hq; exact hq)
    · skip
      refine x_if_eq (p2 := 23) (t := 34) (by decide) rfl dX4_startAt_20 (fun _ => ?_) (fun hc => absurd hc (by decide))
      refine x_iload_n (p2 := 35) rfl dX4_startAt_34 rfl ?_
      refine x_iret dX4_startAt_35 rfl ?_
      rw [if_neg hc5] at hq
      first
        | (rw [if_pos hb17] at hq; exact hq)
        | (rw [if_neg (by rw [hb17]; decide)] at hq; exact hq)
  · skip
    refine x_iload_n (p2 := 9) rfl dX4_startAt_8 rfl ?_
    refine x_bipush (p2 := 11) rfl dX4_startAt_9 ⟨by decide, ⟨by decide, by decide⟩⟩ ?_
    refine x_s2 (p2 := 14) rfl dX4_startAt_11 l_4_38 ok_X4_roundUp rfl rfl ?_
    refine t_X4_roundUp (by omega) (by omega) (by omega) ?_
    refine x_iret dX4_startAt_14 rfl ?_
    rw [if_pos hc5] at hq; exact hq
set_option maxHeartbeats 4000000 in
theorem t_X4_bytesAt {S F : Nat} (hS : isSt σ ρ S F) (hW : wfS M S F) {i : Int} (hi : 0 ≤ i ∧ i < M F 0) (hq : Q (some (xI (bya (M F 0) (M (S + 1)) (M (S + 2)) (M (S + 4)) (M (F + 1)) (M S 5) i))) (σ, ρ, M)) : xX G mX4_bytesAt 0 0 0 [(0, xP S), (1, xI i)] [] (σ, ρ, M) Q := by
  have hn1 := hW.1.1
  have hn8 := hW.1.2.1
  have ho1 := hW.2.1.2.2.2.1
  have ho2 := hW.2.1.2.2.2.2
  have hal := hW.2.2.1
  have hj1 := hW.2.1.1 i hi.1 hi.2
  have hw := hW.1.2.2 _ hj1.1 hj1.2
  have hw0 := hw.1
  have hw1 := hw.2.1
  have hby := hW.2.2.2.2 _ hj1.1 hj1.2
  have hbb := bbf_bd (tg := M (S + 2)) (f := fa (M F 0) (M (S + 4)) (M S 5) i) hw0 hw1
  refine x_aload_n (p2 := 1) rfl dX4_bytesAt_0 rfl ?_
  refine x_getr (p2 := 4) (kz := 4) rfl dX4_bytesAt_1 f_4_27 rfl rfl hS.sh hS.r4 ?_
  refine x_iload_n (p2 := 5) rfl dX4_bytesAt_4 rfl ?_
  refine x_iald (p2 := 6) rfl dX4_bytesAt_5 hS.a4 (by omega) (by omega) ?_
  refine x_istore_n (p2 := 7) (i := 2) (L2 := [(0, _), (1, _), (2, _)]) rfl dX4_bytesAt_6 rfl ⟨rfl, Nat.le_of_ble_eq_true rfl⟩ rfl ?_
  refine x_aload_n (p2 := 8) rfl dX4_bytesAt_7 rfl ?_
  refine x_getr (p2 := 11) (kz := 0) rfl dX4_bytesAt_8 f_4_9 rfl rfl hS.sh hS.r0 ?_
  refine x_getr (p2 := 14) (kz := 2) rfl dX4_bytesAt_11 f_4_49 rfl rfl hS.fr.sh hS.fr.r2 ?_
  refine x_iload_n (p2 := 15) rfl dX4_bytesAt_14 rfl ?_
  refine x_iald (p2 := 16) rfl dX4_bytesAt_15 hS.fr.a2 (by omega) (by omega) ?_
  refine x_aload_n (p2 := 17) rfl dX4_bytesAt_16 rfl ?_
  refine x_iload_n (p2 := 18) rfl dX4_bytesAt_17 rfl ?_
  refine x_aload_n (p2 := 19) rfl dX4_bytesAt_18 rfl ?_
  refine x_iload_n (p2 := 20) rfl dX4_bytesAt_19 rfl ?_
  refine x_v1 (p2 := 23) rfl dX4_bytesAt_20 l_4_52 ok_X7_followerAt rfl hS.sh rfl ?_
  refine t_X7_followerAt hS (by omega) (by omega) ?_
  refine x_v2 (p2 := 26) rfl dX4_bytesAt_23 l_4_56 ok_X7_branchBytesBefore rfl hS.sh rfl ?_
  refine t_X7_branchBytesBefore hS (by omega) (by omega) ?_
  refine x_iadd (p2 := 27) rfl dX4_bytesAt_26 ⟨by omega, by omega⟩ ?_
  refine x_iret dX4_bytesAt_27 rfl ?_
  exact hq
theorem bya_bd {S F : Nat} {i : Int} (hW : wfS M S F) (hi : 0 ≤ i ∧ i < M F 0) : 0 ≤ bya (M F 0) (M (S + 1)) (M (S + 2)) (M (S + 4)) (M (F + 1)) (M S 5) i ∧ bya (M F 0) (M (S + 1)) (M (S + 2)) (M (S + 4)) (M (F + 1)) (M S 5) i ≤ 13 := by
  have hj1 := hW.2.1.1 i hi.1 hi.2
  have hw := hW.1.2.2 _ hj1.1 hj1.2
  have hby := hW.2.2.2.2 _ hj1.1 hj1.2
  have hbb := bbf_bd (tg := M (S + 2)) (f := fa (M F 0) (M (S + 4)) (M S 5) i) hw.1 hw.2.1
  unfold bya
  omega
set_option maxHeartbeats 4000000 in
theorem t_eoc_l {S F : Nat} (hS : isSt σ ρ S F) (hW : wfS M S F) : ∀ (n : Nat) (i e : Int), 0 ≤ i → i + n = M F 0 → 0 ≤ e → e ≤ 28 * i → Q (some (xI (eoc (M F 0) (M (S + 1)) (M (S + 2)) (M (S + 4)) (M (F + 1)) (M S 5) (M S 6) n i e))) (σ, ρ, M) → xX G mX4_endOfCode 0 0 4 [(0, xP S), (1, xI e), (2, xI i)] [] (σ, ρ, M) Q := by
  have hn1 := hW.1.1
  have hn8 := hW.1.2.1
  have ho1 := hW.2.1.2.2.2.1
  have ho2 := hW.2.1.2.2.2.2
  have hal := hW.2.2.1
  intro n
  induction n with
  | zero =>
    intro i e h0 hk he1 he2 hq
    refine x_iload_n (p2 := 5) rfl dX4_endOfCode_4 rfl ?_
    refine x_aload_n (p2 := 6) rfl dX4_endOfCode_5 rfl ?_
    refine x_getr (p2 := 9) (kz := 0) rfl dX4_endOfCode_6 f_4_9 rfl rfl hS.sh hS.r0 ?_
    refine x_geti (p2 := 12) (kz := 0) rfl dX4_endOfCode_9 f_4_15 rfl rfl hS.fr.sh ?_
    refine x_ic_ge (p2 := 15) (t := 34) (by decide) rfl dX4_endOfCode_12 (fun hc12 => ?_) (fun hc12 => absurd hc12 (by omega))
    refine x_iload_n (p2 := 35) rfl dX4_endOfCode_34 rfl ?_
    refine x_iret dX4_endOfCode_35 rfl ?_
    exact hq
  | succ n ih =>
    intro i e h0 hk he1 he2 hq
    refine x_iload_n (p2 := 5) rfl dX4_endOfCode_4 rfl ?_
    refine x_aload_n (p2 := 6) rfl dX4_endOfCode_5 rfl ?_
    refine x_getr (p2 := 9) (kz := 0) rfl dX4_endOfCode_6 f_4_9 rfl rfl hS.sh hS.r0 ?_
    refine x_geti (p2 := 12) (kz := 0) rfl dX4_endOfCode_9 f_4_15 rfl rfl hS.fr.sh ?_
    refine x_ic_ge (p2 := 15) (t := 34) (by decide) rfl dX4_endOfCode_12 (fun hc12 => ?_) (fun hc12 => ?_)
    · exact absurd hc12 (by omega)
    have hs9 := sta_bd (ex := M (S + 1)) (tg := M (S + 2)) (od := M (S + 4)) (hot := M S 5) (i := i) he1 hal
    have hb9 := bya_bd hW (by omega : 0 ≤ i ∧ i < M F 0)
    refine x_aload_n (p2 := 16) rfl dX4_endOfCode_15 rfl ?_
    refine x_iload_n (p2 := 17) rfl dX4_endOfCode_16 rfl ?_
    refine x_iload_n (p2 := 18) rfl dX4_endOfCode_17 rfl ?_
    refine x_s3 (p2 := 21) rfl dX4_endOfCode_18 l_4_21 ok_X4_startAt rfl rfl ?_
    refine t_X4_startAt hS hW (by omega) (by omega) ?_
    refine x_aload_n (p2 := 22) rfl dX4_endOfCode_21 rfl ?_
    refine x_iload_n (p2 := 23) rfl dX4_endOfCode_22 rfl ?_
    refine x_s2 (p2 := 26) rfl dX4_endOfCode_23 l_4_31 ok_X4_bytesAt rfl rfl ?_
    refine t_X4_bytesAt hS hW (by omega) ?_
    refine x_iadd (p2 := 27) rfl dX4_endOfCode_26 ⟨by omega, by omega⟩ ?_
    refine x_istore_n (p2 := 28) (i := 1) (L2 := [(0, _), (1, _), (2, _)]) rfl dX4_endOfCode_27 rfl ⟨rfl, Nat.le_of_ble_eq_true rfl⟩ rfl ?_
    refine x_iinc (p2 := 31) (L2 := [(0, _), (1, _), (2, _)]) rfl dX4_endOfCode_28 rfl ⟨by omega, by omega⟩ ⟨rfl, Nat.le_of_ble_eq_true rfl⟩ rfl ?_
    refine x_goto (t := 4) (by decide) dX4_endOfCode_31 ?_
    refine x_pick (L2 := [(0, _), (1, _), (2, _)]) [0, 1, 2] rfl ?_
    exact ih _ _ (by omega) (by omega) (by omega) (by omega) hq
set_option maxHeartbeats 4000000 in
theorem t_X4_endOfCode {S F : Nat} (hS : isSt σ ρ S F) (hW : wfS M S F) (hq : Q (some (xI (eoc (M F 0) (M (S + 1)) (M (S + 2)) (M (S + 4)) (M (F + 1)) (M S 5) (M S 6) (M F 0).toNat 0 0))) (σ, ρ, M)) : xX G mX4_endOfCode 0 0 0 [(0, xP S)] [] (σ, ρ, M) Q := by
  have hn1 := hW.1.1
  have hn8 := hW.1.2.1
  have ho1 := hW.2.1.2.2.2.1
  have ho2 := hW.2.1.2.2.2.2
  have hal := hW.2.2.1
  refine x_iconst (p2 := 1) rfl dX4_endOfCode_0 ⟨by decide, by decide⟩ ?_
  refine x_istore_n (p2 := 2) (i := 1) (L2 := [(0, _), (1, _)]) rfl dX4_endOfCode_1 rfl ⟨rfl, Nat.le_of_ble_eq_true rfl⟩ rfl ?_
  refine x_iconst (p2 := 3) rfl dX4_endOfCode_2 ⟨by decide, by decide⟩ ?_
  refine x_istore_n (p2 := 4) (i := 2) (L2 := [(0, _), (1, _), (2, _)]) rfl dX4_endOfCode_3 rfl ⟨rfl, Nat.le_of_ble_eq_true rfl⟩ rfl ?_
  refine x_pick (L2 := [(0, _), (1, _), (2, _)]) [0, 1, 2] rfl ?_
  exact t_eoc_l hS hW _ _ _ (by omega) (by omega) (by omega) (by omega) hq
set_option maxHeartbeats 4000000 in
theorem t_sof_l {S F : Nat} (hS : isSt σ ρ S F) (hW : wfS M S F) {b : Int} : ∀ (n : Nat) (i e : Int), 0 ≤ i → i + n = M F 0 → 0 ≤ e → e ≤ 28 * i → Q (some (xI (sof (M F 0) (M (S + 1)) (M (S + 2)) (M (S + 4)) (M (F + 1)) (M S 5) (M S 6) b n i e))) (σ, ρ, M) → xX G mX4_startOf 0 0 4 [(0, xP S), (1, xI b), (2, xI e), (3, xI i)] [] (σ, ρ, M) Q := by
  have hn1 := hW.1.1
  have hn8 := hW.1.2.1
  have ho1 := hW.2.1.2.2.2.1
  have ho2 := hW.2.1.2.2.2.2
  have hal := hW.2.2.1
  intro n
  induction n with
  | zero =>
    intro i e h0 hk he1 he2 hq
    refine x_iload_n (p2 := 5) rfl dX4_startOf_4 rfl ?_
    refine x_aload_n (p2 := 6) rfl dX4_startOf_5 rfl ?_
    refine x_getr (p2 := 9) (kz := 0) rfl dX4_startOf_6 f_4_9 rfl rfl hS.sh hS.r0 ?_
    refine x_geti (p2 := 12) (kz := 0) rfl dX4_startOf_9 f_4_15 rfl rfl hS.fr.sh ?_
    refine x_ic_ge (p2 := 15) (t := 51) (by decide) rfl dX4_startOf_12 (fun hc12 => ?_) (fun hc12 => absurd hc12 (by omega))
    refine x_iconst (p2 := 52) rfl dX4_startOf_51 ⟨by decide, by decide⟩ ?_
    refine x_iret dX4_startOf_52 rfl ?_
    exact hq
  | succ n ih =>
    intro i e h0 hk he1 he2 hq
    unfold sof at hq
    refine x_iload_n (p2 := 5) rfl dX4_startOf_4 rfl ?_
    refine x_aload_n (p2 := 6) rfl dX4_startOf_5 rfl ?_
    refine x_getr (p2 := 9) (kz := 0) rfl dX4_startOf_6 f_4_9 rfl rfl hS.sh hS.r0 ?_
    refine x_geti (p2 := 12) (kz := 0) rfl dX4_startOf_9 f_4_15 rfl rfl hS.fr.sh ?_
    refine x_ic_ge (p2 := 15) (t := 51) (by decide) rfl dX4_startOf_12 (fun hc12 => ?_) (fun hc12 => ?_)
    · exact absurd hc12 (by omega)
    have hs9 := sta_bd (ex := M (S + 1)) (tg := M (S + 2)) (od := M (S + 4)) (hot := M S 5) (i := i) he1 hal
    have hb9 := bya_bd hW (by omega : 0 ≤ i ∧ i < M F 0)
    refine x_aload_n (p2 := 16) rfl dX4_startOf_15 rfl ?_
    refine x_iload_n (p2 := 17) rfl dX4_startOf_16 rfl ?_
    refine x_iload_n (p2 := 18) rfl dX4_startOf_17 rfl ?_
    refine x_s3 (p2 := 21) rfl dX4_startOf_18 l_4_21 ok_X4_startAt rfl rfl ?_
    refine t_X4_startAt hS hW (by omega) (by omega) ?_
    refine x_istore (p2 := 23) (i := 4) (L2 := [(0, _), (1, _), (2, _), (3, _), (4, _)]) rfl dX4_startOf_21 ⟨rfl, Nat.le_of_ble_eq_true rfl⟩ rfl ?_
    refine x_aload_n (p2 := 24) rfl dX4_startOf_23 rfl ?_
    refine x_getr (p2 := 27) (kz := 4) rfl dX4_startOf_24 f_4_27 rfl rfl hS.sh hS.r4 ?_
    refine x_iload_n (p2 := 28) rfl dX4_startOf_27 rfl ?_
    refine x_iald (p2 := 29) rfl dX4_startOf_28 hS.a4 (by omega) (by omega) ?_
    refine x_iload_n (p2 := 30) rfl dX4_startOf_29 rfl ?_
    refine x_ic_ne (p2 := 33) (t := 36) (by decide) rfl dX4_startOf_30 (fun hc30 => ?_) (fun hc30 => ?_)
    · skip
      refine x_iload (p2 := 38) rfl dX4_startOf_36 rfl ?_
      refine x_aload_n (p2 := 39) rfl dX4_startOf_38 rfl ?_
      refine x_iload_n (p2 := 40) rfl dX4_startOf_39 rfl ?_
      refine x_s2 (p2 := 43) rfl dX4_startOf_40 l_4_31 ok_X4_bytesAt rfl rfl ?_
      refine t_X4_bytesAt hS hW (by omega) ?_
      refine x_iadd (p2 := 44) rfl dX4_startOf_43 ⟨by omega, by omega⟩ ?_
      refine x_istore_n (p2 := 45) (i := 2) (L2 := [(0, _), (1, _), (2, _), (3, _), (4, _)]) rfl dX4_startOf_44 rfl ⟨rfl, Nat.le_of_ble_eq_true rfl⟩ rfl ?_
      refine x_iinc (p2 := 48) (L2 := [(0, _), (1, _), (2, _), (3, _), (4, _)]) rfl dX4_startOf_45 rfl ⟨by omega, by omega⟩ ⟨rfl, Nat.le_of_ble_eq_true rfl⟩ rfl ?_
      refine x_goto (t := 4) (by decide) dX4_startOf_48 ?_
      refine x_pick (L2 := [(0, _), (1, _), (2, _), (3, _)]) [0, 1, 2, 3] rfl ?_
      rw [if_neg hc30] at hq
      exact ih _ _ (by omega) (by omega) (by omega) (by omega) hq
    · skip
      refine x_iload (p2 := 35) rfl dX4_startOf_33 rfl ?_
      refine x_iret dX4_startOf_35 rfl ?_
      rw [if_pos hc30] at hq; exact hq
set_option maxHeartbeats 4000000 in
theorem t_X4_startOf {S F : Nat} (hS : isSt σ ρ S F) (hW : wfS M S F) {b : Int} (hq : Q (some (xI (sof (M F 0) (M (S + 1)) (M (S + 2)) (M (S + 4)) (M (F + 1)) (M S 5) (M S 6) b (M F 0).toNat 0 0))) (σ, ρ, M)) : xX G mX4_startOf 0 0 0 [(0, xP S), (1, xI b)] [] (σ, ρ, M) Q := by
  have hn1 := hW.1.1
  have hn8 := hW.1.2.1
  have ho1 := hW.2.1.2.2.2.1
  have ho2 := hW.2.1.2.2.2.2
  have hal := hW.2.2.1
  refine x_iconst (p2 := 1) rfl dX4_startOf_0 ⟨by decide, by decide⟩ ?_
  refine x_istore_n (p2 := 2) (i := 2) (L2 := [(0, _), (1, _), (2, _)]) rfl dX4_startOf_1 rfl ⟨rfl, Nat.le_of_ble_eq_true rfl⟩ rfl ?_
  refine x_iconst (p2 := 3) rfl dX4_startOf_2 ⟨by decide, by decide⟩ ?_
  refine x_istore_n (p2 := 4) (i := 3) (L2 := [(0, _), (1, _), (2, _), (3, _)]) rfl dX4_startOf_3 rfl ⟨rfl, Nat.le_of_ble_eq_true rfl⟩ rfl ?_
  refine x_pick (L2 := [(0, _), (1, _), (2, _), (3, _)]) [0, 1, 2, 3] rfl ?_
  exact t_sof_l hS hW _ _ _ (by omega) (by omega) (by omega) (by omega) hq
def psf (od : Int → Int) (b : Int) : Nat → Int → Int
  | 0, i => i
  | k + 1, i => if od i = b then i else psf od b k (i + 1)
def pos (n : Int) (od : Int → Int) (b : Int) : Int := psf od b n.toNat 0
theorem psf_ok {od : Int → Int} {b : Int} : ∀ (k : Nat) (i : Int), (∃ j, i ≤ j ∧ j < i + k ∧ od j = b) → i ≤ psf od b k i ∧ psf od b k i < i + k ∧ od (psf od b k i) = b
  | 0, i, h => by obtain ⟨j, h1, h2, -⟩ := h; omega
  | k + 1, i, h => by
    unfold psf
    by_cases hc : od i = b
    · rw [if_pos hc]; exact ⟨by omega, by omega, hc⟩
    · rw [if_neg hc]
      obtain ⟨j, h1, h2, h3⟩ := h
      have hj : j ≠ i := fun z => hc (by rw [← z]; exact h3)
      have := psf_ok k (i + 1) ⟨j, by omega, by omega, h3⟩
      omega
theorem wfO_surj {n hot : Int} {od : Int → Int} (h : wfO n od hot) {b : Int} (h0 : 0 ≤ b) (h1 : b < n) : ∃ i, 0 ≤ i ∧ i < n ∧ od i = b := by
  apply Classical.byContradiction
  intro hno
  have hn : ∀ i, 0 ≤ i → i < n → od i ≠ b := fun i a c d => hno ⟨i, a, c, d⟩
  have nd : ((List.range n.toNat).map (fun i : Nat => od i)).Nodup := by
    refine List.pairwise_map.mpr ?_
    refine List.Pairwise.imp_of_mem ?_ (List.nodup_range (n := n.toNat))
    intro x y hx hy hxy hz
    have hx := List.mem_range.mp hx
    have hy := List.mem_range.mp hy
    have := h.2.1 x y (by omega) (by omega) (by omega) (by omega) hz
    omega
  have nd2 : (b :: (List.range n.toNat).map (fun i : Nat => od i)).Nodup := by
    refine List.nodup_cons.mpr ⟨fun z => ?_, nd⟩
    obtain ⟨i, hi, he⟩ := List.mem_map.mp z
    have hi := List.mem_range.mp hi
    exact hn i (by omega) (by omega) he
  have sub : (b :: (List.range n.toNat).map (fun i : Nat => od i)) ⊆ (List.range n.toNat).map (fun i : Nat => (i : Int)) := by
    intro x hx
    have hb : 0 ≤ x ∧ x < n := by
      rcases List.mem_cons.mp hx with rfl | hx
      · exact ⟨h0, h1⟩
      · obtain ⟨i, hi, rfl⟩ := List.mem_map.mp hx
        have hi := List.mem_range.mp hi
        exact h.1 i (by omega) (by omega)
    exact List.mem_map.mpr ⟨x.toNat, List.mem_range.mpr (by omega), by omega⟩
  have := List.Nodup.length_le_of_subset nd2 sub
  simp at this
  omega
theorem pos_ok {n hot : Int} {od : Int → Int} (h : wfO n od hot) {b : Int} (h0 : 0 ≤ b) (h1 : b < n) : 0 ≤ pos n od b ∧ pos n od b < n ∧ od (pos n od b) = b := by
  obtain ⟨i, a1, a2, a3⟩ := wfO_surj h h0 h1
  have := psf_ok n.toNat 0 ⟨i, a1, by omega, a3⟩
  unfold pos
  exact ⟨this.1, by omega, this.2.2⟩
theorem pos_un {n hot : Int} {od : Int → Int} (h : wfO n od hot) {i : Int} (h0 : 0 ≤ i) (h1 : i < n) : pos n od (od i) = i := by
  have hb := h.1 i h0 h1
  have := pos_ok h hb.1 hb.2
  exact h.2.1 _ _ this.1 this.2.1 h0 h1 this.2.2
/-- the follower of a block -/
def fob (n : Int) (od : Int → Int) (hot b : Int) : Int := fa n od hot (pos n od b)
theorem t_fob {S F : Nat} {b : Int} (hS : isSt σ ρ S F) (hn : M F 0 ≤ 8) (hO : wfO (M F 0) (M (S + 4)) (M S 5)) (hb : 0 ≤ b ∧ b < M F 0) (hq : Q (some (xI (fob (M F 0) (M (S + 4)) (M S 5) b))) (σ, ρ, M)) : xX G mX7_followerOf 0 0 0 [(0, xP S), (1, xI b)] [] (σ, ρ, M) Q := by
  have hp := pos_ok hO hb.1 hb.2
  exact t_X7_followerOf hS hn ⟨hp.1, hp.2.1⟩ hp.2.2 (fun j a1 a2 a3 => by
    rw [← a3]; exact (pos_un hO a1 a2).symm) hq
def slt (ex ct : Int → Int) (b v : Int) : Int := if ex b = 1 then 0 else if ct (2 * b + 0) + ct (2 * b + 1) = 0 ∨ v % (ct (2 * b + 0) + ct (2 * b + 1)) < ct (2 * b + 0) then 0 else 1
def nxt (x : Int) : Int := xladd (xlmul x 6364136223846793005) 1442695040888963407
def wlk (n : Int) (ex tg ct od : Int → Int) (hot : Int) : Nat → Int → Int → Int → Int
  | 0, _, _, s => s
  | k + 1, x, b, s => if ex b = 0 then wlk n ex tg ct od hot k (nxt x) 0 s else wlk n ex tg ct od hot k (nxt x) (tg (2 * b + slt ex ct b (xlushr (nxt x) 33))) (s + pcst ex tg ct b (slt ex ct b (xlushr (nxt x) 33)) (fob n od hot b))
theorem xlushr_bd (a : Int) : 0 ≤ xlushr a 33 ∧ xlushr a 33 ≤ 2147483647 := by
  unfold xlushr
  have e : ((Int32.ofInt 33).toInt64.toUInt64 &&& Int64.toUInt64 63) = 33 := by decide
  rw [e]
  generalize (Int64.ofInt a).toUInt64 = u
  have h1 : (u >>> 33).toNat = u.toNat / 2 ^ 33 := by
    rw [UInt64.toNat_shiftRight, Nat.shiftRight_eq_div_pow]; rfl
  have h2 := u.toNat_lt
  have h3 : (u >>> 33).toNat < 2 ^ 31 := by
    rw [h1]; exact Nat.div_lt_of_lt_mul (by simpa using h2)
  have h4 : (u >>> 33).toInt64.toInt = ((u >>> 33).toNat : Int) := by
    show BitVec.toInt (u >>> 33).toBitVec = _
    rw [BitVec.toInt_eq_toNat_of_lt]
    · rfl
    · show 2 * (u >>> 33).toNat < 2 ^ 64
      omega
  rw [h4]
  omega
theorem slt_bd {ex ct : Int → Int} {b v : Int} : 0 ≤ slt ex ct b v ∧ slt ex ct b v ≤ 1 := by
  unfold slt
  repeat' split
  all_goals omega
set_option maxHeartbeats 4000000 in
theorem t_X8_slotTaken {S F : Nat} {b v n0 : Int} (hS : isSt σ ρ S F) (hb : 0 ≤ b ∧ b < 8) (hx : wfB n0 (M (S + 1)) (M (S + 2)) (M (S + 3)) b) (hx0 : M (S + 1) b ≠ 0) (hv : 0 ≤ v) (hq : Q (some (xI (slt (M (S + 1)) (M (S + 3)) b v))) (σ, ρ, M)) : xX G mX8_slotTaken 0 0 0 [(0, xP S), (1, xI b), (2, xI v)] [] (σ, ρ, M) Q := by
  unfold slt at hq
  refine x_aload_n (p2 := 1) rfl dX8_slotTaken_0 rfl ?_
  refine x_getr (p2 := 4) (kz := 1) rfl dX8_slotTaken_1 f_8_13 rfl rfl hS.sh hS.r1 ?_
  refine x_iload_n (p2 := 5) rfl dX8_slotTaken_4 rfl ?_
  refine x_iald (p2 := 6) rfl dX8_slotTaken_5 hS.a1 (by omega) (by omega) ?_
  refine x_iconst (p2 := 7) rfl dX8_slotTaken_6 ⟨by decide, by decide⟩ ?_
  refine x_ic_ne (p2 := 10) (t := 12) (by decide) rfl dX8_slotTaken_7 (fun hc7 => ?_) (fun hc7 => ?_)
  · skip
    have h1 := hx.1
    have h2 := hx.2.1
    have h3 := hx.2.2.1 0 (by omega) (by omega)
    have h4 := hx.2.2.1 1 (by omega) (by omega)
    refine x_aload_n (p2 := 13) rfl dX8_slotTaken_12 rfl ?_
    refine x_iload_n (p2 := 14) rfl dX8_slotTaken_13 rfl ?_
    refine x_iconst (p2 := 15) rfl dX8_slotTaken_14 ⟨by decide, by decide⟩ ?_
    refine x_v2 (p2 := 18) rfl dX8_slotTaken_15 l_8_35 ok_X7_count rfl hS.sh rfl ?_
    refine t_X7_count hS (by omega) (by omega) (by omega) (by omega) ?_
    refine x_aload_n (p2 := 19) rfl dX8_slotTaken_18 rfl ?_
    refine x_iload_n (p2 := 20) rfl dX8_slotTaken_19 rfl ?_
    refine x_iconst (p2 := 21) rfl dX8_slotTaken_20 ⟨by decide, by decide⟩ ?_
    refine x_v2 (p2 := 24) rfl dX8_slotTaken_21 l_8_35 ok_X7_count rfl hS.sh rfl ?_
    refine t_X7_count hS (by omega) (by omega) (by omega) (by omega) ?_
    refine x_iadd (p2 := 25) rfl dX8_slotTaken_24 ⟨by omega, by omega⟩ ?_
    refine x_istore_n (p2 := 26) (i := 3) (L2 := [(0, _), (1, _), (2, _), (3, _)]) rfl dX8_slotTaken_25 rfl ⟨rfl, Nat.le_of_ble_eq_true rfl⟩ rfl ?_
    refine x_iload_n (p2 := 27) rfl dX8_slotTaken_26 rfl ?_
    refine x_if_eq (p2 := 30) (t := 42) (by decide) rfl dX8_slotTaken_27 (fun hc27 => ?_) (fun hc27 => ?_)
    · skip
      refine x_iconst (p2 := 43) rfl dX8_slotTaken_42 ⟨by decide, by decide⟩ ?_
      refine x_goto (t := 47) (by decide) dX8_slotTaken_43 ?_
      refine x_iret dX8_slotTaken_47 rfl ?_
      rw [if_neg hc7] at hq
      first
        | (rw [if_pos (Or.inl hc27)] at hq; exact hq)
        | (rw [if_pos (Or.inr hc39)] at hq; exact hq)
    · skip
      refine x_iload_n (p2 := 31) rfl dX8_slotTaken_30 rfl ?_
      refine x_iload_n (p2 := 32) rfl dX8_slotTaken_31 rfl ?_
      refine x_irem (p2 := 33) rfl dX8_slotTaken_32 (by omega) (by omega) ?_
      refine x_aload_n (p2 := 34) rfl dX8_slotTaken_33 rfl ?_
      refine x_iload_n (p2 := 35) rfl dX8_slotTaken_34 rfl ?_
      refine x_iconst (p2 := 36) rfl dX8_slotTaken_35 ⟨by decide, by decide⟩ ?_
      refine x_v2 (p2 := 39) rfl dX8_slotTaken_36 l_8_35 ok_X7_count rfl hS.sh rfl ?_
      refine t_X7_count hS (by omega) (by omega) (by omega) (by omega) ?_
      refine x_ic_ge (p2 := 42) (t := 46) (by decide) rfl dX8_slotTaken_39 (fun hc39 => ?_) (fun hc39 => ?_)
      · skip
        refine x_iconst (p2 := 47) rfl dX8_slotTaken_46 ⟨by decide, by decide⟩ ?_
        refine x_iret dX8_slotTaken_47 rfl ?_
        rw [if_neg hc7] at hq
        rw [if_neg (by omega)] at hq; exact hq
      · skip
        refine x_iconst (p2 := 43) rfl dX8_slotTaken_42 ⟨by decide, by decide⟩ ?_
        refine x_goto (t := 47) (by decide) dX8_slotTaken_43 ?_
        refine x_iret dX8_slotTaken_47 rfl ?_
        rw [if_neg hc7] at hq
        first
          | (rw [if_pos (Or.inl hc27)] at hq; exact hq)
          | (rw [if_pos (Or.inr hc39)] at hq; exact hq)
  · skip
    refine x_iconst (p2 := 11) rfl dX8_slotTaken_10 ⟨by decide, by decide⟩ ?_
    refine x_iret dX8_slotTaken_11 rfl ?_
    rw [if_pos hc7] at hq; exact hq
set_option maxHeartbeats 4000000 in
theorem t_wlk_l {S F : Nat} (hS : isSt σ ρ S F) (hW : wfS M S F) {q0 m : Int} : ∀ (n : Nat) (i x b s : Int), 0 ≤ i → i + n = m → m ≤ 99 → 0 ≤ b → b < M F 0 → 0 ≤ s → s ≤ 3 * i → Q (some (xI (wlk (M F 0) (M (S + 1)) (M (S + 2)) (M (S + 3)) (M (S + 4)) (M S 5) n x b s))) (σ, ρ, M) → xX G mX8_costOf 0 0 12 [(0, xP S), (1, xL q0), (3, xI m), (4, xL x), (6, xI b), (7, xI s), (8, xI i)] [] (σ, ρ, M) Q := by
  have hn1 := hW.1.1
  have hn8 := hW.1.2.1
  have ho1 := hW.2.1.2.2.2.1
  have ho2 := hW.2.1.2.2.2.2
  have hal := hW.2.2.1
  intro n
  induction n with
  | zero =>
    intro i x b s h0 hk hm hb1 hb2 hs1 hs2 hq
    refine x_iload (p2 := 14) rfl dX8_costOf_12 rfl ?_
    refine x_iload_n (p2 := 15) rfl dX8_costOf_14 rfl ?_
    refine x_ic_ge (p2 := 18) (t := 95) (by decide) rfl dX8_costOf_15 (fun hc15 => ?_) (fun hc15 => absurd hc15 (by omega))
    refine x_iload (p2 := 97) rfl dX8_costOf_95 rfl ?_
    refine x_iret dX8_costOf_97 rfl ?_
    exact hq
  | succ n ih =>
    intro i x b s h0 hk hm hb1 hb2 hs1 hs2 hq
    unfold wlk at hq
    refine x_iload (p2 := 14) rfl dX8_costOf_12 rfl ?_
    refine x_iload_n (p2 := 15) rfl dX8_costOf_14 rfl ?_
    refine x_ic_ge (p2 := 18) (t := 95) (by decide) rfl dX8_costOf_15 (fun hc15 => ?_) (fun hc15 => ?_)
    · exact absurd hc15 (by omega)
    refine x_lload (p2 := 20) rfl dX8_costOf_18 rfl ?_
    refine x_ldc2 (p2 := 23) rfl dX8_costOf_20 q_8_9 ?_
    refine x_lmul (p2 := 24) rfl dX8_costOf_23 ?_
    refine x_ldc2 (p2 := 27) rfl dX8_costOf_24 q_8_11 ?_
    refine x_ladd (p2 := 28) rfl dX8_costOf_27 ?_
    refine x_lstore (p2 := 30) (i := 4) (L2 := [(0, _), (1, _), (3, _), (4, _), (6, _), (7, _), (8, _)]) rfl dX8_costOf_28 ⟨rfl, Nat.le_of_ble_eq_true rfl⟩ rfl ?_
    have hw := hW.1.2.2 b hb1 hb2
    have hw0 := hw.1
    have hw1 := hw.2.1
    refine x_aload_n (p2 := 31) rfl dX8_costOf_30 rfl ?_
    refine x_getr (p2 := 34) (kz := 1) rfl dX8_costOf_31 f_8_13 rfl rfl hS.sh hS.r1 ?_
    refine x_iload (p2 := 36) rfl dX8_costOf_34 rfl ?_
    refine x_iald (p2 := 37) rfl dX8_costOf_36 hS.a1 (by omega) (by omega) ?_
    refine x_if_ne (p2 := 40) (t := 46) (by decide) rfl dX8_costOf_37 (fun hc37 => ?_) (fun hc37 => ?_)
    · skip
      have hv := xlushr_bd (nxt x)
      have hk9 := slt_bd (ex := M (S + 1)) (ct := M (S + 3)) (b := b) (v := xlushr (nxt x) 33)
      refine x_aload_n (p2 := 47) rfl dX8_costOf_46 rfl ?_
      refine x_iload (p2 := 49) rfl dX8_costOf_47 rfl ?_
      refine x_lload (p2 := 51) rfl dX8_costOf_49 rfl ?_
      refine x_bipush (p2 := 53) rfl dX8_costOf_51 ⟨by decide, ⟨by decide, by decide⟩⟩ ?_
      refine x_lushr (p2 := 54) rfl dX8_costOf_53 ?_
      show xX G mX8_costOf 0 0 54 _ (xL (xlushr (nxt x) 33) :: _) _ _
      refine x_l2i (p2 := 55) rfl dX8_costOf_54 ⟨by omega, by omega⟩ ?_
      refine x_s3 (p2 := 58) rfl dX8_costOf_55 l_8_19 ok_X8_slotTaken rfl rfl ?_
      refine t_X8_slotTaken hS (by omega) hw hc37 (by omega) ?_
      refine x_istore (p2 := 60) (i := 9) (L2 := [(0, _), (1, _), (3, _), (4, _), (6, _), (7, _), (8, _), (9, _)]) rfl dX8_costOf_58 ⟨rfl, Nat.le_of_ble_eq_true rfl⟩ rfl ?_
      have hj9 : slt (M (S + 1)) (M (S + 3)) b (xlushr (nxt x) 33) < M (S + 1) b := by
        unfold slt
        repeat' split
        all_goals omega
      have hg9 := hw.2.2.1 _ hk9.1 hj9
      have hp9 := pcst_bd (ex := M (S + 1)) (tg := M (S + 2)) (ct := M (S + 3)) (b := b) (k := slt (M (S + 1)) (M (S + 3)) b (xlushr (nxt x) 33)) (f := fob (M F 0) (M (S + 4)) (M S 5) b)
      refine x_iload (p2 := 62) rfl dX8_costOf_60 rfl ?_
      refine x_aload_n (p2 := 63) rfl dX8_costOf_62 rfl ?_
      refine x_iload (p2 := 65) rfl dX8_costOf_63 rfl ?_
      refine x_iload (p2 := 67) rfl dX8_costOf_65 rfl ?_
      refine x_aload_n (p2 := 68) rfl dX8_costOf_67 rfl ?_
      refine x_iload (p2 := 70) rfl dX8_costOf_68 rfl ?_
      refine x_v1 (p2 := 73) rfl dX8_costOf_70 l_8_23 ok_X7_followerOf rfl hS.sh rfl ?_
      refine t_fob hS (by omega) hW.2.1 (by omega) ?_
      refine x_v3 (p2 := 76) rfl dX8_costOf_73 l_8_27 ok_X7_passCost rfl hS.sh rfl ?_
      refine t_X7_passCost hS (by omega) (by omega) ?_
      refine x_iadd (p2 := 77) rfl dX8_costOf_76 ⟨by omega, by omega⟩ ?_
      refine x_istore (p2 := 79) (i := 7) (L2 := [(0, _), (1, _), (3, _), (4, _), (6, _), (7, _), (8, _), (9, _)]) rfl dX8_costOf_77 ⟨rfl, Nat.le_of_ble_eq_true rfl⟩ rfl ?_
      refine x_aload_n (p2 := 80) rfl dX8_costOf_79 rfl ?_
      refine x_iload (p2 := 82) rfl dX8_costOf_80 rfl ?_
      refine x_iload (p2 := 84) rfl dX8_costOf_82 rfl ?_
      refine x_v2 (p2 := 87) rfl dX8_costOf_84 l_8_31 ok_X7_target rfl hS.sh rfl ?_
      refine t_X7_target hS (by omega) (by omega) (by omega) (by omega) ?_
      refine x_istore (p2 := 89) (i := 6) (L2 := [(0, _), (1, _), (3, _), (4, _), (6, _), (7, _), (8, _), (9, _)]) rfl dX8_costOf_87 ⟨rfl, Nat.le_of_ble_eq_true rfl⟩ rfl ?_
      refine x_iinc (p2 := 92) (L2 := [(0, _), (1, _), (3, _), (4, _), (6, _), (7, _), (8, _), (9, _)]) rfl dX8_costOf_89 rfl ⟨by omega, by omega⟩ ⟨rfl, Nat.le_of_ble_eq_true rfl⟩ rfl ?_
      refine x_goto (t := 12) (by decide) dX8_costOf_92 ?_
      refine x_pick (L2 := [(0, _), (1, _), (3, _), (4, _), (6, _), (7, _), (8, _)]) [0, 1, 3, 4, 6, 7, 8] rfl ?_
      first
        | (rw [if_pos hc37] at hq; exact ih _ _ _ _ (by omega) (by omega) (by omega) (by omega) (by omega) (by omega) (by omega) hq)
        | (rw [if_neg hc37] at hq; exact ih _ _ _ _ (by omega) (by omega) (by omega) (by omega) (by omega) (by omega) (by omega) hq)
    · skip
      refine x_iconst (p2 := 41) rfl dX8_costOf_40 ⟨by decide, by decide⟩ ?_
      refine x_istore (p2 := 43) (i := 6) (L2 := [(0, _), (1, _), (3, _), (4, _), (6, _), (7, _), (8, _)]) rfl dX8_costOf_41 ⟨rfl, Nat.le_of_ble_eq_true rfl⟩ rfl ?_
      refine x_goto (t := 89) (by decide) dX8_costOf_43 ?_
      refine x_iinc (p2 := 92) (L2 := [(0, _), (1, _), (3, _), (4, _), (6, _), (7, _), (8, _)]) rfl dX8_costOf_89 rfl ⟨by omega, by omega⟩ ⟨rfl, Nat.le_of_ble_eq_true rfl⟩ rfl ?_
      refine x_goto (t := 12) (by decide) dX8_costOf_92 ?_
      refine x_pick (L2 := [(0, _), (1, _), (3, _), (4, _), (6, _), (7, _), (8, _)]) [0, 1, 3, 4, 6, 7, 8] rfl ?_
      first
        | (rw [if_pos hc37] at hq; exact ih _ _ _ _ (by omega) (by omega) (by omega) (by omega) (by omega) (by omega) (by omega) hq)
        | (rw [if_neg hc37] at hq; exact ih _ _ _ _ (by omega) (by omega) (by omega) (by omega) (by omega) (by omega) (by omega) hq)
set_option maxHeartbeats 4000000 in
theorem t_X8_costOf {S F : Nat} (hS : isSt σ ρ S F) (hW : wfS M S F) {q0 m : Int} (hm : 1 ≤ m ∧ m ≤ 99) (hq : Q (some (xI (wlk (M F 0) (M (S + 1)) (M (S + 2)) (M (S + 3)) (M (S + 4)) (M S 5) m.toNat q0 0 0))) (σ, ρ, M)) : xX G mX8_costOf 0 0 0 [(0, xP S), (1, xL q0), (3, xI m)] [] (σ, ρ, M) Q := by
  have hn1 := hW.1.1
  have hn8 := hW.1.2.1
  have ho1 := hW.2.1.2.2.2.1
  have ho2 := hW.2.1.2.2.2.2
  have hal := hW.2.2.1
  refine x_lload_n (p2 := 1) rfl dX8_costOf_0 rfl ?_
  refine x_lstore (p2 := 3) (i := 4) (L2 := [(0, _), (1, _), (3, _), (4, _)]) rfl dX8_costOf_1 ⟨rfl, Nat.le_of_ble_eq_true rfl⟩ rfl ?_
  refine x_iconst (p2 := 4) rfl dX8_costOf_3 ⟨by decide, by decide⟩ ?_
  refine x_istore (p2 := 6) (i := 6) (L2 := [(0, _), (1, _), (3, _), (4, _), (6, _)]) rfl dX8_costOf_4 ⟨rfl, Nat.le_of_ble_eq_true rfl⟩ rfl ?_
  refine x_iconst (p2 := 7) rfl dX8_costOf_6 ⟨by decide, by decide⟩ ?_
  refine x_istore (p2 := 9) (i := 7) (L2 := [(0, _), (1, _), (3, _), (4, _), (6, _), (7, _)]) rfl dX8_costOf_7 ⟨rfl, Nat.le_of_ble_eq_true rfl⟩ rfl ?_
  refine x_iconst (p2 := 10) rfl dX8_costOf_9 ⟨by decide, by decide⟩ ?_
  refine x_istore (p2 := 12) (i := 8) (L2 := [(0, _), (1, _), (3, _), (4, _), (6, _), (7, _), (8, _)]) rfl dX8_costOf_10 ⟨rfl, Nat.le_of_ble_eq_true rfl⟩ rfl ?_
  refine x_pick (L2 := [(0, _), (1, _), (3, _), (4, _), (6, _), (7, _), (8, _)]) [0, 1, 3, 4, 6, 7, 8] rfl ?_
  exact t_wlk_l hS hW _ _ _ _ _ (by omega) (by omega) (by omega) (by omega) (by omega) (by omega) (by omega) hq
end XV
