/-! keys as packed numbers: CitationKeys$Key -/
/-- a stem with two digits, with four -/
def kst2 (hd pl y : Int) : Int := hd * 524288 + pl * 262144 + y % 100 * 32
def kst4 (hd y : Int) : Int := hd * 524288 + 131072 + y * 32
def klet (κ : Int) : Int := κ % 32
def khd (κ : Int) : Int := κ / 524288
def ksg (κ : Int) : Int := κ / 262144 % 2
def kdg (κ : Int) : Int := if κ / 131072 % 2 = 0 then 2 else 4
def knum (κ : Int) : Int := κ / 32 % 4096
def klen (κ : Int) : Int := nlen (khd κ) + ksg κ + kdg κ + (if 0 < klet κ then 1 else 0)
def dfe (n : Int) : Nat → Int
  | 0 => n
  | p + 1 => dfe n p / 10
def kch (κ k : Int) : Int :=
  if k < nlen (khd κ) then codeAt (khd κ) k
  else if k < nlen (khd κ) + ksg κ then 43
  else if k < nlen (khd κ) + ksg κ + kdg κ then 48 + dfe (knum κ) (nlen (khd κ) + ksg κ + kdg κ - 1 - k).toNat % 10
  else if k = nlen (khd κ) + ksg κ + kdg κ ∧ 0 < klet κ then 97 + klet κ - 1 else -9
theorem klet_rng (κ : Int) : 0 ≤ klet κ ∧ klet κ < 32 := by unfold klet; omega
theorem ksg_rng (κ : Int) : 0 ≤ ksg κ ∧ ksg κ ≤ 1 := by unfold ksg; omega
theorem kdg_rng (κ : Int) : 2 ≤ kdg κ ∧ kdg κ ≤ 4 := by unfold kdg; split <;> omega
theorem knum_rng (κ : Int) : 0 ≤ knum κ ∧ knum κ < 4096 := by unfold knum; omega
theorem dfe_rng {n : Int} (h : 0 ≤ n ∧ n < 4096) (p : Nat) : 0 ≤ dfe n p ∧ dfe n p < 4096 := by
  induction p with
  | zero => exact h
  | succ p ih => simp only [dfe]; omega
section ZKy
variable {X : Xt} {b : Nat × Nat} {g : Geo} {I J : Mm} {post : Out → Geo → Mm → Mm → Prop}
theorem sp_X1_withTwoDigits {hd pl y : Int} (h0 : 0 ≤ hd) (h1 : hd < 1099511627776) (hp : pl = 0 ∨ pl = 1) (hy : 0 ≤ y ∧ y < 4096) (h : post (.inl (some (vl (kst2 hd pl y)))) g I J) : ZV X E_X1_withTwoDigits 0 [some (vl hd), none, some (vi pl), some (vi y), none, none] [] b g I J post := by
  have ey : y.tmod 100 = y % 100 := Int.tmod_eq_emod_of_nonneg hy.1
  unfold kst2 at h
  refine ZV_iload_n dX1_withTwoDigits_0 rfl ?_
  refine ZV_if_eq (tgt := 10) dX1_withTwoDigits_1 (by decide) ⟨by omega, by omega⟩ (fun h1 => ?_) (fun h1 => ?_)
  · refine ZV_lconst (z := 0) dX1_withTwoDigits_10 (by decide) ?_
    refine ZV_lstore4 dX1_withTwoDigits_11 rfl (by decide) ?_
    refine ZV_lload_n dX1_withTwoDigits_13 rfl ?_
    refine ZV_bipush dX1_withTwoDigits_14 (by decide) ?_
    refine ZV_lshl dX1_withTwoDigits_16 (19) (by omega) (by omega) ?_
    refine ZV_lload dX1_withTwoDigits_17 rfl ?_
    refine ZV_lor dX1_withTwoDigits_19 19 (by omega) (by omega) (by omega) (by omega) ?_
    refine ZV_iload_n dX1_withTwoDigits_20 rfl ?_
    refine ZV_bipush dX1_withTwoDigits_21 (by decide) ?_
    refine ZV_irem dX1_withTwoDigits_23 ⟨by omega, by omega⟩ ⟨by omega, by omega⟩ (by omega) ?_
    rw [ey]
    refine ZV_i2l dX1_withTwoDigits_24 ⟨by omega, by omega⟩ ?_
    refine ZV_iconst dX1_withTwoDigits_25 ?_
    refine ZV_lshl dX1_withTwoDigits_26 (5) (by omega) (by omega) ?_
    refine ZV_lor dX1_withTwoDigits_27 18 (by omega) (by omega) (by omega) (by omega) ?_
    refine ZV_lret dX1_withTwoDigits_28 rfl ?_
    rw [show hd * 2 ^ 19 + 0 + y % 100 * 2 ^ 5 = hd * 524288 + pl * 262144 + y % 100 * 32 by omega]
    exact h
  · refine ZV_ldc2 (z := 262144) dX1_withTwoDigits_4 lX1_withTwoDigits_11 ?_
    refine ZV_goto (tgt := 11) dX1_withTwoDigits_7 (by decide) ?_
    refine ZV_lstore4 dX1_withTwoDigits_11 rfl (by decide) ?_
    refine ZV_lload_n dX1_withTwoDigits_13 rfl ?_
    refine ZV_bipush dX1_withTwoDigits_14 (by decide) ?_
    refine ZV_lshl dX1_withTwoDigits_16 (19) (by omega) (by omega) ?_
    refine ZV_lload dX1_withTwoDigits_17 rfl ?_
    refine ZV_lor dX1_withTwoDigits_19 19 (by omega) (by omega) (by omega) (by omega) ?_
    refine ZV_iload_n dX1_withTwoDigits_20 rfl ?_
    refine ZV_bipush dX1_withTwoDigits_21 (by decide) ?_
    refine ZV_irem dX1_withTwoDigits_23 ⟨by omega, by omega⟩ ⟨by omega, by omega⟩ (by omega) ?_
    rw [ey]
    refine ZV_i2l dX1_withTwoDigits_24 ⟨by omega, by omega⟩ ?_
    refine ZV_iconst dX1_withTwoDigits_25 ?_
    refine ZV_lshl dX1_withTwoDigits_26 (5) (by omega) (by omega) ?_
    refine ZV_lor dX1_withTwoDigits_27 18 (by omega) (by omega) (by omega) (by omega) ?_
    refine ZV_lret dX1_withTwoDigits_28 rfl ?_
    rw [show hd * 2 ^ 19 + 262144 + y % 100 * 2 ^ 5 = hd * 524288 + pl * 262144 + y % 100 * 32 by omega]
    exact h
theorem sp_X1_withFourDigits {hd y : Int} (h0 : 0 ≤ hd) (h1 : hd < 1099511627776) (hy : 0 ≤ y ∧ y < 4096) (h : post (.inl (some (vl (kst4 hd y)))) g I J) : ZV X E_X1_withFourDigits 0 [some (vl hd), none, some (vi y)] [] b g I J post := by
  unfold kst4 at h
  refine ZV_lload_n dX1_withFourDigits_0 rfl ?_
  refine ZV_bipush dX1_withFourDigits_1 (by decide) ?_
  refine ZV_lshl dX1_withFourDigits_3 (19) (by omega) (by omega) ?_
  refine ZV_ldc2 (z := 131072) dX1_withFourDigits_4 lX1_withFourDigits_13 ?_
  refine ZV_lor dX1_withFourDigits_7 19 (by omega) (by omega) (by omega) (by omega) ?_
  refine ZV_iload_n dX1_withFourDigits_8 rfl ?_
  refine ZV_i2l dX1_withFourDigits_9 ⟨by omega, by omega⟩ ?_
  refine ZV_iconst dX1_withFourDigits_10 ?_
  refine ZV_lshl dX1_withFourDigits_11 (5) (by omega) (by omega) ?_
  refine ZV_lor dX1_withFourDigits_12 17 (by omega) (by omega) (by omega) (by omega) ?_
  refine ZV_lret dX1_withFourDigits_13 rfl ?_
  rw [show hd * 2 ^ 19 + 131072 + y * 2 ^ 5 = hd * 524288 + 131072 + y * 32 by omega]
  exact h
theorem sp_X1_letterOf {κ : Int} (h : post (.inl (some (vi (klet κ)))) g I J) : ZV X E_X1_letterOf 0 [some (vl κ), none] [] b g I J post := by
  refine ZV_lload_n dX1_letterOf_0 rfl ?_
  refine ZV_l2i dX1_letterOf_1 ?_
  refine ZV_bipush dX1_letterOf_2 (by decide) ?_
  refine ZV_iand dX1_letterOf_4 5 (by decide) (by decide) ?_
  refine ZV_iret dX1_letterOf_5 rfl ?_
  exact h
theorem sp_X1_signs {κ : Int} (h0 : 0 ≤ κ) (hr : r64 κ) (h : post (.inl (some (vi (ksg κ)))) g I J) : ZV X E_X1_signs 0 [some (vl κ), none] [] b g I J post := by
  obtain ⟨hr1, hr2⟩ := hr
  refine ZV_lload_n dX1_signs_0 rfl ?_
  refine ZV_bipush dX1_signs_1 (by decide) ?_
  refine ZV_lshr dX1_signs_3 (18) (by omega) (by omega) ⟨by omega, by omega⟩ (by omega) ?_
  refine ZV_l2i dX1_signs_4 ?_
  refine ZV_iconst dX1_signs_5 ?_
  refine ZV_iand dX1_signs_6 1 (by decide) (by decide) ?_
  refine ZV_iret dX1_signs_7 rfl ?_
  exact h
theorem sp_X1_digits {κ : Int} (h0 : 0 ≤ κ) (hr : r64 κ) (h : post (.inl (some (vi (kdg κ)))) g I J) : ZV X E_X1_digits 0 [some (vl κ), none] [] b g I J post := by
  obtain ⟨hr1, hr2⟩ := hr
  unfold kdg at h
  refine ZV_lload_n dX1_digits_0 rfl ?_
  refine ZV_bipush dX1_digits_1 (by decide) ?_
  refine ZV_lshr dX1_digits_3 (17) (by omega) (by omega) ⟨by omega, by omega⟩ (by omega) ?_
  refine ZV_l2i dX1_digits_4 ?_
  refine ZV_iconst dX1_digits_5 ?_
  refine ZV_iand dX1_digits_6 1 (by decide) (by decide) ?_
  refine ZV_if_ne (tgt := 14) dX1_digits_7 (by decide) ⟨by omega, by omega⟩ (fun h7 => ?_) (fun h7 => ?_)
  · refine ZV_iconst dX1_digits_14 ?_
    refine ZV_iret dX1_digits_15 rfl ?_
    rw [if_neg (by omega)] at h
    exact h
  · refine ZV_iconst dX1_digits_10 ?_
    refine ZV_goto (tgt := 15) dX1_digits_11 (by decide) ?_
    refine ZV_iret dX1_digits_15 rfl ?_
    rw [if_pos (by omega)] at h
    exact h
theorem sp_X1_length {κ : Int} (h0 : 0 ≤ κ) (hr : r64 κ) (h : post (.inl (some (vi (klen κ)))) g I J) : ZV X E_X1_length 0 [some (vl κ), none, none] [] b g I J post := by
  have hr' := hr
  obtain ⟨hr1, hr2⟩ := hr
  have q1 := klet_rng κ
  have q2 : 0 ≤ khd κ := by unfold khd; omega
  have q3 : r64 (khd κ) := by unfold khd; exact ⟨by omega, by omega⟩
  unfold klen at h
  refine ZV_lload_n dX1_length_0 rfl ?_
  refine cl_X1_letterOf kX1_length_15 rfl dX1_length_1 (Nat.le_of_ble_eq_true rfl) ?_
  refine sp_X1_letterOf ?_
  refine ZV_if_le (tgt := 11) dX1_length_4 (by decide) ⟨by omega, by omega⟩ (fun h4 => ?_) (fun h4 => ?_)
  · refine ZV_iconst dX1_length_11 ?_
    refine ZV_istore2 dX1_length_12 rfl (by decide) ?_
    refine ZV_lload_n dX1_length_13 rfl ?_
    refine ZV_bipush dX1_length_14 (by decide) ?_
    refine ZV_lshr dX1_length_16 (19) (by omega) (by omega) ⟨by omega, by omega⟩ (by omega) ?_
    refine cl_X2_length kX1_length_19 rfl dX1_length_17 (Nat.le_of_ble_eq_true rfl) ?_
    refine sp_X2_length (v := khd κ) q2 q3 ?_
    refine ZV_lload_n dX1_length_20 rfl ?_
    refine cl_X1_signs kX1_length_24 rfl dX1_length_21 (Nat.le_of_ble_eq_true rfl) ?_
    refine sp_X1_signs h0 hr' ?_
    refine ZV_iadd dX1_length_24 ?_
    refine ZV_lload_n dX1_length_25 rfl ?_
    refine cl_X1_digits kX1_length_27 rfl dX1_length_26 (Nat.le_of_ble_eq_true rfl) ?_
    refine sp_X1_digits h0 hr' ?_
    refine ZV_iadd dX1_length_29 ?_
    refine ZV_iload_n dX1_length_30 rfl ?_
    refine ZV_iadd dX1_length_31 ?_
    refine ZV_iret dX1_length_32 rfl ?_
    rw [if_neg (by omega)] at h
    exact h
  · refine ZV_iconst dX1_length_7 ?_
    refine ZV_goto (tgt := 12) dX1_length_8 (by decide) ?_
    refine ZV_istore2 dX1_length_12 rfl (by decide) ?_
    refine ZV_lload_n dX1_length_13 rfl ?_
    refine ZV_bipush dX1_length_14 (by decide) ?_
    refine ZV_lshr dX1_length_16 (19) (by omega) (by omega) ⟨by omega, by omega⟩ (by omega) ?_
    refine cl_X2_length kX1_length_19 rfl dX1_length_17 (Nat.le_of_ble_eq_true rfl) ?_
    refine sp_X2_length (v := khd κ) q2 q3 ?_
    refine ZV_lload_n dX1_length_20 rfl ?_
    refine cl_X1_signs kX1_length_24 rfl dX1_length_21 (Nat.le_of_ble_eq_true rfl) ?_
    refine sp_X1_signs h0 hr' ?_
    refine ZV_iadd dX1_length_24 ?_
    refine ZV_lload_n dX1_length_25 rfl ?_
    refine cl_X1_digits kX1_length_27 rfl dX1_length_26 (Nat.le_of_ble_eq_true rfl) ?_
    refine sp_X1_digits h0 hr' ?_
    refine ZV_iadd dX1_length_29 ?_
    refine ZV_iload_n dX1_length_30 rfl ?_
    refine ZV_iadd dX1_length_31 ?_
    refine ZV_iret dX1_length_32 rfl ?_
    rw [if_pos (by omega)] at h
    exact h
theorem sp_X1_digitFromEnd {κ : Int} (p : Nat) (hp : p ≤ 100) (h0 : 0 ≤ κ) (hr : r64 κ) (h : post (.inl (some (vi (48 + dfe (knum κ) p % 10)))) g I J) : ZV X E_X1_digitFromEnd 0 [some (vl κ), none, some (vi (p : Int)), none, none] [] b g I J post := by
  obtain ⟨hr1, hr2⟩ := hr
  have hk := knum_rng κ
  have key : ∀ i : Nat, i ≤ p → ∀ j : Int, j = (i : Int) → ZV X E_X1_digitFromEnd 12 [some (vl κ), none, some (vi (p : Int)), some (vi (dfe (knum κ) i)), some (vi j)] [] b g I J post := by
    refine loop_up p ?_ ?_
    · intro j hj
      have hd := dfe_rng hk p
      refine ZV_iload dX1_digitFromEnd_12 rfl ?_
      refine ZV_iload_n dX1_digitFromEnd_14 rfl ?_
      refine ZV_icmp_ge (tgt := 29) dX1_digitFromEnd_15 (by decide) ⟨by omega, by omega⟩ ⟨by omega, by omega⟩ (fun h15 => ?_) (fun h15 => ?_)
      · refine ZV_bipush dX1_digitFromEnd_29 (by decide) ?_
        refine ZV_iload_n dX1_digitFromEnd_31 rfl ?_
        refine ZV_bipush dX1_digitFromEnd_32 (by decide) ?_
        refine ZV_irem dX1_digitFromEnd_34 ⟨by omega, by omega⟩ ⟨by omega, by omega⟩ (by omega) ?_
        refine ZV_iadd dX1_digitFromEnd_35 ?_
        refine ZV_iret dX1_digitFromEnd_36 rfl ?_
        rw [show (dfe (knum κ) p).tmod 10 = dfe (knum κ) p % 10 from Int.tmod_eq_emod_of_nonneg hd.1]
        exact h
      · omega
    · intro i hi ih j hj
      have hd := dfe_rng hk i
      refine ZV_iload dX1_digitFromEnd_12 rfl ?_
      refine ZV_iload_n dX1_digitFromEnd_14 rfl ?_
      refine ZV_icmp_ge (tgt := 29) dX1_digitFromEnd_15 (by decide) ⟨by omega, by omega⟩ ⟨by omega, by omega⟩ (fun h15 => ?_) (fun h15 => ?_)
      · omega
      · refine ZV_iload_n dX1_digitFromEnd_18 rfl ?_
        refine ZV_bipush dX1_digitFromEnd_19 (by decide) ?_
        refine ZV_idiv dX1_digitFromEnd_21 ⟨by omega, by omega⟩ ⟨by omega, by omega⟩ (by omega) ?_
        rw [show (dfe (knum κ) i).tdiv 10 = dfe (knum κ) (i + 1) from Int.tdiv_eq_ediv_of_nonneg hd.1]
        refine ZV_istore3 dX1_digitFromEnd_22 rfl (by decide) ?_
        refine ZV_jinc4 dX1_digitFromEnd_23 rfl (by decide) ?_
        refine ZV_goto (tgt := 12) dX1_digitFromEnd_26 (by decide) ?_
        exact ih _ (by omega)
  refine ZV_lload_n dX1_digitFromEnd_0 rfl ?_
  refine ZV_iconst dX1_digitFromEnd_1 ?_
  refine ZV_lshr dX1_digitFromEnd_2 (5) (by omega) (by omega) ⟨by omega, by omega⟩ (by omega) ?_
  refine ZV_l2i dX1_digitFromEnd_3 ?_
  refine ZV_sipush dX1_digitFromEnd_4 (by decide) ?_
  refine ZV_iand dX1_digitFromEnd_7 12 (by decide) (by decide) ?_
  refine ZV_istore3 dX1_digitFromEnd_8 rfl (by decide) ?_
  refine ZV_iconst dX1_digitFromEnd_9 ?_
  refine ZV_istore4 dX1_digitFromEnd_10 rfl (by decide) ?_
  exact key 0 (by omega) _ rfl
theorem sp_X1_codeAt {κ k : Int} (h0 : 0 ≤ κ) (hr : r64 κ) (hk : r32 k) (h : post (.inl (some (vi (kch κ k)))) g I J) : ZV X E_X1_codeAt 0 [some (vl κ), none, some (vi k), none, none, none] [] b g I J post := by
  have hr' := hr
  have hk' := hk
  obtain ⟨hr1, hr2⟩ := hr
  obtain ⟨hk1, hk2⟩ := hk
  have q1 := klet_rng κ
  have q2 : 0 ≤ khd κ := by unfold khd; omega
  have q3 : r64 (khd κ) := by unfold khd; exact ⟨by omega, by omega⟩
  have q4 := nlen_rng (khd κ)
  have q5 := ksg_rng κ
  have q6 := kdg_rng κ
  unfold kch at h
  refine ZV_lload_n dX1_codeAt_0 rfl ?_
  refine ZV_bipush dX1_codeAt_1 (by decide) ?_
  refine ZV_lshr dX1_codeAt_3 (19) (by omega) (by omega) ⟨by omega, by omega⟩ (by omega) ?_
  refine cl_X2_length kX1_codeAt_19 rfl dX1_codeAt_4 (Nat.le_of_ble_eq_true rfl) ?_
  refine sp_X2_length (v := khd κ) q2 q3 ?_
  refine ZV_istore3 dX1_codeAt_7 rfl (by decide) ?_
  refine ZV_iload_n dX1_codeAt_8 rfl ?_
  refine ZV_lload_n dX1_codeAt_9 rfl ?_
  refine cl_X1_signs kX1_codeAt_24 rfl dX1_codeAt_10 (Nat.le_of_ble_eq_true rfl) ?_
  refine sp_X1_signs h0 hr' ?_
  refine ZV_iadd dX1_codeAt_13 ?_
  refine ZV_istore4 dX1_codeAt_14 rfl (by decide) ?_
  refine ZV_iload dX1_codeAt_16 rfl ?_
  refine ZV_lload_n dX1_codeAt_18 rfl ?_
  refine cl_X1_digits kX1_codeAt_27 rfl dX1_codeAt_19 (Nat.le_of_ble_eq_true rfl) ?_
  refine sp_X1_digits h0 hr' ?_
  refine ZV_iadd dX1_codeAt_22 ?_
  refine ZV_istore5 dX1_codeAt_23 rfl (by decide) ?_
  refine ZV_iload_n dX1_codeAt_25 rfl ?_
  refine ZV_iload_n dX1_codeAt_26 rfl ?_
  refine ZV_icmp_ge (tgt := 39) dX1_codeAt_27 (by decide) ⟨by omega, by omega⟩ ⟨by omega, by omega⟩ (fun h27 => ?_) (fun h27 => ?_)
  · rw [if_neg (by omega)] at h
    refine ZV_iload_n dX1_codeAt_39 rfl ?_
    refine ZV_iload dX1_codeAt_40 rfl ?_
    refine ZV_icmp_ge (tgt := 48) dX1_codeAt_42 (by decide) ⟨by omega, by omega⟩ ⟨by omega, by omega⟩ (fun h42 => ?_) (fun h42 => ?_)
    · rw [if_neg (by omega)] at h
      refine ZV_iload_n dX1_codeAt_48 rfl ?_
      refine ZV_iload dX1_codeAt_49 rfl ?_
      refine ZV_icmp_ge (tgt := 65) dX1_codeAt_51 (by decide) ⟨by omega, by omega⟩ ⟨by omega, by omega⟩ (fun h51 => ?_) (fun h51 => ?_)
      · rw [if_neg (by omega)] at h
        refine ZV_iload_n dX1_codeAt_65 rfl ?_
        refine ZV_iload dX1_codeAt_66 rfl ?_
        refine ZV_icmp_ne (tgt := 90) dX1_codeAt_68 (by decide) ⟨by omega, by omega⟩ ⟨by omega, by omega⟩ (fun h68 => ?_) (fun h68 => ?_)
        · rw [if_neg (by omega)] at h
          refine ZV_bipush dX1_codeAt_90 (by decide) ?_
          refine ZV_iret dX1_codeAt_92 rfl ?_
          exact h
        · refine ZV_lload_n dX1_codeAt_71 rfl ?_
          refine cl_X1_letterOf kX1_codeAt_15 rfl dX1_codeAt_72 (Nat.le_of_ble_eq_true rfl) ?_
          refine sp_X1_letterOf ?_
          refine ZV_if_le (tgt := 90) dX1_codeAt_75 (by decide) ⟨by omega, by omega⟩ (fun h75 => ?_) (fun h75 => ?_)
          · rw [if_neg (by omega)] at h
            refine ZV_bipush dX1_codeAt_90 (by decide) ?_
            refine ZV_iret dX1_codeAt_92 rfl ?_
            exact h
          · rw [if_pos (by omega)] at h
            refine ZV_bipush dX1_codeAt_78 (by decide) ?_
            refine ZV_lload_n dX1_codeAt_80 rfl ?_
            refine cl_X1_letterOf kX1_codeAt_15 rfl dX1_codeAt_81 (Nat.le_of_ble_eq_true rfl) ?_
            refine sp_X1_letterOf ?_
            refine ZV_iadd dX1_codeAt_84 ?_
            refine ZV_iconst dX1_codeAt_85 ?_
            refine ZV_isub dX1_codeAt_86 ?_
            refine ZV_goto (tgt := 92) dX1_codeAt_87 (by decide) ?_
            refine ZV_iret dX1_codeAt_92 rfl ?_
            exact h
      · rw [if_pos (by omega)] at h
        refine ZV_lload_n dX1_codeAt_54 rfl ?_
        refine ZV_iload dX1_codeAt_55 rfl ?_
        refine ZV_iconst dX1_codeAt_57 ?_
        refine ZV_isub dX1_codeAt_58 ?_
        refine ZV_iload_n dX1_codeAt_59 rfl ?_
        refine ZV_isub dX1_codeAt_60 ?_
        refine cl_X1_digitFromEnd kX1_codeAt_34 rfl dX1_codeAt_61 (Nat.le_of_ble_eq_true rfl) ?_
        obtain ⟨p, hp⟩ : ∃ p : Nat, (p : Int) = nlen (khd κ) + ksg κ + kdg κ - 1 - k := ⟨(nlen (khd κ) + ksg κ + kdg κ - 1 - k).toNat, by omega⟩
        rw [← hp] at h ⊢
        refine sp_X1_digitFromEnd p (by omega) h0 hr' ?_
        refine ZV_iret dX1_codeAt_64 rfl ?_
        exact h
    · rw [if_pos (by omega)] at h
      refine ZV_bipush dX1_codeAt_45 (by decide) ?_
      refine ZV_iret dX1_codeAt_47 rfl ?_
      exact h
  · rw [if_pos (by omega)] at h
    refine ZV_lload_n dX1_codeAt_30 rfl ?_
    refine ZV_bipush dX1_codeAt_31 (by decide) ?_
    refine ZV_lshr dX1_codeAt_33 (19) (by omega) (by omega) ⟨by omega, by omega⟩ (by omega) ?_
    refine ZV_iload_n dX1_codeAt_34 rfl ?_
    refine cl_X2_codeAt kX1_codeAt_30 rfl dX1_codeAt_35 (Nat.le_of_ble_eq_true rfl) ?_
    refine sp_X2_codeAt (v := khd κ) q2 q3 hk' ?_
    refine ZV_iret dX1_codeAt_38 rfl ?_
    exact h
theorem sp_J6_compare {x y : Int} (hx : r32 x) (hy : r32 y) (h : post (.inl (some (vi (zcmp x y)))) g I J) : ZV X E_J6_compare_7cf53 0 [some (vi x), some (vi y)] [] b g I J post := by
  obtain ⟨hx1, hx2⟩ := hx
  obtain ⟨hy1, hy2⟩ := hy
  unfold zcmp at h
  refine ZV_iload_n dJ6_compare_7cf53_0 rfl ?_
  refine ZV_iload_n dJ6_compare_7cf53_1 rfl ?_
  refine ZV_icmp_ge (tgt := 9) dJ6_compare_7cf53_2 (by decide) ⟨by omega, by omega⟩ ⟨by omega, by omega⟩ (fun h2 => ?_) (fun h2 => ?_)
  · rw [if_neg (by omega)] at h
    refine ZV_iload_n dJ6_compare_7cf53_9 rfl ?_
    refine ZV_iload_n dJ6_compare_7cf53_10 rfl ?_
    refine ZV_icmp_ne (tgt := 18) dJ6_compare_7cf53_11 (by decide) ⟨by omega, by omega⟩ ⟨by omega, by omega⟩ (fun h11 => ?_) (fun h11 => ?_)
    · rw [if_neg (by omega)] at h
      refine ZV_iconst dJ6_compare_7cf53_18 ?_
      refine ZV_iret dJ6_compare_7cf53_19 rfl ?_
      exact h
    · rw [if_pos (by omega)] at h
      refine ZV_iconst dJ6_compare_7cf53_14 ?_
      refine ZV_goto (tgt := 19) dJ6_compare_7cf53_15 (by decide) ?_
      refine ZV_iret dJ6_compare_7cf53_19 rfl ?_
      exact h
  · rw [if_pos (by omega)] at h
    refine ZV_iconst dJ6_compare_7cf53_5 ?_
    refine ZV_goto (tgt := 19) dJ6_compare_7cf53_6 (by decide) ?_
    refine ZV_iret dJ6_compare_7cf53_19 rfl ?_
    exact h
theorem sp_J13_compare {x y : Int} (hx : r64 x) (hy : r64 y) (h : post (.inl (some (vi (zcmp x y)))) g I J) : ZV X E_J13_compare_74951 0 [some (vl x), none, some (vl y), none] [] b g I J post := by
  obtain ⟨hx1, hx2⟩ := hx
  obtain ⟨hy1, hy2⟩ := hy
  unfold zcmp at h
  refine ZV_lload_n dJ13_compare_74951_0 rfl ?_
  refine ZV_lload_n dJ13_compare_74951_1 rfl ?_
  refine ZV_lif_ge (tgt := 10) dJ13_compare_74951_2 dJ13_compare_74951_3 (by decide) ⟨by omega, by omega⟩ ⟨by omega, by omega⟩ (fun h2 => ?_) (fun h2 => ?_)
  · rw [if_neg (by omega)] at h
    refine ZV_lload_n dJ13_compare_74951_10 rfl ?_
    refine ZV_lload_n dJ13_compare_74951_11 rfl ?_
    refine ZV_lif_ne (tgt := 20) dJ13_compare_74951_12 dJ13_compare_74951_13 (by decide) ⟨by omega, by omega⟩ ⟨by omega, by omega⟩ (fun h12 => ?_) (fun h12 => ?_)
    · rw [if_neg (by omega)] at h
      refine ZV_iconst dJ13_compare_74951_20 ?_
      refine ZV_iret dJ13_compare_74951_21 rfl ?_
      exact h
    · rw [if_pos (by omega)] at h
      refine ZV_iconst dJ13_compare_74951_16 ?_
      refine ZV_goto (tgt := 21) dJ13_compare_74951_17 (by decide) ?_
      refine ZV_iret dJ13_compare_74951_21 rfl ?_
      exact h
  · rw [if_pos (by omega)] at h
    refine ZV_iconst dJ13_compare_74951_6 ?_
    refine ZV_goto (tgt := 21) dJ13_compare_74951_7 (by decide) ?_
    refine ZV_iret dJ13_compare_74951_21 rfl ?_
    exact h
end ZKy

