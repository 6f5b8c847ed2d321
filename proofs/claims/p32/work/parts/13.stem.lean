/-! CitationKeys$Work: stems -/
section ZWs
variable {X : Xt} {b : Nat × Nat} {g : Geo} {I J : Mm} {post : Out → Geo → Mm → Mm → Prop}
theorem hsum_succ (f : Nat → Int) (n : Nat) : hsum f (n + 1) = hsum f n + f n * 2 ^ (5 * (7 - n)) := rfl
theorem sp_X5_firstThreeLetters {w : Nat} {A : AWk} (hw : WG X g w) (hA : WkAt I J w A) (hAo : WkOK A) (h : post (.inl (some (vl (pre3 (A.1 0))))) g I J) : ZV X E_X5_firstThreeLetters 0 [some (.ref w), none, none, none] [] b g I J post := by
  obtain ⟨k1, k2, k3⟩ := hw
  have hx := hAo.1 0 (by decide)
  unfold nmOK at hx
  have hf : ∀ k, 0 ≤ dg (A.1 0) k ∧ dg (A.1 0) k < 32 := fun k => dg_rng _ k
  refine ZV_lconst (z := 0) dX5_firstThreeLetters_0 (by decide) ?_
  refine ZV_lstore1 dX5_firstThreeLetters_1 rfl (by decide) ?_
  refine ZV_iconst dX5_firstThreeLetters_2 ?_
  refine ZV_istore3 dX5_firstThreeLetters_3 rfl (by decide) ?_
  have key : ∀ i : Nat, i ≤ 3 → ∀ (j a : Int), j = (i : Int) → a = hsum (fun k => dg (A.1 0) k) i → ZV X E_X5_firstThreeLetters 4 [some (.ref w), some (vl a), none, some (vi j)] [] b g I J post := by
    refine loop_up 3 ?_ ?_
    · intro j a hj ha
      refine ZV_iload_n dX5_firstThreeLetters_4 rfl ?_
      refine ZV_iconst dX5_firstThreeLetters_5 ?_
      refine ZV_icmp_ge (tgt := 31) dX5_firstThreeLetters_6 (by decide) ⟨by omega, by omega⟩ ⟨by omega, by omega⟩ (fun h6 => ?_) (fun h6 => ?_)
      · refine ZV_lload_n dX5_firstThreeLetters_31 rfl ?_
        refine ZV_lret dX5_firstThreeLetters_32 rfl ?_
        rw [ha]
        exact h
      · omega
    · intro i hi ih j a hj ha
      have hs := hsum_ok hf i (by omega)
      rw [← ha] at hs
      have hp := p2pos (5 * (8 - i))
      refine ZV_iload_n dX5_firstThreeLetters_4 rfl ?_
      refine ZV_iconst dX5_firstThreeLetters_5 ?_
      refine ZV_icmp_ge (tgt := 31) dX5_firstThreeLetters_6 (by decide) ⟨by omega, by omega⟩ ⟨by omega, by omega⟩ (fun h6 => ?_) (fun h6 => ?_)
      · omega
      · refine ZV_lload_n dX5_firstThreeLetters_9 rfl ?_
        refine ZV_iload_n dX5_firstThreeLetters_10 rfl ?_
        refine ZV_aload_n dX5_firstThreeLetters_11 rfl ?_
        refine ZV_getR fX5_firstThreeLetters_9 dX5_firstThreeLetters_12 (by assumption) rfl (by assumption) ?_
        refine ZV_iconst dX5_firstThreeLetters_15 ?_
        refine ZV_lald (0) dX5_firstThreeLetters_16 (by assumption) (by first | rfl | omega) (by omega) (by omega) ?_
        refine ZV_iload_n dX5_firstThreeLetters_17 rfl ?_
        refine cl_X2_numberAt kX5_firstThreeLetters_52 rfl dX5_firstThreeLetters_18 (Nat.le_of_ble_eq_true rfl) ?_
        rw [hA.1 0 (by decide)]
        refine sp_X2_numberAt (by omega) ⟨by omega, by omega⟩ ⟨by omega, by omega⟩ ?_
        refine cl_X2_with kX5_firstThreeLetters_58 rfl dX5_firstThreeLetters_21 (Nat.le_of_ble_eq_true rfl) ?_
        refine sp_X2_with (by omega) ⟨by omega, by omega⟩ ⟨by omega, by omega⟩ (dgz_rng _ _) (fun _ => by rw [show j.toNat = i by omega]; exact hs.2.2) ?_
        rw [if_pos ⟨by omega, by omega⟩]
        refine ZV_lstore1 dX5_firstThreeLetters_24 rfl (by decide) ?_
        refine ZV_jinc3 dX5_firstThreeLetters_25 rfl (by decide) ?_
        refine ZV_goto (tgt := 4) dX5_firstThreeLetters_28 (by decide) ?_
        refine ih _ _ (by omega) ?_
        rw [hsum_succ, ← ha, dgz_nat hj (by omega), show j.toNat = i by omega]
  exact key 0 (by omega) _ _ rfl rfl
theorem sp_X5_initials {w : Nat} {A : AWk} (hw : WG X g w) (hA : WkAt I J w A) (hAo : WkOK A) (h : post (.inl (some (vl (inits A.1)))) g I J) : ZV X E_X5_initials 0 [some (.ref w), none, none, none] [] b g I J post := by
  obtain ⟨k1, k2, k3⟩ := hw
  have hf : ∀ k, 0 ≤ dg (A.1 k) 0 ∧ dg (A.1 k) 0 < 32 := fun k => dg_rng _ _
  refine ZV_lconst (z := 0) dX5_initials_0 (by decide) ?_
  refine ZV_lstore1 dX5_initials_1 rfl (by decide) ?_
  refine ZV_iconst dX5_initials_2 ?_
  refine ZV_istore3 dX5_initials_3 rfl (by decide) ?_
  have key : ∀ i : Nat, i ≤ 4 → ∀ (j a : Int), j = (i : Int) → a = hsum (fun a => dg (A.1 a) 0) i → ZV X E_X5_initials 4 [some (.ref w), some (vl a), none, some (vi j)] [] b g I J post := by
    refine loop_up 4 ?_ ?_
    · intro j a hj ha
      refine ZV_iload_n dX5_initials_4 rfl ?_
      refine ZV_iconst dX5_initials_5 ?_
      refine ZV_icmp_ge (tgt := 31) dX5_initials_6 (by decide) ⟨by omega, by omega⟩ ⟨by omega, by omega⟩ (fun h6 => ?_) (fun h6 => ?_)
      · refine ZV_lload_n dX5_initials_31 rfl ?_
        refine ZV_lret dX5_initials_32 rfl ?_
        rw [ha]
        exact h
      · omega
    · intro i hi ih j a hj ha
      have hs := hsum_ok hf i (by omega)
      rw [← ha] at hs
      have hp := p2pos (5 * (8 - i))
      have hx := hAo.1 i hi
      unfold nmOK at hx
      refine ZV_iload_n dX5_initials_4 rfl ?_
      refine ZV_iconst dX5_initials_5 ?_
      refine ZV_icmp_ge (tgt := 31) dX5_initials_6 (by decide) ⟨by omega, by omega⟩ ⟨by omega, by omega⟩ (fun h6 => ?_) (fun h6 => ?_)
      · omega
      · refine ZV_lload_n dX5_initials_9 rfl ?_
        refine ZV_iload_n dX5_initials_10 rfl ?_
        refine ZV_aload_n dX5_initials_11 rfl ?_
        refine ZV_getR fX5_initials_9 dX5_initials_12 (by assumption) rfl (by assumption) ?_
        refine ZV_iload_n dX5_initials_15 rfl ?_
        refine ZV_lald (i) dX5_initials_16 (by assumption) (by first | rfl | omega) (by omega) (by omega) ?_
        refine ZV_iconst dX5_initials_17 ?_
        refine cl_X2_numberAt kX5_initials_52 rfl dX5_initials_18 (Nat.le_of_ble_eq_true rfl) ?_
        rw [hA.1 i hi]
        refine sp_X2_numberAt (by omega) ⟨by omega, by omega⟩ ⟨by omega, by omega⟩ ?_
        refine cl_X2_with kX5_initials_58 rfl dX5_initials_21 (Nat.le_of_ble_eq_true rfl) ?_
        refine sp_X2_with (by omega) ⟨by omega, by omega⟩ ⟨by omega, by omega⟩ (dgz_rng _ _) (fun _ => by rw [show j.toNat = i by omega]; exact hs.2.2) ?_
        rw [if_pos ⟨by omega, by omega⟩]
        refine ZV_lstore1 dX5_initials_24 rfl (by decide) ?_
        refine ZV_jinc3 dX5_initials_25 rfl (by decide) ?_
        refine ZV_goto (tgt := 4) dX5_initials_28 (by decide) ?_
        refine ih _ _ (by omega) ?_
        rw [hsum_succ, ← ha, dgz_nat (v := A.1 i) (j := 0) (i := 0) rfl (by omega), show j.toNat = i by omega]
  exact key 0 (by omega) _ _ rfl rfl
theorem sp_X5_authorAndTitle {w : Nat} {A : AWk} (hw : WG X g w) (hA : WkAt I J w A) (hAo : WkOK A) (h : post (.inl (some (vl (aut2 (A.1 0) A.2.2.2)))) g I J) : ZV X E_X5_authorAndTitle 0 [some (.ref w), none, none] [] b g I J post := by
  obtain ⟨k1, k2, k3⟩ := hw
  have hx := hAo.1 0 (by decide)
  have hy := hAo.2.2.2
  unfold nmOK at hx hy
  have d1 := dg_rng (A.1 0) 0
  have d2 := dg_rng A.2.2.2 0
  have e1 : dgz (A.1 0) 0 = dg (A.1 0) 0 := dgz_nat (j := 0) (i := 0) rfl (by decide)
  have e2 : dgz A.2.2.2 0 = dg A.2.2.2 0 := dgz_nat (j := 0) (i := 0) rfl (by decide)
  unfold aut2 at h
  refine ZV_lconst (z := 0) dX5_authorAndTitle_0 (by decide) ?_
  refine ZV_iconst dX5_authorAndTitle_1 ?_
  refine ZV_aload_n dX5_authorAndTitle_2 rfl ?_
  refine ZV_getR fX5_authorAndTitle_9 dX5_authorAndTitle_3 (by assumption) rfl (by assumption) ?_
  refine ZV_iconst dX5_authorAndTitle_6 ?_
  refine ZV_lald (0) dX5_authorAndTitle_7 (by assumption) (by first | rfl | omega) (by omega) (by omega) ?_
  refine ZV_iconst dX5_authorAndTitle_8 ?_
  refine cl_X2_numberAt kX5_authorAndTitle_52 rfl dX5_authorAndTitle_9 (Nat.le_of_ble_eq_true rfl) ?_
  rw [hA.1 0 (by decide)]
  refine sp_X2_numberAt (by omega) ⟨by omega, by omega⟩ ⟨by omega, by omega⟩ ?_
  rw [e1]
  refine cl_X2_with kX5_authorAndTitle_58 rfl dX5_authorAndTitle_12 (Nat.le_of_ble_eq_true rfl) ?_
  refine sp_X2_with (by omega) ⟨by omega, by omega⟩ ⟨by omega, by omega⟩ d1 (fun _ => by decide) ?_
  rw [if_pos ⟨by omega, by omega⟩]
  rw [show (0 : Int) + dg (A.1 0) 0 * 2 ^ (5 * (7 - Int.toNat 0)) = dg (A.1 0) 0 * 34359738368 by rw [Int.zero_add]; rfl]
  refine ZV_lstore1 dX5_authorAndTitle_15 rfl (by decide) ?_
  refine ZV_lload_n dX5_authorAndTitle_16 rfl ?_
  refine ZV_iconst dX5_authorAndTitle_17 ?_
  refine ZV_aload_n dX5_authorAndTitle_18 rfl ?_
  refine ZV_getJ fX5_authorAndTitle_22 dX5_authorAndTitle_19 (by assumption) rfl ?_
  refine ZV_iconst dX5_authorAndTitle_22 ?_
  refine cl_X2_numberAt kX5_authorAndTitle_52 rfl dX5_authorAndTitle_23 (Nat.le_of_ble_eq_true rfl) ?_
  rw [hA.2.2.2]
  refine sp_X2_numberAt (by omega) ⟨by omega, by omega⟩ ⟨by omega, by omega⟩ ?_
  rw [e2]
  refine cl_X2_with kX5_authorAndTitle_58 rfl dX5_authorAndTitle_26 (Nat.le_of_ble_eq_true rfl) ?_
  refine sp_X2_with (by omega) ⟨by omega, by omega⟩ ⟨by omega, by omega⟩ d2 (fun _ => ?_) ?_
  · show _ % (34359738368 : Int) = 0
    omega
  rw [if_pos ⟨by omega, by omega⟩]
  rw [show dg A.2.2.2 0 * 2 ^ (5 * (7 - Int.toNat 1)) = dg A.2.2.2 0 * 1073741824 from rfl]
  refine ZV_lret dX5_authorAndTitle_29 rfl ?_
  exact h
theorem sp_X5_stem {w : Nat} {A : AWk} {style y : Int} (hw : WG X g w) (hA : WkAt I J w A) (hAo : WkOK A) (hs : r32 style) (hy : 0 ≤ y ∧ y < 4096) (h : post (.inl (some (vl (stm A style y)))) g I J) : ZV X E_X5_stem 0 [some (.ref w), some (vi style), some (vi y)] [] b g I J post := by
  have hw' := hw
  obtain ⟨k1, k2, k3⟩ := hw
  obtain ⟨hs1, hs2⟩ := hs
  have hx := hAo.1 0 (by decide)
  have hn := hAo.2.1
  obtain ⟨hn1, hn2⟩ := hn
  unfold stm at h
  refine ZV_iload_n dX5_stem_0 rfl ?_
  rcases (show style = 0 ∨ style = 1 ∨ style = 2 ∨ (style < 0 ∨ 2 < style) by omega) with rfl | rfl | rfl | hs
  · rw [if_pos rfl] at h
    refine ZV_tableIn (tgt := 28) dX5_stem_1 ⟨by decide, by decide⟩ (by decide) (by decide) rfl (by decide) ?_
    refine ZV_aload_n dX5_stem_28 rfl ?_
    refine cl_X5_firstThreeLetters kX5_stem_32 rfl dX5_stem_29 (by assumption) (Nat.le_of_ble_eq_true rfl) ?_
    refine sp_X5_firstThreeLetters hw' hA hAo ?_
    refine ZV_iconst dX5_stem_32 ?_
    refine ZV_iload_n dX5_stem_33 rfl ?_
    refine cl_X1_withTwoDigits kX5_stem_36 rfl dX5_stem_34 (Nat.le_of_ble_eq_true rfl) ?_
    have ho := pre3_ok (A.1 0)
    refine sp_X1_withTwoDigits ho.1 ho.2 (Or.inl rfl) hy ?_
    refine ZV_lret dX5_stem_37 rfl ?_
    exact h
  · rw [if_neg (by decide), if_pos rfl] at h
    refine ZV_tableIn (tgt := 38) dX5_stem_1 ⟨by decide, by decide⟩ (by decide) (by decide) rfl (by decide) ?_
    refine ZV_aload_n dX5_stem_38 rfl ?_
    refine cl_X5_initials kX5_stem_42 rfl dX5_stem_39 (by assumption) (Nat.le_of_ble_eq_true rfl) ?_
    refine sp_X5_initials hw' hA hAo ?_
    refine ZV_iload_n dX5_stem_42 rfl ?_
    refine cl_X1_withFourDigits kX5_stem_45 rfl dX5_stem_43 (Nat.le_of_ble_eq_true rfl) ?_
    have ho := inits_ok A.1
    refine sp_X1_withFourDigits ho.1 ho.2 hy ?_
    refine ZV_lret dX5_stem_46 rfl ?_
    exact h
  · rw [if_neg (by decide), if_neg (by decide), if_pos rfl] at h
    refine ZV_tableIn (tgt := 47) dX5_stem_1 ⟨by decide, by decide⟩ (by decide) (by decide) rfl (by decide) ?_
    refine ZV_aload_n dX5_stem_47 rfl ?_
    refine ZV_getR fX5_stem_9 dX5_stem_48 (by assumption) rfl (by assumption) ?_
    refine ZV_iconst dX5_stem_51 ?_
    refine ZV_lald (0) dX5_stem_52 (by assumption) (by first | rfl | omega) (by omega) (by omega) ?_
    refine ZV_aload_n dX5_stem_53 rfl ?_
    refine ZV_getI fX5_stem_15 dX5_stem_54 (by assumption) rfl ?_
    refine ZV_iconst dX5_stem_57 ?_
    rw [hA.1 0 (by decide), hA.2.1]
    refine ZV_icmp_le (tgt := 65) dX5_stem_58 (by decide) ⟨by omega, by omega⟩ ⟨by omega, by omega⟩ (fun h58 => ?_) (fun h58 => ?_)
    · rw [if_neg (by omega)] at h
      refine ZV_iconst dX5_stem_65 ?_
      refine ZV_iload_n dX5_stem_66 rfl ?_
      refine cl_X1_withTwoDigits kX5_stem_36 rfl dX5_stem_67 (Nat.le_of_ble_eq_true rfl) ?_
      refine sp_X1_withTwoDigits hx.1 hx.2 (Or.inl rfl) hy ?_
      refine ZV_lret dX5_stem_70 rfl ?_
      exact h
    · rw [if_pos (by omega)] at h
      refine ZV_iconst dX5_stem_61 ?_
      refine ZV_goto (tgt := 66) dX5_stem_62 (by decide) ?_
      refine ZV_iload_n dX5_stem_66 rfl ?_
      refine cl_X1_withTwoDigits kX5_stem_36 rfl dX5_stem_67 (Nat.le_of_ble_eq_true rfl) ?_
      refine sp_X1_withTwoDigits hx.1 hx.2 (Or.inr rfl) hy ?_
      refine ZV_lret dX5_stem_70 rfl ?_
      exact h
  · rw [if_neg (by omega), if_neg (by omega), if_neg (by omega)] at h
    refine ZV_tableOut (tgt := 71) dX5_stem_1 ⟨by omega, by omega⟩ (by omega) (by decide) ?_
    refine ZV_aload_n dX5_stem_71 rfl ?_
    refine cl_X5_authorAndTitle kX5_stem_49 rfl dX5_stem_72 (by assumption) (Nat.le_of_ble_eq_true rfl) ?_
    refine sp_X5_authorAndTitle hw' hA hAo ?_
    refine ZV_iload_n dX5_stem_75 rfl ?_
    refine cl_X1_withFourDigits kX5_stem_45 rfl dX5_stem_76 (Nat.le_of_ble_eq_true rfl) ?_
    have ho := aut2_ok (A.1 0) A.2.2.2
    refine sp_X1_withFourDigits ho.1 ho.2 hy ?_
    refine ZV_lret dX5_stem_79 rfl ?_
    exact h
theorem kst2_rng {hd pl y : Int} (h : nmOK hd) (hp : pl = 0 ∨ pl = 1) (hy : 0 ≤ y) : 0 ≤ kst2 hd pl y ∧ kst2 hd pl y + 32 ≤ 576460752303423488 ∧ kst2 hd pl y % 32 = 0 := by unfold kst2 nmOK at *; omega
theorem kst4_rng {hd y : Int} (h : nmOK hd) (hy : 0 ≤ y ∧ y < 4096) : 0 ≤ kst4 hd y ∧ kst4 hd y + 32 ≤ 576460752303423488 ∧ kst4 hd y % 32 = 0 := by unfold kst4 nmOK at *; omega
theorem stm_rng {A : AWk} {style y : Int} (hAo : WkOK A) (hy : 0 ≤ y ∧ y < 4096) : 0 ≤ stm A style y ∧ stm A style y + 32 ≤ 576460752303423488 ∧ stm A style y % 32 = 0 := by
  unfold stm
  split
  · exact kst2_rng (pre3_ok _) (Or.inl rfl) hy.1
  · split
    · exact kst4_rng (inits_ok _) hy
    · split
      · exact kst2_rng (hAo.1 0 (by decide)) (by split <;> omega) hy.1
      · exact kst4_rng (aut2_ok _ _) hy
end ZWs

