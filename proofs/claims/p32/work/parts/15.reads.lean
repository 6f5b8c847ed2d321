/-! CitationKeys$State: counts over the keys and the printed list -/
theorem klen_rng (κ : Int) : 0 ≤ klen κ ∧ klen κ ≤ 14 := by
  have h1 := nlen_rng (khd κ)
  have h2 := ksg_rng κ
  have h3 := kdg_rng κ
  unfold klen
  split <;> omega
theorem zmx_rng {f : Nat → Int} {m : Int} (hm : 0 ≤ m) (h : ∀ i, 0 ≤ f i ∧ f i ≤ m) (n : Nat) : 0 ≤ zmx f n ∧ zmx f n ≤ m := by
  induction n with
  | zero => simp only [zmx]; omega
  | succ n ih =>
    have := h n
    simp only [zmx]
    split <;> omega
theorem zfst_rng (f : Nat → Int) (n : Nat) : -9 ≤ zfst f n ∧ zfst f n < n := by
  induction n with
  | zero => simp [zfst]
  | succ n ih =>
    simp only [zfst]
    repeat' split
    all_goals omega
/-- whose key it is -/
def holdK (K : Nat → Int) (n : Nat) (κ : Int) : Int := zfst (fun i => if K i = κ then 1 else 0) n
section ZR2
variable {X : Xt} {b : Nat × Nat} {g : Geo} {I J : Mm} {post : Out → Geo → Mm → Mm → Prop}
theorem sp_X3_lettered {t : Nat} {A : ASt} {K : Nat → Int} (hL : SL X g t) (hA : StAt g I J t A) (hO : StOK A) (hK : KyAt J t (aN A) K) (h : post (.inl (some (vi (zsum (fun i => if 0 < klet (K i) then 1 else 0) (aN A))))) g I J) : ZV X E_X3_lettered 0 [some (.ref t), none, none] [] b g I J post := by
  obtain ⟨hn, -⟩ := id hO
  obtain ⟨⟨s1, s2, s3, s4, s5, s6⟩, ⟨s7, s8, s9, s10, s11⟩, -⟩ := hL
  obtain ⟨⟨a1, a2, a3, a4⟩, a5, a6⟩ := hA
  refine ZV_iconst dX3_lettered_0 ?_
  refine ZV_istore1 dX3_lettered_1 rfl (by decide) ?_
  refine ZV_iconst dX3_lettered_2 ?_
  refine ZV_istore2 dX3_lettered_3 rfl (by decide) ?_
  have key : ∀ q : Nat, q ≤ aN A → ∀ c z : Int, z = (q : Int) → c = zsum (fun i => if 0 < klet (K i) then 1 else 0) q → ZV X E_X3_lettered 4 [some (.ref t), some (vi c), some (vi z)] [] b g I J post := by
    refine loop_up (aN A) ?_ ?_
    · intro c z hz hc
      refine ZV_iload_n dX3_lettered_4 rfl ?_
      refine ZV_aload_n dX3_lettered_5 rfl ?_
      refine ZV_getI fX3_lettered_32 dX3_lettered_6 (by assumption) rfl ?_
      refine ZV_icmp_ge (tgt := 33) dX3_lettered_9 (by decide) ⟨by omega, by omega⟩ ⟨by omega, by omega⟩ (fun h9 => ?_) (fun h9 => ?_)
      · refine ZV_iload_n dX3_lettered_33 rfl ?_
        refine ZV_iret dX3_lettered_34 rfl ?_
        rw [hc]
        exact h
      · omega
    · intro q hq ih c z hz hc
      have hr := klet_rng (K q)
      refine ZV_iload_n dX3_lettered_4 rfl ?_
      refine ZV_aload_n dX3_lettered_5 rfl ?_
      refine ZV_getI fX3_lettered_32 dX3_lettered_6 (by assumption) rfl ?_
      refine ZV_icmp_ge (tgt := 33) dX3_lettered_9 (by decide) ⟨by omega, by omega⟩ ⟨by omega, by omega⟩ (fun h9 => ?_) (fun h9 => ?_)
      · omega
      · refine ZV_aload_n dX3_lettered_12 rfl ?_
        refine ZV_getR fX3_lettered_22 dX3_lettered_13 (by assumption) rfl (by assumption) ?_
        refine ZV_iload_n dX3_lettered_16 rfl ?_
        refine ZV_lald (q) dX3_lettered_17 (by assumption) (by first | rfl | omega) (by omega) (by omega) ?_
        rw [hK q hq]
        refine cl_X1_letterOf kX3_lettered_91 rfl dX3_lettered_18 (Nat.le_of_ble_eq_true rfl) ?_
        refine sp_X1_letterOf ?_
        refine ZV_if_le (tgt := 27) dX3_lettered_21 (by decide) ⟨by omega, by omega⟩ (fun h21 => ?_) (fun h21 => ?_)
        · refine ZV_jinc2 dX3_lettered_27 rfl (by decide) ?_
          refine ZV_goto (tgt := 4) dX3_lettered_30 (by decide) ?_
          exact ih _ _ (by omega) (by simp only [zsum]; rw [if_neg (by omega)]; omega)
        · refine ZV_jinc1 dX3_lettered_24 rfl (by decide) ?_
          refine ZV_jinc2 dX3_lettered_27 rfl (by decide) ?_
          refine ZV_goto (tgt := 4) dX3_lettered_30 (by decide) ?_
          exact ih _ _ (by omega) (by simp only [zsum]; rw [if_pos (by omega)]; omega)
  exact key 0 (by omega) _ _ rfl rfl
theorem sp_X3_differentStems {t : Nat} {A : ASt} {K : Nat → Int} (hL : SL X g t) (hA : StAt g I J t A) (hO : StOK A) (hK : KyAt J t (aN A) K) (h : post (.inl (some (vi (zsum (fun i => if klet (K i) ≤ 1 then 1 else 0) (aN A))))) g I J) : ZV X E_X3_differentStems 0 [some (.ref t), none, none] [] b g I J post := by
  obtain ⟨hn, -⟩ := id hO
  obtain ⟨⟨s1, s2, s3, s4, s5, s6⟩, ⟨s7, s8, s9, s10, s11⟩, -⟩ := hL
  obtain ⟨⟨a1, a2, a3, a4⟩, a5, a6⟩ := hA
  refine ZV_iconst dX3_differentStems_0 ?_
  refine ZV_istore1 dX3_differentStems_1 rfl (by decide) ?_
  refine ZV_iconst dX3_differentStems_2 ?_
  refine ZV_istore2 dX3_differentStems_3 rfl (by decide) ?_
  have key : ∀ q : Nat, q ≤ aN A → ∀ c z : Int, z = (q : Int) → c = zsum (fun i => if klet (K i) ≤ 1 then 1 else 0) q → ZV X E_X3_differentStems 4 [some (.ref t), some (vi c), some (vi z)] [] b g I J post := by
    refine loop_up (aN A) ?_ ?_
    · intro c z hz hc
      refine ZV_iload_n dX3_differentStems_4 rfl ?_
      refine ZV_aload_n dX3_differentStems_5 rfl ?_
      refine ZV_getI fX3_differentStems_32 dX3_differentStems_6 (by assumption) rfl ?_
      refine ZV_icmp_ge (tgt := 34) dX3_differentStems_9 (by decide) ⟨by omega, by omega⟩ ⟨by omega, by omega⟩ (fun h9 => ?_) (fun h9 => ?_)
      · refine ZV_iload_n dX3_differentStems_34 rfl ?_
        refine ZV_iret dX3_differentStems_35 rfl ?_
        rw [hc]
        exact h
      · omega
    · intro q hq ih c z hz hc
      have hr := klet_rng (K q)
      refine ZV_iload_n dX3_differentStems_4 rfl ?_
      refine ZV_aload_n dX3_differentStems_5 rfl ?_
      refine ZV_getI fX3_differentStems_32 dX3_differentStems_6 (by assumption) rfl ?_
      refine ZV_icmp_ge (tgt := 34) dX3_differentStems_9 (by decide) ⟨by omega, by omega⟩ ⟨by omega, by omega⟩ (fun h9 => ?_) (fun h9 => ?_)
      · omega
      · refine ZV_aload_n dX3_differentStems_12 rfl ?_
        refine ZV_getR fX3_differentStems_22 dX3_differentStems_13 (by assumption) rfl (by assumption) ?_
        refine ZV_iload_n dX3_differentStems_16 rfl ?_
        refine ZV_lald (q) dX3_differentStems_17 (by assumption) (by first | rfl | omega) (by omega) (by omega) ?_
        rw [hK q hq]
        refine cl_X1_letterOf kX3_differentStems_91 rfl dX3_differentStems_18 (Nat.le_of_ble_eq_true rfl) ?_
        refine sp_X1_letterOf ?_
        refine ZV_iconst dX3_differentStems_21 ?_
        refine ZV_icmp_gt (tgt := 28) dX3_differentStems_22 (by decide) ⟨by omega, by omega⟩ ⟨by omega, by omega⟩ (fun h22 => ?_) (fun h22 => ?_)
        · refine ZV_jinc2 dX3_differentStems_28 rfl (by decide) ?_
          refine ZV_goto (tgt := 4) dX3_differentStems_31 (by decide) ?_
          exact ih _ _ (by omega) (by simp only [zsum]; rw [if_neg (by omega)]; omega)
        · refine ZV_jinc1 dX3_differentStems_25 rfl (by decide) ?_
          refine ZV_jinc2 dX3_differentStems_28 rfl (by decide) ?_
          refine ZV_goto (tgt := 4) dX3_differentStems_31 (by decide) ?_
          exact ih _ _ (by omega) (by simp only [zsum]; rw [if_pos (by omega)]; omega)
  exact key 0 (by omega) _ _ rfl rfl
theorem sp_X3_longestKey {t : Nat} {A : ASt} {K : Nat → Int} (hL : SL X g t) (hA : StAt g I J t A) (hO : StOK A) (hK : KyAt J t (aN A) K) (hKr : ∀ i, i < aN A → 0 ≤ K i ∧ r64 (K i)) (h : post (.inl (some (vi (zmx (fun i => klen (K i)) (aN A))))) g I J) : ZV X E_X3_longestKey 0 [some (.ref t), none, none] [] b g I J post := by
  obtain ⟨hn, -⟩ := id hO
  obtain ⟨⟨s1, s2, s3, s4, s5, s6⟩, ⟨s7, s8, s9, s10, s11⟩, -⟩ := hL
  obtain ⟨⟨a1, a2, a3, a4⟩, a5, a6⟩ := hA
  refine ZV_iconst dX3_longestKey_0 ?_
  refine ZV_istore1 dX3_longestKey_1 rfl (by decide) ?_
  refine ZV_iconst dX3_longestKey_2 ?_
  refine ZV_istore2 dX3_longestKey_3 rfl (by decide) ?_
  have key : ∀ q : Nat, q ≤ aN A → ∀ c z : Int, z = (q : Int) → c = zmx (fun i => klen (K i)) q → ZV X E_X3_longestKey 4 [some (.ref t), some (vi c), some (vi z)] [] b g I J post := by
    refine loop_up (aN A) ?_ ?_
    · intro c z hz hc
      refine ZV_iload_n dX3_longestKey_4 rfl ?_
      refine ZV_aload_n dX3_longestKey_5 rfl ?_
      refine ZV_getI fX3_longestKey_32 dX3_longestKey_6 (by assumption) rfl ?_
      refine ZV_icmp_ge (tgt := 32) dX3_longestKey_9 (by decide) ⟨by omega, by omega⟩ ⟨by omega, by omega⟩ (fun h9 => ?_) (fun h9 => ?_)
      · refine ZV_iload_n dX3_longestKey_32 rfl ?_
        refine ZV_iret dX3_longestKey_33 rfl ?_
        rw [hc]
        exact h
      · omega
    · intro q hq ih c z hz hc
      have hr := klen_rng (K q)
      have hc2 := zmx_rng (f := fun i => klen (K i)) (m := 14) (by decide) (fun i => klen_rng (K i)) q
      rw [← hc] at hc2
      refine ZV_iload_n dX3_longestKey_4 rfl ?_
      refine ZV_aload_n dX3_longestKey_5 rfl ?_
      refine ZV_getI fX3_longestKey_32 dX3_longestKey_6 (by assumption) rfl ?_
      refine ZV_icmp_ge (tgt := 32) dX3_longestKey_9 (by decide) ⟨by omega, by omega⟩ ⟨by omega, by omega⟩ (fun h9 => ?_) (fun h9 => ?_)
      · omega
      · refine ZV_iload_n dX3_longestKey_12 rfl ?_
        refine ZV_aload_n dX3_longestKey_13 rfl ?_
        refine ZV_getR fX3_longestKey_22 dX3_longestKey_14 (by assumption) rfl (by assumption) ?_
        refine ZV_iload_n dX3_longestKey_17 rfl ?_
        refine ZV_lald (q) dX3_longestKey_18 (by assumption) (by first | rfl | omega) (by omega) (by omega) ?_
        rw [hK q hq]
        refine cl_X1_length kX3_longestKey_97 rfl dX3_longestKey_19 (Nat.le_of_ble_eq_true rfl) ?_
        refine sp_X1_length (hKr q hq).1 (hKr q hq).2 ?_
        refine ZV_mmax dX3_longestKey_22 mX3_longestKey_100 ⟨by decide, by decide⟩ ⟨by omega, by omega⟩ ⟨by omega, by omega⟩ ?_
        refine ZV_istore1 dX3_longestKey_25 rfl (by decide) ?_
        refine ZV_jinc2 dX3_longestKey_26 rfl (by decide) ?_
        refine ZV_goto (tgt := 4) dX3_longestKey_29 (by decide) ?_
        exact ih _ _ (by omega) (by simp only [zmx]; rw [hc])
  exact key 0 (by omega) _ _ rfl rfl
theorem sp_X3_holderOf {t : Nat} {A : ASt} {K : Nat → Int} {κ : Int} (hL : SL X g t) (hA : StAt g I J t A) (hO : StOK A) (hK : KyAt J t (aN A) K) (hKr : ∀ i, i < aN A → r64 (K i)) (hκ : r64 κ) (h : post (.inl (some (vi (holdK K (aN A) κ)))) g I J) : ZV X E_X3_holderOf 0 [some (.ref t), some (vl κ), none, none] [] b g I J post := by
  obtain ⟨hn, -⟩ := id hO
  obtain ⟨⟨s1, s2, s3, s4, s5, s6⟩, ⟨s7, s8, s9, s10, s11⟩, -⟩ := hL
  obtain ⟨⟨a1, a2, a3, a4⟩, a5, a6⟩ := hA
  obtain ⟨k1, k2⟩ := hκ
  unfold holdK at h
  refine ZV_iconst dX3_holderOf_0 ?_
  refine ZV_istore3 dX3_holderOf_1 rfl (by decide) ?_
  have key : ∀ q : Nat, q ≤ aN A → ∀ z : Int, z = (q : Int) → zfst (fun i => if K i = κ then 1 else 0) q = -9 → ZV X E_X3_holderOf 2 [some (.ref t), some (vl κ), none, some (vi z)] [] b g I J post := by
    refine loop_up (aN A) ?_ ?_
    · intro z hz hc
      refine ZV_iload_n dX3_holderOf_2 rfl ?_
      refine ZV_aload_n dX3_holderOf_3 rfl ?_
      refine ZV_getI fX3_holderOf_32 dX3_holderOf_4 (by assumption) rfl ?_
      refine ZV_icmp_ge (tgt := 29) dX3_holderOf_7 (by decide) ⟨by omega, by omega⟩ ⟨by omega, by omega⟩ (fun h7 => ?_) (fun h7 => ?_)
      · refine ZV_bipush dX3_holderOf_29 (by decide) ?_
        refine ZV_iret dX3_holderOf_31 rfl ?_
        rw [hc] at h
        exact h
      · omega
    · intro q hq ih z hz hc
      have hr := hKr q hq
      obtain ⟨k3, k4⟩ := hr
      refine ZV_iload_n dX3_holderOf_2 rfl ?_
      refine ZV_aload_n dX3_holderOf_3 rfl ?_
      refine ZV_getI fX3_holderOf_32 dX3_holderOf_4 (by assumption) rfl ?_
      refine ZV_icmp_ge (tgt := 29) dX3_holderOf_7 (by decide) ⟨by omega, by omega⟩ ⟨by omega, by omega⟩ (fun h7 => ?_) (fun h7 => ?_)
      · omega
      · refine ZV_aload_n dX3_holderOf_10 rfl ?_
        refine ZV_getR fX3_holderOf_22 dX3_holderOf_11 (by assumption) rfl (by assumption) ?_
        refine ZV_iload_n dX3_holderOf_14 rfl ?_
        refine ZV_lald (q) dX3_holderOf_15 (by assumption) (by first | rfl | omega) (by omega) (by omega) ?_
        rw [hK q hq]
        refine ZV_lload_n dX3_holderOf_16 rfl ?_
        refine ZV_lif_ne (tgt := 23) dX3_holderOf_17 dX3_holderOf_18 (by decide) ⟨by omega, by omega⟩ ⟨by omega, by omega⟩ (fun h17 => ?_) (fun h17 => ?_)
        · refine ZV_jinc3 dX3_holderOf_23 rfl (by decide) ?_
          refine ZV_goto (tgt := 2) dX3_holderOf_26 (by decide) ?_
          exact ih _ (by omega) (zfst_miss hc (by rw [if_neg h17]; decide))
        · rw [zfst_hit hc (if_pos h17) hq, ← hz] at h
          refine ZV_iload_n dX3_holderOf_21 rfl ?_
          refine ZV_iret dX3_holderOf_22 rfl ?_
          exact h
  exact key 0 (by omega) _ rfl rfl
theorem sp_X3_printedOfNone {t : Nat} {A : ASt} (hL : SL X g t) (hA : StAt g I J t A) (hO : StOK A) (hpo : ∀ p, p < aPn A → r32 (aPo A p)) (h : post (.inl (some (vi (zsum (fun p => if aPo A p = -2 then 1 else 0) (aPn A))))) g I J) : ZV X E_X3_printedOfNone 0 [some (.ref t), none, none] [] b g I J post := by
  obtain ⟨hn, hpn, -⟩ := id hO
  obtain ⟨⟨s1, s2, s3, s4, s5, s6⟩, ⟨s7, s8, s9, s10, s11⟩, -⟩ := hL
  obtain ⟨⟨a1, a2, a3, a4⟩, a5, a6⟩ := hA
  refine ZV_iconst dX3_printedOfNone_0 ?_
  refine ZV_istore1 dX3_printedOfNone_1 rfl (by decide) ?_
  refine ZV_iconst dX3_printedOfNone_2 ?_
  refine ZV_istore2 dX3_printedOfNone_3 rfl (by decide) ?_
  have key : ∀ q : Nat, q ≤ aPn A → ∀ c z : Int, z = (q : Int) → c = zsum (fun p => if aPo A p = -2 then 1 else 0) q → ZV X E_X3_printedOfNone 4 [some (.ref t), some (vi c), some (vi z)] [] b g I J post := by
    refine loop_up (aPn A) ?_ ?_
    · intro c z hz hc
      refine ZV_iload_n dX3_printedOfNone_4 rfl ?_
      refine ZV_aload_n dX3_printedOfNone_5 rfl ?_
      refine ZV_getI fX3_printedOfNone_42 dX3_printedOfNone_6 (by assumption) rfl ?_
      refine ZV_icmp_ge (tgt := 32) dX3_printedOfNone_9 (by decide) ⟨by omega, by omega⟩ ⟨by omega, by omega⟩ (fun h9 => ?_) (fun h9 => ?_)
      · refine ZV_iload_n dX3_printedOfNone_32 rfl ?_
        refine ZV_iret dX3_printedOfNone_33 rfl ?_
        rw [hc]
        exact h
      · omega
    · intro q hq ih c z hz hc
      have hr := hpo q hq
      obtain ⟨k3, k4⟩ := hr
      refine ZV_iload_n dX3_printedOfNone_4 rfl ?_
      refine ZV_aload_n dX3_printedOfNone_5 rfl ?_
      refine ZV_getI fX3_printedOfNone_42 dX3_printedOfNone_6 (by assumption) rfl ?_
      refine ZV_icmp_ge (tgt := 32) dX3_printedOfNone_9 (by decide) ⟨by omega, by omega⟩ ⟨by omega, by omega⟩ (fun h9 => ?_) (fun h9 => ?_)
      · omega
      · refine ZV_aload_n dX3_printedOfNone_12 rfl ?_
        refine ZV_getR fX3_printedOfNone_28 dX3_printedOfNone_13 (by assumption) rfl (by assumption) ?_
        refine ZV_iload_n dX3_printedOfNone_16 rfl ?_
        refine ZV_iald (q) dX3_printedOfNone_17 (by assumption) (by first | rfl | omega) (by omega) (by omega) ?_
        rw [(a6 q hq).2]
        refine ZV_bipush dX3_printedOfNone_18 (by decide) ?_
        refine ZV_icmp_ne (tgt := 26) dX3_printedOfNone_20 (by decide) ⟨by omega, by omega⟩ ⟨by omega, by omega⟩ (fun h20 => ?_) (fun h20 => ?_)
        · refine ZV_jinc2 dX3_printedOfNone_26 rfl (by decide) ?_
          refine ZV_goto (tgt := 4) dX3_printedOfNone_29 (by decide) ?_
          exact ih _ _ (by omega) (by simp only [zsum]; rw [if_neg h20]; omega)
        · refine ZV_jinc1 dX3_printedOfNone_23 rfl (by decide) ?_
          refine ZV_jinc2 dX3_printedOfNone_26 rfl (by decide) ?_
          refine ZV_goto (tgt := 4) dX3_printedOfNone_29 (by decide) ?_
          exact ih _ _ (by omega) (by simp only [zsum]; rw [if_pos h20]; omega)
  exact key 0 (by omega) _ _ rfl rfl
theorem sp_X3_printedStillRight {t : Nat} {A : ASt} {K : Nat → Int} (hL : SL X g t) (hA : StAt g I J t A) (hO : StOK A) (hK : KyAt J t (aN A) K) (hKr : ∀ i, i < aN A → r64 (K i)) (hpk : ∀ p, p < aPn A → r64 (aPk A p) ∧ r32 (aPo A p)) (h : post (.inl (some (vi (zsum (fun p => if holdK K (aN A) (aPk A p) = aPo A p then 1 else 0) (aPn A))))) g I J) : ZV X E_X3_printedStillRight 0 [some (.ref t), none, none] [] b g I J post := by
  have hL' := hL
  have hA' := hA
  obtain ⟨hn, hpn, -⟩ := id hO
  obtain ⟨⟨s1, s2, s3, s4, s5, s6⟩, ⟨s7, s8, s9, s10, s11⟩, -⟩ := hL
  obtain ⟨⟨a1, a2, a3, a4⟩, a5, a6⟩ := hA
  refine ZV_iconst dX3_printedStillRight_0 ?_
  refine ZV_istore1 dX3_printedStillRight_1 rfl (by decide) ?_
  refine ZV_iconst dX3_printedStillRight_2 ?_
  refine ZV_istore2 dX3_printedStillRight_3 rfl (by decide) ?_
  have key : ∀ q : Nat, q ≤ aPn A → ∀ c z : Int, z = (q : Int) → c = zsum (fun p => if holdK K (aN A) (aPk A p) = aPo A p then 1 else 0) q → ZV X E_X3_printedStillRight 4 [some (.ref t), some (vi c), some (vi z)] [] b g I J post := by
    refine loop_up (aPn A) ?_ ?_
    · intro c z hz hc
      refine ZV_iload_n dX3_printedStillRight_4 rfl ?_
      refine ZV_aload_n dX3_printedStillRight_5 rfl ?_
      refine ZV_getI fX3_printedStillRight_42 dX3_printedStillRight_6 (by assumption) rfl ?_
      refine ZV_icmp_ge (tgt := 40) dX3_printedStillRight_9 (by decide) ⟨by omega, by omega⟩ ⟨by omega, by omega⟩ (fun h9 => ?_) (fun h9 => ?_)
      · refine ZV_iload_n dX3_printedStillRight_40 rfl ?_
        refine ZV_iret dX3_printedStillRight_41 rfl ?_
        rw [hc]
        exact h
      · omega
    · intro q hq ih c z hz hc
      have hr := hpk q hq
      obtain ⟨k3, k4, k5⟩ := hr
      have hh := zfst_rng (fun i => if K i = aPk A q then 1 else 0) (aN A)
      have hh2 : holdK K (aN A) (aPk A q) = zfst (fun i => if K i = aPk A q then 1 else 0) (aN A) := rfl
      refine ZV_iload_n dX3_printedStillRight_4 rfl ?_
      refine ZV_aload_n dX3_printedStillRight_5 rfl ?_
      refine ZV_getI fX3_printedStillRight_42 dX3_printedStillRight_6 (by assumption) rfl ?_
      refine ZV_icmp_ge (tgt := 40) dX3_printedStillRight_9 (by decide) ⟨by omega, by omega⟩ ⟨by omega, by omega⟩ (fun h9 => ?_) (fun h9 => ?_)
      · omega
      · refine ZV_aload_n dX3_printedStillRight_12 rfl ?_
        refine ZV_aload_n dX3_printedStillRight_13 rfl ?_
        refine ZV_getR fX3_printedStillRight_25 dX3_printedStillRight_14 (by assumption) rfl (by assumption) ?_
        refine ZV_iload_n dX3_printedStillRight_17 rfl ?_
        refine ZV_lald (q) dX3_printedStillRight_18 (by assumption) (by first | rfl | omega) (by omega) (by omega) ?_
        rw [(a6 q hq).1]
        refine cl_X3_holderOf kX3_printedStillRight_105 rfl dX3_printedStillRight_19 (by assumption) (Nat.le_of_ble_eq_true rfl) ?_
        refine sp_X3_holderOf hL' hA' hO hK hKr k3 ?_
        refine ZV_aload_n dX3_printedStillRight_22 rfl ?_
        refine ZV_getR fX3_printedStillRight_28 dX3_printedStillRight_23 (by assumption) rfl (by assumption) ?_
        refine ZV_iload_n dX3_printedStillRight_26 rfl ?_
        refine ZV_iald (q) dX3_printedStillRight_27 (by assumption) (by first | rfl | omega) (by omega) (by omega) ?_
        rw [(a6 q hq).2]
        refine ZV_icmp_ne (tgt := 34) dX3_printedStillRight_28 (by decide) ⟨by omega, by omega⟩ ⟨by omega, by omega⟩ (fun h28 => ?_) (fun h28 => ?_)
        · refine ZV_jinc2 dX3_printedStillRight_34 rfl (by decide) ?_
          refine ZV_goto (tgt := 4) dX3_printedStillRight_37 (by decide) ?_
          exact ih _ _ (by omega) (by simp only [zsum]; rw [if_neg h28]; omega)
        · refine ZV_jinc1 dX3_printedStillRight_31 rfl (by decide) ?_
          refine ZV_jinc2 dX3_printedStillRight_34 rfl (by decide) ?_
          refine ZV_goto (tgt := 4) dX3_printedStillRight_37 (by decide) ?_
          exact ih _ _ (by omega) (by simp only [zsum]; rw [if_pos h28]; omega)
  exact key 0 (by omega) _ _ rfl rfl
theorem sp_X3_printedWithoutMeaning {t : Nat} {A : ASt} {K : Nat → Int} (hL : SL X g t) (hA : StAt g I J t A) (hO : StOK A) (hK : KyAt J t (aN A) K) (hKr : ∀ i, i < aN A → r64 (K i)) (hpk : ∀ p, p < aPn A → r64 (aPk A p)) (h : post (.inl (some (vi (zsum (fun p => if holdK K (aN A) (aPk A p) = -9 then 1 else 0) (aPn A))))) g I J) : ZV X E_X3_printedWithoutMeaning 0 [some (.ref t), none, none] [] b g I J post := by
  have hL' := hL
  have hA' := hA
  obtain ⟨hn, hpn, -⟩ := id hO
  obtain ⟨⟨s1, s2, s3, s4, s5, s6⟩, ⟨s7, s8, s9, s10, s11⟩, -⟩ := hL
  obtain ⟨⟨a1, a2, a3, a4⟩, a5, a6⟩ := hA
  refine ZV_iconst dX3_printedWithoutMeaning_0 ?_
  refine ZV_istore1 dX3_printedWithoutMeaning_1 rfl (by decide) ?_
  refine ZV_iconst dX3_printedWithoutMeaning_2 ?_
  refine ZV_istore2 dX3_printedWithoutMeaning_3 rfl (by decide) ?_
  have key : ∀ q : Nat, q ≤ aPn A → ∀ c z : Int, z = (q : Int) → c = zsum (fun p => if holdK K (aN A) (aPk A p) = -9 then 1 else 0) q → ZV X E_X3_printedWithoutMeaning 4 [some (.ref t), some (vi c), some (vi z)] [] b g I J post := by
    refine loop_up (aPn A) ?_ ?_
    · intro c z hz hc
      refine ZV_iload_n dX3_printedWithoutMeaning_4 rfl ?_
      refine ZV_aload_n dX3_printedWithoutMeaning_5 rfl ?_
      refine ZV_getI fX3_printedWithoutMeaning_42 dX3_printedWithoutMeaning_6 (by assumption) rfl ?_
      refine ZV_icmp_ge (tgt := 36) dX3_printedWithoutMeaning_9 (by decide) ⟨by omega, by omega⟩ ⟨by omega, by omega⟩ (fun h9 => ?_) (fun h9 => ?_)
      · refine ZV_iload_n dX3_printedWithoutMeaning_36 rfl ?_
        refine ZV_iret dX3_printedWithoutMeaning_37 rfl ?_
        rw [hc]
        exact h
      · omega
    · intro q hq ih c z hz hc
      have k3 := hpk q hq
      have hh := zfst_rng (fun i => if K i = aPk A q then 1 else 0) (aN A)
      have hh2 : holdK K (aN A) (aPk A q) = zfst (fun i => if K i = aPk A q then 1 else 0) (aN A) := rfl
      refine ZV_iload_n dX3_printedWithoutMeaning_4 rfl ?_
      refine ZV_aload_n dX3_printedWithoutMeaning_5 rfl ?_
      refine ZV_getI fX3_printedWithoutMeaning_42 dX3_printedWithoutMeaning_6 (by assumption) rfl ?_
      refine ZV_icmp_ge (tgt := 36) dX3_printedWithoutMeaning_9 (by decide) ⟨by omega, by omega⟩ ⟨by omega, by omega⟩ (fun h9 => ?_) (fun h9 => ?_)
      · omega
      · refine ZV_aload_n dX3_printedWithoutMeaning_12 rfl ?_
        refine ZV_aload_n dX3_printedWithoutMeaning_13 rfl ?_
        refine ZV_getR fX3_printedWithoutMeaning_25 dX3_printedWithoutMeaning_14 (by assumption) rfl (by assumption) ?_
        refine ZV_iload_n dX3_printedWithoutMeaning_17 rfl ?_
        refine ZV_lald (q) dX3_printedWithoutMeaning_18 (by assumption) (by first | rfl | omega) (by omega) (by omega) ?_
        rw [(a6 q hq).1]
        refine cl_X3_holderOf kX3_printedWithoutMeaning_105 rfl dX3_printedWithoutMeaning_19 (by assumption) (Nat.le_of_ble_eq_true rfl) ?_
        refine sp_X3_holderOf hL' hA' hO hK hKr k3 ?_
        refine ZV_bipush dX3_printedWithoutMeaning_22 (by decide) ?_
        refine ZV_icmp_ne (tgt := 30) dX3_printedWithoutMeaning_24 (by decide) ⟨by omega, by omega⟩ ⟨by omega, by omega⟩ (fun h24 => ?_) (fun h24 => ?_)
        · refine ZV_jinc2 dX3_printedWithoutMeaning_30 rfl (by decide) ?_
          refine ZV_goto (tgt := 4) dX3_printedWithoutMeaning_33 (by decide) ?_
          exact ih _ _ (by omega) (by simp only [zsum]; rw [if_neg h24]; omega)
        · refine ZV_jinc1 dX3_printedWithoutMeaning_27 rfl (by decide) ?_
          refine ZV_jinc2 dX3_printedWithoutMeaning_30 rfl (by decide) ?_
          refine ZV_goto (tgt := 4) dX3_printedWithoutMeaning_33 (by decide) ?_
          exact ih _ _ (by omega) (by simp only [zsum]; rw [if_pos h24]; omega)
  exact key 0 (by omega) _ _ rfl rfl
theorem sp_X3_printedOfAnother {t : Nat} {A : ASt} {K : Nat → Int} (hL : SL X g t) (hA : StAt g I J t A) (hO : StOK A) (hK : KyAt J t (aN A) K) (hKr : ∀ i, i < aN A → r64 (K i)) (hpk : ∀ p, p < aPn A → r64 (aPk A p) ∧ r32 (aPo A p)) (h : post (.inl (some (vi ((aPn A : Int) - zsum (fun p => if holdK K (aN A) (aPk A p) = aPo A p then 1 else 0) (aPn A) - zsum (fun p => if holdK K (aN A) (aPk A p) = -9 then 1 else 0) (aPn A))))) g I J) : ZV X E_X3_printedOfAnother 0 [some (.ref t)] [] b g I J post := by
  have hL' := hL
  have hA' := hA
  obtain ⟨⟨s1, s2, s3, s4, s5, s6⟩, ⟨s7, s8, s9, s10, s11⟩, -⟩ := hL
  obtain ⟨⟨a1, a2, a3, a4⟩, a5, a6⟩ := hA
  refine ZV_aload_n dX3_printedOfAnother_0 rfl ?_
  refine ZV_getI fX3_printedOfAnother_42 dX3_printedOfAnother_1 (by assumption) rfl ?_
  rw [a4]
  refine ZV_aload_n dX3_printedOfAnother_4 rfl ?_
  refine cl_X3_printedStillRight kX3_printedOfAnother_108 rfl dX3_printedOfAnother_5 (by assumption) (Nat.le_of_ble_eq_true rfl) ?_
  refine sp_X3_printedStillRight hL' hA' hO hK hKr hpk ?_
  refine ZV_isub dX3_printedOfAnother_8 ?_
  refine ZV_aload_n dX3_printedOfAnother_9 rfl ?_
  refine cl_X3_printedWithoutMeaning kX3_printedOfAnother_112 rfl dX3_printedOfAnother_10 (by assumption) (Nat.le_of_ble_eq_true rfl) ?_
  refine sp_X3_printedWithoutMeaning hL' hA' hO hK hKr (fun p hp => (hpk p hp).1) ?_
  refine ZV_isub dX3_printedOfAnother_13 ?_
  refine ZV_iret dX3_printedOfAnother_14 rfl ?_
  exact h
end ZR2

