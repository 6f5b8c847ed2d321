/-! CitationKeys: printedMeaning; actions -/
noncomputable def pfst (T : Nat × (Nat → Int)) (A : ASt) (n : Nat) : Int := zfst (fun p => @ite Int (spl T (aPk A p)) (Classical.propDecidable _) 1 0) n
noncomputable def pmeanF (T : Nat × (Nat → Int)) (A : ASt) : Int := if pfst T A (aPn A) = -9 then -9 else aPo A (pfst T A (aPn A)).toNat
/-- how many keys are others than K says -/
def chgN (A : ASt) (K : Nat → Int) : Int := zsum (fun i => if keyOf A i = K i then 0 else 1) (aN A)
theorem chgN_rng (A : ASt) (K : Nat → Int) : 0 ≤ chgN A K ∧ chgN A K ≤ aN A := zsum_01 (aN A) (fun i _ => by by_cases e : keyOf A i = K i <;> simp [e])
section ZA2
variable {X : Xt} {g : Geo} {I J : Mm} {b : Nat × Nat} {post : Out → Geo → Mm → Mm → Prop}
theorem sp_X6_printedMeaning {c : Nat} {Q : AC} (hC : CInv X g I J c Q) (h : post (.inl (some (vi (pmeanF Q.1 Q.2.1)))) g I J) : ZV X E_X6_printedMeaning 0 [some (.ref c), none] [] b g I J post := by
  obtain ⟨⟨⟨l0, l1, l2, l3, l4, l5, l6, l7⟩, lT, lN, -⟩, hg, hT, ⟨⟨hA, hK, hS⟩, hG⟩, -⟩ := hC
  obtain ⟨⟨s1, s2, s3, s4, s5, s6⟩, ⟨s7, s8, s9, s10, s11⟩, -⟩ := id lN
  have lt := lT.1.1
  have hO := hG.1
  have hpn := hO.2.1
  obtain ⟨⟨e1, e2, e3, e4⟩, -, e6⟩ := id hA
  unfold pmeanF at h
  refine ZV_iconst dX6_printedMeaning_0 ?_
  refine ZV_istore1 dX6_printedMeaning_1 rfl (by decide) ?_
  have key : ∀ q : Nat, q ≤ aPn Q.2.1 → ∀ z : Int, z = (q : Int) → pfst Q.1 Q.2.1 q = -9 → ZV X E_X6_printedMeaning 2 [some (.ref c), some (vi z)] [] b g I J post := by
    refine loop_up (aPn Q.2.1) ?_ ?_
    · intro z hz hf
      rw [if_pos hf] at h
      refine ZV_iload_n dX6_printedMeaning_2 rfl ?_
      refine ZV_aload_n dX6_printedMeaning_3 rfl ?_
      refine ZV_getR fX6_printedMeaning_19 dX6_printedMeaning_4 (by assumption) rfl (by assumption) ?_
      refine ZV_getI fX6_printedMeaning_112 dX6_printedMeaning_7 (by assumption) rfl ?_
      rw [e4]
      refine ZV_icmp_ge (tgt := 48) dX6_printedMeaning_10 (by decide) ⟨by omega, by omega⟩ ⟨by omega, by omega⟩ (fun h10 => ?_) (fun h10 => ?_)
      · refine ZV_bipush dX6_printedMeaning_48 (by decide) ?_
        refine ZV_iret dX6_printedMeaning_50 rfl ?_
        exact h
      · omega
    · intro q hq ih z hz hf
      have kr := (hG.2.2 q hq).1.rng
      have ko := (hG.pr q hq).2
      obtain ⟨ko1, ko2⟩ := ko
      refine ZV_iload_n dX6_printedMeaning_2 rfl ?_
      refine ZV_aload_n dX6_printedMeaning_3 rfl ?_
      refine ZV_getR fX6_printedMeaning_19 dX6_printedMeaning_4 (by assumption) rfl (by assumption) ?_
      refine ZV_getI fX6_printedMeaning_112 dX6_printedMeaning_7 (by assumption) rfl ?_
      rw [e4]
      refine ZV_icmp_ge (tgt := 48) dX6_printedMeaning_10 (by decide) ⟨by omega, by omega⟩ ⟨by omega, by omega⟩ (fun h10 => ?_) (fun h10 => ?_)
      · omega
      · refine ZV_aload_n dX6_printedMeaning_13 rfl ?_
        refine ZV_getR fX6_printedMeaning_10 dX6_printedMeaning_14 (by assumption) rfl (by assumption) ?_
        refine ZV_aload_n dX6_printedMeaning_17 rfl ?_
        refine ZV_getR fX6_printedMeaning_19 dX6_printedMeaning_18 (by assumption) rfl (by assumption) ?_
        refine ZV_getR fX6_printedMeaning_180 dX6_printedMeaning_21 (by assumption) rfl (by assumption) ?_
        refine ZV_iload_n dX6_printedMeaning_24 rfl ?_
        refine ZV_lald (q) dX6_printedMeaning_25 (by assumption) (by first | rfl | omega) (by omega) (by omega) ?_
        rw [(e6 q hq).1]
        refine cl_X4_spells kX6_printedMeaning_176 rfl dX6_printedMeaning_26 (by assumption) (Nat.le_of_ble_eq_true rfl) ?_
        refine spells_C lT hT kr.1 ⟨by omega, by omega⟩ ?_
        intro r hr
        have hr2 : r = 0 ∨ r = 1 := by rcases hr with ⟨e, -⟩ | ⟨e, -⟩ <;> omega
        rcases hr with ⟨e, hr⟩ | ⟨e, hr⟩
        · subst e
          have eh : pfst Q.1 Q.2.1 (aPn Q.2.1) = (q : Int) := zfst_hit hf (by rw [if_pos hr]) hq
          rw [eh, if_neg (by omega), Int.toNat_natCast] at h
          refine ZV_if_eq (tgt := 42) dX6_printedMeaning_29 (by decide) ⟨by omega, by omega⟩ (fun h29 => ?_) (fun h29 => ?_)
          · omega
          · refine ZV_aload_n dX6_printedMeaning_32 rfl ?_
            refine ZV_getR fX6_printedMeaning_19 dX6_printedMeaning_33 (by assumption) rfl (by assumption) ?_
            refine ZV_getR fX6_printedMeaning_183 dX6_printedMeaning_36 (by assumption) rfl (by assumption) ?_
            refine ZV_iload_n dX6_printedMeaning_39 rfl ?_
            refine ZV_iald (q) dX6_printedMeaning_40 (by assumption) (by first | rfl | omega) (by omega) (by omega) ?_
            rw [(e6 q hq).2]
            refine ZV_iret dX6_printedMeaning_41 rfl ?_
            exact h
        · subst e
          refine ZV_if_eq (tgt := 42) dX6_printedMeaning_29 (by decide) ⟨by omega, by omega⟩ (fun h29 => ?_) (fun h29 => ?_)
          · refine ZV_jinc1 dX6_printedMeaning_42 rfl (by decide) ?_
            refine ZV_goto (tgt := 2) dX6_printedMeaning_45 (by decide) ?_
            exact ih _ (by omega) (zfst_miss hf (by rw [if_neg hr]; decide))
          · omega
  exact key 0 (by omega) _ rfl rfl
theorem sp_X6_setYear {c : Nat} {i y : Int} {Q : AC} (hC : CInv X g I J c Q) (hi : r32 i) (hy : r32 y) (hb : 2 ≤ b.1 ∧ 12 ≤ b.2) (hx1 : ¬ (0 ≤ i ∧ i < aN Q.2.1) → post (.inr zIOB) g I J) (hx2 : (0 ≤ i ∧ i < aN Q.2.1) → ¬ (1000 ≤ y ∧ y ≤ 2999) → post (.inr zIAE) g I J) (hx3 : (0 ≤ i ∧ i < aN Q.2.1) → (1000 ≤ y ∧ y ≤ 2999) → ∀ I' J', CFr g g I I' J J' c → CInv X g I' J' c (Q.1, aSet Q.2.1 i.toNat (yrW (aW Q.2.1 i.toNat) y), hpush Q.2.2.1 Q.2.1, Q.2.2.2) → post (.inl (some (vi (chgN (aSet Q.2.1 i.toNat (yrW (aW Q.2.1 i.toNat) y)) (keyOf Q.2.1))))) g I' J') : ZV X E_X6_setYear 0 [some (.ref c), some (vi i), some (vi y)] [] b g I J post := by
  obtain ⟨⟨l0, l1, l2, l3, l4, l5, l6, l7⟩, lT, lN, -, -, lH, -⟩ := id hC.1
  have lh := lH.1.1
  have hg := hC.2.1
  obtain ⟨⟨s1, s2, s3, s4, s5, s6⟩, ⟨s7, s8, s9, s10, s11⟩, -⟩ := id lN
  have hy' := hy
  obtain ⟨y1, y2⟩ := hy
  refine ZV_aload_n dX6_setYear_0 rfl ?_
  refine ZV_iload_n dX6_setYear_1 rfl ?_
  refine cl_X6_needWork kX6_setYear_120 rfl dX6_setYear_2 (by assumption) ⟨by first | omega | (dsimp only; omega), by first | omega | (dsimp only; omega)⟩ (Nat.le_of_ble_eq_true rfl) ?_
  refine sp_X6_needWork hC hi ⟨by decide, by decide⟩ ?_
  by_cases hi2 : 0 ≤ i ∧ i < aN Q.2.1
  · refine Or.inl ⟨hi2.1, hi2.2, ?_⟩
    obtain ⟨n, rfl⟩ : ∃ n : Nat, i = n := ⟨i.toNat, by omega⟩
    have hn : n < aN Q.2.1 := by omega
    rw [Int.toNat_natCast] at hx3
    have hGd := hC.2.2.2.1.2
    have h16 := hGd.1.1
    obtain ⟨w1, w2, w3⟩ := SL_sw lN (i := n) (by omega)
    have wk := w2.1
    refine ZV_iload_n dX6_setYear_5 rfl ?_
    refine cl_X6_isYear kX6_setYear_213 rfl dX6_setYear_6 (Nat.le_of_ble_eq_true rfl) ?_
    refine sp_X6_isYear hy' ?_
    by_cases hy2 : 1000 ≤ y ∧ y ≤ 2999
    · rw [if_pos hy2]
      refine ZV_if_ne (tgt := 22) dX6_setYear_9 (by decide) ⟨by omega, by omega⟩ (fun h9 => ?_) (fun h9 => ?_)
      · refine ZV_aload_n dX6_setYear_22 rfl ?_
        refine ZV_getR fX6_setYear_36 dX6_setYear_23 (by assumption) rfl (by assumption) ?_
        refine ZV_aload_n dX6_setYear_26 rfl ?_
        refine ZV_getR fX6_setYear_19 dX6_setYear_27 (by assumption) rfl (by assumption) ?_
        refine cl_X0_remember kX6_setYear_206 rfl dX6_setYear_30 (by assumption) (Nat.le_of_ble_eq_true rfl) ?_
        refine CInv.remember hC ?_
        intro I1 J1 hF1 hC1
        refine ZV_aload_n dX6_setYear_33 rfl ?_
        refine ZV_getR fX6_setYear_19 dX6_setYear_34 (by assumption) rfl (by assumption) ?_
        refine ZV_getR fX6_setYear_124 dX6_setYear_37 (by assumption) rfl (by assumption) ?_
        refine ZV_iload_n dX6_setYear_40 rfl ?_
        first | refine ZV_aaldW (n) dX6_setYear_41 (by assumption) (by first | rfl | omega) (by omega) (by omega) (by assumption) ?_ | refine ZV_aaldS (n) dX6_setYear_41 (by assumption) (by first | rfl | omega) (by omega) (by omega) (by assumption) ?_
        refine ZV_iload_n dX6_setYear_42 rfl ?_
        refine ZV_putI fX6_setYear_125 dX6_setYear_43 (by assumption) rfl ?_
        refine ZV_aload_n dX6_setYear_46 rfl ?_
        refine ZV_getR fX6_setYear_19 dX6_setYear_47 (by assumption) rfl (by assumption) ?_
        refine cl_X3_rekey kX6_setYear_88 rfl dX6_setYear_50 (by assumption) (Nat.le_of_ble_eq_true rfl) ?_
        have hA1 := hC1.2.2.2.1.1.1
        have wn := hA1.2.1 n hn
        have hFy : FrO I1 (up2 I1 (swk g (c + 36) n) 2 y) J1 J1 (swk g (c + 36) n) (swk g (c + 36) n + 1) := fun q hq => ⟨up2_row _ _ (by omega), rfl⟩
        have hP : CPre X g (up2 I1 (swk g (c + 36) n) 2 y) J1 c Q.1 (aSet Q.2.1 n (yrW (aW Q.2.1 n) y)) (keyOf Q.2.1) (hpush Q.2.2.1 Q.2.1) Q.2.2.2 := by
          refine hC1.pre.now (GeoFr.rf g _) lN (hFy.mono (by omega) (by omega)) ?_ (hGd.set ((hGd.2.1 n hn).yr hy2)) hC1.pre.2.2.2.1.2.2.1 (fun i hi => (hGd.ky i hi).2)
          obtain ⟨⟨a1, a2, a3, a4⟩, a5, a6⟩ := hA1
          refine ⟨⟨?_, ?_, ?_, ?_⟩, fun j hj => ?_, fun p hp => ?_⟩
          · rw [up2_a (by omega)]; exact a1
          · rw [up2_a (by omega)]; exact a2
          · rw [up2_a (by omega)]; exact a3
          · rw [up2_a (by omega)]; exact a4
          · have hj' : j < aN Q.2.1 := hj
            show WkAt (up2 I1 (swk g (c + 36) n) 2 y) J1 (swk g (c + 36) j) (if j = n then yrW (aW Q.2.1 n) y else aW Q.2.1 j)
            by_cases e : j = n
            · rw [if_pos e, e]
              exact ⟨wn.1, by rw [up2_k (by decide)]; exact wn.2.1, up2_same _ _ _ _, wn.2.2.2⟩
            · rw [if_neg e]
              have hne := SL_ne lN (i := j) (j := n) (by omega) (by omega) e
              exact (a5 j hj').fr hFy (by omega)
          · rw [up2_a (by omega)]
            exact a6 p hp
        refine hP.rekey ?_
        intro J2 hF2 hC2
        refine ZV_iret dX6_setYear_53 rfl ?_
        have hc1 := chgN_rng (aSet Q.2.1 n (yrW (aW Q.2.1 n) y)) (keyOf Q.2.1)
        refine hx3 hi2 hy2 _ _ ((CFr.tr ⟨rfl, fun q hq => ⟨rfl, hF1 q (by omega)⟩⟩ (hFy.cf g (by omega) (by omega))).tr (hF2.cf g (by omega) (by omega))) hC2
      · omega
    · rw [if_neg hy2]
      refine ZV_if_ne (tgt := 22) dX6_setYear_9 (by decide) ⟨by omega, by omega⟩ (fun h9 => ?_) (fun h9 => ?_)
      · omega
      · refine ZV_throw tX6_setYear_12 rfl dX6_setYear_12 dX6_setYear_15 dX6_setYear_16 dX6_setYear_18 dX6_setYear_21 ⟨by decide, by decide⟩ ⟨by first | omega | (dsimp only; omega), by first | omega | (dsimp only; omega)⟩ (by assumption) ?_
        exact hx2 hi2 hy2
  · exact Or.inr ⟨hi2, hx1 hi2⟩
theorem sp_X6_remove {c : Nat} {i : Int} {Q : AC} (hC : CInv X g I J c Q) (hi : r32 i) (hb : 1 ≤ b.1 ∧ 6 ≤ b.2) (hx1 : ¬ (0 ≤ i ∧ i < aN Q.2.1) → post (.inr zIOB) g I J) (hx2 : (0 ≤ i ∧ i < aN Q.2.1) → ∀ g' I' J', CFr g g' I I' J J' c → CInv X g' I' J' c (Q.1, aTake Q.2.1 i.toNat, hpush Q.2.2.1 Q.2.1, Q.2.2.2) → post (.inl (some (vi (chgN (aTake Q.2.1 i.toNat) (fun j => if j < i.toNat then keyOf Q.2.1 j else keyOf Q.2.1 (j + 1)))))) g' I' J') : ZV X E_X6_remove 0 [some (.ref c), some (vi i)] [] b g I J post := by
  obtain ⟨⟨l0, l1, l2, l3, l4, l5, l6, l7⟩, lT, lN, -, -, lH, -⟩ := id hC.1
  have lh := lH.1.1
  have ln := lN.1.1
  have hg := hC.2.1
  refine ZV_aload_n dX6_remove_0 rfl ?_
  refine ZV_iload_n dX6_remove_1 rfl ?_
  refine cl_X6_needWork kX6_remove_120 rfl dX6_remove_2 (by assumption) ⟨by first | omega | (dsimp only; omega), by first | omega | (dsimp only; omega)⟩ (Nat.le_of_ble_eq_true rfl) ?_
  refine sp_X6_needWork hC hi ⟨by decide, by decide⟩ ?_
  by_cases hi2 : 0 ≤ i ∧ i < aN Q.2.1
  · refine Or.inl ⟨hi2.1, hi2.2, ?_⟩
    obtain ⟨n, rfl⟩ : ∃ n : Nat, i = n := ⟨i.toNat, by omega⟩
    have hn : n < aN Q.2.1 := by omega
    rw [Int.toNat_natCast] at hx2
    have hGd := hC.2.2.2.1.2
    refine ZV_aload_n dX6_remove_5 rfl ?_
    refine ZV_getR fX6_remove_36 dX6_remove_6 (by assumption) rfl (by assumption) ?_
    refine ZV_aload_n dX6_remove_9 rfl ?_
    refine ZV_getR fX6_remove_19 dX6_remove_10 (by assumption) rfl (by assumption) ?_
    refine cl_X0_remember kX6_remove_206 rfl dX6_remove_13 (by assumption) (Nat.le_of_ble_eq_true rfl) ?_
    refine CInv.remember hC ?_
    intro I1 J1 hF1 hC1
    refine ZV_aload_n dX6_remove_16 rfl ?_
    refine ZV_getR fX6_remove_19 dX6_remove_17 (by assumption) rfl (by assumption) ?_
    refine ZV_iload_n dX6_remove_20 rfl ?_
    refine cl_X3_takeOut kX6_remove_219 rfl dX6_remove_21 (by assumption) (Nat.le_of_ble_eq_true rfl) ?_
    obtain ⟨hA1, hG1, hK1, hr1⟩ := hC1.pre.2.2.2.1
    refine sp_X3_takeOut lN hA1 hGd.1 hK1 (fun p hp => (hGd.pr p hp).2) hn rfl ?_
    intro g2 I2 J2 hgf hS2 hA2 hK2 hF2
    have hP : CPre X g2 I2 J2 c Q.1 (aTake Q.2.1 n) (fun j => if j < n then keyOf Q.2.1 j else keyOf Q.2.1 (j + 1)) (hpush Q.2.2.1 Q.2.1) Q.2.2.2 := by
      refine hC1.pre.now hgf hS2 hF2 hA2 (hGd.take hn) hK2 (fun j hj => ?_)
      have hj2 : j < aN Q.2.1 - 1 := hj
      show r64 (if j < n then keyOf Q.2.1 j else keyOf Q.2.1 (j + 1))
      split
      · exact (hGd.ky j (by omega)).2
      · exact (hGd.ky (j + 1) (by omega)).2
    obtain ⟨m0, -, m2, -⟩ := hP.1.1
    have mn := hS2.1.1
    refine ZV_aload_n dX6_remove_24 rfl ?_
    refine ZV_getR fX6_remove_19 dX6_remove_25 (by assumption) rfl (by assumption) ?_
    refine cl_X3_rekey kX6_remove_88 rfl dX6_remove_28 (by assumption) (Nat.le_of_ble_eq_true rfl) ?_
    refine hP.rekey ?_
    intro J3 hF3 hC3
    have hc1 := chgN_rng (aTake Q.2.1 n) (fun j => if j < n then keyOf Q.2.1 j else keyOf Q.2.1 (j + 1))
    refine ZV_iret dX6_remove_31 rfl ?_
    exact hx2 hi2 _ _ _ ((CFr.tr ⟨rfl, fun q hq => ⟨rfl, hF1 q (by omega)⟩⟩ (hF2.cfg hgf (by omega) (by omega) (by omega) (by omega))).tr (hF3.cf g2 (by omega) (by omega))) hC3
  · exact Or.inr ⟨hi2, hx1 hi2⟩
theorem sp_X6_setStyle {c : Nat} {s : Int} {Q : AC} (hC : CInv X g I J c Q) (hs : r32 s) (hb : 1 ≤ b.1 ∧ 6 ≤ b.2) (hx1 : ¬ (0 ≤ s ∧ s < 4) → post (.inr zIAE) g I J) (hx2 : (0 ≤ s ∧ s < 4) → ∀ I' J', CFr g g I I' J J' c → CInv X g I' J' c (Q.1, aSty Q.2.1 s, hpush Q.2.2.1 Q.2.1, Q.2.2.2) → post (.inl (some (vi (aS Q.2.1)))) g I' J') : ZV X E_X6_setStyle 0 [some (.ref c), some (vi s), none] [] b g I J post := by
  obtain ⟨⟨l0, l1, l2, l3, l4, l5, l6, l7⟩, lT, lN, -, -, lH, -⟩ := id hC.1
  have lh := lH.1.1
  have ln := lN.1.1
  have hg := hC.2.1
  refine ZV_iload_n dX6_setStyle_0 rfl ?_
  refine cl_X6_needStyle kX6_setStyle_222 rfl dX6_setStyle_1 ⟨by first | omega | (dsimp only; omega), by first | omega | (dsimp only; omega)⟩ (Nat.le_of_ble_eq_true rfl) ?_
  refine sp_X6_needStyle hs hg ⟨by decide, by decide⟩ ?_
  by_cases hs2 : 0 ≤ s ∧ s < 4
  · refine Or.inl ⟨hs2.1, hs2.2, ?_⟩
    have hGd := hC.2.2.2.1.2
    have hst := hGd.1.2.2.1
    refine ZV_aload_n dX6_setStyle_4 rfl ?_
    refine ZV_getR fX6_setStyle_36 dX6_setStyle_5 (by assumption) rfl (by assumption) ?_
    refine ZV_aload_n dX6_setStyle_8 rfl ?_
    refine ZV_getR fX6_setStyle_19 dX6_setStyle_9 (by assumption) rfl (by assumption) ?_
    refine cl_X0_remember kX6_setStyle_206 rfl dX6_setStyle_12 (by assumption) (Nat.le_of_ble_eq_true rfl) ?_
    refine CInv.remember hC ?_
    intro I1 J1 hF1 hC1
    obtain ⟨hA1, hG1, hK1, hr1⟩ := hC1.pre.2.2.2.1
    obtain ⟨⟨a1, a2, a3, a4⟩, a5, a6⟩ := id hA1
    refine ZV_aload_n dX6_setStyle_15 rfl ?_
    refine ZV_getR fX6_setStyle_19 dX6_setStyle_16 (by assumption) rfl (by assumption) ?_
    refine ZV_getI fX6_setStyle_97 dX6_setStyle_19 (by assumption) rfl ?_
    rw [a2]
    refine ZV_istore2 dX6_setStyle_22 rfl (by decide) ?_
    refine ZV_aload_n dX6_setStyle_23 rfl ?_
    refine ZV_getR fX6_setStyle_19 dX6_setStyle_24 (by assumption) rfl (by assumption) ?_
    refine ZV_iload_n dX6_setStyle_27 rfl ?_
    refine ZV_putI fX6_setStyle_97 dX6_setStyle_28 (by assumption) rfl ?_
    refine ZV_aload_n dX6_setStyle_31 rfl ?_
    refine ZV_getR fX6_setStyle_19 dX6_setStyle_32 (by assumption) rfl (by assumption) ?_
    refine cl_X3_rekey kX6_setStyle_88 rfl dX6_setStyle_35 (by assumption) (Nat.le_of_ble_eq_true rfl) ?_
    have hFs : FrO I1 (up2 I1 (c + 36) 2 s) J1 J1 (c + 36) (c + 36 + 1) := fun q hq => ⟨up2_row _ _ (by omega), rfl⟩
    have hP : CPre X g (up2 I1 (c + 36) 2 s) J1 c Q.1 (aSty Q.2.1 s) (keyOf Q.2.1) (hpush Q.2.2.1 Q.2.1) Q.2.2.2 := by
      refine hC1.pre.now (GeoFr.rf g _) lN (hFs.mono (by omega) (by omega)) ⟨⟨?_, ?_, ?_, ?_⟩, fun j hj => ?_, fun p hp => ?_⟩ (hGd.sty ⟨by omega, by omega⟩) hK1 hr1
      · rw [up2_k (by decide)]; exact a1
      · rw [up2_same]; rfl
      · rw [up2_k (by decide)]; exact a3
      · rw [up2_k (by decide)]; exact a4
      · have hj' : j < aN Q.2.1 := hj
        have h16 := hGd.1.1
        have := (SL_sw lN (i := j) (by omega)).2.2
        exact (a5 j hj').fr hFs (by omega)
      · rw [up2_a (by omega)]
        exact a6 p hp
    refine hP.rekey ?_
    intro J3 hF3 hC3
    refine ZV_pop dX6_setStyle_38 rfl ?_
    refine ZV_iload_n dX6_setStyle_39 rfl ?_
    refine ZV_iret dX6_setStyle_40 rfl ?_
    exact hx2 hs2 _ _ ((CFr.tr ⟨rfl, fun q hq => ⟨rfl, hF1 q (by omega)⟩⟩ (hFs.cf g (by omega) (by omega))).tr (hF3.cf g (by omega) (by omega))) hC3
  · exact Or.inr ⟨hs2, hx1 hs2⟩
theorem sp_X6_setOrder {c : Nat} {o : Int} {Q : AC} (hC : CInv X g I J c Q) (ho : r32 o) (hb : 1 ≤ b.1 ∧ 6 ≤ b.2) (hx1 : ¬ (0 ≤ o ∧ o < 2) → post (.inr zIAE) g I J) (hx2 : (0 ≤ o ∧ o < 2) → ∀ I' J', CFr g g I I' J J' c → CInv X g I' J' c (Q.1, aOrd Q.2.1 o, hpush Q.2.2.1 Q.2.1, Q.2.2.2) → post (.inl (some (vi (chgN (aOrd Q.2.1 o) (keyOf Q.2.1))))) g I' J') : ZV X E_X6_setOrder 0 [some (.ref c), some (vi o)] [] b g I J post := by
  obtain ⟨⟨l0, l1, l2, l3, l4, l5, l6, l7⟩, lT, lN, -, -, lH, -⟩ := id hC.1
  have lh := lH.1.1
  have ln := lN.1.1
  have hg := hC.2.1
  obtain ⟨o1, o2⟩ := ho
  refine ZV_iload_n dX6_setOrder_0 rfl ?_
  refine ZV_if_lt (tgt := 9) dX6_setOrder_1 (by decide) ⟨by omega, by omega⟩ (fun h1 => ?_) (fun h1 => ?_)
  · refine ZV_throw tX6_setOrder_9 rfl dX6_setOrder_9 dX6_setOrder_12 dX6_setOrder_13 dX6_setOrder_15 dX6_setOrder_18 ⟨by decide, by decide⟩ ⟨by first | omega | (dsimp only; omega), by first | omega | (dsimp only; omega)⟩ (by assumption) ?_
    exact hx1 (by omega)
  · refine ZV_iload_n dX6_setOrder_4 rfl ?_
    refine ZV_iconst dX6_setOrder_5 ?_
    refine ZV_icmp_lt (tgt := 19) dX6_setOrder_6 (by decide) ⟨by omega, by omega⟩ ⟨by omega, by omega⟩ (fun h6 => ?_) (fun h6 => ?_)
    · refine ZV_aload_n dX6_setOrder_19 rfl ?_
      refine ZV_getR fX6_setOrder_36 dX6_setOrder_20 (by assumption) rfl (by assumption) ?_
      refine ZV_aload_n dX6_setOrder_23 rfl ?_
      refine ZV_getR fX6_setOrder_19 dX6_setOrder_24 (by assumption) rfl (by assumption) ?_
      refine cl_X0_remember kX6_setOrder_206 rfl dX6_setOrder_27 (by assumption) (Nat.le_of_ble_eq_true rfl) ?_
      have hGd := hC.2.2.2.1.2
      refine CInv.remember hC ?_
      intro I1 J1 hF1 hC1
      obtain ⟨hA1, hG1, hK1, hr1⟩ := hC1.pre.2.2.2.1
      obtain ⟨⟨a1, a2, a3, a4⟩, a5, a6⟩ := id hA1
      refine ZV_aload_n dX6_setOrder_30 rfl ?_
      refine ZV_getR fX6_setOrder_19 dX6_setOrder_31 (by assumption) rfl (by assumption) ?_
      refine ZV_iload_n dX6_setOrder_34 rfl ?_
      refine ZV_putI fX6_setOrder_100 dX6_setOrder_35 (by assumption) rfl ?_
      refine ZV_aload_n dX6_setOrder_38 rfl ?_
      refine ZV_getR fX6_setOrder_19 dX6_setOrder_39 (by assumption) rfl (by assumption) ?_
      refine cl_X3_rekey kX6_setOrder_88 rfl dX6_setOrder_42 (by assumption) (Nat.le_of_ble_eq_true rfl) ?_
      have hFs : FrO I1 (up2 I1 (c + 36) 3 o) J1 J1 (c + 36) (c + 36 + 1) := fun q hq => ⟨up2_row _ _ (by omega), rfl⟩
      have hP : CPre X g (up2 I1 (c + 36) 3 o) J1 c Q.1 (aOrd Q.2.1 o) (keyOf Q.2.1) (hpush Q.2.2.1 Q.2.1) Q.2.2.2 := by
        refine hC1.pre.now (GeoFr.rf g _) lN (hFs.mono (by omega) (by omega)) ⟨⟨?_, ?_, ?_, ?_⟩, fun j hj => ?_, fun p hp => ?_⟩ (hGd.ord (by omega)) hK1 hr1
        · rw [up2_k (by decide)]; exact a1
        · rw [up2_k (by decide)]; exact a2
        · rw [up2_same]; rfl
        · rw [up2_k (by decide)]; exact a4
        · have hj' : j < aN Q.2.1 := hj
          have h16 := hGd.1.1
          have := (SL_sw lN (i := j) (by omega)).2.2
          exact (a5 j hj').fr hFs (by omega)
        · rw [up2_a (by omega)]
          exact a6 p hp
      refine hP.rekey ?_
      intro J3 hF3 hC3
      have hc1 := chgN_rng (aOrd Q.2.1 o) (keyOf Q.2.1)
      refine ZV_iret dX6_setOrder_45 rfl ?_
      exact hx2 ⟨by omega, by omega⟩ _ _ ((CFr.tr ⟨rfl, fun q hq => ⟨rfl, hF1 q (by omega)⟩⟩ (hFs.cf g (by omega) (by omega))).tr (hF3.cf g (by omega) (by omega))) hC3
    · refine ZV_throw tX6_setOrder_9 rfl dX6_setOrder_9 dX6_setOrder_12 dX6_setOrder_13 dX6_setOrder_15 dX6_setOrder_18 ⟨by decide, by decide⟩ ⟨by first | omega | (dsimp only; omega), by first | omega | (dsimp only; omega)⟩ (by assumption) ?_
      exact hx1 (by omega)
end ZA2

