/-! CitationKeys: print, undo, add, change -/
section ZA3
variable {X : Xt} {g : Geo} {I J : Mm} {b : Nat × Nat} {post : Out → Geo → Mm → Mm → Prop}
theorem sp_X6_print {c : Nat} {Q : AC} (hC : CInv X g I J c Q) (h : ∀ I' J', CFr g g I I' J J' c → CInv X g I' J' c (Q.1, aPrint Q.2.1 (keyOf Q.2.1), hpush Q.2.2.1 Q.2.1, Q.2.2.2) → post (.inl (some (vi (aN Q.2.1)))) g I' J') : ZV X E_X6_print 0 [some (.ref c)] [] b g I J post := by
  obtain ⟨⟨l0, l1, l2, l3, l4, l5, l6, l7⟩, lT, lN, -, -, lH, -⟩ := id hC.1
  have lh := lH.1.1
  have ln := lN.1.1
  refine ZV_aload_n dX6_print_0 rfl ?_
  refine ZV_getR fX6_print_36 dX6_print_1 (by assumption) rfl (by assumption) ?_
  refine ZV_aload_n dX6_print_4 rfl ?_
  refine ZV_getR fX6_print_19 dX6_print_5 (by assumption) rfl (by assumption) ?_
  refine cl_X0_remember kX6_print_206 rfl dX6_print_8 (by assumption) (Nat.le_of_ble_eq_true rfl) ?_
  refine CInv.remember hC ?_
  intro I1 J1 hF1 hC1
  obtain ⟨hL1, hg1, hT1, ⟨⟨hA1, hK1, hS1⟩, hG1⟩, hH1, hV1⟩ := hC1
  refine ZV_aload_n dX6_print_11 rfl ?_
  refine ZV_getR fX6_print_19 dX6_print_12 (by assumption) rfl (by assumption) ?_
  refine cl_X3_printKeys kX6_print_227 rfl dX6_print_15 (by assumption) (Nat.le_of_ble_eq_true rfl) ?_
  refine sp_X3_printKeys lN hA1 hG1.1 hK1 ?_
  intro I2 J2 hA2 hI2 hJ2
  have hF2 : FrO I1 I2 J1 J2 (c + 36) (c + 74) := fun q hq => ⟨hI2 q (by omega), hJ2 q (by omega)⟩
  refine ZV_aload_n dX6_print_18 rfl ?_
  refine ZV_getR fX6_print_19 dX6_print_19 (by assumption) rfl (by assumption) ?_
  refine ZV_getI fX6_print_112 dX6_print_22 (by assumption) rfl ?_
  rw [hA2.1.2.2.2]
  refine ZV_iret dX6_print_25 rfl ?_
  refine h _ _ (CFr.tr ⟨rfl, fun q hq => ⟨rfl, hF1 q (by omega)⟩⟩ (hF2.cf g (by omega) (by omega))) ⟨hL1, hg1, hT1.rw' (fun q q1 q2 => (hF2 q (by omega)).1), ⟨⟨hA2, ?_, ?_⟩, hG1.print⟩, hH1.rw' hL1 (fun q q1 q2 => rfl) (fun q q1 q2 => hF2 q (by omega)), hV1.rw' hL1 (fun q q1 q2 => rfl) (fun q q1 q2 => hF2 q (by omega))⟩
  · intro i hi
    rw [hJ2 _ (by omega)]
    exact hK1 i hi
  · intro i hi
    rw [hJ2 _ (by omega)]
    exact hS1 i hi
theorem sp_X6_undo {c : Nat} {Q : AC} (hC : CInv X g I J c Q) (hb : 1 ≤ b.1 ∧ 6 ≤ b.2) (hx1 : Q.2.2.1.1 = 0 → post (.inr zISE) g I J) (hx2 : ∀ k, Q.2.2.1.1 = k + 1 → ∀ I' J', CFr g g I I' J J' c → CInv X g I' J' c (Q.1, Q.2.2.1.2 k, (k, Q.2.2.1.2), Q.2.2.2) → post (.inl (some (vi (k : Int)))) g I' J') : ZV X E_X6_undo 0 [some (.ref c)] [] b g I J post := by
  obtain ⟨⟨l0, l1, l2, l3, l4, l5, l6, l7⟩, lT, lN, -, -, lH, -⟩ := id hC.1
  have lh := lH.1.1
  have ln := lN.1.1
  have hg := hC.2.1
  obtain ⟨hL, -, hT, hN, ⟨o, o1, o2, o3, o4, o5⟩, hV⟩ := hC
  refine ZV_aload_n dX6_undo_0 rfl ?_
  refine ZV_getR fX6_undo_36 dX6_undo_1 (by assumption) rfl (by assumption) ?_
  refine ZV_getI fX6_undo_230 dX6_undo_4 (by assumption) rfl ?_
  rw [o3]
  refine ZV_if_ne (tgt := 20) dX6_undo_7 (by decide) ⟨by omega, by omega⟩ (fun h7 => ?_) (fun h7 => ?_)
  · obtain ⟨k, hk⟩ : ∃ k, Q.2.2.1.1 = k + 1 := ⟨Q.2.2.1.1 - 1, by omega⟩
    have hst := o5 k (by omega)
    have hm : (o + k) % 14 < 14 := Nat.mod_lt _ (by decide)
    have ea : c + 114 + 2 + 38 * ((o + k) % 14) = c + 116 + 38 * ((o + k) % 14) := by omega
    refine ZV_aload_n dX6_undo_20 rfl ?_
    refine ZV_getR fX6_undo_36 dX6_undo_21 (by assumption) rfl (by assumption) ?_
    refine ZV_aload_n dX6_undo_24 rfl ?_
    refine ZV_getR fX6_undo_19 dX6_undo_25 (by assumption) rfl (by assumption) ?_
    refine cl_X0_takeBack kX6_undo_235 rfl dX6_undo_28 (by assumption) (Nat.le_of_ble_eq_true rfl) ?_
    refine sp_X0_takeBack (k := k) lH lN (by omega) o2 o1 (by rw [o3, hk]) (by omega) (by rw [ea]; exact hst.1) hst.2.1 ?_
    intro I1 J1 e1 e2 hs hf hj
    refine ZV_aload_n dX6_undo_31 rfl ?_
    refine ZV_getR fX6_undo_36 dX6_undo_32 (by assumption) rfl (by assumption) ?_
    refine ZV_getI fX6_undo_230 dX6_undo_35 (by assumption) rfl ?_
    rw [e2]
    refine ZV_iret dX6_undo_38 rfl ?_
    refine hx2 k hk _ _ ⟨rfl, fun q hq => ⟨rfl, hf q (by omega)⟩⟩ ⟨hL, hg, hT.rw' (fun q q1 q2 => (hf q (by omega)).1), ⟨hs, hst.2⟩, ⟨o, o1, e1, e2, by show k ≤ 14; omega, fun j hj2 => ?_⟩, hV.rw' hL (fun _ _ _ => rfl) (fun q q1 q2 => hf q (by omega))⟩
    have hj3 : j < k := hj2
    have hm2 : (o + j) % 14 < 14 := Nat.mod_lt _ (by decide)
    have hS : SL X g (c + 116 + 38 * ((o + j) % 14)) := (hL.2.2.2.2.2.1.2 _ hm2).2
    exact (o5 j (by omega)).rw' hS rfl (fun q q1 q2 => hf q (by omega))
  · refine ZV_throw tX6_undo_10 rfl dX6_undo_10 dX6_undo_13 dX6_undo_14 dX6_undo_16 dX6_undo_19 ⟨by decide, by decide⟩ ⟨by first | omega | (dsimp only; omega), by first | omega | (dsimp only; omega)⟩ (by assumption) ?_
    exact hx1 (by omega)
theorem sp_X6_add {c : Nat} {Q : AC} (hC : CInv X g I J c Q) (hb : 1 ≤ b.1 ∧ 6 ≤ b.2) (hx1 : ¬ oneW Q.1 → ∀ I' J', CFr g g I I' J J' c → CInv X g I' J' c Q → post (.inr zISE) g I' J') (hx2 : ∀ s, rdv Q.1.2 Q.1.1 = -9 → rn Q.1.2 Q.1.1 = some s → s.1 = 1 → 16 ≤ aN Q.2.1 → ∀ I' J', CFr g g I I' J J' c → CInv X g I' J' c Q → post (.inr zISE) g I' J') (hx3 : ∀ s, rdv Q.1.2 Q.1.1 = -9 → rn Q.1.2 Q.1.1 = some s → s.1 = 1 → AWF (s.2.2.2 0) → aN Q.2.1 < 16 → ∀ I' J', CFr g g I I' J J' c → CInv X g I' J' c (Q.1, aPlace Q.2.1 (s.2.2.2 0), hpush Q.2.2.1 Q.2.1, Q.2.2.2) → post (.inl (some (vi (aN Q.2.1)))) g I' J') : ZV X E_X6_add 0 [some (.ref c)] [] b g I J post := by
  obtain ⟨⟨l0, l1, l2, l3, l4, l5, l6, l7⟩, lT, lN, -, -, lH, -⟩ := id hC.1
  obtain ⟨⟨m1, m2, m3, m4, m5⟩, m6⟩ := id lT
  obtain ⟨m7, m8⟩ := m6 0 (by decide)
  have m9 := m8.1
  have lh := lH.1.1
  have ln := lN.1.1
  have hg := hC.2.1
  have hn := hC.2.2.2.1.2.1.1
  refine ZV_aload_n dX6_add_0 rfl ?_
  refine cl_X6_tellsOneWork kX6_add_198 rfl dX6_add_1 (by assumption) (Nat.le_of_ble_eq_true rfl) ?_
  refine sp_X6_tellsOneWork hC ?_
  intro I1 J1 r hF1 hC1 hr
  rcases hr with ⟨e, w1, s, w2, w3, w4, w5, w6, w7⟩ | ⟨e, w1⟩
  · subst e
    obtain ⟨hL1, hg1, hT1, ⟨⟨hA1, hK1, hS1⟩, hG1⟩, hH1, hV1⟩ := id hC1
    have eN := hA1.1.1
    refine ZV_if_ne (tgt := 17) dX6_add_4 (by decide) ⟨by omega, by omega⟩ (fun h4 => ?_) (fun h4 => ?_)
    · refine ZV_aload_n dX6_add_17 rfl ?_
      refine ZV_getR fX6_add_19 dX6_add_18 (by assumption) rfl (by assumption) ?_
      refine ZV_getI fX6_add_94 dX6_add_21 (by assumption) rfl ?_
      rw [eN]
      refine ZV_bipush dX6_add_24 (by decide) ?_
      refine ZV_icmp_lt (tgt := 39) dX6_add_26 (by decide) ⟨by omega, by omega⟩ ⟨by omega, by omega⟩ (fun h26 => ?_) (fun h26 => ?_)
      · have hW : AWF (s.2.2.2 0) := by
          have := w7.2.1
          rw [w3, w4] at this
          exact CWF_AWF this w5
        have hWk := w6.2.2.2 0 (by omega)
        refine ZV_aload_n dX6_add_39 rfl ?_
        refine ZV_getR fX6_add_36 dX6_add_40 (by assumption) rfl (by assumption) ?_
        refine ZV_aload_n dX6_add_43 rfl ?_
        refine ZV_getR fX6_add_19 dX6_add_44 (by assumption) rfl (by assumption) ?_
        refine cl_X0_remember kX6_add_206 rfl dX6_add_47 (by assumption) (Nat.le_of_ble_eq_true rfl) ?_
        refine CInv.remember hC1 ?_
        intro I2 J2 hF2 hC2
        obtain ⟨hA2, hG2, hK2, hr2⟩ : StAt g I2 J2 (c + 36) Q.2.1 ∧ GoodSt Q.2.1 ∧ KyAt J2 (c + 36) (aN Q.2.1) (keyOf Q.2.1) ∧ ∀ i, i < aN Q.2.1 → r64 (keyOf Q.2.1 i) := hC2.pre.2.2.2.1
        have hWk2 : WkAt I2 J2 (c + 1 + 3 + 2 * 0) (s.2.2.2 0) := by
          obtain ⟨v1, v2, v3, v4⟩ := hWk
          have f1 := hF2 (c + 1 + 3 + 2 * 0) (by omega)
          have f2 := hF2 (c + 1 + 3 + 2 * 0 + 1) (by omega)
          exact ⟨fun a ha => by rw [f2.2]; exact v1 a ha, by rw [f1.1]; exact v2, by rw [f1.1]; exact v3, by rw [f1.2]; exact v4⟩
        refine ZV_aload_n dX6_add_50 rfl ?_
        refine ZV_getR fX6_add_19 dX6_add_51 (by assumption) rfl (by assumption) ?_
        refine ZV_aload_n dX6_add_54 rfl ?_
        refine ZV_getR fX6_add_10 dX6_add_55 (by assumption) rfl (by assumption) ?_
        refine ZV_getR fX6_add_80 dX6_add_58 (by assumption) rfl (by assumption) ?_
        refine ZV_iconst dX6_add_61 ?_
        first | refine ZV_aaldW (0) dX6_add_62 (by assumption) (by first | rfl | omega) (by omega) (by omega) (by assumption) ?_ | refine ZV_aaldS (0) dX6_add_62 (by assumption) (by first | rfl | omega) (by omega) (by omega) (by assumption) ?_
        refine cl_X3_place kX6_add_84 rfl dX6_add_63 (by assumption) (Nat.le_of_ble_eq_true rfl) ?_
        refine sp_X3_place lN m8 (by omega) hA2 hG2.1 hK2 hWk2 (by omega) ?_
        intro I3 J3 hA3 hK3 hF3
        have hP : CPre X g I3 J3 c Q.1 (aPlace Q.2.1 (s.2.2.2 0)) (fun i => if i = aN Q.2.1 then 0 else keyOf Q.2.1 i) (hpush Q.2.2.1 Q.2.1) Q.2.2.2 := by
          refine hC2.pre.now (GeoFr.rf g _) lN (hF3.mono (by omega) (by omega)) hA3 (hG2.place hW (by omega)) hK3 (fun i hi => ?_)
          have hi2 : i < aN Q.2.1 + 1 := hi
          show r64 (if i = aN Q.2.1 then 0 else keyOf Q.2.1 i)
          split
          · exact ⟨by decide, by decide⟩
          · exact hr2 i (by omega)
        refine ZV_aload_n dX6_add_66 rfl ?_
        refine ZV_getR fX6_add_19 dX6_add_67 (by assumption) rfl (by assumption) ?_
        refine cl_X3_rekey kX6_add_88 rfl dX6_add_70 (by assumption) (Nat.le_of_ble_eq_true rfl) ?_
        refine hP.rekey ?_
        intro J4 hF4 hC4
        have e4 : I3 (c + 36) 1 = (aN Q.2.1 : Int) + 1 := hC4.2.2.2.1.1.1.1.1
        refine ZV_pop dX6_add_73 rfl ?_
        refine ZV_aload_n dX6_add_74 rfl ?_
        refine ZV_getR fX6_add_19 dX6_add_75 (by assumption) rfl (by assumption) ?_
        refine ZV_getI fX6_add_94 dX6_add_78 (by assumption) rfl ?_
        rw [e4]
        refine ZV_iconst dX6_add_81 ?_
        refine ZV_isub dX6_add_82 ?_
        rw [show (aN Q.2.1 : Int) + 1 - 1 = (aN Q.2.1 : Int) by omega]
        refine ZV_iret dX6_add_83 rfl ?_
        exact hx3 s w1 w2 w3 hW (by omega) _ _ (((hF1.tr ⟨rfl, fun q hq => ⟨rfl, hF2 q (by omega)⟩⟩).tr (hF3.cf g (by omega) (by omega))).tr (hF4.cf g (by omega) (by omega))) hC4
      · refine ZV_throw tX6_add_29 rfl dX6_add_29 dX6_add_32 dX6_add_33 dX6_add_35 dX6_add_38 ⟨by decide, by decide⟩ ⟨by first | omega | (dsimp only; omega), by first | omega | (dsimp only; omega)⟩ (by assumption) ?_
        exact hx2 s w1 w2 w3 (by omega) _ _ hF1 hC1
    · omega
  · subst e
    refine ZV_if_ne (tgt := 17) dX6_add_4 (by decide) ⟨by omega, by omega⟩ (fun h4 => ?_) (fun h4 => ?_)
    · omega
    · refine ZV_throw tX6_add_7 rfl dX6_add_7 dX6_add_10 dX6_add_11 dX6_add_13 dX6_add_16 ⟨by decide, by decide⟩ ⟨by first | omega | (dsimp only; omega), by first | omega | (dsimp only; omega)⟩ (by assumption) ?_
      exact hx1 w1 _ _ hF1 hC1
theorem sp_X6_change {c : Nat} {i : Int} {Q : AC} (hC : CInv X g I J c Q) (hi : r32 i) (hb : 2 ≤ b.1 ∧ 12 ≤ b.2) (hx0 : ¬ (0 ≤ i ∧ i < aN Q.2.1) → post (.inr zIOB) g I J) (hx1 : (0 ≤ i ∧ i < aN Q.2.1) → ¬ oneW Q.1 → ∀ I' J', CFr g g I I' J J' c → CInv X g I' J' c Q → post (.inr zISE) g I' J') (hx3 : (0 ≤ i ∧ i < aN Q.2.1) → ∀ s, rdv Q.1.2 Q.1.1 = -9 → rn Q.1.2 Q.1.1 = some s → s.1 = 1 → AWF (s.2.2.2 0) → ∀ I' J', CFr g g I I' J J' c → CInv X g I' J' c (Q.1, aSet Q.2.1 i.toNat (s.2.2.2 0), hpush Q.2.2.1 Q.2.1, Q.2.2.2) → post (.inl (some (vi (chgN (aSet Q.2.1 i.toNat (s.2.2.2 0)) (keyOf Q.2.1))))) g I' J') : ZV X E_X6_change 0 [some (.ref c), some (vi i)] [] b g I J post := by
  obtain ⟨⟨l0, l1, l2, l3, l4, l5, l6, l7⟩, lT, lN, -, -, lH, -⟩ := id hC.1
  obtain ⟨⟨m1, m2, m3, m4, m5⟩, m6⟩ := id lT
  obtain ⟨m7, m8⟩ := m6 0 (by decide)
  have m9 := m8.1
  obtain ⟨⟨s1, s2, s3, s4, s5, s6⟩, ⟨s7, s8, s9, s10, s11⟩, -⟩ := id lN
  have lh := lH.1.1
  have hg := hC.2.1
  have hGd := hC.2.2.2.1.2
  have h16 := hGd.1.1
  refine ZV_aload_n dX6_change_0 rfl ?_
  refine ZV_iload_n dX6_change_1 rfl ?_
  refine cl_X6_needWork kX6_change_120 rfl dX6_change_2 (by assumption) ⟨by first | omega | (dsimp only; omega), by first | omega | (dsimp only; omega)⟩ (Nat.le_of_ble_eq_true rfl) ?_
  refine sp_X6_needWork hC hi ⟨by decide, by decide⟩ ?_
  by_cases hi2 : 0 ≤ i ∧ i < aN Q.2.1
  · refine Or.inl ⟨hi2.1, hi2.2, ?_⟩
    obtain ⟨n, rfl⟩ : ∃ n : Nat, i = n := ⟨i.toNat, by omega⟩
    have hn : n < aN Q.2.1 := by omega
    rw [Int.toNat_natCast] at hx3
    obtain ⟨w1, w2, w3⟩ := SL_sw lN (i := n) (by omega)
    have wk := w2.1
    refine ZV_aload_n dX6_change_5 rfl ?_
    refine cl_X6_tellsOneWork kX6_change_198 rfl dX6_change_6 (by assumption) (Nat.le_of_ble_eq_true rfl) ?_
    refine sp_X6_tellsOneWork hC ?_
    intro I1 J1 r hF1 hC1 hr
    rcases hr with ⟨e, v1, s, v2, v3, v4, v5, v6, v7⟩ | ⟨e, v1⟩
    · subst e
      refine ZV_if_ne (tgt := 22) dX6_change_9 (by decide) ⟨by omega, by omega⟩ (fun h9 => ?_) (fun h9 => ?_)
      · have hW : AWF (s.2.2.2 0) := by
          have := v7.2.1
          rw [v3, v4] at this
          exact CWF_AWF this v5
        have hWk := v6.2.2.2 0 (by omega)
        refine ZV_aload_n dX6_change_22 rfl ?_
        refine ZV_getR fX6_change_36 dX6_change_23 (by assumption) rfl (by assumption) ?_
        refine ZV_aload_n dX6_change_26 rfl ?_
        refine ZV_getR fX6_change_19 dX6_change_27 (by assumption) rfl (by assumption) ?_
        refine cl_X0_remember kX6_change_206 rfl dX6_change_30 (by assumption) (Nat.le_of_ble_eq_true rfl) ?_
        refine CInv.remember hC1 ?_
        intro I2 J2 hF2 hC2
        obtain ⟨hA2, hG2, hK2, hr2⟩ : StAt g I2 J2 (c + 36) Q.2.1 ∧ GoodSt Q.2.1 ∧ KyAt J2 (c + 36) (aN Q.2.1) (keyOf Q.2.1) ∧ ∀ i, i < aN Q.2.1 → r64 (keyOf Q.2.1 i) := hC2.pre.2.2.2.1
        have hWk2 : WkAt I2 J2 (c + 1 + 3 + 2 * 0) (s.2.2.2 0) := by
          obtain ⟨v1, v2, v3, v4⟩ := hWk
          have f1 := hF2 (c + 1 + 3 + 2 * 0) (by omega)
          have f2 := hF2 (c + 1 + 3 + 2 * 0 + 1) (by omega)
          exact ⟨fun a ha => by rw [f2.2]; exact v1 a ha, by rw [f1.1]; exact v2, by rw [f1.1]; exact v3, by rw [f1.2]; exact v4⟩
        refine ZV_aload_n dX6_change_33 rfl ?_
        refine ZV_getR fX6_change_19 dX6_change_34 (by assumption) rfl (by assumption) ?_
        refine ZV_getR fX6_change_124 dX6_change_37 (by assumption) rfl (by assumption) ?_
        refine ZV_iload_n dX6_change_40 rfl ?_
        first | refine ZV_aaldW (n) dX6_change_41 (by assumption) (by first | rfl | omega) (by omega) (by omega) (by assumption) ?_ | refine ZV_aaldS (n) dX6_change_41 (by assumption) (by first | rfl | omega) (by omega) (by omega) (by assumption) ?_
        refine ZV_aload_n dX6_change_42 rfl ?_
        refine ZV_getR fX6_change_10 dX6_change_43 (by assumption) rfl (by assumption) ?_
        refine ZV_getR fX6_change_80 dX6_change_46 (by assumption) rfl (by assumption) ?_
        refine ZV_iconst dX6_change_49 ?_
        first | refine ZV_aaldW (0) dX6_change_50 (by assumption) (by first | rfl | omega) (by omega) (by omega) (by assumption) ?_ | refine ZV_aaldS (0) dX6_change_50 (by assumption) (by first | rfl | omega) (by omega) (by omega) (by assumption) ?_
        refine cl_X5_copyFrom kX6_change_210 rfl dX6_change_51 (by assumption) (Nat.le_of_ble_eq_true rfl) ?_
        refine sp_X5_copyFrom w2 m8 (by omega) hWk2 ?_
        intro I3 J3 hW3 hF3
        have hP : CPre X g I3 J3 c Q.1 (aSet Q.2.1 n (s.2.2.2 0)) (keyOf Q.2.1) (hpush Q.2.2.1 Q.2.1) Q.2.2.2 := by
          refine hC2.pre.now (GeoFr.rf g _) lN (hF3.mono (by omega) (by omega)) ?_ (hGd.set hW) (fun j hj => ?_) hr2
          · obtain ⟨⟨a1, a2, a3, a4⟩, a5, a6⟩ := hA2
            have f0 := (hF3 (c + 36) (by omega)).1
            refine ⟨⟨by rw [f0]; exact a1, by rw [f0]; exact a2, by rw [f0]; exact a3, by rw [f0]; exact a4⟩, fun j hj => ?_, fun p hp => ?_⟩
            · have hj' : j < aN Q.2.1 := hj
              show WkAt I3 J3 (swk g (c + 36) j) (if j = n then s.2.2.2 0 else aW Q.2.1 j)
              by_cases e : j = n
              · rw [if_pos e, e]; exact hW3
              · rw [if_neg e]
                have hne := SL_ne lN (i := j) (j := n) (by omega) (by omega) e
                exact (a5 j hj').fr hF3 (by omega)
            · rw [(hF3 (c + 36 + 36) (by omega)).2, (hF3 (c + 36 + 37) (by omega)).1]
              exact a6 p hp
          · rw [(hF3 (c + 36 + 35) (by omega)).2]
            exact hK2 j hj
        refine ZV_aload_n dX6_change_54 rfl ?_
        refine ZV_getR fX6_change_19 dX6_change_55 (by assumption) rfl (by assumption) ?_
        refine cl_X3_rekey kX6_change_88 rfl dX6_change_58 (by assumption) (Nat.le_of_ble_eq_true rfl) ?_
        refine hP.rekey ?_
        intro J4 hF4 hC4
        have hc1 := chgN_rng (aSet Q.2.1 n (s.2.2.2 0)) (keyOf Q.2.1)
        refine ZV_iret dX6_change_61 rfl ?_
        exact hx3 hi2 s v1 v2 v3 hW _ _ (((hF1.tr ⟨rfl, fun q hq => ⟨rfl, hF2 q (by omega)⟩⟩).tr (hF3.cf g (by omega) (by omega))).tr (hF4.cf g (by omega) (by omega))) hC4
      · omega
    · subst e
      refine ZV_if_ne (tgt := 22) dX6_change_9 (by decide) ⟨by omega, by omega⟩ (fun h9 => ?_) (fun h9 => ?_)
      · omega
      · refine ZV_throw tX6_change_12 rfl dX6_change_12 dX6_change_15 dX6_change_16 dX6_change_18 dX6_change_21 ⟨by decide, by decide⟩ ⟨by first | omega | (dsimp only; omega), by first | omega | (dsimp only; omega)⟩ (by assumption) ?_
        exact hx1 hi2 v1 _ _ hF1 hC1
  · exact Or.inr ⟨hi2, hx0 hi2⟩
end ZA3

