/-! what is kept of a list, whole -/
section ZL6
variable {X : Xt} {g : Geo} {I J : Mm} {b : Nat × Nat} {post : Out → Geo → Mm → Mm → Prop}
theorem sp_kept4 {c : Nat} {Q : AC} {z : Int} {o9 o10 o11 o12 o13 o14 : Option Value} (hC : CInv X g I J c Q) (hb : 30 ≤ b.1 ∧ 180 ≤ b.2) (h : ∀ g' I' J', CFr g g' I I' J J' c → CInv X g' I' J' c Q → post (.inl (some (vi 1))) g' I' J') : ZV X E_L_kept 624 [some (.ref c), some (vi (aN Q.2.1 : Int)), some (vi (aO Q.2.1)), some (vi 1), some (vi (abF Q.2.1 3)), some (vi (abF Q.2.1 4)), some (vl (abF Q.2.1 5)), none, some (vi z), o9, o10, o11, o12, o13, o14] [] b g I J post := by
  have hG := hC.good
  have h16 := hG.1.1
  have hs := hG.1.2.2.1
  have e3 : abL Q.2.1 3 = abF Q.2.1 3 := ab_at Q.2.1 (k := 3) (by decide)
  have e4 : abL Q.2.1 4 = abF Q.2.1 4 := ab_at Q.2.1 (k := 4) (by decide)
  have e5 : abL Q.2.1 5 = abF Q.2.1 5 := ab_at Q.2.1 (k := 5) (by decide)
  have e6 : abL Q.2.1 6 = abF Q.2.1 6 := ab_at Q.2.1 (k := 6) (by decide)
  have e7 : abL Q.2.1 7 = abF Q.2.1 7 := ab_at Q.2.1 (k := 7) (by decide)
  have e1 : abL Q.2.1 1 = aS Q.2.1 := (ab_at Q.2.1 (k := 1) (by decide)).trans rfl
  have p0 : prL Q.2.1 0 = prF Q.2.1 0 := pr_at Q.2.1 (k := 0) (by decide)
  have p1 : prL Q.2.1 1 = prF Q.2.1 1 := pr_at Q.2.1 (k := 1) (by decide)
  have p2 : prL Q.2.1 2 = prF Q.2.1 2 := pr_at Q.2.1 (k := 2) (by decide)
  have r3 := abF_rng hG 3
  have r4 := abF_rng hG 4
  have r5 := abF_rng hG 5
  have r6 := abF_rng hG 6
  have r7 := abF_rng hG 7
  have q0 := prF_rng hG 0
  have q1 := prF_rng hG 1
  have q2 := prF_rng hG 2
  have a6 : abF Q.2.1 6 = (aPn Q.2.1 : Int) := rfl
  have a7 : abF Q.2.1 7 = zsum (fun p => if aPo Q.2.1 p = -2 then (1 : Int) else 0) (aPn Q.2.1) := rfl
  have a3 : abF Q.2.1 3 = letdN Q.2.1 := rfl
  have s2 : prF Q.2.1 2 = prStill Q.2.1 := rfl
  have sm : prF Q.2.1 0 + prF Q.2.1 1 + prF Q.2.1 2 = abF Q.2.1 6 := by
    have s0 : prF Q.2.1 0 = (aPn Q.2.1 : Int) - prStill Q.2.1 - prNone Q.2.1 := rfl
    have s1 : prF Q.2.1 1 = prNone Q.2.1 := rfl
    rw [s0, s1, s2, a6]; omega
  have two := pr_two (A := Q.2.1)
  have r77 : abF Q.2.1 7 ≤ abF Q.2.1 6 := (zsum_01 (f := fun p => if aPo Q.2.1 p = -2 then (1 : Int) else 0) (aPn Q.2.1) (fun p _ => by
    by_cases c : aPo Q.2.1 p = -2
    · exact Or.inr (if_pos c)
    · exact Or.inl (if_neg c))).2
  rw [← s2, ← a7, ← a6] at two
  have l1 : lwL Q.2.1 (aS Q.2.1) = abF Q.2.1 3 := (if_pos ⟨by omega, by omega⟩).trans rfl
  obtain ⟨⟨bq, bq1, bq2, bq3⟩, bmin⟩ := And.intro ((bs_min Q.2.1 4).1 (by decide)) (bs_min Q.2.1 4).2
  have bm := bmin (aS Q.2.1).toNat (by omega)
  have et : (((aS Q.2.1).toNat : Nat) : Int) = aS Q.2.1 := by omega
  rw [et, bq3] at bm
  have bl : letdN (aSty Q.2.1 (aS Q.2.1)) = abF Q.2.1 3 := rfl
  rw [bl] at bm
  have l2 : lwL Q.2.1 (bq : Int) = letdN (aSty Q.2.1 (bq : Int)) := if_pos ⟨by omega, by omega⟩
  have r8 := letdN_rng (aSty Q.2.1 (bq : Int))
  have wr := wtF_rng Q.2.1 (aN Q.2.1)
  refine ZV_iload_n dL_kept_624 rfl ?_
  refine ZV_one_eq (tgt := 790) dL_kept_625 (by decide) ?_
  refine ZV_aload_n dL_kept_628 rfl ?_
  refine ZV_iconst dL_kept_629 ?_
  refine cl_L_about kL_kept_99 rfl dL_kept_630 ⟨by first | omega | (dsimp only; omega), by first | omega | (dsimp only; omega)⟩ (Nat.le_of_ble_eq_true rfl) ?_
  refine sp_L_about hC ⟨by omega, by omega⟩ ⟨by decide, by decide⟩ ?_
  rw [e3]
  refine ZV_iload dL_kept_633 rfl ?_
  refine ZV_i2l dL_kept_635 ⟨by omega, by omega⟩ ?_
  refine ZV_lsame_ne (tgt := 790) dL_kept_636 dL_kept_637 (by decide) ?_
  refine ZV_aload_n dL_kept_640 rfl ?_
  refine ZV_iconst dL_kept_641 ?_
  refine cl_L_about kL_kept_99 rfl dL_kept_642 ⟨by first | omega | (dsimp only; omega), by first | omega | (dsimp only; omega)⟩ (Nat.le_of_ble_eq_true rfl) ?_
  refine sp_L_about hC ⟨by omega, by omega⟩ ⟨by decide, by decide⟩ ?_
  rw [e4]
  refine ZV_iload dL_kept_645 rfl ?_
  refine ZV_i2l dL_kept_647 ⟨by omega, by omega⟩ ?_
  refine ZV_lsame_ne (tgt := 790) dL_kept_648 dL_kept_649 (by decide) ?_
  refine ZV_aload_n dL_kept_652 rfl ?_
  refine ZV_iconst dL_kept_653 ?_
  refine cl_L_about kL_kept_99 rfl dL_kept_654 ⟨by first | omega | (dsimp only; omega), by first | omega | (dsimp only; omega)⟩ (Nat.le_of_ble_eq_true rfl) ?_
  refine sp_L_about hC ⟨by omega, by omega⟩ ⟨by decide, by decide⟩ ?_
  rw [e5]
  refine ZV_lload dL_kept_657 rfl ?_
  refine ZV_lsame_ne (tgt := 790) dL_kept_659 dL_kept_660 (by decide) ?_
  refine ZV_aload_n dL_kept_663 rfl ?_
  refine ZV_iconst dL_kept_664 ?_
  refine cl_L_printed kL_kept_112 rfl dL_kept_665 ⟨by first | omega | (dsimp only; omega), by first | omega | (dsimp only; omega)⟩ (Nat.le_of_ble_eq_true rfl) ?_
  refine sp_L_printed hC ⟨by omega, by omega⟩ ⟨by decide, by decide⟩ ?_
  rw [p0]
  refine ZV_aload_n dL_kept_668 rfl ?_
  refine ZV_iconst dL_kept_669 ?_
  refine cl_L_printed kL_kept_112 rfl dL_kept_670 ⟨by first | omega | (dsimp only; omega), by first | omega | (dsimp only; omega)⟩ (Nat.le_of_ble_eq_true rfl) ?_
  refine sp_L_printed hC ⟨by omega, by omega⟩ ⟨by decide, by decide⟩ ?_
  rw [p1]
  refine ZV_ladd dL_kept_673 ?_
  refine ZV_aload_n dL_kept_674 rfl ?_
  refine ZV_iconst dL_kept_675 ?_
  refine cl_L_printed kL_kept_112 rfl dL_kept_676 ⟨by first | omega | (dsimp only; omega), by first | omega | (dsimp only; omega)⟩ (Nat.le_of_ble_eq_true rfl) ?_
  refine sp_L_printed hC ⟨by omega, by omega⟩ ⟨by decide, by decide⟩ ?_
  rw [p2]
  refine ZV_ladd dL_kept_679 ?_
  rw [sm]
  refine ZV_aload_n dL_kept_680 rfl ?_
  refine ZV_bipush dL_kept_681 (by decide) ?_
  refine cl_L_about kL_kept_99 rfl dL_kept_683 ⟨by first | omega | (dsimp only; omega), by first | omega | (dsimp only; omega)⟩ (Nat.le_of_ble_eq_true rfl) ?_
  refine sp_L_about hC ⟨by omega, by omega⟩ ⟨by decide, by decide⟩ ?_
  rw [e6]
  refine ZV_lsame_ne (tgt := 790) dL_kept_686 dL_kept_687 (by decide) ?_
  refine ZV_aload_n dL_kept_690 rfl ?_
  refine ZV_bipush dL_kept_691 (by decide) ?_
  refine cl_L_about kL_kept_99 rfl dL_kept_693 ⟨by first | omega | (dsimp only; omega), by first | omega | (dsimp only; omega)⟩ (Nat.le_of_ble_eq_true rfl) ?_
  refine sp_L_about hC ⟨by omega, by omega⟩ ⟨by decide, by decide⟩ ?_
  rw [e7]
  refine ZV_aload_n dL_kept_696 rfl ?_
  refine ZV_bipush dL_kept_697 (by decide) ?_
  refine cl_L_about kL_kept_99 rfl dL_kept_699 ⟨by first | omega | (dsimp only; omega), by first | omega | (dsimp only; omega)⟩ (Nat.le_of_ble_eq_true rfl) ?_
  refine sp_L_about hC ⟨by omega, by omega⟩ ⟨by decide, by decide⟩ ?_
  rw [e6]
  refine ZV_lif_gt (tgt := 790) dL_kept_702 dL_kept_703 (by decide) ⟨by omega, by omega⟩ ⟨by omega, by omega⟩ (fun h702 => ?_) (fun h702 => ?_)
  · omega
  · refine ZV_aload_n dL_kept_706 rfl ?_
    refine ZV_iconst dL_kept_707 ?_
    refine cl_L_printed kL_kept_112 rfl dL_kept_708 ⟨by first | omega | (dsimp only; omega), by first | omega | (dsimp only; omega)⟩ (Nat.le_of_ble_eq_true rfl) ?_
    refine sp_L_printed hC ⟨by omega, by omega⟩ ⟨by decide, by decide⟩ ?_
    rw [p2]
    refine ZV_aload_n dL_kept_711 rfl ?_
    refine ZV_bipush dL_kept_712 (by decide) ?_
    refine cl_L_about kL_kept_99 rfl dL_kept_714 ⟨by first | omega | (dsimp only; omega), by first | omega | (dsimp only; omega)⟩ (Nat.le_of_ble_eq_true rfl) ?_
    refine sp_L_about hC ⟨by omega, by omega⟩ ⟨by decide, by decide⟩ ?_
    rw [e6]
    refine ZV_aload_n dL_kept_717 rfl ?_
    refine ZV_bipush dL_kept_718 (by decide) ?_
    refine cl_L_about kL_kept_99 rfl dL_kept_720 ⟨by first | omega | (dsimp only; omega), by first | omega | (dsimp only; omega)⟩ (Nat.le_of_ble_eq_true rfl) ?_
    refine sp_L_about hC ⟨by omega, by omega⟩ ⟨by decide, by decide⟩ ?_
    rw [e7]
    refine ZV_lsub dL_kept_723 ?_
    refine ZV_lif_gt (tgt := 790) dL_kept_724 dL_kept_725 (by decide) ⟨by omega, by omega⟩ ⟨by omega, by omega⟩ (fun h724 => ?_) (fun h724 => ?_)
    · omega
    · refine ZV_aload_n dL_kept_728 rfl ?_
      refine ZV_aload_n dL_kept_729 rfl ?_
      refine ZV_iconst dL_kept_730 ?_
      refine cl_L_about kL_kept_99 rfl dL_kept_731 ⟨by first | omega | (dsimp only; omega), by first | omega | (dsimp only; omega)⟩ (Nat.le_of_ble_eq_true rfl) ?_
      refine sp_L_about hC ⟨by omega, by omega⟩ ⟨by decide, by decide⟩ ?_
      rw [e1]
      refine ZV_l2i dL_kept_734 ?_
      refine cl_L_lettersWith kL_kept_134 rfl dL_kept_735 ⟨by first | omega | (dsimp only; omega), by first | omega | (dsimp only; omega)⟩ (Nat.le_of_ble_eq_true rfl) ?_
      refine sp_L_lettersWith hC ⟨by omega, by omega⟩ ⟨by decide, by decide⟩ ?_
      intro g1 I1 J1 hF1 hC1
      rw [l1]
      have kc1 := hC1.1.1.1
      refine ZV_iload dL_kept_738 rfl ?_
      refine ZV_i2l dL_kept_740 ⟨by omega, by omega⟩ ?_
      refine ZV_lsame_ne (tgt := 790) dL_kept_741 dL_kept_742 (by decide) ?_
      refine ZV_aload_n dL_kept_745 rfl ?_
      refine ZV_aload_n dL_kept_746 rfl ?_
      refine cl_X6_bestStyle kL_kept_197 rfl dL_kept_747 (by assumption) (Nat.le_of_ble_eq_true rfl) ?_
      refine sp_X6_bestStyle hC1 ?_
      intro I2 J2 hF2 hC2
      rw [bq2]
      refine cl_L_lettersWith kL_kept_134 rfl dL_kept_750 ⟨by first | omega | (dsimp only; omega), by first | omega | (dsimp only; omega)⟩ (Nat.le_of_ble_eq_true rfl) ?_
      refine sp_L_lettersWith hC2 ⟨by omega, by omega⟩ ⟨by decide, by decide⟩ ?_
      intro g3 I3 J3 hF3 hC3
      rw [l2]
      have kc3 := hC3.1.1.1
      have hF3' := (hF1.tr hF2).tr hF3
      refine ZV_iload dL_kept_753 rfl ?_
      refine ZV_i2l dL_kept_755 ⟨by omega, by omega⟩ ?_
      refine ZV_lif_gt (tgt := 790) dL_kept_756 dL_kept_757 (by decide) ⟨by omega, by omega⟩ ⟨by omega, by omega⟩ (fun h756 => ?_) (fun h756 => ?_)
      · omega
      · refine ZV_iload_n dL_kept_760 rfl ?_
        refine ZV_if_ne (tgt := 768) dL_kept_761 (by decide) ⟨by omega, by omega⟩ (fun h761 => ?_) (fun h761 => ?_)
        · have hn : aN Q.2.1 ≠ 0 := by omega
          obtain ⟨wq, wq1, wq2, -⟩ := (wt_max Q.2.1 (aN Q.2.1)).1 (by omega)
          refine ZV_iconst dL_kept_768 ?_
          refine ZV_aload_n dL_kept_769 rfl ?_
          refine cl_X6_weightiest kL_kept_200 rfl dL_kept_770 (by assumption) (Nat.le_of_ble_eq_true rfl) ?_
          refine sp_X6_weightiest hC3 ?_
          intro g4 I4 J4 hF4 hC4
          rw [wq2]
          refine ZV_bipush dL_kept_773 (by decide) ?_
          refine ZV_icmp_ne (tgt := 782) dL_kept_775 (by decide) ⟨by omega, by omega⟩ ⟨by omega, by omega⟩ (fun h775 => ?_) (fun h775 => ?_)
          · refine ZV_iconst dL_kept_782 ?_
            refine ZV_icmp_ne (tgt := 790) dL_kept_783 (by decide) ⟨by omega, by omega⟩ ⟨by omega, by omega⟩ (fun h783 => ?_) (fun h783 => ?_)
            · omega
            · refine ZV_iconst dL_kept_786 ?_
              refine ZV_goto (tgt := 791) dL_kept_787 (by decide) ?_
              refine ZV_zret dL_kept_791 rfl (by first | exact Or.inl rfl | exact Or.inr rfl | assumption | omega) ?_
              exact h g4 I4 J4 (hF3'.tr hF4) hC4
          · omega
        · have hn : aN Q.2.1 = 0 := by omega
          refine ZV_iconst dL_kept_764 ?_
          refine ZV_goto (tgt := 769) dL_kept_765 (by decide) ?_
          refine ZV_aload_n dL_kept_769 rfl ?_
          refine cl_X6_weightiest kL_kept_200 rfl dL_kept_770 (by assumption) (Nat.le_of_ble_eq_true rfl) ?_
          refine sp_X6_weightiest hC3 ?_
          intro g4 I4 J4 hF4 hC4
          have w0 : (wtF Q.2.1 (aN Q.2.1)).1 = -9 := by rw [hn]; rfl
          rw [w0]
          refine ZV_bipush dL_kept_773 (by decide) ?_
          refine ZV_icmp_ne (tgt := 782) dL_kept_775 (by decide) ⟨by omega, by omega⟩ ⟨by omega, by omega⟩ (fun h775 => ?_) (fun h775 => ?_)
          · omega
          · refine ZV_iconst dL_kept_778 ?_
            refine ZV_goto (tgt := 783) dL_kept_779 (by decide) ?_
            refine ZV_icmp_ne (tgt := 790) dL_kept_783 (by decide) ⟨by omega, by omega⟩ ⟨by omega, by omega⟩ (fun h783 => ?_) (fun h783 => ?_)
            · omega
            · refine ZV_iconst dL_kept_786 ?_
              refine ZV_goto (tgt := 791) dL_kept_787 (by decide) ?_
              refine ZV_zret dL_kept_791 rfl (by first | exact Or.inl rfl | exact Or.inr rfl | assumption | omega) ?_
              exact h g4 I4 J4 (hF3'.tr hF4) hC4
theorem sp_kept3 {c : Nat} {Q : AC} (hC : CInv X g I J c Q) (h : ∀ g' I' J', CFr g g' I I' J J' c → CInv X g' I' J' c Q → post (.inl (some (vi 1))) g' I' J') : ∀ q : Nat, q ≤ aN Q.2.1 → ∀ (lt st lg z : Int) (o9 o10 o11 o12 o13 o14 : Option Value) (b' : Nat × Nat), z = (q : Int) → lt = zsum (fun i => if 0 < klet (keyOf Q.2.1 i) then (1 : Int) else 0) q → st = zsum (fun i => if klet (keyOf Q.2.1 i) ≤ 1 then (1 : Int) else 0) q → lg = zmx (fun i => klen (keyOf Q.2.1 i)) q → 2330 * (aN Q.2.1 - q) + 30 ≤ b'.1 → 13980 * (aN Q.2.1 - q) + 180 ≤ b'.2 → ZV X E_L_kept 247 [some (.ref c), some (vi (aN Q.2.1 : Int)), some (vi (aO Q.2.1)), some (vi 1), some (vi lt), some (vi st), some (vl lg), none, some (vi z), o9, o10, o11, o12, o13, o14] [] b' g I J post := by
  have hG := hC.good
  have h16 := hG.1.1
  refine loop_up (aN Q.2.1) ?_ ?_
  · intro lt st lg z o9 o10 o11 o12 o13 o14 b' hz hlt hst hlg hb1 hb2
    have r3 : lt = abF Q.2.1 3 := hlt
    have r4 : st = abF Q.2.1 4 := hst
    have r5 : lg = abF Q.2.1 5 := hlg
    rw [r3, r4, r5]
    refine ZV_iload dL_kept_247 rfl ?_
    refine ZV_iload_n dL_kept_249 rfl ?_
    refine ZV_icmp_ge (tgt := 624) dL_kept_250 (by decide) ⟨by omega, by omega⟩ ⟨by omega, by omega⟩ (fun h250 => ?_) (fun h250 => ?_)
    · exact sp_kept4 hC ⟨by omega, by omega⟩ h
    · omega
  · intro i hi ih lt st lg z o9 o10 o11 o12 o13 o14 b' hz hlt hst hlg hb1 hb2
    have hW := hG.2.1 i hi
    have yr := hW.2.2.2.1
    have na := hW.1
    have kl := keyK hG hi
    have kp := key_parts hG hi
    have sp := stem_parts hG hi
    have lr := letOf_rng hG.1 i
    have lk := klet_key hG hi
    have fs := F1_pos hi
    have r1 := zsum_01 (f := F1 Q.2.1 i) (aN Q.2.1) (fun k _ => F1_01 Q.2.1 i k)
    have r2 := zsum_01 (f := F2 Q.2.1 i) (aN Q.2.1) (fun k _ => F2_01 Q.2.1 i k)
    have rl := zsum_01 (f := (fun i => if 0 < klet (keyOf Q.2.1 i) then (1 : Int) else 0)) i (fun k _ => by
      by_cases c : 0 < klet (keyOf Q.2.1 k)
      · exact Or.inr (if_pos c)
      · exact Or.inl (if_neg c))
    have rs := zsum_01 (f := (fun i => if klet (keyOf Q.2.1 i) ≤ 1 then (1 : Int) else 0)) i (fun k _ => by
      by_cases c : klet (keyOf Q.2.1 k) ≤ 1
      · exact Or.inr (if_pos c)
      · exact Or.inl (if_neg c))
    have rm := zmx_rng (f := (fun i => klen (keyOf Q.2.1 i))) (m := 14) (by decide) (fun k => klen_rng (keyOf Q.2.1 k)) i
    rw [← hlt] at rl
    rw [← hst] at rs
    rw [← hlg] at rm
    have n3 : zsum (fun i => if 0 < klet (keyOf Q.2.1 i) then (1 : Int) else 0) (i + 1) = lt + (if 0 < klet (keyOf Q.2.1 i) then (1 : Int) else 0) := by rw [hlt]; rfl
    have n4 : zsum (fun i => if klet (keyOf Q.2.1 i) ≤ 1 then (1 : Int) else 0) (i + 1) = st + (if klet (keyOf Q.2.1 i) ≤ 1 then (1 : Int) else 0) := by rw [hst]; rfl
    have n5 : zmx (fun i => klen (keyOf Q.2.1 i)) (i + 1) = if lg < klen (keyOf Q.2.1 i) then klen (keyOf Q.2.1 i) else lg := by rw [hlg]; rfl
    have w4 : wkL Q.2.1 z 4 = letOf Q.2.1 i := by rw [hz]; exact (wk_at (k := 4) hi (by decide)).trans lk
    have w3 : wkL Q.2.1 z 3 = klen (keyOf Q.2.1 i) := by rw [hz]; exact wk_3 hi
    have w6 : wkL Q.2.1 z 6 = zsum (F1 Q.2.1 i) (aN Q.2.1) := by rw [hz]; exact (wk_at (k := 6) hi (by decide)).trans rfl
    have w0 : wkL Q.2.1 z 0 = (aW Q.2.1 i).2.2.1 := by rw [hz]; exact (wk_at (k := 0) hi (by decide)).trans rfl
    have ky : ∀ y : Int, 0 ≤ y → kyL Q.2.1 z y = kch (keyOf Q.2.1 i) y := fun y hy => by rw [hz]; exact ky_at hi hy
    have lt0 : ltL Q.2.1 z 0 0 = codeAt (nmAt (aW Q.2.1 i) 0) 0 := by rw [hz]; exact lt_at hi ⟨by omega, by omega⟩ (by omega)
    have ss := (stemOf_KWF hG hi).len
    rw [lk] at n3 n4
    have hlet : letOf Q.2.1 i = if 1 < zsum (F1 Q.2.1 i) (aN Q.2.1) then zsum (F2 Q.2.1 i) (aN Q.2.1) + 1 else 0 := let_F Q.2.1 i
    have p589 : ∀ (t s l lt' st' lg' : Int) (b2 : Nat × Nat), t = 1 + (if 0 < letOf Q.2.1 i then 1 else 0) → lt' = zsum (fun i => if 0 < klet (keyOf Q.2.1 i) then (1 : Int) else 0) (i + 1) → st' = zsum (fun i => if klet (keyOf Q.2.1 i) ≤ 1 then (1 : Int) else 0) (i + 1) → lg' = zmx (fun i => klen (keyOf Q.2.1 i)) (i + 1) → s = zsum (F1 Q.2.1 i) (aN Q.2.1) → l = 1 + zsum (F2 Q.2.1 i) (aN Q.2.1) → 2330 * (aN Q.2.1 - (i + 1)) + 30 + 5 ≤ b2.1 → 13980 * (aN Q.2.1 - (i + 1)) + 180 + 30 ≤ b2.2 → ZV X E_L_kept 589 [some (.ref c), some (vi (aN Q.2.1 : Int)), some (vi (aO Q.2.1)), some (vi 1), some (vi lt'), some (vi st'), some (vl lg'), none, some (vi z), some (vi s), some (vi l), some (vl (letOf Q.2.1 i)), none, some (vl (klen (keyOf Q.2.1 i))), none] [vi t, vi (klen (keyOf Q.2.1 i)), vi z, .ref c] b2 g I J post := by
      intro t s l lt' st' lg' b2 ht e3 e4 e5 hs hl k1 k2
      have et : klen (keyOf Q.2.1 i) - t = klen (stemOf Q.2.1 i) - 1 := by rw [kp.1, ht]; omega
      obtain ⟨m, hm⟩ : ∃ m : Nat, (m : Int) = klen (stemOf Q.2.1 i) - 1 := ⟨(klen (stemOf Q.2.1 i) - 1).toNat, by omega⟩
      have ek : kch (keyOf Q.2.1 i) (klen (stemOf Q.2.1 i) - 1) = 48 + (aW Q.2.1 i).2.2.1 % 10 := by
        have q := kp.2.1 m (by omega)
        rw [hm] at q
        rw [q]; exact sp.2
      have em : (aW Q.2.1 i).2.2.1.tmod 10 = (aW Q.2.1 i).2.2.1 % 10 := Int.tmod_eq_emod_of_nonneg (by omega)
      refine ZV_isub dL_kept_589 ?_
      rw [et]
      refine cl_L_key kL_kept_107 rfl dL_kept_590 ⟨by first | omega | (dsimp only; omega), by first | omega | (dsimp only; omega)⟩ (Nat.le_of_ble_eq_true rfl) ?_
      refine sp_L_key hC ⟨by omega, by omega⟩ ⟨by omega, by omega⟩ ⟨by decide, by decide⟩ ?_
      rw [ky _ (show 0 ≤ klen (stemOf Q.2.1 i) - 1 by omega), ek]
      refine ZV_ldc2 (z := 48) dL_kept_593 lL_kept_193 ?_
      refine ZV_aload_n dL_kept_596 rfl ?_
      refine ZV_iload dL_kept_597 rfl ?_
      refine ZV_iconst dL_kept_599 ?_
      refine cl_L_work kL_kept_104 rfl dL_kept_600 ⟨by first | omega | (dsimp only; omega), by first | omega | (dsimp only; omega)⟩ (Nat.le_of_ble_eq_true rfl) ?_
      refine sp_L_work hC ⟨by omega, by omega⟩ ⟨by omega, by omega⟩ ⟨by decide, by decide⟩ ?_
      rw [w0]
      refine ZV_ldc2 (z := 10) dL_kept_603 lL_kept_195 ?_
      refine ZV_lrem dL_kept_606 ⟨by omega, by omega⟩ ⟨by omega, by omega⟩ (by omega) ?_
      rw [em]
      refine ZV_ladd dL_kept_607 ?_
      refine ZV_lsame_ne (tgt := 616) dL_kept_608 dL_kept_609 (by decide) ?_
      refine ZV_iconst dL_kept_612 ?_
      refine ZV_goto (tgt := 617) dL_kept_613 (by decide) ?_
      refine ZV_istore3 dL_kept_617 rfl (by decide) ?_
      refine ZV_jinc8 dL_kept_618 rfl (by decide) ?_
      refine ZV_goto (tgt := 247) dL_kept_621 (by decide) ?_
      exact ih _ _ _ _ _ _ _ _ _ _ _ (by omega) e3 e4 e5 (by first | omega | (dsimp only; omega)) (by first | omega | (dsimp only; omega))
    have p503 : ∀ (s l lt' st' lg' : Int) (b2 : Nat × Nat), lt' = zsum (fun i => if 0 < klet (keyOf Q.2.1 i) then (1 : Int) else 0) (i + 1) → st' = zsum (fun i => if klet (keyOf Q.2.1 i) ≤ 1 then (1 : Int) else 0) (i + 1) → lg' = zmx (fun i => klen (keyOf Q.2.1 i)) (i + 1) → s = zsum (F1 Q.2.1 i) (aN Q.2.1) → l = 1 + zsum (F2 Q.2.1 i) (aN Q.2.1) → 2330 * (aN Q.2.1 - (i + 1)) + 30 + 16 ≤ b2.1 → 13980 * (aN Q.2.1 - (i + 1)) + 180 + 96 ≤ b2.2 → ZV X E_L_kept 503 [some (.ref c), some (vi (aN Q.2.1 : Int)), some (vi (aO Q.2.1)), some (vi 1), some (vi lt'), some (vi st'), some (vl lg'), none, some (vi z), some (vi s), some (vi l), some (vl (letOf Q.2.1 i)), none, some (vl (klen (keyOf Q.2.1 i))), none] [] b2 g I J post := by
      intro s l lt' st' lg' b2 e3 e4 e5 hs hl k1 k2
      have c1 := kch_out (κ := keyOf Q.2.1 i) (Int.le_refl _)
      have k0 := kp.2.1 0 (by omega)
      have k00 : kch (keyOf Q.2.1 i) 0 = codeAt (nmAt (aW Q.2.1 i) 0) 0 := k0.trans sp.1
      refine ZV_aload_n dL_kept_503 rfl ?_
      refine ZV_iload dL_kept_504 rfl ?_
      refine ZV_lload dL_kept_506 rfl ?_
      refine ZV_l2i dL_kept_508 ?_
      refine cl_L_key kL_kept_107 rfl dL_kept_509 ⟨by first | omega | (dsimp only; omega), by first | omega | (dsimp only; omega)⟩ (Nat.le_of_ble_eq_true rfl) ?_
      refine sp_L_key hC ⟨by omega, by omega⟩ ⟨by omega, by omega⟩ ⟨by decide, by decide⟩ ?_
      rw [ky _ (show 0 ≤ klen (keyOf Q.2.1 i) by omega), c1]
      refine ZV_ldc2 (z := -9) dL_kept_512 lL_kept_168 ?_
      refine ZV_lsame_ne (tgt := 616) dL_kept_515 dL_kept_516 (by decide) ?_
      refine ZV_aload_n dL_kept_519 rfl ?_
      refine ZV_iload dL_kept_520 rfl ?_
      refine ZV_iconst dL_kept_522 ?_
      refine cl_L_key kL_kept_107 rfl dL_kept_523 ⟨by first | omega | (dsimp only; omega), by first | omega | (dsimp only; omega)⟩ (Nat.le_of_ble_eq_true rfl) ?_
      refine sp_L_key hC ⟨by omega, by omega⟩ ⟨by omega, by omega⟩ ⟨by decide, by decide⟩ ?_
      rw [ky 0 (by decide), k00]
      refine ZV_aload_n dL_kept_526 rfl ?_
      refine ZV_iload dL_kept_527 rfl ?_
      refine ZV_iconst dL_kept_529 ?_
      refine ZV_iconst dL_kept_530 ?_
      refine cl_L_letter kL_kept_109 rfl dL_kept_531 ⟨by first | omega | (dsimp only; omega), by first | omega | (dsimp only; omega)⟩ (Nat.le_of_ble_eq_true rfl) ?_
      refine sp_L_letter hC ⟨by omega, by omega⟩ ⟨by omega, by omega⟩ ⟨by omega, by omega⟩ ⟨by decide, by decide⟩ ?_
      rw [lt0]
      refine ZV_lsame_ne (tgt := 616) dL_kept_534 dL_kept_535 (by decide) ?_
      refine ZV_lload dL_kept_538 rfl ?_
      refine ZV_ldc2 (z := 3) dL_kept_540 lL_kept_185 ?_
      refine ZV_ldc2 (z := 12) dL_kept_543 lL_kept_187 ?_
      refine cl_L_in kL_kept_164 rfl dL_kept_546 (Nat.le_of_ble_eq_true rfl) ?_
      refine sp_L_in ⟨by omega, by omega⟩ ⟨by omega, by omega⟩ ⟨by omega, by omega⟩ ?_
      rw [if_pos ⟨by omega, by omega⟩]
      refine ZV_one_eq (tgt := 616) dL_kept_549 (by decide) ?_
      refine ZV_aload_n dL_kept_552 rfl ?_
      refine ZV_iload dL_kept_553 rfl ?_
      refine ZV_iconst dL_kept_555 ?_
      refine cl_L_work kL_kept_104 rfl dL_kept_556 ⟨by first | omega | (dsimp only; omega), by first | omega | (dsimp only; omega)⟩ (Nat.le_of_ble_eq_true rfl) ?_
      refine sp_L_work hC ⟨by omega, by omega⟩ ⟨by omega, by omega⟩ ⟨by decide, by decide⟩ ?_
      rw [w0]
      refine ZV_ldc2 (z := 1000) dL_kept_559 lL_kept_189 ?_
      refine ZV_ldc2 (z := 2999) dL_kept_562 lL_kept_191 ?_
      refine cl_L_in kL_kept_164 rfl dL_kept_565 (Nat.le_of_ble_eq_true rfl) ?_
      refine sp_L_in ⟨by omega, by omega⟩ ⟨by omega, by omega⟩ ⟨by omega, by omega⟩ ?_
      rw [if_pos ⟨by omega, by omega⟩]
      refine ZV_one_eq (tgt := 616) dL_kept_568 (by decide) ?_
      refine ZV_aload_n dL_kept_571 rfl ?_
      refine ZV_iload dL_kept_572 rfl ?_
      refine ZV_lload dL_kept_574 rfl ?_
      refine ZV_l2i dL_kept_576 ?_
      refine ZV_lload dL_kept_577 rfl ?_
      refine ZV_lconst (z := 0) dL_kept_579 (by decide) ?_
      refine ZV_lif_le (tgt := 588) dL_kept_580 dL_kept_581 (by decide) ⟨by omega, by omega⟩ ⟨by omega, by omega⟩ (fun h580 => ?_) (fun h580 => ?_)
      · refine ZV_iconst dL_kept_588 ?_
        exact p589 _ _ _ _ _ _ _ (by rw [if_neg (by omega)]; rfl) e3 e4 e5 hs hl (by first | omega | (dsimp only; omega)) (by first | omega | (dsimp only; omega))
      · refine ZV_iconst dL_kept_584 ?_
        refine ZV_goto (tgt := 589) dL_kept_585 (by decide) ?_
        exact p589 _ _ _ _ _ _ _ (by rw [if_pos (by omega)]; rfl) e3 e4 e5 hs hl (by first | omega | (dsimp only; omega)) (by first | omega | (dsimp only; omega))
    have p473 : ∀ (s l lt' st' lg' : Int) (b2 : Nat × Nat), lt' = zsum (fun i => if 0 < klet (keyOf Q.2.1 i) then (1 : Int) else 0) (i + 1) → st' = zsum (fun i => if klet (keyOf Q.2.1 i) ≤ 1 then (1 : Int) else 0) (i + 1) → lg' = zmx (fun i => klen (keyOf Q.2.1 i)) (i + 1) → s = zsum (F1 Q.2.1 i) (aN Q.2.1) → l = 1 + zsum (F2 Q.2.1 i) (aN Q.2.1) → 2330 * (aN Q.2.1 - (i + 1)) + 30 + 18 ≤ b2.1 → 13980 * (aN Q.2.1 - (i + 1)) + 180 + 108 ≤ b2.2 → ZV X E_L_kept 473 [some (.ref c), some (vi (aN Q.2.1 : Int)), some (vi (aO Q.2.1)), some (vi 1), some (vi lt'), some (vi st'), some (vl lg'), none, some (vi z), some (vi s), some (vi l), some (vl (letOf Q.2.1 i)), none, some (vl (klen (keyOf Q.2.1 i))), none] [] b2 g I J post := by
      intro s l lt' st' lg' b2 e3 e4 e5 hs hl k1 k2
      refine ZV_lload dL_kept_473 rfl ?_
      refine ZV_lconst (z := 0) dL_kept_475 (by decide) ?_
      refine ZV_lif_eq (tgt := 503) dL_kept_476 dL_kept_477 (by decide) ⟨by omega, by omega⟩ ⟨by omega, by omega⟩ (fun h476 => ?_) (fun h476 => ?_)
      · exact p503 _ _ _ _ _ _ e3 e4 e5 hs hl (by first | omega | (dsimp only; omega)) (by first | omega | (dsimp only; omega))
      · have l0 : 0 < letOf Q.2.1 i := by omega
        have e1 : klen (keyOf Q.2.1 i) - 1 = klen (stemOf Q.2.1 i) := by rw [kp.1, if_pos l0]; omega
        have e2 := kp.2.2 l0
        have e9 : 97 + letOf Q.2.1 i - 1 = 96 + letOf Q.2.1 i := by omega
        refine ZV_aload_n dL_kept_480 rfl ?_
        refine ZV_iload dL_kept_481 rfl ?_
        refine ZV_lload dL_kept_483 rfl ?_
        refine ZV_l2i dL_kept_485 ?_
        refine ZV_iconst dL_kept_486 ?_
        refine ZV_isub dL_kept_487 ?_
        rw [e1]
        refine cl_L_key kL_kept_107 rfl dL_kept_488 ⟨by first | omega | (dsimp only; omega), by first | omega | (dsimp only; omega)⟩ (Nat.le_of_ble_eq_true rfl) ?_
        refine sp_L_key hC ⟨by omega, by omega⟩ ⟨by omega, by omega⟩ ⟨by decide, by decide⟩ ?_
        rw [ky _ (show 0 ≤ klen (stemOf Q.2.1 i) by omega), e2]
        refine ZV_ldc2 (z := 97) dL_kept_491 lL_kept_183 ?_
        refine ZV_lload dL_kept_494 rfl ?_
        refine ZV_ladd dL_kept_496 ?_
        refine ZV_lconst (z := 1) dL_kept_497 (by decide) ?_
        refine ZV_lsub dL_kept_498 ?_
        rw [e9]
        refine ZV_lsame_ne (tgt := 616) dL_kept_499 dL_kept_500 (by decide) ?_
        exact p503 _ _ _ _ _ _ e3 e4 e5 hs hl (by first | omega | (dsimp only; omega)) (by first | omega | (dsimp only; omega))
    have p433 : ∀ (s l lt' st' lg' : Int) (b2 : Nat × Nat), lt' = zsum (fun i => if 0 < klet (keyOf Q.2.1 i) then (1 : Int) else 0) (i + 1) → st' = zsum (fun i => if klet (keyOf Q.2.1 i) ≤ 1 then (1 : Int) else 0) (i + 1) → lg' = zmx (fun i => klen (keyOf Q.2.1 i)) (i + 1) → s = zsum (F1 Q.2.1 i) (aN Q.2.1) → l = 1 + zsum (F2 Q.2.1 i) (aN Q.2.1) → 2330 * (aN Q.2.1 - (i + 1)) + 30 + 20 ≤ b2.1 → 13980 * (aN Q.2.1 - (i + 1)) + 180 + 120 ≤ b2.2 → ZV X E_L_kept 433 [some (.ref c), some (vi (aN Q.2.1 : Int)), some (vi (aO Q.2.1)), some (vi 1), some (vi lt'), some (vi st'), some (vl lg), none, some (vi z), some (vi s), some (vi l), some (vl (letOf Q.2.1 i)), none, some (vl (klen (keyOf Q.2.1 i))), none] [vl lg'] b2 g I J post := by
      intro s l lt' st' lg' b2 e3 e4 e5 hs hl k1 k2
      refine ZV_lstore6 dL_kept_433 rfl (by decide) ?_
      refine ZV_iload_n dL_kept_435 rfl ?_
      refine ZV_one_eq (tgt := 616) dL_kept_436 (by decide) ?_
      refine ZV_aload_n dL_kept_439 rfl ?_
      refine ZV_iload dL_kept_440 rfl ?_
      refine ZV_bipush dL_kept_442 (by decide) ?_
      refine cl_L_work kL_kept_104 rfl dL_kept_444 ⟨by first | omega | (dsimp only; omega), by first | omega | (dsimp only; omega)⟩ (Nat.le_of_ble_eq_true rfl) ?_
      refine sp_L_work hC ⟨by omega, by omega⟩ ⟨by omega, by omega⟩ ⟨by decide, by decide⟩ ?_
      rw [w6, ← hs]
      refine ZV_iload dL_kept_447 rfl ?_
      refine ZV_i2l dL_kept_449 ⟨by omega, by omega⟩ ?_
      refine ZV_lsame_ne (tgt := 616) dL_kept_450 dL_kept_451 (by decide) ?_
      refine ZV_lload dL_kept_454 rfl ?_
      refine ZV_iload dL_kept_456 rfl ?_
      refine ZV_iconst dL_kept_458 ?_
      refine ZV_icmp_le (tgt := 468) dL_kept_459 (by decide) ⟨by omega, by omega⟩ ⟨by omega, by omega⟩ (fun h459 => ?_) (fun h459 => ?_)
      · refine ZV_lconst (z := 0) dL_kept_468 (by decide) ?_
        refine ZV_lif_ne (tgt := 616) dL_kept_469 dL_kept_470 (by decide) ⟨by omega, by omega⟩ ⟨by omega, by omega⟩ (fun h469 => ?_) (fun h469 => ?_)
        · omega
        · exact p473 _ _ _ _ _ _ e3 e4 e5 hs hl (by first | omega | (dsimp only; omega)) (by first | omega | (dsimp only; omega))
      · refine ZV_iload dL_kept_462 rfl ?_
        refine ZV_i2l dL_kept_464 ⟨by omega, by omega⟩ ?_
        refine ZV_goto (tgt := 469) dL_kept_465 (by decide) ?_
        refine ZV_lif_ne (tgt := 616) dL_kept_469 dL_kept_470 (by decide) ⟨by omega, by omega⟩ ⟨by omega, by omega⟩ (fun h469 => ?_) (fun h469 => ?_)
        · omega
        · exact p473 _ _ _ _ _ _ e3 e4 e5 hs hl (by first | omega | (dsimp only; omega)) (by first | omega | (dsimp only; omega))
    have p415 : ∀ (t s l lt' st' lg' : Int) (b2 : Nat × Nat), st + t = st' → lt' = zsum (fun i => if 0 < klet (keyOf Q.2.1 i) then (1 : Int) else 0) (i + 1) → st' = zsum (fun i => if klet (keyOf Q.2.1 i) ≤ 1 then (1 : Int) else 0) (i + 1) → lg' = zmx (fun i => klen (keyOf Q.2.1 i)) (i + 1) → s = zsum (F1 Q.2.1 i) (aN Q.2.1) → l = 1 + zsum (F2 Q.2.1 i) (aN Q.2.1) → 2330 * (aN Q.2.1 - (i + 1)) + 30 + 20 ≤ b2.1 → 13980 * (aN Q.2.1 - (i + 1)) + 180 + 120 ≤ b2.2 → ZV X E_L_kept 415 [some (.ref c), some (vi (aN Q.2.1 : Int)), some (vi (aO Q.2.1)), some (vi 1), some (vi lt'), some (vi st), some (vl lg), none, some (vi z), some (vi s), some (vi l), some (vl (letOf Q.2.1 i)), none, some (vl (klen (keyOf Q.2.1 i))), none] [vi t, vi st] b2 g I J post := by
      intro t s l lt' st' lg' b2 et e3 e4 e5 hs hl k1 k2
      refine ZV_iadd dL_kept_415 ?_
      rw [et]
      refine ZV_istore5 dL_kept_416 rfl (by decide) ?_
      refine ZV_lload dL_kept_418 rfl ?_
      refine ZV_lload dL_kept_420 rfl ?_
      refine ZV_lif_le (tgt := 431) dL_kept_422 dL_kept_423 (by decide) ⟨by omega, by omega⟩ ⟨by omega, by omega⟩ (fun h422 => ?_) (fun h422 => ?_)
      · refine ZV_lload dL_kept_431 rfl ?_
        exact p433 _ _ _ _ _ _ e3 e4 (by rw [n5, if_neg (by omega)]) hs hl (by first | omega | (dsimp only; omega)) (by first | omega | (dsimp only; omega))
      · refine ZV_lload dL_kept_426 rfl ?_
        refine ZV_goto (tgt := 433) dL_kept_428 (by decide) ?_
        exact p433 _ _ _ _ _ _ e3 e4 (by rw [n5, if_pos (by omega)]) hs hl (by first | omega | (dsimp only; omega)) (by first | omega | (dsimp only; omega))
    have p396 : ∀ (t s l lt' st' lg' : Int) (b2 : Nat × Nat), lt + t = lt' → lt' = zsum (fun i => if 0 < klet (keyOf Q.2.1 i) then (1 : Int) else 0) (i + 1) → st' = zsum (fun i => if klet (keyOf Q.2.1 i) ≤ 1 then (1 : Int) else 0) (i + 1) → lg' = zmx (fun i => klen (keyOf Q.2.1 i)) (i + 1) → s = zsum (F1 Q.2.1 i) (aN Q.2.1) → l = 1 + zsum (F2 Q.2.1 i) (aN Q.2.1) → 2330 * (aN Q.2.1 - (i + 1)) + 30 + 20 ≤ b2.1 → 13980 * (aN Q.2.1 - (i + 1)) + 180 + 120 ≤ b2.2 → ZV X E_L_kept 396 [some (.ref c), some (vi (aN Q.2.1 : Int)), some (vi (aO Q.2.1)), some (vi 1), some (vi lt), some (vi st), some (vl lg), none, some (vi z), some (vi s), some (vi l), some (vl (letOf Q.2.1 i)), none, some (vl (klen (keyOf Q.2.1 i))), none] [vi t, vi lt] b2 g I J post := by
      intro t s l lt' st' lg' b2 et e3 e4 e5 hs hl k1 k2
      refine ZV_iadd dL_kept_396 ?_
      rw [et]
      refine ZV_istore4 dL_kept_397 rfl (by decide) ?_
      refine ZV_iload dL_kept_399 rfl ?_
      refine ZV_lload dL_kept_401 rfl ?_
      refine ZV_ldc2 (z := 2) dL_kept_403 lL_kept_181 ?_
      refine ZV_lif_ge (tgt := 414) dL_kept_406 dL_kept_407 (by decide) ⟨by omega, by omega⟩ ⟨by omega, by omega⟩ (fun h406 => ?_) (fun h406 => ?_)
      · refine ZV_iconst dL_kept_414 ?_
        exact p415 _ _ _ _ _ _ _ (by rw [e4, n4, if_neg (by omega)]) e3 e4 e5 hs hl (by first | omega | (dsimp only; omega)) (by first | omega | (dsimp only; omega))
      · refine ZV_iconst dL_kept_410 ?_
        refine ZV_goto (tgt := 415) dL_kept_411 (by decide) ?_
        exact p415 _ _ _ _ _ _ _ (by rw [e4, n4, if_pos (by omega)]) e3 e4 e5 hs hl (by first | omega | (dsimp only; omega)) (by first | omega | (dsimp only; omega))
    have p364 : ∀ (s l y : Int) (o12 o13 o14 : Option Value) (b2 : Nat × Nat), s = zsum (F1 Q.2.1 i) (aN Q.2.1) → l = 1 + zsum (F2 Q.2.1 i) (aN Q.2.1) → (2330 * (aN Q.2.1 - (i + 1)) + 30 + 24 + 144 * aN Q.2.1, 13980 * (aN Q.2.1 - (i + 1)) + 180 + 144 + 864 * aN Q.2.1).1 ≤ b2.1 + 144 * aN Q.2.1 → (2330 * (aN Q.2.1 - (i + 1)) + 30 + 24 + 144 * aN Q.2.1, 13980 * (aN Q.2.1 - (i + 1)) + 180 + 144 + 864 * aN Q.2.1).2 ≤ b2.2 + 864 * aN Q.2.1 → ZV X E_L_kept 364 [some (.ref c), some (vi (aN Q.2.1 : Int)), some (vi (aO Q.2.1)), some (vi 1), some (vi lt), some (vi st), some (vl lg), none, some (vi z), some (vi s), some (vi l), some (vi y), o12, o13, o14] [] b2 g I J post := by
      intro s l y o12 o13 o14 b2 hs hl k1 k2
      dsimp only at k1 k2
      refine ZV_aload_n dL_kept_364 rfl ?_
      refine ZV_iload dL_kept_365 rfl ?_
      refine ZV_iconst dL_kept_367 ?_
      refine cl_L_work kL_kept_104 rfl dL_kept_368 ⟨by first | omega | (dsimp only; omega), by first | omega | (dsimp only; omega)⟩ (Nat.le_of_ble_eq_true rfl) ?_
      refine sp_L_work hC ⟨by omega, by omega⟩ ⟨by omega, by omega⟩ ⟨by decide, by decide⟩ ?_
      rw [w4]
      refine ZV_lstore11 dL_kept_371 rfl (by decide) ?_
      refine ZV_aload_n dL_kept_373 rfl ?_
      refine ZV_iload dL_kept_374 rfl ?_
      refine ZV_iconst dL_kept_376 ?_
      refine cl_L_work kL_kept_104 rfl dL_kept_377 ⟨by first | omega | (dsimp only; omega), by first | omega | (dsimp only; omega)⟩ (Nat.le_of_ble_eq_true rfl) ?_
      refine sp_L_work hC ⟨by omega, by omega⟩ ⟨by omega, by omega⟩ ⟨by decide, by decide⟩ ?_
      rw [w3]
      refine ZV_lstore13 dL_kept_380 rfl (by decide) ?_
      refine ZV_iload dL_kept_382 rfl ?_
      refine ZV_lload dL_kept_384 rfl ?_
      refine ZV_lconst (z := 0) dL_kept_386 (by decide) ?_
      refine ZV_lif_le (tgt := 395) dL_kept_387 dL_kept_388 (by decide) ⟨by omega, by omega⟩ ⟨by omega, by omega⟩ (fun h387 => ?_) (fun h387 => ?_)
      · refine ZV_iconst dL_kept_395 ?_
        exact p396 _ _ _ _ _ _ _ (by rw [n3, if_neg (by omega)]) rfl rfl rfl hs hl (by first | omega | (dsimp only; omega)) (by first | omega | (dsimp only; omega))
      · refine ZV_iconst dL_kept_391 ?_
        refine ZV_goto (tgt := 396) dL_kept_392 (by decide) ?_
        exact p396 _ _ _ _ _ _ _ (by rw [n3, if_pos (by omega)]) rfl rfl rfl hs hl (by first | omega | (dsimp only; omega)) (by first | omega | (dsimp only; omega))
    refine ZV_iload dL_kept_247 rfl ?_
    refine ZV_iload_n dL_kept_249 rfl ?_
    refine ZV_icmp_ge (tgt := 624) dL_kept_250 (by decide) ⟨by omega, by omega⟩ ⟨by omega, by omega⟩ (fun h250 => ?_) (fun h250 => ?_)
    · omega
    · refine ZV_iload_n dL_kept_253 rfl ?_
      refine ZV_one_eq (tgt := 624) dL_kept_254 (by decide) ?_
      refine ZV_iconst dL_kept_257 ?_
      refine ZV_istore9 dL_kept_258 rfl (by decide) ?_
      refine ZV_iconst dL_kept_260 ?_
      refine ZV_istore10 dL_kept_261 rfl (by decide) ?_
      refine ZV_iconst dL_kept_263 ?_
      refine ZV_istore11 dL_kept_264 rfl (by decide) ?_
      exact sp_kept2 hC hi hz p364 0 (by omega) _ _ _ _ _ _ _ rfl rfl rfl (by first | omega | (dsimp only; omega)) (by first | omega | (dsimp only; omega)) (by first | omega | (dsimp only; omega)) (by first | omega | (dsimp only; omega))
theorem sp_L_kept {c : Nat} {Q : AC} (hC : CInv X g I J c Q) (hb : 40300 ≤ b.1 ∧ 241800 ≤ b.2) (h : ∀ g' I' J', CFr g g' I I' J J' c → CInv X g' I' J' c Q → post (.inl (some (vi 1))) g' I' J') : ZV X E_L_kept 0 [some (.ref c), none, none, none, none, none, none, none, none, none, none, none, none, none, none] [] b g I J post := by
  have hG := hC.good
  have h16 := hG.1.1
  have ho := hG.1.2.2.2.1
  have e2 : abL Q.2.1 2 = aO Q.2.1 := (ab_at Q.2.1 (k := 2) (by decide)).trans rfl
  have ea : atL Q.2.1 (aN Q.2.1 : Int) = -9 := (if_pos (by omega)).trans (at_out (Int.le_refl _))
  have hx : ∀ (z : Int) (o5 o6 o7 o8 o9 o10 o11 : Option Value) (b' : Nat × Nat), z = (aN Q.2.1 : Int) → (37310 + 184 * aN Q.2.1, 223860 + 1104 * aN Q.2.1).1 ≤ b'.1 + 184 * aN Q.2.1 → (37310 + 184 * aN Q.2.1, 223860 + 1104 * aN Q.2.1).2 ≤ b'.2 + 1104 * aN Q.2.1 → ZV X E_L_kept 235 [some (.ref c), some (vi (aN Q.2.1 : Int)), some (vi (aO Q.2.1)), some (vi 1), some (vi z), o5, o6, o7, o8, o9, o10, o11, none, none, none] [] b' g I J post := by
    intro z o5 o6 o7 o8 o9 o10 o11 b' hz k1 k2
    dsimp only at k1 k2
    refine ZV_iconst dL_kept_235 ?_
    refine ZV_istore4 dL_kept_236 rfl (by decide) ?_
    refine ZV_iconst dL_kept_238 ?_
    refine ZV_istore5 dL_kept_239 rfl (by decide) ?_
    refine ZV_lconst (z := 0) dL_kept_241 (by decide) ?_
    refine ZV_lstore6 dL_kept_242 rfl (by decide) ?_
    refine ZV_iconst dL_kept_244 ?_
    refine ZV_istore8 dL_kept_245 rfl (by decide) ?_
    exact sp_kept3 hC h 0 (by omega) _ _ _ _ _ _ _ _ _ _ _ rfl rfl rfl rfl (by first | omega | (dsimp only; omega)) (by first | omega | (dsimp only; omega))
  refine ZV_aload_n dL_kept_0 rfl ?_
  refine ZV_iconst dL_kept_1 ?_
  refine cl_L_about kL_kept_99 rfl dL_kept_2 ⟨by first | omega | (dsimp only; omega), by first | omega | (dsimp only; omega)⟩ (Nat.le_of_ble_eq_true rfl) ?_
  refine sp_L_about hC ⟨by omega, by omega⟩ ⟨by decide, by decide⟩ ?_
  rw [ab_n]
  refine ZV_l2i dL_kept_5 ?_
  refine ZV_istore1 dL_kept_6 rfl (by decide) ?_
  refine ZV_aload_n dL_kept_7 rfl ?_
  refine ZV_iconst dL_kept_8 ?_
  refine cl_L_about kL_kept_99 rfl dL_kept_9 ⟨by first | omega | (dsimp only; omega), by first | omega | (dsimp only; omega)⟩ (Nat.le_of_ble_eq_true rfl) ?_
  refine sp_L_about hC ⟨by omega, by omega⟩ ⟨by decide, by decide⟩ ?_
  rw [e2]
  refine ZV_l2i dL_kept_12 ?_
  refine ZV_istore2 dL_kept_13 rfl (by decide) ?_
  refine ZV_iload_n dL_kept_14 rfl ?_
  refine ZV_i2l dL_kept_15 ⟨by omega, by omega⟩ ?_
  refine ZV_lconst (z := 0) dL_kept_16 (by decide) ?_
  refine ZV_ldc2 (z := 16) dL_kept_17 lL_kept_162 ?_
  refine cl_L_in kL_kept_164 rfl dL_kept_20 (Nat.le_of_ble_eq_true rfl) ?_
  refine sp_L_in ⟨by omega, by omega⟩ ⟨by omega, by omega⟩ ⟨by omega, by omega⟩ ?_
  rw [if_pos ⟨by omega, by omega⟩]
  refine ZV_one_eq (tgt := 42) dL_kept_23 (by decide) ?_
  refine ZV_aload_n dL_kept_26 rfl ?_
  refine ZV_iload_n dL_kept_27 rfl ?_
  refine cl_L_at kL_kept_118 rfl dL_kept_28 ⟨by first | omega | (dsimp only; omega), by first | omega | (dsimp only; omega)⟩ (Nat.le_of_ble_eq_true rfl) ?_
  refine sp_L_at hC ⟨by omega, by omega⟩ ⟨by decide, by decide⟩ ?_
  rw [ea]
  refine ZV_ldc2 (z := -9) dL_kept_31 lL_kept_168 ?_
  refine ZV_lsame_ne (tgt := 42) dL_kept_34 dL_kept_35 (by decide) ?_
  refine ZV_iconst dL_kept_38 ?_
  refine ZV_goto (tgt := 43) dL_kept_39 (by decide) ?_
  refine ZV_istore3 dL_kept_43 rfl (by decide) ?_
  refine ZV_iconst dL_kept_44 ?_
  refine ZV_istore4 dL_kept_45 rfl (by decide) ?_
  exact sp_kept1 hC hx 0 (by omega) _ _ _ _ _ _ _ _ _ rfl (by first | omega | (dsimp only; omega)) (by first | omega | (dsimp only; omega)) (by first | omega | (dsimp only; omega)) (by first | omega | (dsimp only; omega))
end ZL6

