/-! the reference: style, order, print, undo -/
theorem MR.sty {R : Nat → Int} {A : ASt} {s : Int} (h : MR R A) (hG : GoodSt A) : ∀ R' : Nat → Int, R' 1 = s → (∀ k, k ≠ 1 → R' k = R k) → MR R' (aSty A s) := by
  intro R' h1 hr
  obtain ⟨⟨r0, r1, r2, r3⟩, rw1, rp⟩ := h
  refine ⟨⟨by rw [hr 0 (by decide)]; exact r0, h1, by rw [hr 2 (by decide)]; exact r2, by rw [hr 3 (by decide)]; exact r3⟩, fun j hj => ?_, fun p hp => ⟨?_, ?_⟩⟩
  · exact (rw1 j hj).move (p := 4 + 47 * j) (hG.2.1 j hj).1.2 (fun k hk => hr _ (by omega))
  · exact (rp p hp).1.move (p := 756 + 14 * p) (fun k hk => hr _ (by omega))
  · rw [hr _ (by omega)]; exact (rp p hp).2
theorem MR.ord {R : Nat → Int} {A : ASt} {s : Int} (h : MR R A) (hG : GoodSt A) : ∀ R' : Nat → Int, R' 2 = s → (∀ k, k ≠ 2 → R' k = R k) → MR R' (aOrd A s) := by
  intro R' h1 hr
  obtain ⟨⟨r0, r1, r2, r3⟩, rw1, rp⟩ := h
  refine ⟨⟨by rw [hr 0 (by decide)]; exact r0, by rw [hr 1 (by decide)]; exact r1, h1, by rw [hr 3 (by decide)]; exact r3⟩, fun j hj => ?_, fun p hp => ⟨?_, ?_⟩⟩
  · exact (rw1 j hj).move (p := 4 + 47 * j) (hG.2.1 j hj).1.2 (fun k hk => hr _ (by omega))
  · exact (rp p hp).1.move (p := 756 + 14 * p) (fun k hk => hr _ (by omega))
  · rw [hr _ (by omega)]; exact (rp p hp).2
section ZM14
variable {X : Xt} {g : Geo} {I J : Mm} {b : Nat × Nat} {post : Out → Geo → Mm → Mm → Prop}
theorem sp_X7_setStyle {m : Nat} {s : Int} {Q : AC} (hM : MInv X g I m Q) (hs : r32 s) (hx1 : ¬ (0 ≤ s ∧ s < 4) → ∀ I', MP X g I I' m Q 1 → post (.inl (some (vi 0))) g I' J) (hx2 : (0 ≤ s ∧ s < 4) → ∀ I', MP X g I I' m (Q.1, aSty Q.2.1 s, hpush Q.2.2.1 Q.2.1, Q.2.2.2) 0 → post (.inl (some (vi (aS Q.2.1)))) g I' J) : ZV X E_X7_setStyle 0 [some (.ref m), some (vi s), none] [] b g I J post := by
  have hL := hM.1
  have hG := hM.2.2.1.2
  obtain ⟨l0, ⟨p1, p2, p3, p4, p5, p6, p7⟩, ⟨l1, l2, l3, l4, l5, l6⟩, ⟨j1, j2, j3, j4, j5, j6, j7⟩, ⟨k1, k2, k3, k4, k5, k6⟩⟩ := id hL
  have hst := hG.1.2.2.1
  refine ZV_aload_n dX7_setStyle_0 rfl ?_
  refine ZV_iload_n dX7_setStyle_1 rfl ?_
  refine cl_X7_isStyle kX7_setStyle_219 rfl dX7_setStyle_2 (Nat.le_of_ble_eq_true rfl) ?_
  refine sp_X7_isStyle hs ?_
  by_cases hc : 0 ≤ s ∧ s < 4
  · rw [if_pos hc]
    have hx := hx2 hc
    refine ZV_if_eq (tgt := 12) dX7_setStyle_5 (by decide) ⟨by omega, by omega⟩ (fun h5 => ?_) (fun h5 => ?_)
    · omega
    · refine ZV_iconst dX7_setStyle_8 ?_
      refine ZV_goto (tgt := 13) dX7_setStyle_9 (by decide) ?_
      refine cl_X7_refused kX7_setStyle_125 rfl dX7_setStyle_13 (by assumption) (Nat.le_of_ble_eq_true rfl) ?_
      refine sp_X7_refused hL ⟨by decide, by decide⟩ ?_
      rw [if_neg (by decide)]
      have hM2 := hM.ref (w := 0)
      refine ZV_if_eq (tgt := 21) dX7_setStyle_16 (by decide) ⟨by omega, by omega⟩ (fun h16 => ?_) (fun h16 => ?_)
      · refine ZV_aload_n dX7_setStyle_21 rfl ?_
        refine cl_X7_note kX7_setStyle_198 rfl dX7_setStyle_22 (by assumption) (Nat.le_of_ble_eq_true rfl) ?_
        refine sp_X7_note hM2 ?_
        intro I3 hI3 hI3m hM3
        have hR3 : MR (I3 (m + 3)) Q.2.1 := hM3.2.2.1.1
        refine ZV_aload_n dX7_setStyle_25 rfl ?_
        refine ZV_getR fX7_setStyle_16 dX7_setStyle_26 (by assumption) rfl (by assumption) ?_
        refine ZV_iconst dX7_setStyle_29 ?_
        refine ZV_iald (1) dX7_setStyle_30 (by assumption) (by first | rfl | omega) (by omega) (by omega) ?_
        rw [hR3.1.2.1]
        refine ZV_istore2 dX7_setStyle_31 rfl (by decide) ?_
        refine ZV_aload_n dX7_setStyle_32 rfl ?_
        refine ZV_getR fX7_setStyle_16 dX7_setStyle_33 (by assumption) rfl (by assumption) ?_
        refine ZV_iconst dX7_setStyle_36 ?_
        refine ZV_iload_n dX7_setStyle_37 rfl ?_
        refine ZV_iast (1) dX7_setStyle_38 (by assumption) (by first | rfl | omega) (by omega) (by omega) ?_
        refine ZV_iload_n dX7_setStyle_39 rfl ?_
        refine ZV_iret dX7_setStyle_40 rfl ?_
        refine hx _ ⟨fun q hq => by rw [up2_row _ _ (by omega), hI3 q (by omega) (by omega), up2_row _ _ (by omega)], hM3.now (up2_a (by omega) _) (up2_a (by omega) _) (fun q hq => up2_row _ _ (by omega)) (hR3.sty hG _ (up2_same _ _ _ _) (fun k hk => up2_k hk)) (hG.sty ⟨by omega, by omega⟩), ?_⟩
        rw [up2_a (by omega), hI3m 0 (by decide), up2_same]
      · omega
  · rw [if_neg hc]
    refine ZV_if_eq (tgt := 12) dX7_setStyle_5 (by decide) ⟨by omega, by omega⟩ (fun h5 => ?_) (fun h5 => ?_)
    · refine ZV_iconst dX7_setStyle_12 ?_
      refine cl_X7_refused kX7_setStyle_125 rfl dX7_setStyle_13 (by assumption) (Nat.le_of_ble_eq_true rfl) ?_
      refine sp_X7_refused hL ⟨by decide, by decide⟩ ?_
      rw [if_pos (by decide)]
      refine ZV_if_eq (tgt := 21) dX7_setStyle_16 (by decide) ⟨by omega, by omega⟩ (fun h16 => ?_) (fun h16 => ?_)
      · omega
      · refine ZV_iconst dX7_setStyle_19 ?_
        refine ZV_iret dX7_setStyle_20 rfl ?_
        exact hx1 hc _ hM.mp
    · omega
theorem sp_X7_setOrder {m : Nat} {s : Int} {Q : AC} (hM : MInv X g I m Q) (hs : r32 s) (hx1 : ¬ (0 ≤ s ∧ s < 2) → ∀ I', MP X g I I' m Q 1 → post (.inl (some (vi 0))) g I' J) (hx2 : (0 ≤ s ∧ s < 2) → ∀ I', MP X g I I' m (Q.1, aOrd Q.2.1 s, hpush Q.2.2.1 Q.2.1, Q.2.2.2) 0 → post (.inl (some (vi (chgN (aOrd Q.2.1 s) (keyOf Q.2.1))))) g I' J) : ZV X E_X7_setOrder 0 [some (.ref m), some (vi s)] [] b g I J post := by
  have hL := hM.1
  have hG := hM.2.2.1.2
  obtain ⟨l0, ⟨p1, p2, p3, p4, p5, p6, p7⟩, ⟨l1, l2, l3, l4, l5, l6⟩, ⟨j1, j2, j3, j4, j5, j6, j7⟩, ⟨k1, k2, k3, k4, k5, k6⟩⟩ := id hL
  have h16 := hG.1.1
  obtain ⟨s1, s2⟩ := hs
  refine ZV_aload_n dX7_setOrder_0 rfl ?_
  refine ZV_iload_n dX7_setOrder_1 rfl ?_
  refine ZV_i2l dX7_setOrder_2 ⟨by omega, by omega⟩ ?_
  refine ZV_lconst (z := 0) dX7_setOrder_3 (by decide) ?_
  refine ZV_lconst (z := 1) dX7_setOrder_4 (by decide) ?_
  refine cl_X7_in kX7_setOrder_118 rfl dX7_setOrder_5 (Nat.le_of_ble_eq_true rfl) ?_
  refine sp_X7_in ⟨by omega, by omega⟩ ⟨by decide, by decide⟩ ⟨by decide, by decide⟩ ?_
  by_cases hc : 0 ≤ s ∧ s < 2
  · rw [if_pos ⟨hc.1, by omega⟩]
    have hx := hx2 hc
    refine ZV_if_eq (tgt := 15) dX7_setOrder_8 (by decide) ⟨by omega, by omega⟩ (fun h8 => ?_) (fun h8 => ?_)
    · omega
    · refine ZV_iconst dX7_setOrder_11 ?_
      refine ZV_goto (tgt := 16) dX7_setOrder_12 (by decide) ?_
      refine cl_X7_refused kX7_setOrder_125 rfl dX7_setOrder_16 (by assumption) (Nat.le_of_ble_eq_true rfl) ?_
      refine sp_X7_refused hL ⟨by decide, by decide⟩ ?_
      rw [if_neg (by decide)]
      have hM2 := hM.ref (w := 0)
      refine ZV_if_eq (tgt := 24) dX7_setOrder_19 (by decide) ⟨by omega, by omega⟩ (fun h19 => ?_) (fun h19 => ?_)
      · refine ZV_aload_n dX7_setOrder_24 rfl ?_
        refine cl_X7_note kX7_setOrder_198 rfl dX7_setOrder_25 (by assumption) (Nat.le_of_ble_eq_true rfl) ?_
        refine sp_X7_note hM2 ?_
        intro I3 hI3 hI3m hM3
        refine ZV_aload_n dX7_setOrder_28 rfl ?_
        refine cl_X7_layWas kX7_setOrder_201 rfl dX7_setOrder_29 (by assumption) (Nat.le_of_ble_eq_true rfl) ?_
        refine sp_X7_layWas hL hM3.2.2.1.1 hG ?_
        intro I4 hI4 hW4
        have hR4 : MR (I4 (m + 3)) Q.2.1 := by rw [hI4 _ (by omega) (by omega) (by omega) (by omega) (by omega) (by omega)]; exact hM3.2.2.1.1
        refine ZV_aload_n dX7_setOrder_32 rfl ?_
        refine ZV_getR fX7_setOrder_16 dX7_setOrder_33 (by assumption) rfl (by assumption) ?_
        refine ZV_iconst dX7_setOrder_36 ?_
        refine ZV_iload_n dX7_setOrder_37 rfl ?_
        refine ZV_iast (2) dX7_setOrder_38 (by assumption) (by first | rfl | omega) (by omega) (by omega) ?_
        refine ZV_aload_n dX7_setOrder_39 rfl ?_
        refine ZV_aload_n dX7_setOrder_40 rfl ?_
        refine ZV_getR fX7_setOrder_16 dX7_setOrder_41 (by assumption) rfl (by assumption) ?_
        refine ZV_bipush dX7_setOrder_44 (by decide) ?_
        refine cl_X7_others kX7_setOrder_204 rfl dX7_setOrder_46 (by assumption) (Nat.le_of_ble_eq_true rfl) ?_
        have hG5 : GoodSt (aOrd Q.2.1 s) := hG.ord (by omega)
        have hR5 : MR (up2 I4 (m + 3) 2 s (m + 3)) (aOrd Q.2.1 s) := hR4.ord hG _ (up2_same _ _ _ _) (fun k hk => up2_k hk)
        refine sp_X7_others hL (Or.inl rfl) hR5 hG5 (Or.inl rfl) (was_same hG rfl hW4 (up2_row _ _ (by omega))) ?_
        intro I6 hF6
        have q6 : ∀ q, q < m + 8 → q ≠ m + 3 → I6 q = I3 q := fun q h1 h2 => by rw [hF6 q (by omega) (by omega) (by omega) (by omega) (by omega), up2_row _ _ h2, hI4 q (by omega) (by omega) (by omega) (by omega) (by omega) (by omega)]
        have hcn := chgN_rng (aOrd Q.2.1 s) (keyOf Q.2.1)
        refine ZV_iret dX7_setOrder_49 rfl ?_
        refine hx _ ⟨fun q hq => ?_, hM3.now (by rw [q6 m (by omega) (by omega)]) (by rw [q6 m (by omega) (by omega)]) (fun q hq => q6 q (by omega) (by omega)) (by rw [hF6 _ (by omega) (by omega) (by omega) (by omega) (by omega)]; exact hR5) hG5, ?_⟩
        · rw [hF6 q (by omega) (by omega) (by omega) (by omega) (by omega), up2_row _ _ (by omega), hI4 q (by omega) (by omega) (by omega) (by omega) (by omega) (by omega), hI3 q (by omega) (by omega), up2_row _ _ (by omega)]
        · rw [q6 m (by omega) (by omega), hI3m 0 (by decide), up2_same]
      · omega
  · rw [if_neg (fun q => hc ⟨q.1, by omega⟩)]
    refine ZV_if_eq (tgt := 15) dX7_setOrder_8 (by decide) ⟨by omega, by omega⟩ (fun h8 => ?_) (fun h8 => ?_)
    · refine ZV_iconst dX7_setOrder_15 ?_
      refine cl_X7_refused kX7_setOrder_125 rfl dX7_setOrder_16 (by assumption) (Nat.le_of_ble_eq_true rfl) ?_
      refine sp_X7_refused hL ⟨by decide, by decide⟩ ?_
      rw [if_pos (by decide)]
      refine ZV_if_eq (tgt := 24) dX7_setOrder_19 (by decide) ⟨by omega, by omega⟩ (fun h19 => ?_) (fun h19 => ?_)
      · omega
      · refine ZV_iconst dX7_setOrder_22 ?_
        refine ZV_iret dX7_setOrder_23 rfl ?_
        exact hx1 hc _ hM.mp
    · omega
theorem sp_X7_print {m : Nat} {Q : AC} (hM : MInv X g I m Q) (h : ∀ I', MP X g I I' m (Q.1, aPrint Q.2.1 (keyOf Q.2.1), hpush Q.2.2.1 Q.2.1, Q.2.2.2) 0 → post (.inl (some (vi (aN Q.2.1)))) g I' J) : ZV X E_X7_print 0 [some (.ref m)] [] b g I J post := by
  have hL := hM.1
  have hG := hM.2.2.1.2
  obtain ⟨l0, ⟨p1, p2, p3, p4, p5, p6, p7⟩, ⟨l1, l2, l3, l4, l5, l6⟩, ⟨j1, j2, j3, j4, j5, j6, j7⟩, ⟨k1, k2, k3, k4, k5, k6⟩⟩ := id hL
  have hM2 := hM.ref (w := 0)
  refine ZV_aload_n dX7_print_0 rfl ?_
  refine ZV_iconst dX7_print_1 ?_
  refine ZV_putI fX7_print_54 dX7_print_2 (by assumption) rfl ?_
  refine ZV_aload_n dX7_print_5 rfl ?_
  refine cl_X7_note kX7_print_198 rfl dX7_print_6 (by assumption) (Nat.le_of_ble_eq_true rfl) ?_
  refine sp_X7_note hM2 ?_
  intro I3 hI3 hI3m hM3
  have hR3 : MR (I3 (m + 3)) Q.2.1 := hM3.2.2.1.1
  refine ZV_aload_n dX7_print_9 rfl ?_
  refine ZV_aload_n dX7_print_10 rfl ?_
  refine ZV_getR fX7_print_16 dX7_print_11 (by assumption) rfl (by assumption) ?_
  refine cl_X7_goPrint kX7_print_222 rfl dX7_print_14 (by assumption) (Nat.le_of_ble_eq_true rfl) ?_
  refine sp_X7_goPrint hL (Or.inl rfl) hR3 hG ?_
  intro I4 hI4 hR4
  refine ZV_aload_n dX7_print_17 rfl ?_
  refine ZV_getR fX7_print_16 dX7_print_18 (by assumption) rfl (by assumption) ?_
  refine ZV_iconst dX7_print_21 ?_
  refine ZV_iald (3) dX7_print_22 (by assumption) (by first | rfl | omega) (by omega) (by omega) ?_
  rw [hR4.1.2.2.2]
  refine ZV_iret dX7_print_23 rfl ?_
  have q4 : ∀ q, q < m + 8 → q ≠ m + 3 → I4 q = I3 q := fun q h1 h2 => hI4 q h2 (by omega) (by omega) (by omega) (by omega) (by omega)
  refine h _ ⟨fun q hq => ?_, hM3.now (by rw [q4 m (by omega) (by omega)]) (by rw [q4 m (by omega) (by omega)]) (fun q hq => q4 q (by omega) (by omega)) hR4 hG.print, ?_⟩
  · rw [hI4 q (by omega) (by omega) (by omega) (by omega) (by omega) (by omega), hI3 q (by omega) (by omega), up2_row _ _ (by omega)]
  · rw [q4 m (by omega) (by omega), hI3m 0 (by decide), up2_same]
theorem sp_X7_undo {m : Nat} {Q : AC} (hM : MInv X g I m Q) (hx1 : Q.2.2.1.1 = 0 → ∀ I', MP X g I I' m Q 1 → post (.inl (some (vi 0))) g I' J) (hx2 : ∀ k, Q.2.2.1.1 = k + 1 → ∀ I', MP X g I I' m (Q.1, Q.2.2.1.2 k, (k, Q.2.2.1.2), Q.2.2.2) 0 → post (.inl (some (vi (k : Int)))) g I' J) : ZV X E_X7_undo 0 [some (.ref m)] [] b g I J post := by
  have hM' := hM
  obtain ⟨hL, hT, ⟨hR, hG⟩, ⟨a1, a2, a3⟩, hV⟩ := hM'
  obtain ⟨l0, ⟨p1, p2, p3, p4, p5, p6, p7⟩, ⟨l1, l2, l3, l4, l5, l6⟩, ⟨j1, j2, j3, j4, j5, j6, j7⟩, ⟨k1, k2, k3, k4, k5, k6⟩⟩ := id hL
  refine ZV_aload_n dX7_undo_0 rfl ?_
  refine ZV_aload_n dX7_undo_1 rfl ?_
  refine ZV_getI fX7_undo_60 dX7_undo_2 (by assumption) rfl ?_
  rw [a1]
  refine ZV_if_ne (tgt := 12) dX7_undo_5 (by decide) ⟨by omega, by omega⟩ (fun h5 => ?_) (fun h5 => ?_)
  · refine ZV_iconst dX7_undo_12 ?_
    refine cl_X7_refused kX7_undo_125 rfl dX7_undo_13 (by assumption) (Nat.le_of_ble_eq_true rfl) ?_
    refine sp_X7_refused hL ⟨by decide, by decide⟩ ?_
    rw [if_neg (by decide)]
    refine ZV_if_eq (tgt := 21) dX7_undo_16 (by decide) ⟨by omega, by omega⟩ (fun h16 => ?_) (fun h16 => ?_)
    · obtain ⟨k, hk⟩ : ∃ k, Q.2.2.1.1 = k + 1 := ⟨Q.2.2.1.1 - 1, by omega⟩
      obtain ⟨b1, b2⟩ := a3 k (by omega)
      refine ZV_aload_n dX7_undo_21 rfl ?_
      refine ZV_dup dX7_undo_22 rfl ?_
      refine ZV_getI fX7_undo_60 dX7_undo_23 (by assumption) rfl ?_
      rw [up2_k (by decide), a1, hk, show ((k + 1 : Nat) : Int) = (k : Int) + 1 from rfl]
      refine ZV_iconst dX7_undo_26 ?_
      refine ZV_isub dX7_undo_27 ?_
      rw [show (k : Int) + 1 - 1 = (k : Int) by omega]
      refine ZV_putI fX7_undo_60 dX7_undo_28 (by assumption) rfl ?_
      refine ZV_aload_n dX7_undo_31 rfl ?_
      refine ZV_getR fX7_undo_22 dX7_undo_32 (by assumption) rfl (by assumption) ?_
      refine ZV_sipush dX7_undo_35 (by decide) ?_
      refine ZV_aload_n dX7_undo_38 rfl ?_
      refine ZV_getI fX7_undo_60 dX7_undo_39 (by assumption) rfl ?_
      rw [up2_same]
      refine ZV_imul dX7_undo_42 ?_
      rw [show 980 * (k : Int) = ((980 * k : Nat) : Int) by omega]
      refine ZV_aload_n dX7_undo_43 rfl ?_
      refine ZV_getR fX7_undo_16 dX7_undo_44 (by assumption) rfl (by assumption) ?_
      refine ZV_iconst dX7_undo_47 ?_
      refine ZV_sipush dX7_undo_48 (by decide) ?_
      refine cl_X7_copy kX7_undo_63 rfl dX7_undo_51 (Nat.le_of_ble_eq_true rfl) ?_
      refine sp_X7_copy (y := 0) (n := 980) j5 j3 (by omega) (by omega) (by omega) (by omega) (Or.inl (by omega)) ?_
      intro I4 hI4 hI4k
      have e9 : I4 m 9 = (k : Int) := by rw [hI4 m (by omega), up2_same]
      refine ZV_aload_n dX7_undo_54 rfl ?_
      refine ZV_getI fX7_undo_60 dX7_undo_55 (by assumption) rfl ?_
      rw [e9]
      refine ZV_iret dX7_undo_58 rfl ?_
      have q4 : ∀ q, q ≠ m → q ≠ m + 3 → I4 q = I q := fun q h1 h2 => by rw [hI4 q h2, up2_row _ _ h1, up2_row _ _ h1]
      have m4 : ∀ c, c ≠ 9 → c ≠ 0 → I4 m c = I m c := fun c h1 h2 => by rw [hI4 m (by omega), up2_k h1, up2_k h2]
      have hR4 : MR (I4 (m + 3)) (Q.2.2.1.2 k) := b1.move b2 (fun c hc => by rw [hI4k, if_pos ⟨by omega, by omega⟩, up2_a (by omega), up2_a (by omega), show 980 * k + (c - 0) = 980 * k + c by omega])
      refine hx2 k hk _ ⟨fun q hq => q4 q (by omega) (by omega), ⟨hL, ?_, ⟨hR4, b2⟩, ⟨e9, by show k ≤ 14; omega, fun c hc => ?_⟩, fun s hs => by rw [q4 (m + 7) (by omega) (by omega), q4 (m + 6) (by omega) (by omega)]; exact hV s hs⟩, ?_⟩
      · obtain ⟨t1, t2, t3⟩ := hT
        exact ⟨by rw [m4 2 (by decide) (by decide)]; exact t1, t2, fun p hp => by rw [q4 (m + 1) (by omega) (by omega)]; exact t3 p hp⟩
      · have hc2 : c < k := hc
        rw [q4 (m + 5) (by omega) (by omega)]
        exact a3 c (by omega)
      · rw [hI4 m (by omega), up2_k (by decide), up2_same]
    · omega
  · refine ZV_iconst dX7_undo_8 ?_
    refine ZV_goto (tgt := 13) dX7_undo_9 (by decide) ?_
    refine cl_X7_refused kX7_undo_125 rfl dX7_undo_13 (by assumption) (Nat.le_of_ble_eq_true rfl) ?_
    refine sp_X7_refused hL ⟨by decide, by decide⟩ ?_
    rw [if_pos (by decide)]
    refine ZV_if_eq (tgt := 21) dX7_undo_16 (by decide) ⟨by omega, by omega⟩ (fun h16 => ?_) (fun h16 => ?_)
    · omega
    · refine ZV_iconst dX7_undo_19 ?_
      refine ZV_iret dX7_undo_20 rfl ?_
      exact hx1 (by omega) _ hM.mp
end ZM14

