/-! the reference: what there is -/
/-- what a call of the reference leaves -/
def MP (X : Xt) (g : Geo) (I I' : Mm) (m : Nat) (Q : AC) (w : Int) : Prop := MFr I I' m ∧ MInv X g I' m Q ∧ I' m 0 = w
theorem zsum_add (f f' : Nat → Int) : ∀ n, zsum (fun i => f i + f' i) n = zsum f n + zsum f' n := by
  intro n
  induction n with
  | zero => rfl
  | succ n ih => simp only [zsum]; rw [ih]; omega
theorem knd_prF {A : ASt} (hG : GoodSt A) {k : Int} (hk : 0 ≤ k ∧ k ≤ 2) : zsum (fun p => if kndF A p = k then 1 else 0) (aPn A) = prF A k := by
  have hno : ∀ p, p < aPn A → aPo A p ≠ -9 := fun p hp => by have := (hG.2.2 p hp).2; omega
  have c1 : zsum (fun p => if kndF A p = 1 then 1 else 0) (aPn A) = prNone A := zsum_congr _ fun p hp => by
    unfold kndF
    by_cases e : holdK (keyOf A) (aN A) (aPk A p) = -9
    · rw [if_pos e, if_pos rfl, if_pos e]
    · rw [if_neg e, if_neg e]
      by_cases e2 : holdK (keyOf A) (aN A) (aPk A p) = aPo A p
      · rw [if_pos e2, if_neg (by decide)]
      · rw [if_neg e2, if_neg (by decide)]
  have c2 : zsum (fun p => if kndF A p = 2 then 1 else 0) (aPn A) = prStill A := zsum_congr _ fun p hp => by
    unfold kndF
    have := hno p hp
    by_cases e : holdK (keyOf A) (aN A) (aPk A p) = -9
    · rw [if_pos e, if_neg (by decide), if_neg (by omega)]
    · rw [if_neg e]
      by_cases e2 : holdK (keyOf A) (aN A) (aPk A p) = aPo A p
      · rw [if_pos e2, if_pos rfl, if_pos e2]
      · rw [if_neg e2, if_neg (by decide), if_neg e2]
  have hc : k = 0 ∨ k = 1 ∨ k = 2 := by omega
  rcases hc with rfl | rfl | rfl
  · have c3 : ∀ n : Nat, zsum (fun p => if kndF A p = 0 then 1 else 0) n + (zsum (fun p => if kndF A p = 1 then 1 else 0) n + zsum (fun p => if kndF A p = 2 then 1 else 0) n) = n := by
      intro n
      induction n with
      | zero => rfl
      | succ n ih =>
        simp only [zsum]
        have hk3 : kndF A n = 0 ∨ kndF A n = 1 ∨ kndF A n = 2 := by
          unfold kndF
          repeat' split
          all_goals omega
        rcases hk3 with e | e | e <;> rw [e] <;> simp <;> omega
    have c4 := c3 (aPn A)
    rw [c1, c2] at c4
    show zsum (fun p => if kndF A p = 0 then 1 else 0) (aPn A) = (aPn A : Int) - prStill A - prNone A
    omega
  · exact c1
  · exact c2
section ZM7
variable {X : Xt} {g : Geo} {I J : Mm} {b : Nat × Nat} {post : Out → Geo → Mm → Mm → Prop}
theorem MInv.mp {m : Nat} {Q : AC} {w : Int} (hM : MInv X g I m Q) : MP X g I (up2 I m 0 w) m Q w := ⟨(MFr.rf I m).up (Nat.le_refl m) (by omega), hM.ref, up2_same _ _ _ _⟩
theorem MP.lay {m : Nat} {Q : AC} {w : Int} {I' I2 : Mm} (h : MP X g I I' m Q w) (hF : LFr I' I2 m) : MP X g I I2 m Q w := ⟨h.1.tr hF.mf, h.2.1.lay hF, by rw [hF m (by omega) (by omega) (by omega) (by omega) (by omega)]; exact h.2.2⟩
theorem sp_X7_append {m : Nat} {z : Int} {Q : AC} (hM : MInv X g I m Q) (hz : r32 z) (hx1 : ¬ (0 ≤ z ∧ z ≤ 255) → ∀ I', MP X g I I' m Q 1 → post (.inl (some (vi 0))) g I' J) (hx2 : (0 ≤ z ∧ z ≤ 255) → 100 ≤ Q.1.1 → ∀ I', MP X g I I' m Q 2 → post (.inl (some (vi 0))) g I' J) (hx3 : (0 ≤ z ∧ z ≤ 255) → Q.1.1 < 100 → ∀ I', MP X g I I' m (txAdd Q.1 z, Q.2) 0 → post (.inl (some (vi ((Q.1.1 : Int) + 1)))) g I' J) : ZV X E_X7_append 0 [some (.ref m), some (vi z)] [] b g I J post := by
  have hM' := hM
  obtain ⟨hL, ⟨t1, t2, t3⟩, -⟩ := hM'
  obtain ⟨l0, ⟨p1, p2, p3, p4, p5, p6, p7⟩, ⟨l1, l2, l3, l4, l5, l6⟩, ⟨j1, j2, j3, j4, j5, j6, j7⟩, ⟨k1, k2, k3, k4, k5, k6⟩⟩ := id hL
  obtain ⟨z1, z2⟩ := hz
  refine ZV_aload_n dX7_append_0 rfl ?_
  refine ZV_iload_n dX7_append_1 rfl ?_
  refine ZV_i2l dX7_append_2 ⟨by omega, by omega⟩ ?_
  refine ZV_lconst (z := 0) dX7_append_3 (by decide) ?_
  refine ZV_ldc2 (z := 255) dX7_append_4 lX7_append_116 ?_
  refine cl_X7_in kX7_append_118 rfl dX7_append_7 (Nat.le_of_ble_eq_true rfl) ?_
  refine sp_X7_in ⟨by omega, by omega⟩ ⟨by decide, by decide⟩ ⟨by decide, by decide⟩ ?_
  by_cases hc : 0 ≤ z ∧ z ≤ 255
  · rw [if_pos hc]
    refine ZV_if_ne (tgt := 17) dX7_append_10 (by decide) ⟨by omega, by omega⟩ (fun h10 => ?_) (fun h10 => ?_)
    · refine ZV_aload_n dX7_append_17 rfl ?_
      refine ZV_getI fX7_append_122 dX7_append_18 (by assumption) rfl ?_
      rw [t1]
      refine ZV_bipush dX7_append_21 (by decide) ?_
      refine ZV_icmp_ne (tgt := 30) dX7_append_23 (by decide) ⟨by omega, by omega⟩ ⟨by omega, by omega⟩ (fun h23 => ?_) (fun h23 => ?_)
      · refine ZV_iconst dX7_append_30 ?_
        refine cl_X7_refused kX7_append_125 rfl dX7_append_31 (by assumption) (Nat.le_of_ble_eq_true rfl) ?_
        refine sp_X7_refused hL ⟨by decide, by decide⟩ ?_
        rw [if_neg (by decide)]
        refine ZV_if_eq (tgt := 39) dX7_append_34 (by decide) ⟨by omega, by omega⟩ (fun h34 => ?_) (fun h34 => ?_)
        · refine ZV_aload_n dX7_append_39 rfl ?_
          refine ZV_getR fX7_append_7 dX7_append_40 (by assumption) rfl (by assumption) ?_
          refine ZV_aload_n dX7_append_43 rfl ?_
          refine ZV_getI fX7_append_122 dX7_append_44 (by assumption) rfl ?_
          rw [up2_k (by decide), t1]
          refine ZV_iload_n dX7_append_47 rfl ?_
          refine ZV_iast (Q.1.1) dX7_append_48 (by assumption) (by first | rfl | omega) (by omega) (by omega) ?_
          refine ZV_aload_n dX7_append_49 rfl ?_
          refine ZV_dup dX7_append_50 rfl ?_
          refine ZV_getI fX7_append_122 dX7_append_51 (by assumption) rfl ?_
          rw [up2_a (by omega), up2_k (by decide), t1]
          refine ZV_iconst dX7_append_54 ?_
          refine ZV_iadd dX7_append_55 ?_
          refine ZV_putI fX7_append_122 dX7_append_56 (by assumption) rfl ?_
          refine ZV_aload_n dX7_append_59 rfl ?_
          refine ZV_getI fX7_append_122 dX7_append_60 (by assumption) rfl ?_
          rw [up2_same]
          refine ZV_iret dX7_append_63 rfl ?_
          refine hx3 hc (by omega) _ ⟨(((MFr.rf I m).up (by omega) (by omega)).up (by omega) (by omega)).up (by omega) (by omega), ?_, ?_⟩
          · obtain ⟨-, -, hN, ⟨a1, a2, a3⟩, hV⟩ := hM
            have rr : ∀ q, q ≠ m → q ≠ m + 1 → up2 (up2 (up2 I m 0 0) (m + 1) Q.1.1 z) m 2 ((Q.1.1 : Int) + 1) q = I q := fun q q1 q2 => by rw [up2_row _ _ q1, up2_row _ _ q2, up2_row _ _ q1]
            refine ⟨hL, ⟨up2_same _ _ _ _, by show Q.1.1 + 1 ≤ 100; omega, fun p hp => ?_⟩, by rw [rr (m + 3) (by omega) (by omega)]; exact hN, ⟨by rw [up2_k (by decide), up2_a (by omega), up2_k (by decide)]; exact a1, a2, fun k hk => by rw [rr (m + 5) (by omega) (by omega)]; exact a3 k hk⟩, fun s hs => by rw [rr (m + 7) (by omega) (by omega), rr (m + 6) (by omega) (by omega)]; exact hV s hs⟩
            have hp2 : p < Q.1.1 + 1 := hp
            show up2 (up2 (up2 I m 0 0) (m + 1) Q.1.1 z) m 2 ((Q.1.1 : Int) + 1) (m + 1) p = (if p = Q.1.1 then z else Q.1.2 p) ∧ 0 ≤ (if p = Q.1.1 then z else Q.1.2 p) ∧ (if p = Q.1.1 then z else Q.1.2 p) < 256
            rw [up2_a (by omega)]
            by_cases e : p = Q.1.1
            · rw [if_pos e, e, up2_same]
              exact ⟨rfl, by omega, by omega⟩
            · rw [if_neg e, up2_k e, up2_a (by omega)]
              exact t3 p (by omega)
          · rw [up2_k (by decide), up2_a (by omega), up2_same]
        · omega
      · refine ZV_iconst dX7_append_26 ?_
        refine ZV_goto (tgt := 31) dX7_append_27 (by decide) ?_
        refine cl_X7_refused kX7_append_125 rfl dX7_append_31 (by assumption) (Nat.le_of_ble_eq_true rfl) ?_
        refine sp_X7_refused hL ⟨by decide, by decide⟩ ?_
        rw [if_pos (by decide)]
        refine ZV_if_eq (tgt := 39) dX7_append_34 (by decide) ⟨by omega, by omega⟩ (fun h34 => ?_) (fun h34 => ?_)
        · omega
        · refine ZV_iconst dX7_append_37 ?_
          refine ZV_iret dX7_append_38 rfl ?_
          exact hx2 hc (by omega) _ hM.mp
    · omega
  · rw [if_neg hc]
    refine ZV_if_ne (tgt := 17) dX7_append_10 (by decide) ⟨by omega, by omega⟩ (fun h10 => ?_) (fun h10 => ?_)
    · omega
    · refine ZV_iconst dX7_append_13 ?_
      refine ZV_goto (tgt := 31) dX7_append_14 (by decide) ?_
      refine cl_X7_refused kX7_append_125 rfl dX7_append_31 (by assumption) (Nat.le_of_ble_eq_true rfl) ?_
      refine sp_X7_refused hL ⟨by decide, by decide⟩ ?_
      rw [if_pos (by decide)]
      refine ZV_if_eq (tgt := 39) dX7_append_34 (by decide) ⟨by omega, by omega⟩ (fun h34 => ?_) (fun h34 => ?_)
      · omega
      · refine ZV_iconst dX7_append_37 ?_
        refine ZV_iret dX7_append_38 rfl ?_
        exact hx1 hc _ hM.mp
theorem sp_X7_clearText {m : Nat} {Q : AC} (hM : MInv X g I m Q) (h : ∀ I', MP X g I I' m ((0, Q.1.2), Q.2) 0 → post (.inl (some (vi (Q.1.1 : Int)))) g I' J) : ZV X E_X7_clearText 0 [some (.ref m), none] [] b g I J post := by
  have hM' := hM
  obtain ⟨hL, ⟨t1, t2, t3⟩, -⟩ := hM'
  have l0 := hL.1
  refine ZV_aload_n dX7_clearText_0 rfl ?_
  refine ZV_iconst dX7_clearText_1 ?_
  refine ZV_putI fX7_clearText_54 dX7_clearText_2 (by assumption) rfl ?_
  refine ZV_aload_n dX7_clearText_5 rfl ?_
  refine ZV_getI fX7_clearText_122 dX7_clearText_6 (by assumption) rfl ?_
  rw [up2_k (by decide), t1]
  refine ZV_istore1 dX7_clearText_9 rfl (by decide) ?_
  refine ZV_aload_n dX7_clearText_10 rfl ?_
  refine ZV_iconst dX7_clearText_11 ?_
  refine ZV_putI fX7_clearText_122 dX7_clearText_12 (by assumption) rfl ?_
  refine ZV_iload_n dX7_clearText_15 rfl ?_
  refine ZV_iret dX7_clearText_16 rfl ?_
  refine h _ ⟨((MFr.rf I m).up (by omega) (by omega)).up (by omega) (by omega), ?_, ?_⟩
  · obtain ⟨-, -, hN, ⟨a1, a2, a3⟩, hV⟩ := hM
    have rr : ∀ q, q ≠ m → up2 (up2 I m 0 0) m 2 0 q = I q := fun q q1 => by rw [up2_row _ _ q1, up2_row _ _ q1]
    exact ⟨hL, ⟨up2_same _ _ _ _, Nat.zero_le _, fun p hp => absurd hp (Nat.not_lt_zero p)⟩, by rw [rr (m + 3) (by omega)]; exact hN, ⟨by rw [up2_k (by decide), up2_k (by decide)]; exact a1, a2, fun k hk => by rw [rr (m + 5) (by omega)]; exact a3 k hk⟩, fun s hs => by rw [rr (m + 7) (by omega), rr (m + 6) (by omega)]; exact hV s hs⟩
  · rw [up2_k (by decide), up2_same]
theorem sp_X7_isWork {m : Nat} {i : Int} {Q : AC} (hM : MInv X g I m Q) (hi : r32 i) (h : post (.inl (some (vi (if 0 ≤ i ∧ i < aN Q.2.1 then 1 else 0)))) g I J) : ZV X E_X7_isWork 0 [some (.ref m), some (vi i)] [] b g I J post := by
  obtain ⟨hL, -, ⟨hR, hG⟩, -⟩ := hM
  obtain ⟨l0, ⟨p1, p2, p3, p4, p5, p6, p7⟩, ⟨l1, l2, l3, l4, l5, l6⟩, ⟨j1, j2, j3, j4, j5, j6, j7⟩, ⟨k1, k2, k3, k4, k5, k6⟩⟩ := id hL
  have h16 := hG.1.1
  obtain ⟨i1, i2⟩ := hi
  have e : (if 0 ≤ i ∧ i ≤ (aN Q.2.1 : Int) - 1 then (1 : Int) else 0) = if 0 ≤ i ∧ i < aN Q.2.1 then 1 else 0 := by
    by_cases c : 0 ≤ i ∧ i < aN Q.2.1
    · rw [if_pos c, if_pos ⟨by omega, by omega⟩]
    · rw [if_neg c, if_neg (by omega)]
  have e01 : (if 0 ≤ i ∧ i < (aN Q.2.1 : Int) then (1 : Int) else 0) = 0 ∨ (if 0 ≤ i ∧ i < (aN Q.2.1 : Int) then (1 : Int) else 0) = 1 := by split <;> simp
  refine ZV_iload_n dX7_isWork_0 rfl ?_
  refine ZV_i2l dX7_isWork_1 ⟨by omega, by omega⟩ ?_
  refine ZV_lconst (z := 0) dX7_isWork_2 (by decide) ?_
  refine ZV_aload_n dX7_isWork_3 rfl ?_
  refine ZV_getR fX7_isWork_16 dX7_isWork_4 (by assumption) rfl (by assumption) ?_
  refine ZV_iconst dX7_isWork_7 ?_
  refine ZV_iald (0) dX7_isWork_8 (by assumption) (by first | rfl | omega) (by omega) (by omega) ?_
  rw [hR.1.1]
  refine ZV_iconst dX7_isWork_9 ?_
  refine ZV_isub dX7_isWork_10 ?_
  refine ZV_i2l dX7_isWork_11 ⟨by omega, by omega⟩ ?_
  refine cl_X7_in kX7_isWork_118 rfl dX7_isWork_12 (Nat.le_of_ble_eq_true rfl) ?_
  refine sp_X7_in ⟨by omega, by omega⟩ ⟨by decide, by decide⟩ ⟨by omega, by omega⟩ ?_
  rw [e]
  refine ZV_zret dX7_isWork_15 rfl (by first | exact Or.inl rfl | exact Or.inr rfl | assumption | omega) ?_
  exact h
theorem sp_X7_about {m : Nat} {k : Int} {Q : AC} (hM : MInv X g I m Q) (hk : r32 k) (hx1 : (0 ≤ k ∧ k ≤ 7) → ∀ I', MP X g I I' m Q 0 → post (.inl (some (vi (abF Q.2.1 k)))) g I' J) (hx2 : ¬ (0 ≤ k ∧ k ≤ 7) → ∀ I', MP X g I I' m Q 1 → post (.inl (some (vi 0))) g I' J) : ZV X E_X7_about 0 [some (.ref m), some (vi k)] [] b g I J post := by
  have hL := hM.1
  have hG := hM.2.2.1.2
  obtain ⟨l0, ⟨p1, p2, p3, p4, p5, p6, p7⟩, ⟨l1, l2, l3, l4, l5, l6⟩, ⟨j1, j2, j3, j4, j5, j6, j7⟩, ⟨k1, k2, k3, k4, k5, k6⟩⟩ := id hL
  have h16 := hG.1.1
  obtain ⟨z1, z2⟩ := hk
  refine ZV_aload_n dX7_about_0 rfl ?_
  refine ZV_iload_n dX7_about_1 rfl ?_
  refine ZV_i2l dX7_about_2 ⟨by omega, by omega⟩ ?_
  refine ZV_lconst (z := 0) dX7_about_3 (by decide) ?_
  refine ZV_ldc2 (z := 7) dX7_about_4 lX7_about_168 ?_
  refine cl_X7_in kX7_about_118 rfl dX7_about_7 (Nat.le_of_ble_eq_true rfl) ?_
  refine sp_X7_in ⟨by omega, by omega⟩ ⟨by decide, by decide⟩ ⟨by decide, by decide⟩ ?_
  by_cases hc : 0 ≤ k ∧ k ≤ 7
  · rw [if_pos hc]
    refine ZV_if_eq (tgt := 17) dX7_about_10 (by decide) ⟨by omega, by omega⟩ (fun h10 => ?_) (fun h10 => ?_)
    · omega
    · refine ZV_iconst dX7_about_13 ?_
      refine ZV_goto (tgt := 18) dX7_about_14 (by decide) ?_
      refine cl_X7_refused kX7_about_125 rfl dX7_about_18 (by assumption) (Nat.le_of_ble_eq_true rfl) ?_
      refine sp_X7_refused hL ⟨by decide, by decide⟩ ?_
      rw [if_neg (by decide)]
      refine ZV_if_eq (tgt := 26) dX7_about_21 (by decide) ⟨by omega, by omega⟩ (fun h21 => ?_) (fun h21 => ?_)
      · have hM1 := hM.ref (w := 0)
        refine ZV_aload_n dX7_about_26 rfl ?_
        refine cl_X7_layNow kX7_about_105 rfl dX7_about_27 (by assumption) (Nat.le_of_ble_eq_true rfl) ?_
        refine sp_X7_layNow hL hM1.2.2.1.1 hG ?_
        intro I1 hF hLd
        have mp : MP X g I I1 m Q 0 := hM.mp.lay hF
        have hx := hx1 hc I1 mp
        obtain ⟨⟨r0, r1, r2, r3⟩, rw1, rp⟩ := id mp.2.1.2.2.1.1
        have lr : ∀ i, i < aN Q.2.1 → 0 ≤ I1 (m + 9) i ∧ I1 (m + 9) i ≤ 100 := fun i hi => by
          have := letOf_rng hG.1 i
          rw [(hLd i hi).2.1]; omega
        have ks : k = 0 ∨ k = 1 ∨ k = 2 ∨ k = 3 ∨ k = 4 ∨ k = 5 ∨ k = 6 ∨ k = 7 := by omega
        refine ZV_iload_n dX7_about_30 rfl ?_
        rcases ks with rfl | rfl | rfl | rfl | rfl | rfl | rfl | rfl
        · refine ZV_tableOut (tgt := 106) dX7_about_31 ⟨by omega, by omega⟩ (by omega) (by decide) ?_
          refine ZV_aload_n dX7_about_106 rfl ?_
          refine ZV_getR fX7_about_16 dX7_about_107 (by assumption) rfl (by assumption) ?_
          refine ZV_iload_n dX7_about_110 rfl ?_
          refine ZV_iald (0) dX7_about_111 (by assumption) (by first | rfl | omega) (by omega) (by omega) ?_
          rw [r0]
          refine ZV_iret dX7_about_112 rfl ?_
          exact hx
        · refine ZV_tableOut (tgt := 106) dX7_about_31 ⟨by omega, by omega⟩ (by omega) (by decide) ?_
          refine ZV_aload_n dX7_about_106 rfl ?_
          refine ZV_getR fX7_about_16 dX7_about_107 (by assumption) rfl (by assumption) ?_
          refine ZV_iload_n dX7_about_110 rfl ?_
          refine ZV_iald (1) dX7_about_111 (by assumption) (by first | rfl | omega) (by omega) (by omega) ?_
          rw [r1]
          refine ZV_iret dX7_about_112 rfl ?_
          exact hx
        · refine ZV_tableOut (tgt := 106) dX7_about_31 ⟨by omega, by omega⟩ (by omega) (by decide) ?_
          refine ZV_aload_n dX7_about_106 rfl ?_
          refine ZV_getR fX7_about_16 dX7_about_107 (by assumption) rfl (by assumption) ?_
          refine ZV_iload_n dX7_about_110 rfl ?_
          refine ZV_iald (2) dX7_about_111 (by assumption) (by first | rfl | omega) (by omega) (by omega) ?_
          rw [r2]
          refine ZV_iret dX7_about_112 rfl ?_
          exact hx
        · refine ZV_tableIn (tgt := 64) dX7_about_31 ⟨by decide, by decide⟩ (by decide) (by decide) rfl (by decide) ?_
          refine ZV_aload_n dX7_about_64 rfl ?_
          refine ZV_getR fX7_about_35 dX7_about_65 (by assumption) rfl (by assumption) ?_
          refine ZV_aload_n dX7_about_68 rfl ?_
          refine ZV_getR fX7_about_16 dX7_about_69 (by assumption) rfl (by assumption) ?_
          refine ZV_iconst dX7_about_72 ?_
          refine ZV_iald (0) dX7_about_73 (by assumption) (by first | rfl | omega) (by omega) (by omega) ?_
          rw [r0]
          refine cl_X7_lettered kX7_about_170 rfl dX7_about_74 (Nat.le_of_ble_eq_true rfl) ?_
          refine sp_X7_lettered k2 h16 lr ?_
          have e : zsum (fun i => if 0 < I1 (m + 9) i then 1 else 0) (aN Q.2.1) = abF Q.2.1 3 := zsum_congr _ fun i hi => by
            show (if 0 < I1 (m + 9) i then (1 : Int) else 0) = if 0 < klet (keyOf Q.2.1 i) then 1 else 0
            rw [klet_key hG hi, (hLd i hi).2.1]
          rw [e]
          refine ZV_iret dX7_about_77 rfl ?_
          exact hx
        · refine ZV_tableIn (tgt := 78) dX7_about_31 ⟨by decide, by decide⟩ (by decide) (by decide) rfl (by decide) ?_
          refine ZV_aload_n dX7_about_78 rfl ?_
          refine cl_X7_stems kX7_about_173 rfl dX7_about_79 (by assumption) (Nat.le_of_ble_eq_true rfl) ?_
          refine sp_X7_stems hL r0 h16 lr ?_
          have e : zsum (fun i => if I1 (m + 9) i ≤ 1 then 1 else 0) (aN Q.2.1) = abF Q.2.1 4 := zsum_congr _ fun i hi => by
            show (if I1 (m + 9) i ≤ 1 then (1 : Int) else 0) = if klet (keyOf Q.2.1 i) ≤ 1 then 1 else 0
            rw [klet_key hG hi, (hLd i hi).2.1]
          rw [e]
          refine ZV_iret dX7_about_82 rfl ?_
          exact hx
        · refine ZV_tableIn (tgt := 83) dX7_about_31 ⟨by decide, by decide⟩ (by decide) (by decide) rfl (by decide) ?_
          refine ZV_aload_n dX7_about_83 rfl ?_
          refine ZV_aload_n dX7_about_84 rfl ?_
          refine ZV_getR fX7_about_16 dX7_about_85 (by assumption) rfl (by assumption) ?_
          refine ZV_iconst dX7_about_88 ?_
          refine ZV_iald (0) dX7_about_89 (by assumption) (by first | rfl | omega) (by omega) (by omega) ?_
          rw [r0]
          refine cl_X7_longest kX7_about_176 rfl dX7_about_90 (by assumption) (Nat.le_of_ble_eq_true rfl) ?_
          refine sp_X7_longest hL h16 (fun i hi => by
            have := klen_rng (keyOf Q.2.1 i)
            have e1 : I1 (m + 8) (14 * i) = klen (keyOf Q.2.1 i) := (hLd i hi).1.1
            rw [e1]; omega) ?_
          have e : zmx (fun i => I1 (m + 8) (14 * i)) (aN Q.2.1) = abF Q.2.1 5 := zmx_congr _ fun i hi => (hLd i hi).1.1
          rw [e]
          refine ZV_iret dX7_about_93 rfl ?_
          exact hx
        · refine ZV_tableIn (tgt := 94) dX7_about_31 ⟨by decide, by decide⟩ (by decide) (by decide) rfl (by decide) ?_
          refine ZV_aload_n dX7_about_94 rfl ?_
          refine ZV_getR fX7_about_16 dX7_about_95 (by assumption) rfl (by assumption) ?_
          refine ZV_iconst dX7_about_98 ?_
          refine ZV_iald (3) dX7_about_99 (by assumption) (by first | rfl | omega) (by omega) (by omega) ?_
          rw [r3]
          refine ZV_iret dX7_about_100 rfl ?_
          exact hx
        · refine ZV_tableIn (tgt := 101) dX7_about_31 ⟨by decide, by decide⟩ (by decide) (by decide) rfl (by decide) ?_
          refine ZV_aload_n dX7_about_101 rfl ?_
          refine cl_X7_gone kX7_about_180 rfl dX7_about_102 (by assumption) (Nat.le_of_ble_eq_true rfl) ?_
          refine sp_X7_gone hL mp.2.1.2.2.1.1 hG ?_
          refine ZV_iret dX7_about_105 rfl ?_
          exact hx
      · omega
  · rw [if_neg hc]
    refine ZV_if_eq (tgt := 17) dX7_about_10 (by decide) ⟨by omega, by omega⟩ (fun h10 => ?_) (fun h10 => ?_)
    · refine ZV_iconst dX7_about_17 ?_
      refine cl_X7_refused kX7_about_125 rfl dX7_about_18 (by assumption) (Nat.le_of_ble_eq_true rfl) ?_
      refine sp_X7_refused hL ⟨by decide, by decide⟩ ?_
      rw [if_pos (by decide)]
      refine ZV_if_eq (tgt := 26) dX7_about_21 (by decide) ⟨by omega, by omega⟩ (fun h21 => ?_) (fun h21 => ?_)
      · omega
      · refine ZV_iconst dX7_about_24 ?_
        refine ZV_iret dX7_about_25 rfl ?_
        exact hx2 hc _ hM.mp
    · omega
theorem sp_X7_work {m : Nat} {i k : Int} {Q : AC} (hM : MInv X g I m Q) (hi : r32 i) (hk : r32 k) (hx1 : ¬ (0 ≤ i ∧ i < aN Q.2.1) → ∀ I', MP X g I I' m Q 1 → post (.inl (some (vi 0))) g I' J) (hx2 : (0 ≤ i ∧ i < aN Q.2.1) → ¬ (0 ≤ k ∧ k ≤ 6) → ∀ I', MP X g I I' m Q 2 → post (.inl (some (vi 0))) g I' J) (hx3 : (0 ≤ i ∧ i < aN Q.2.1) → (0 ≤ k ∧ k ≤ 6) → ∀ I', MP X g I I' m Q 0 → post (.inl (some (vi (wkF Q.2.1 i.toNat k)))) g I' J) : ZV X E_X7_work 0 [some (.ref m), some (vi i), some (vi k)] [] b g I J post := by
  have hL := hM.1
  have hG := hM.2.2.1.2
  obtain ⟨l0, ⟨p1, p2, p3, p4, p5, p6, p7⟩, ⟨l1, l2, l3, l4, l5, l6⟩, ⟨j1, j2, j3, j4, j5, j6, j7⟩, ⟨k1, k2, k3, k4, k5, k6⟩⟩ := id hL
  have h16 := hG.1.1
  have hi' := hi
  obtain ⟨z1, z2⟩ := hk
  refine ZV_aload_n dX7_work_0 rfl ?_
  refine ZV_aload_n dX7_work_1 rfl ?_
  refine ZV_iload_n dX7_work_2 rfl ?_
  refine cl_X7_isWork kX7_work_183 rfl dX7_work_3 (by assumption) (Nat.le_of_ble_eq_true rfl) ?_
  refine sp_X7_isWork hM hi' ?_
  by_cases hi2 : 0 ≤ i ∧ i < aN Q.2.1
  · rw [if_pos hi2]
    obtain ⟨n, rfl⟩ : ∃ n : Nat, i = n := ⟨i.toNat, by omega⟩
    have hn : n < aN Q.2.1 := by omega
    rw [Int.toNat_natCast] at hx3
    refine ZV_if_ne (tgt := 13) dX7_work_6 (by decide) ⟨by omega, by omega⟩ (fun h6 => ?_) (fun h6 => ?_)
    · refine ZV_iload_n dX7_work_13 rfl ?_
      refine ZV_i2l dX7_work_14 ⟨by omega, by omega⟩ ?_
      refine ZV_lconst (z := 0) dX7_work_15 (by decide) ?_
      refine ZV_ldc2 (z := 6) dX7_work_16 lX7_work_186 ?_
      refine cl_X7_in kX7_work_118 rfl dX7_work_19 (Nat.le_of_ble_eq_true rfl) ?_
      refine sp_X7_in ⟨by omega, by omega⟩ ⟨by decide, by decide⟩ ⟨by decide, by decide⟩ ?_
      by_cases hc : 0 ≤ k ∧ k ≤ 6
      · rw [if_pos hc]
        refine ZV_if_eq (tgt := 29) dX7_work_22 (by decide) ⟨by omega, by omega⟩ (fun h22 => ?_) (fun h22 => ?_)
        · omega
        · refine ZV_iconst dX7_work_25 ?_
          refine ZV_goto (tgt := 30) dX7_work_26 (by decide) ?_
          refine cl_X7_refused kX7_work_125 rfl dX7_work_30 (by assumption) (Nat.le_of_ble_eq_true rfl) ?_
          refine sp_X7_refused hL ⟨by decide, by decide⟩ ?_
          rw [if_neg (by decide)]
          refine ZV_if_eq (tgt := 38) dX7_work_33 (by decide) ⟨by omega, by omega⟩ (fun h33 => ?_) (fun h33 => ?_)
          · have hM1 := hM.ref (w := 0)
            refine ZV_aload_n dX7_work_38 rfl ?_
            refine cl_X7_layNow kX7_work_105 rfl dX7_work_39 (by assumption) (Nat.le_of_ble_eq_true rfl) ?_
            refine sp_X7_layNow hL hM1.2.2.1.1 hG ?_
            intro I1 hF hLd
            have mp : MP X g I I1 m Q 0 := hM.mp.lay hF
            have hx := hx3 hi2 hc I1 mp
            obtain ⟨⟨r0, r1, r2, r3⟩, rw1, rp⟩ := id mp.2.1.2.2.1.1
            obtain ⟨⟨w1, w2⟩, w3, w4⟩ := rw1 n hn
            have w40 : I1 (m + 3) (4 + 47 * n + 38) = nlen (aW Q.2.1 n).2.2.2 := w4.1
            obtain ⟨v1, v2, v3, v4⟩ := hLd n hn
            have v10 : I1 (m + 8) (14 * n) = klen (keyOf Q.2.1 n) := v1.1
            have w1' : I1 (m + 3) (4 + 47 * n + 0) = (aW Q.2.1 n).2.2.1 := w1
            have ks : k = 0 ∨ k = 1 ∨ k = 2 ∨ k = 3 ∨ k = 4 ∨ k = 5 ∨ k = 6 := by omega
            refine ZV_iload_n dX7_work_42 rfl ?_
            rcases ks with rfl | rfl | rfl | rfl | rfl | rfl | rfl
            · refine ZV_tableIn (tgt := 80) dX7_work_43 ⟨by decide, by decide⟩ (by decide) (by decide) rfl (by decide) ?_
              refine ZV_aload_n dX7_work_80 rfl ?_
              refine ZV_getR fX7_work_16 dX7_work_81 (by assumption) rfl (by assumption) ?_
              refine ZV_iload_n dX7_work_84 rfl ?_
              refine ZV_iload_n dX7_work_85 rfl ?_
              refine cl_X7_cell kX7_work_67 rfl dX7_work_86 (Nat.le_of_ble_eq_true rfl) ?_
              refine sp_X7_cell ?_
              refine ZV_iald (4 + 47 * n + 0) dX7_work_89 (by assumption) (by first | rfl | omega) (by omega) (by omega) ?_
              rw [w1']
              refine ZV_iret dX7_work_90 rfl ?_
              exact hx
            · refine ZV_tableIn (tgt := 80) dX7_work_43 ⟨by decide, by decide⟩ (by decide) (by decide) rfl (by decide) ?_
              refine ZV_aload_n dX7_work_80 rfl ?_
              refine ZV_getR fX7_work_16 dX7_work_81 (by assumption) rfl (by assumption) ?_
              refine ZV_iload_n dX7_work_84 rfl ?_
              refine ZV_iload_n dX7_work_85 rfl ?_
              refine cl_X7_cell kX7_work_67 rfl dX7_work_86 (Nat.le_of_ble_eq_true rfl) ?_
              refine sp_X7_cell ?_
              refine ZV_iald (4 + 47 * n + 1) dX7_work_89 (by assumption) (by first | rfl | omega) (by omega) (by omega) ?_
              rw [w2]
              refine ZV_iret dX7_work_90 rfl ?_
              exact hx
            · refine ZV_tableIn (tgt := 91) dX7_work_43 ⟨by decide, by decide⟩ (by decide) (by decide) rfl (by decide) ?_
              refine ZV_aload_n dX7_work_91 rfl ?_
              refine ZV_getR fX7_work_16 dX7_work_92 (by assumption) rfl (by assumption) ?_
              refine ZV_iload_n dX7_work_95 rfl ?_
              refine ZV_bipush dX7_work_96 (by decide) ?_
              refine cl_X7_cell kX7_work_67 rfl dX7_work_98 (Nat.le_of_ble_eq_true rfl) ?_
              refine sp_X7_cell ?_
              refine ZV_iald (4 + 47 * n + 38) dX7_work_101 (by assumption) (by first | rfl | omega) (by omega) (by omega) ?_
              rw [w40]
              refine ZV_iret dX7_work_102 rfl ?_
              exact hx
            · refine ZV_tableIn (tgt := 103) dX7_work_43 ⟨by decide, by decide⟩ (by decide) (by decide) rfl (by decide) ?_
              refine ZV_aload_n dX7_work_103 rfl ?_
              refine ZV_getR fX7_work_32 dX7_work_104 (by assumption) rfl (by assumption) ?_
              refine ZV_bipush dX7_work_107 (by decide) ?_
              refine ZV_iload_n dX7_work_109 rfl ?_
              refine ZV_imul dX7_work_110 ?_
              refine ZV_iald (14 * n) dX7_work_111 (by assumption) (by first | rfl | omega) (by omega) (by omega) ?_
              rw [v10]
              refine ZV_iret dX7_work_112 rfl ?_
              exact hx
            · refine ZV_tableIn (tgt := 113) dX7_work_43 ⟨by decide, by decide⟩ (by decide) (by decide) rfl (by decide) ?_
              refine ZV_aload_n dX7_work_113 rfl ?_
              refine ZV_getR fX7_work_35 dX7_work_114 (by assumption) rfl (by assumption) ?_
              refine ZV_iload_n dX7_work_117 rfl ?_
              refine ZV_iald (n) dX7_work_118 (by assumption) (by first | rfl | omega) (by omega) (by omega) ?_
              rw [v2, ← klet_key hG hn]
              refine ZV_iret dX7_work_119 rfl ?_
              exact hx
            · refine ZV_tableIn (tgt := 120) dX7_work_43 ⟨by decide, by decide⟩ (by decide) (by decide) rfl (by decide) ?_
              refine ZV_aload_n dX7_work_120 rfl ?_
              refine ZV_getR fX7_work_41 dX7_work_121 (by assumption) rfl (by assumption) ?_
              refine ZV_iload_n dX7_work_124 rfl ?_
              refine ZV_iald (n) dX7_work_125 (by assumption) (by first | rfl | omega) (by omega) (by omega) ?_
              rw [v4]
              refine ZV_iret dX7_work_126 rfl ?_
              exact hx
            · refine ZV_tableOut (tgt := 127) dX7_work_43 ⟨by omega, by omega⟩ (by omega) (by decide) ?_
              refine ZV_aload_n dX7_work_127 rfl ?_
              refine ZV_getR fX7_work_38 dX7_work_128 (by assumption) rfl (by assumption) ?_
              refine ZV_iload_n dX7_work_131 rfl ?_
              refine ZV_iald (n) dX7_work_132 (by assumption) (by first | rfl | omega) (by omega) (by omega) ?_
              rw [v3]
              refine ZV_iret dX7_work_133 rfl ?_
              exact hx
          · omega
      · rw [if_neg hc]
        refine ZV_if_eq (tgt := 29) dX7_work_22 (by decide) ⟨by omega, by omega⟩ (fun h22 => ?_) (fun h22 => ?_)
        · refine ZV_iconst dX7_work_29 ?_
          refine cl_X7_refused kX7_work_125 rfl dX7_work_30 (by assumption) (Nat.le_of_ble_eq_true rfl) ?_
          refine sp_X7_refused hL ⟨by decide, by decide⟩ ?_
          rw [if_pos (by decide)]
          refine ZV_if_eq (tgt := 38) dX7_work_33 (by decide) ⟨by omega, by omega⟩ (fun h33 => ?_) (fun h33 => ?_)
          · omega
          · refine ZV_iconst dX7_work_36 ?_
            refine ZV_iret dX7_work_37 rfl ?_
            exact hx2 hi2 hc _ hM.mp
        · omega
    · omega
  · rw [if_neg hi2]
    refine ZV_if_ne (tgt := 13) dX7_work_6 (by decide) ⟨by omega, by omega⟩ (fun h6 => ?_) (fun h6 => ?_)
    · omega
    · refine ZV_iconst dX7_work_9 ?_
      refine ZV_goto (tgt := 30) dX7_work_10 (by decide) ?_
      refine cl_X7_refused kX7_work_125 rfl dX7_work_30 (by assumption) (Nat.le_of_ble_eq_true rfl) ?_
      refine sp_X7_refused hL ⟨by decide, by decide⟩ ?_
      rw [if_pos (by decide)]
      refine ZV_if_eq (tgt := 38) dX7_work_33 (by decide) ⟨by omega, by omega⟩ (fun h33 => ?_) (fun h33 => ?_)
      · omega
      · refine ZV_iconst dX7_work_36 ?_
        refine ZV_iret dX7_work_37 rfl ?_
        exact hx1 hi2 _ hM.mp
end ZM7

