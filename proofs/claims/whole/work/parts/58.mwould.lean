/-! the reference: what would be -/
theorem wtF_pos (A : ASt) : ∀ n, 1 ≤ n → 0 ≤ (wtF A n).1 := by
  intro n
  induction n with
  | zero => intro h; omega
  | succ n ih =>
    intro _
    simp only [wtF]
    split
    · show (0 : Int) ≤ n; omega
    · by_cases e : n = 0
      · subst e
        rename_i h
        exact absurd (Or.inl rfl) h
      · exact ih (by omega)
def TB (A : ASt) (i : Nat) (B : ASt) : Prop := aN B = aN A ∧ aS B = aS A ∧ GoodSt B ∧ (∀ j, j ≠ i → aW B j = aW A j) ∧ ∃ y, aW B i = yrW (aW A i) y
section ZM15
variable {X : Xt} {g : Geo} {I J : Mm} {b : Nat × Nat} {post : Out → Geo → Mm → Mm → Prop}
theorem sp_X7_begin {m : Nat} {A : ASt} (hL : ML X g m) (hR : MR (I (m + 3)) A) (hG : GoodSt A) (h : ∀ I', (∀ q, q ≠ m + 4 → I' q = I q) → MR (I' (m + 4)) A → post (.inl none) g I' J) : ZV X E_X7_begin 0 [some (.ref m)] [] b g I J post := by
  obtain ⟨l0, ⟨p1, p2, p3, p4, p5, p6, p7⟩, ⟨l1, l2, l3, l4, l5, l6⟩, ⟨j1, j2, j3, j4, j5, j6, j7⟩, ⟨k1, k2, k3, k4, k5, k6⟩⟩ := id hL
  refine ZV_aload_n dX7_begin_0 rfl ?_
  refine ZV_getR fX7_begin_16 dX7_begin_1 (by assumption) rfl (by assumption) ?_
  refine ZV_iconst dX7_begin_4 ?_
  refine ZV_aload_n dX7_begin_5 rfl ?_
  refine ZV_getR fX7_begin_19 dX7_begin_6 (by assumption) rfl (by assumption) ?_
  refine ZV_iconst dX7_begin_9 ?_
  refine ZV_sipush dX7_begin_10 (by decide) ?_
  refine cl_X7_copy kX7_begin_63 rfl dX7_begin_13 (Nat.le_of_ble_eq_true rfl) ?_
  refine sp_X7_copy (x := 0) (y := 0) (n := 980) j3 j4 (by omega) (by omega) (by omega) (by omega) (Or.inl (by omega)) ?_
  intro I1 hI1 hI1k
  refine ZV_vret dX7_begin_16 rfl ?_
  exact h I1 hI1 (hR.move hG (fun k hk => by rw [hI1k, if_pos ⟨by omega, by omega⟩, show 0 + (k - 0) = k by omega]))
theorem sp_X7_without {m n : Nat} {A : ASt} (hL : ML X g m) (hR : MR (I (m + 3)) A) (hG : GoodSt A) (hn : n < aN A) (h : ∀ I', (∀ q, (q < m + 8 ∨ m + 14 ≤ q) → q ≠ m + 4 → I' q = I q) → post (.inl (some (vi (hangN A n)))) g I' J) : ZV X E_X7_without 0 [some (.ref m), some (vi (n : Int))] [] b g I J post := by
  obtain ⟨l0, ⟨p1, p2, p3, p4, p5, p6, p7⟩, ⟨l1, l2, l3, l4, l5, l6⟩, ⟨j1, j2, j3, j4, j5, j6, j7⟩, ⟨k1, k2, k3, k4, k5, k6⟩⟩ := id hL
  have h16 := hG.1.1
  refine ZV_aload_n dX7_without_0 rfl ?_
  refine cl_X7_layWas kX7_without_201 rfl dX7_without_1 (by assumption) (Nat.le_of_ble_eq_true rfl) ?_
  refine sp_X7_layWas hL hR hG ?_
  intro I4 hI4 hW4
  have hR4 : MR (I4 (m + 3)) A := by rw [hI4 _ (by omega) (by omega) (by omega) (by omega) (by omega) (by omega)]; exact hR
  refine ZV_aload_n dX7_without_4 rfl ?_
  refine cl_X7_begin kX7_without_225 rfl dX7_without_5 (by assumption) (Nat.le_of_ble_eq_true rfl) ?_
  refine sp_X7_begin hL hR4 hG ?_
  intro I5 hI5 hR5
  refine ZV_aload_n dX7_without_8 rfl ?_
  refine ZV_getR fX7_without_19 dX7_without_9 (by assumption) rfl (by assumption) ?_
  refine ZV_iload_n dX7_without_12 rfl ?_
  refine cl_X7_drop kX7_without_214 rfl dX7_without_13 (Nat.le_of_ble_eq_true rfl) ?_
  refine sp_X7_drop j4 hR5 hG hn ?_
  intro I6 hI6 hR6
  have hG6 := hG.take hn
  refine ZV_aload_n dX7_without_16 rfl ?_
  refine ZV_aload_n dX7_without_17 rfl ?_
  refine ZV_getR fX7_without_19 dX7_without_18 (by assumption) rfl (by assumption) ?_
  refine ZV_iload_n dX7_without_21 rfl ?_
  refine cl_X7_others kX7_without_204 rfl dX7_without_22 (by assumption) (Nat.le_of_ble_eq_true rfl) ?_
  refine sp_X7_others (gn := (n : Int)) (K := fun j => if j < n then keyOf A j else keyOf A (j + 1)) hL (Or.inr rfl) hR6 hG6 (Or.inr ⟨by omega, by omega⟩) (fun j hj => ?_) ?_
  · have hj2 : j < aN A - 1 := hj
    rw [hI6 _ (by omega), hI5 _ (by omega)]
    show KeA (I4 (m + 12)) (14 * oldN n j) (if j < n then keyOf A j else keyOf A (j + 1)) ∧ KWF (if j < n then keyOf A j else keyOf A (j + 1)) ∧ oldN n j < 16
    by_cases e : j < n
    · have eo : oldN (n : Int) j = j := if_neg (by omega)
      rw [if_pos e, eo]
      exact ⟨hW4 j (by omega), keyOf_KWF hG (by omega), by omega⟩
    · have eo : oldN (n : Int) j = j + 1 := if_pos ⟨by omega, by omega⟩
      rw [if_neg e, eo]
      exact ⟨hW4 (j + 1) (by omega), keyOf_KWF hG (by omega), by omega⟩
  · intro I7 hF7
    have hc1 := chgN_rng (aTake A n) (fun j => if j < n then keyOf A j else keyOf A (j + 1))
    have hc2 : ((aN (aTake A n) : Nat) : Int) ≤ aN A := by show ((aN A - 1 : Nat) : Int) ≤ aN A; omega
    refine ZV_iret dX7_without_25 rfl ?_
    refine h _ (fun q hq hq4 => ?_)
    rw [hF7 q (by omega) (by omega) (by omega) (by omega) (by omega), hI6 q (by omega), hI5 q (by omega), hI4 q (by omega) (by omega) (by omega) (by omega) (by omega) (by omega)]
theorem MInv.tr4 {m : Nat} {Q : AC} {I' : Mm} (h : MInv X g I m Q) (hr : ∀ q, (q < m + 8 ∨ m + 14 ≤ q) → q ≠ m + 4 → I' q = I q) : MInv X g I' m Q := h.rw' (by rw [hr m (by omega) (by omega)]) (by rw [hr m (by omega) (by omega)]) (fun q hq => hr q (by omega) (by omega))
theorem MP.tr4 {m : Nat} {Q : AC} {w : Int} {I' I2 : Mm} (h : MP X g I I' m Q w) (hr : ∀ q, (q < m + 8 ∨ m + 14 ≤ q) → q ≠ m + 4 → I2 q = I' q) : MP X g I I2 m Q w := ⟨h.1.tr (fun q hq => hr q (by omega) (by omega)), h.2.1.tr4 hr, by rw [hr m (by omega) (by omega)]; exact h.2.2⟩
theorem sp_X7_ifRemoved {m : Nat} {i : Int} {Q : AC} (hM : MInv X g I m Q) (hi : r32 i) (hx1 : ¬ (0 ≤ i ∧ i < aN Q.2.1) → ∀ I', MP X g I I' m Q 1 → post (.inl (some (vi 0))) g I' J) (hx2 : (0 ≤ i ∧ i < aN Q.2.1) → ∀ I', MP X g I I' m Q 0 → post (.inl (some (vi (hangN Q.2.1 i.toNat)))) g I' J) : ZV X E_X7_ifRemoved 0 [some (.ref m), some (vi i)] [] b g I J post := by
  have hL := hM.1
  have hG := hM.2.2.1.2
  have l0 := hL.1
  have h16 := hG.1.1
  refine ZV_aload_n dX7_ifRemoved_0 rfl ?_
  refine ZV_aload_n dX7_ifRemoved_1 rfl ?_
  refine ZV_iload_n dX7_ifRemoved_2 rfl ?_
  refine cl_X7_isWork kX7_ifRemoved_183 rfl dX7_ifRemoved_3 (by assumption) (Nat.le_of_ble_eq_true rfl) ?_
  refine sp_X7_isWork hM hi ?_
  by_cases hi2 : 0 ≤ i ∧ i < aN Q.2.1
  · rw [if_pos hi2]
    have hx := hx2 hi2
    obtain ⟨n, rfl⟩ : ∃ n : Nat, i = n := ⟨i.toNat, by omega⟩
    rw [Int.toNat_natCast] at hx
    refine ZV_if_eq (tgt := 13) dX7_ifRemoved_6 (by decide) ⟨by omega, by omega⟩ (fun h6 => ?_) (fun h6 => ?_)
    · omega
    · refine ZV_iconst dX7_ifRemoved_9 ?_
      refine ZV_goto (tgt := 14) dX7_ifRemoved_10 (by decide) ?_
      refine cl_X7_refused kX7_ifRemoved_125 rfl dX7_ifRemoved_14 (by assumption) (Nat.le_of_ble_eq_true rfl) ?_
      refine sp_X7_refused hL ⟨by decide, by decide⟩ ?_
      rw [if_neg (by decide)]
      refine ZV_if_eq (tgt := 24) dX7_ifRemoved_17 (by decide) ⟨by omega, by omega⟩ (fun h17 => ?_) (fun h17 => ?_)
      · refine ZV_aload_n dX7_ifRemoved_24 rfl ?_
        refine ZV_iload_n dX7_ifRemoved_25 rfl ?_
        refine cl_X7_without kX7_ifRemoved_228 rfl dX7_ifRemoved_26 (by assumption) (Nat.le_of_ble_eq_true rfl) ?_
        refine sp_X7_without hL (hM.ref (w := 0)).2.2.1.1 hG (by omega) ?_
        intro I2 hI2
        have hc1 := chgN_rng (aTake Q.2.1 n) (fun j => if j < n then keyOf Q.2.1 j else keyOf Q.2.1 (j + 1))
        have hc2 : ((aN (aTake Q.2.1 n) : Nat) : Int) ≤ aN Q.2.1 := by show ((aN Q.2.1 - 1 : Nat) : Int) ≤ aN Q.2.1; omega
        have hc4 : hangN Q.2.1 n = chgN (aTake Q.2.1 n) (fun j => if j < n then keyOf Q.2.1 j else keyOf Q.2.1 (j + 1)) := rfl
        refine ZV_iret dX7_ifRemoved_29 rfl ?_
        exact hx _ (hM.mp.tr4 hI2)
      · omega
  · rw [if_neg hi2]
    refine ZV_if_eq (tgt := 13) dX7_ifRemoved_6 (by decide) ⟨by omega, by omega⟩ (fun h6 => ?_) (fun h6 => ?_)
    · refine ZV_iconst dX7_ifRemoved_13 ?_
      refine cl_X7_refused kX7_ifRemoved_125 rfl dX7_ifRemoved_14 (by assumption) (Nat.le_of_ble_eq_true rfl) ?_
      refine sp_X7_refused hL ⟨by decide, by decide⟩ ?_
      rw [if_pos (by decide)]
      refine ZV_if_eq (tgt := 24) dX7_ifRemoved_17 (by decide) ⟨by omega, by omega⟩ (fun h17 => ?_) (fun h17 => ?_)
      · omega
      · refine ZV_iconst dX7_ifRemoved_20 ?_
        refine ZV_goto (tgt := 29) dX7_ifRemoved_21 (by decide) ?_
        refine ZV_iret dX7_ifRemoved_29 rfl ?_
        exact hx1 hi2 _ hM.mp
    · omega
theorem sp_X7_weightiest {m : Nat} {Q : AC} (hM : MInv X g I m Q) (h : ∀ I', MP X g I I' m Q 0 → post (.inl (some (vi (wtF Q.2.1 (aN Q.2.1)).1))) g I' J) : ZV X E_X7_weightiest 0 [some (.ref m), none, none, none, none] [] b g I J post := by
  have hL := hM.1
  have hG := hM.2.2.1.2
  have h16 := hG.1.1
  obtain ⟨l0, ⟨p1, p2, p3, p4, p5, p6, p7⟩, ⟨l1, l2, l3, l4, l5, l6⟩, ⟨j1, j2, j3, j4, j5, j6, j7⟩, ⟨k1, k2, k3, k4, k5, k6⟩⟩ := id hL
  have key : ∀ q : Nat, q ≤ aN Q.2.1 → ∀ (z f w : Int) (o : Option Value) (I' : Mm), z = (q : Int) → ((q = 0 ∧ f = -9 ∧ w = -9) ∨ (1 ≤ q ∧ wtF Q.2.1 q = (f, w))) → MP X g I I' m Q 0 → ZV X E_X7_weightiest 13 [some (.ref m), some (vi f), some (vi w), some (vi z), o] [] b g I' J post := by
    refine loop_up (aN Q.2.1) ?_ ?_
    · intro z f w o I' hz hfm mp
      have hx := h _ mp
      have r0 := mp.2.1.2.2.1.1.1.1
      have hr := wtF_rng Q.2.1 (aN Q.2.1)
      have ef : (wtF Q.2.1 (aN Q.2.1)).1 = f := by
        rcases hfm with ⟨e, e2, -⟩ | ⟨-, e⟩
        · rw [e, e2]; rfl
        · rw [e]
      rw [ef] at hx hr
      refine ZV_iload_n dX7_weightiest_13 rfl ?_
      refine ZV_aload_n dX7_weightiest_14 rfl ?_
      refine ZV_getR fX7_weightiest_16 dX7_weightiest_15 (by assumption) rfl (by assumption) ?_
      refine ZV_iconst dX7_weightiest_18 ?_
      refine ZV_iald (0) dX7_weightiest_19 (by assumption) (by first | rfl | omega) (by omega) (by omega) ?_
      rw [r0]
      refine ZV_icmp_ge (tgt := 61) dX7_weightiest_20 (by decide) ⟨by omega, by omega⟩ ⟨by omega, by omega⟩ (fun h20 => ?_) (fun h20 => ?_)
      · refine ZV_iload_n dX7_weightiest_61 rfl ?_
        refine ZV_iret dX7_weightiest_62 rfl ?_
        exact hx
      · omega
    · intro q hq ih z f w o I' hz hfm mp
      have r0 := mp.2.1.2.2.1.1.1.1
      subst hz
      have hfr : (-9 ≤ f ∧ f ≤ 16) ∧ (-9 ≤ w ∧ w ≤ 16) := by
        rcases hfm with ⟨e, e2, e3⟩ | ⟨e, e2⟩
        · omega
        · have hr := wtF_rng Q.2.1 q
          rw [e2] at hr
          obtain ⟨⟨r1, r2⟩, r3, r4⟩ : (-9 ≤ f ∧ f < (q : Int)) ∧ (0 ≤ w ∧ w ≤ aN Q.2.1) := hr
          omega
      refine ZV_iload_n dX7_weightiest_13 rfl ?_
      refine ZV_aload_n dX7_weightiest_14 rfl ?_
      refine ZV_getR fX7_weightiest_16 dX7_weightiest_15 (by assumption) rfl (by assumption) ?_
      refine ZV_iconst dX7_weightiest_18 ?_
      refine ZV_iald (0) dX7_weightiest_19 (by assumption) (by first | rfl | omega) (by omega) (by omega) ?_
      rw [r0]
      refine ZV_icmp_ge (tgt := 61) dX7_weightiest_20 (by decide) ⟨by omega, by omega⟩ ⟨by omega, by omega⟩ (fun h20 => ?_) (fun h20 => ?_)
      · omega
      · refine ZV_aload_n dX7_weightiest_23 rfl ?_
        refine ZV_iload_n dX7_weightiest_24 rfl ?_
        refine cl_X7_without kX7_weightiest_228 rfl dX7_weightiest_25 (by assumption) (Nat.le_of_ble_eq_true rfl) ?_
        refine sp_X7_without hL mp.2.1.2.2.1.1 hG hq ?_
        intro I2 hI2
        have hc1 := chgN_rng (aTake Q.2.1 q) (fun j => if j < q then keyOf Q.2.1 j else keyOf Q.2.1 (j + 1))
        have hc2 : ((aN (aTake Q.2.1 q) : Nat) : Int) ≤ aN Q.2.1 := by show ((aN Q.2.1 - 1 : Nat) : Int) ≤ aN Q.2.1; omega
        have hc4 : hangN Q.2.1 q = chgN (aTake Q.2.1 q) (fun j => if j < q then keyOf Q.2.1 j else keyOf Q.2.1 (j + 1)) := rfl
        have yes : w < hangN Q.2.1 q → wtF Q.2.1 (q + 1) = ((q : Int), hangN Q.2.1 q) := by
          intro e
          simp only [wtF]
          rcases hfm with ⟨e1, e2, e3⟩ | ⟨e1, e2⟩
          · subst e1
            exact if_pos (Or.inl rfl)
          · rw [e2]
            exact if_pos (Or.inr e)
        have no : ¬ w < hangN Q.2.1 q → wtF Q.2.1 (q + 1) = (f, w) := by
          intro e
          simp only [wtF]
          rcases hfm with ⟨e1, e2, e3⟩ | ⟨e1, e2⟩
          · omega
          · have := wtF_pos Q.2.1 q e1
            rw [e2] at this
            have this2 : 0 ≤ f := this
            rw [e2]
            refine if_neg (fun d => ?_)
            rcases d with d | d
            · have d2 : f = -9 := d
              omega
            · exact e d
        have fin : ∀ f2 w2, wtF Q.2.1 (q + 1) = (f2, w2) → ZV X E_X7_weightiest 54 [some (.ref m), some (vi f2), some (vi w), some (vi (q : Int)), some (vi (hangN Q.2.1 q))] [vi w2] b g I2 J post := by
          intro f2 w2 e
          refine ZV_istore2 dX7_weightiest_54 rfl (by decide) ?_
          refine ZV_jinc3 dX7_weightiest_55 rfl (by decide) ?_
          refine ZV_goto (tgt := 13) dX7_weightiest_58 (by decide) ?_
          exact ih _ _ _ _ _ (by omega) (Or.inr ⟨by omega, e⟩) (mp.tr4 hI2)
        have mid : ∀ f2 w2, wtF Q.2.1 (q + 1) = (f2, w2) → ((w < hangN Q.2.1 q ∧ w2 = hangN Q.2.1 q) ∨ (¬ w < hangN Q.2.1 q ∧ w2 = w)) → ZV X E_X7_weightiest 41 [some (.ref m), some (vi f), some (vi w), some (vi (q : Int)), some (vi (hangN Q.2.1 q))] [vi f2] b g I2 J post := by
          intro f2 w2 e hw
          refine ZV_istore1 dX7_weightiest_41 rfl (by decide) ?_
          refine ZV_iload dX7_weightiest_42 rfl ?_
          refine ZV_iload_n dX7_weightiest_44 rfl ?_
          refine ZV_icmp_le (tgt := 53) dX7_weightiest_45 (by decide) ⟨by omega, by omega⟩ ⟨by omega, by omega⟩ (fun h45 => ?_) (fun h45 => ?_)
          · refine ZV_iload_n dX7_weightiest_53 rfl ?_
            rw [show w = w2 by omega]
            rw [show w = w2 by omega] at fin
            exact fin _ _ e
          · refine ZV_iload dX7_weightiest_48 rfl ?_
            refine ZV_goto (tgt := 54) dX7_weightiest_50 (by decide) ?_
            rw [show hangN Q.2.1 q = w2 by omega]
            rw [show hangN Q.2.1 q = w2 by omega] at fin
            exact fin _ _ e
        refine ZV_istore4 dX7_weightiest_28 rfl (by decide) ?_
        refine ZV_iload dX7_weightiest_30 rfl ?_
        refine ZV_iload_n dX7_weightiest_32 rfl ?_
        refine ZV_icmp_le (tgt := 40) dX7_weightiest_33 (by decide) ⟨by omega, by omega⟩ ⟨by omega, by omega⟩ (fun h33 => ?_) (fun h33 => ?_)
        · refine ZV_iload_n dX7_weightiest_40 rfl ?_
          exact mid _ _ (no (by omega)) (Or.inr ⟨by omega, rfl⟩)
        · refine ZV_iload_n dX7_weightiest_36 rfl ?_
          refine ZV_goto (tgt := 41) dX7_weightiest_37 (by decide) ?_
          exact mid _ _ (yes (by omega)) (Or.inl ⟨by omega, rfl⟩)
  refine ZV_aload_n dX7_weightiest_0 rfl ?_
  refine ZV_iconst dX7_weightiest_1 ?_
  refine ZV_putI fX7_weightiest_54 dX7_weightiest_2 (by assumption) rfl ?_
  refine ZV_bipush dX7_weightiest_5 (by decide) ?_
  refine ZV_istore1 dX7_weightiest_7 rfl (by decide) ?_
  refine ZV_bipush dX7_weightiest_8 (by decide) ?_
  refine ZV_istore2 dX7_weightiest_10 rfl (by decide) ?_
  refine ZV_iconst dX7_weightiest_11 ?_
  refine ZV_istore3 dX7_weightiest_12 rfl (by decide) ?_
  exact key 0 (by omega) _ _ _ _ _ rfl (Or.inl ⟨rfl, rfl, rfl⟩) hM.mp
theorem sp_X7_letteredBy {m : Nat} {s : Int} {A : ASt} (hL : ML X g m) (hR : MR (I (m + 3)) A) (hG : GoodSt A) (hs : 0 ≤ s ∧ s < 4) (h : ∀ I', LFr I I' m → Laid I' m (aSty A s) → post (.inl (some (vi (letdN (aSty A s))))) g I' J) : ZV X E_X7_letteredBy 0 [some (.ref m), some (vi s)] [] b g I J post := by
  obtain ⟨l0, ⟨p1, p2, p3, p4, p5, p6, p7⟩, ⟨l1, l2, l3, l4, l5, l6⟩, ⟨j1, j2, j3, j4, j5, j6, j7⟩, ⟨k1, k2, k3, k4, k5, k6⟩⟩ := id hL
  have h16 := hG.1.1
  have hG2 : GoodSt (aSty A s) := hG.sty ⟨by omega, by omega⟩
  refine ZV_aload_n dX7_letteredBy_0 rfl ?_
  refine ZV_aload_n dX7_letteredBy_1 rfl ?_
  refine ZV_getR fX7_letteredBy_16 dX7_letteredBy_2 (by assumption) rfl (by assumption) ?_
  refine ZV_iload_n dX7_letteredBy_5 rfl ?_
  refine cl_X7_lay kX7_letteredBy_108 rfl dX7_letteredBy_6 (by assumption) (Nat.le_of_ble_eq_true rfl) ?_
  refine sp_X7_lay hL (Or.inl rfl) hR hG ⟨by omega, by omega⟩ ?_
  intro I1 hF hLd
  have r0 : I1 (m + 3) 0 = (aN A : Int) := by rw [hF _ (by omega) (by omega) (by omega) (by omega) (by omega)]; exact hR.1.1
  refine ZV_aload_n dX7_letteredBy_9 rfl ?_
  refine ZV_getR fX7_letteredBy_35 dX7_letteredBy_10 (by assumption) rfl (by assumption) ?_
  refine ZV_aload_n dX7_letteredBy_13 rfl ?_
  refine ZV_getR fX7_letteredBy_16 dX7_letteredBy_14 (by assumption) rfl (by assumption) ?_
  refine ZV_iconst dX7_letteredBy_17 ?_
  refine ZV_iald (0) dX7_letteredBy_18 (by assumption) (by first | rfl | omega) (by omega) (by omega) ?_
  rw [r0]
  refine cl_X7_lettered kX7_letteredBy_170 rfl dX7_letteredBy_19 (Nat.le_of_ble_eq_true rfl) ?_
  refine sp_X7_lettered k2 h16 (fun i hi => by
    have := letOf_rng hG2.1 i
    rw [(hLd i hi).2.1]; omega) ?_
  have e : zsum (fun i => if 0 < I1 (m + 9) i then 1 else 0) (aN A) = letdN (aSty A s) := zsum_congr _ fun i hi => by
    show (if 0 < I1 (m + 9) i then (1 : Int) else 0) = if 0 < klet (keyOf (aSty A s) i) then 1 else 0
    rw [klet_key hG2 hi, (hLd i hi).2.1]
  rw [e]
  refine ZV_iret dX7_letteredBy_22 rfl ?_
  exact h I1 hF hLd
theorem sp_X7_lettersWith {m : Nat} {s : Int} {Q : AC} (hM : MInv X g I m Q) (hs : r32 s) (hx1 : ¬ (0 ≤ s ∧ s < 4) → ∀ I', MP X g I I' m Q 1 → post (.inl (some (vi 0))) g I' J) (hx2 : (0 ≤ s ∧ s < 4) → ∀ I', MP X g I I' m Q 0 → post (.inl (some (vi (letdN (aSty Q.2.1 s))))) g I' J) : ZV X E_X7_lettersWith 0 [some (.ref m), some (vi s)] [] b g I J post := by
  have hL := hM.1
  have hG := hM.2.2.1.2
  have l0 := hL.1
  have h16 := hG.1.1
  refine ZV_aload_n dX7_lettersWith_0 rfl ?_
  refine ZV_iload_n dX7_lettersWith_1 rfl ?_
  refine cl_X7_isStyle kX7_lettersWith_219 rfl dX7_lettersWith_2 (Nat.le_of_ble_eq_true rfl) ?_
  refine sp_X7_isStyle hs ?_
  by_cases hc : 0 ≤ s ∧ s < 4
  · rw [if_pos hc]
    have hx := hx2 hc
    refine ZV_if_eq (tgt := 12) dX7_lettersWith_5 (by decide) ⟨by omega, by omega⟩ (fun h5 => ?_) (fun h5 => ?_)
    · omega
    · refine ZV_iconst dX7_lettersWith_8 ?_
      refine ZV_goto (tgt := 13) dX7_lettersWith_9 (by decide) ?_
      refine cl_X7_refused kX7_lettersWith_125 rfl dX7_lettersWith_13 (by assumption) (Nat.le_of_ble_eq_true rfl) ?_
      refine sp_X7_refused hL ⟨by decide, by decide⟩ ?_
      rw [if_neg (by decide)]
      refine ZV_if_eq (tgt := 23) dX7_lettersWith_16 (by decide) ⟨by omega, by omega⟩ (fun h16 => ?_) (fun h16 => ?_)
      · refine ZV_aload_n dX7_lettersWith_23 rfl ?_
        refine ZV_iload_n dX7_lettersWith_24 rfl ?_
        refine cl_X7_letteredBy kX7_lettersWith_235 rfl dX7_lettersWith_25 (by assumption) (Nat.le_of_ble_eq_true rfl) ?_
        refine sp_X7_letteredBy hL (hM.ref (w := 0)).2.2.1.1 hG hc ?_
        intro I2 hF2 _
        have hl := letdN_rng (aSty Q.2.1 s)
        have hl2 : ((aN (aSty Q.2.1 s) : Nat) : Int) = aN Q.2.1 := rfl
        refine ZV_iret dX7_lettersWith_28 rfl ?_
        exact hx _ (hM.mp.lay hF2)
      · omega
  · rw [if_neg hc]
    refine ZV_if_eq (tgt := 12) dX7_lettersWith_5 (by decide) ⟨by omega, by omega⟩ (fun h5 => ?_) (fun h5 => ?_)
    · refine ZV_iconst dX7_lettersWith_12 ?_
      refine cl_X7_refused kX7_lettersWith_125 rfl dX7_lettersWith_13 (by assumption) (Nat.le_of_ble_eq_true rfl) ?_
      refine sp_X7_refused hL ⟨by decide, by decide⟩ ?_
      rw [if_pos (by decide)]
      refine ZV_if_eq (tgt := 23) dX7_lettersWith_16 (by decide) ⟨by omega, by omega⟩ (fun h16 => ?_) (fun h16 => ?_)
      · omega
      · refine ZV_iconst dX7_lettersWith_19 ?_
        refine ZV_goto (tgt := 28) dX7_lettersWith_20 (by decide) ?_
        refine ZV_iret dX7_lettersWith_28 rfl ?_
        exact hx1 hc _ hM.mp
    · omega
theorem lng_lgst {m : Nat} {B : ASt} (h : Laid I m B) : zmx (fun i => I (m + 8) (14 * i)) (aN B) = lgst B := zmx_congr _ fun i hi => (h i hi).1.1
theorem sp_X7_bestStyle {m : Nat} {Q : AC} (hM : MInv X g I m Q) (h : ∀ I', MP X g I I' m Q 0 → post (.inl (some (vi (bsF Q.2.1 4).1))) g I' J) : ZV X E_X7_bestStyle 0 [some (.ref m), none, none, none, none, none, none] [] b g I J post := by
  have hL := hM.1
  have hG := hM.2.2.1.2
  have h16 := hG.1.1
  obtain ⟨l0, ⟨p1, p2, p3, p4, p5, p6, p7⟩, ⟨l1, l2, l3, l4, l5, l6⟩, ⟨j1, j2, j3, j4, j5, j6, j7⟩, ⟨k1, k2, k3, k4, k5, k6⟩⟩ := id hL
  have lg : ∀ (s : Int) (I1 : Mm), (0 ≤ s ∧ s < 4) → Laid I1 m (aSty Q.2.1 s) → ∀ i, i < aN Q.2.1 → 0 ≤ I1 (m + 8) (14 * i) ∧ I1 (m + 8) (14 * i) ≤ 100 := fun s I1 hs hLd i hi => by
    have := klen_rng (keyOf (aSty Q.2.1 s) i)
    have e1 : I1 (m + 8) (14 * i) = klen (keyOf (aSty Q.2.1 s) i) := (hLd i hi).1.1
    rw [e1]; omega
  have key : ∀ q : Nat, q ≤ 4 → 1 ≤ q → ∀ (z f w s : Int) (o o' : Option Value) (I' : Mm), z = (q : Int) → bsF Q.2.1 q = (f, w, s) → MP X g I I' m Q 0 → ZV X E_X7_bestStyle 27 [some (.ref m), some (vi f), some (vi w), some (vi s), some (vi z), o, o'] [] b g I' J post := by
    refine loop_up 4 ?_ ?_
    · intro _ z f w s o o' I' hz hfm mp
      have hx := h _ mp
      have hr := bsF_rng Q.2.1 4
      rw [hfm] at hx hr
      have hr1 : 0 ≤ f ∧ f ≤ ((4 : Nat) : Int) := hr.1
      refine ZV_iload dX7_bestStyle_27 rfl ?_
      refine ZV_iconst dX7_bestStyle_29 ?_
      refine ZV_icmp_ge (tgt := 86) dX7_bestStyle_30 (by decide) ⟨by omega, by omega⟩ ⟨by omega, by omega⟩ (fun h30 => ?_) (fun h30 => ?_)
      · refine ZV_iload_n dX7_bestStyle_86 rfl ?_
        refine ZV_iret dX7_bestStyle_87 rfl ?_
        exact hx
      · omega
    · intro q hq ih hq1 z f w s o o' I' hz hfm mp
      have hr := bsF_rng Q.2.1 q
      rw [hfm] at hr
      obtain ⟨⟨r1, r2⟩, ⟨r3, r4⟩, r5, r6⟩ : (0 ≤ f ∧ f ≤ (q : Int)) ∧ (0 ≤ w ∧ w ≤ aN Q.2.1) ∧ (0 ≤ s ∧ s ≤ 14) := hr
      subst hz
      refine ZV_iload dX7_bestStyle_27 rfl ?_
      refine ZV_iconst dX7_bestStyle_29 ?_
      refine ZV_icmp_ge (tgt := 86) dX7_bestStyle_30 (by decide) ⟨by omega, by omega⟩ ⟨by omega, by omega⟩ (fun h30 => ?_) (fun h30 => ?_)
      · omega
      · refine ZV_aload_n dX7_bestStyle_33 rfl ?_
        refine ZV_iload dX7_bestStyle_34 rfl ?_
        refine cl_X7_letteredBy kX7_bestStyle_235 rfl dX7_bestStyle_36 (by assumption) (Nat.le_of_ble_eq_true rfl) ?_
        refine sp_X7_letteredBy hL mp.2.1.2.2.1.1 hG ⟨by omega, by omega⟩ ?_
        intro I1 hF1 hL1
        have mp1 := mp.lay hF1
        have r0 := mp1.2.1.2.2.1.1.1.1
        have k1 := letdN_rng (aSty Q.2.1 (q : Int))
        have k2 := lgst_rng (aSty Q.2.1 (q : Int))
        have k3 : ((aN (aSty Q.2.1 (q : Int)) : Nat) : Int) = aN Q.2.1 := rfl
        refine ZV_istore5 dX7_bestStyle_39 rfl (by decide) ?_
        refine ZV_aload_n dX7_bestStyle_41 rfl ?_
        refine ZV_aload_n dX7_bestStyle_42 rfl ?_
        refine ZV_getR fX7_bestStyle_16 dX7_bestStyle_43 (by assumption) rfl (by assumption) ?_
        refine ZV_iconst dX7_bestStyle_46 ?_
        refine ZV_iald (0) dX7_bestStyle_47 (by assumption) (by first | rfl | omega) (by omega) (by omega) ?_
        rw [r0]
        refine cl_X7_longest kX7_bestStyle_176 rfl dX7_bestStyle_48 (by assumption) (Nat.le_of_ble_eq_true rfl) ?_
        refine sp_X7_longest hL h16 (lg _ I1 ⟨by omega, by omega⟩ hL1) ?_
        rw [show zmx (fun i => I1 (m + 8) (14 * i)) (aN Q.2.1) = lgst (aSty Q.2.1 (q : Int)) from lng_lgst hL1]
        have yes : (letdN (aSty Q.2.1 (q : Int)) < w ∨ (letdN (aSty Q.2.1 (q : Int)) = w ∧ lgst (aSty Q.2.1 (q : Int)) < s)) → bsF Q.2.1 (q + 1) = ((q : Int), letdN (aSty Q.2.1 (q : Int)), lgst (aSty Q.2.1 (q : Int))) := by
          intro e
          simp only [bsF]
          rw [hfm]
          exact if_pos (Or.inr e)
        have no : ¬ (letdN (aSty Q.2.1 (q : Int)) < w ∨ (letdN (aSty Q.2.1 (q : Int)) = w ∧ lgst (aSty Q.2.1 (q : Int)) < s)) → bsF Q.2.1 (q + 1) = (f, w, s) := by
          intro e
          simp only [bsF]
          rw [hfm]
          exact if_neg (fun d => by rcases d with d | d; omega; exact e d)
        have take : (letdN (aSty Q.2.1 (q : Int)) < w ∨ (letdN (aSty Q.2.1 (q : Int)) = w ∧ lgst (aSty Q.2.1 (q : Int)) < s)) → ZV X E_X7_bestStyle 71 [some (.ref m), some (vi f), some (vi w), some (vi s), some (vi (q : Int)), some (vi (letdN (aSty Q.2.1 (q : Int)))), some (vi (lgst (aSty Q.2.1 (q : Int))))] [] b g I1 J post := by
          intro e
          refine ZV_iload dX7_bestStyle_71 rfl ?_
          refine ZV_istore1 dX7_bestStyle_73 rfl (by decide) ?_
          refine ZV_iload dX7_bestStyle_74 rfl ?_
          refine ZV_istore2 dX7_bestStyle_76 rfl (by decide) ?_
          refine ZV_iload dX7_bestStyle_77 rfl ?_
          refine ZV_istore3 dX7_bestStyle_79 rfl (by decide) ?_
          refine ZV_jinc4 dX7_bestStyle_80 rfl (by decide) ?_
          refine ZV_goto (tgt := 27) dX7_bestStyle_83 (by decide) ?_
          exact ih (by omega) _ _ _ _ _ _ _ (by omega) (yes e) mp1
        have leave : ¬ (letdN (aSty Q.2.1 (q : Int)) < w ∨ (letdN (aSty Q.2.1 (q : Int)) = w ∧ lgst (aSty Q.2.1 (q : Int)) < s)) → ZV X E_X7_bestStyle 80 [some (.ref m), some (vi f), some (vi w), some (vi s), some (vi (q : Int)), some (vi (letdN (aSty Q.2.1 (q : Int)))), some (vi (lgst (aSty Q.2.1 (q : Int))))] [] b g I1 J post := by
          intro e
          refine ZV_jinc4 dX7_bestStyle_80 rfl (by decide) ?_
          refine ZV_goto (tgt := 27) dX7_bestStyle_83 (by decide) ?_
          exact ih (by omega) _ _ _ _ _ _ _ (by omega) (no e) mp1
        refine ZV_istore6 dX7_bestStyle_51 rfl (by decide) ?_
        refine ZV_iload dX7_bestStyle_53 rfl ?_
        refine ZV_iload_n dX7_bestStyle_55 rfl ?_
        refine ZV_icmp_lt (tgt := 71) dX7_bestStyle_56 (by decide) ⟨by omega, by omega⟩ ⟨by omega, by omega⟩ (fun h56 => ?_) (fun h56 => ?_)
        · exact take (Or.inl (by omega))
        · refine ZV_iload dX7_bestStyle_59 rfl ?_
          refine ZV_iload_n dX7_bestStyle_61 rfl ?_
          refine ZV_icmp_ne (tgt := 80) dX7_bestStyle_62 (by decide) ⟨by omega, by omega⟩ ⟨by omega, by omega⟩ (fun h62 => ?_) (fun h62 => ?_)
          · exact leave (by omega)
          · refine ZV_iload dX7_bestStyle_65 rfl ?_
            refine ZV_iload_n dX7_bestStyle_67 rfl ?_
            refine ZV_icmp_ge (tgt := 80) dX7_bestStyle_68 (by decide) ⟨by omega, by omega⟩ ⟨by omega, by omega⟩ (fun h68 => ?_) (fun h68 => ?_)
            · exact leave (by omega)
            · exact take (Or.inr ⟨by omega, by omega⟩)
  refine ZV_aload_n dX7_bestStyle_0 rfl ?_
  refine ZV_iconst dX7_bestStyle_1 ?_
  refine ZV_putI fX7_bestStyle_54 dX7_bestStyle_2 (by assumption) rfl ?_
  refine ZV_iconst dX7_bestStyle_5 ?_
  refine ZV_istore1 dX7_bestStyle_6 rfl (by decide) ?_
  refine ZV_aload_n dX7_bestStyle_7 rfl ?_
  refine ZV_iconst dX7_bestStyle_8 ?_
  refine cl_X7_letteredBy kX7_bestStyle_235 rfl dX7_bestStyle_9 (by assumption) (Nat.le_of_ble_eq_true rfl) ?_
  refine sp_X7_letteredBy (s := 0) hL (hM.ref (w := 0)).2.2.1.1 hG ⟨by decide, by decide⟩ ?_
  intro I1 hF1 hL1
  have mp1 := hM.mp.lay hF1
  have r0 := mp1.2.1.2.2.1.1.1.1
  have k1 := letdN_rng (aSty Q.2.1 0)
  have k2 := lgst_rng (aSty Q.2.1 0)
  have k3 : ((aN (aSty Q.2.1 0) : Nat) : Int) = aN Q.2.1 := rfl
  refine ZV_istore2 dX7_bestStyle_12 rfl (by decide) ?_
  refine ZV_aload_n dX7_bestStyle_13 rfl ?_
  refine ZV_aload_n dX7_bestStyle_14 rfl ?_
  refine ZV_getR fX7_bestStyle_16 dX7_bestStyle_15 (by assumption) rfl (by assumption) ?_
  refine ZV_iconst dX7_bestStyle_18 ?_
  refine ZV_iald (0) dX7_bestStyle_19 (by assumption) (by first | rfl | omega) (by omega) (by omega) ?_
  rw [r0]
  refine cl_X7_longest kX7_bestStyle_176 rfl dX7_bestStyle_20 (by assumption) (Nat.le_of_ble_eq_true rfl) ?_
  refine sp_X7_longest hL h16 (lg 0 I1 ⟨by decide, by decide⟩ hL1) ?_
  rw [show zmx (fun i => I1 (m + 8) (14 * i)) (aN Q.2.1) = lgst (aSty Q.2.1 0) from lng_lgst hL1]
  refine ZV_istore3 dX7_bestStyle_23 rfl (by decide) ?_
  refine ZV_iconst dX7_bestStyle_24 ?_
  refine ZV_istore4 dX7_bestStyle_25 rfl (by decide) ?_
  exact key 1 (by decide) (Nat.le_refl 1) _ _ _ _ _ _ _ rfl rfl mp1
theorem sp_X7_isFree {m i : Nat} {y : Int} {A B : ASt} (hL : ML X g m) (hR : MR (I (m + 4)) B) (hB : TB A i B) (hG : GoodSt A) (hi : i < aN A) (hy : 1000 ≤ y ∧ y ≤ 2999) (h : ∀ I' B', (∀ q, q ≠ m + 4 → q ≠ m + 12 → q ≠ m + 13 → I' q = I q) → MR (I' (m + 4)) B' → TB A i B' → post (.inl (some (vi (if zsum (fun j => if j ≠ i ∧ stemOf A j = stm (aW A i) (aS A) y then 1 else 0) (aN A) = 0 then 1 else 0)))) g I' J) : ZV X E_X7_isFree 0 [some (.ref m), some (vi (i : Int)), some (vi y), none, none] [] b g I J post := by
  obtain ⟨l0, ⟨p1, p2, p3, p4, p5, p6, p7⟩, ⟨l1, l2, l3, l4, l5, l6⟩, ⟨j1, j2, j3, j4, j5, j6, j7⟩, ⟨k1, k2, k3, k4, k5, k6⟩⟩ := id hL
  have h16 := hG.1.1
  obtain ⟨b1, b2, b3, b4, y0, b5⟩ := hB
  have hs := hG.1.2.2.1
  -- the trial with this year
  obtain ⟨C, hC⟩ : ∃ C, C = aSet B i (yrW (aW B i) y) := ⟨_, rfl⟩
  have c1 : aN C = aN A := by rw [hC]; exact b1
  have c2 : aS C = aS A := by rw [hC]; exact b2
  have c3 : GoodSt C := by rw [hC]; exact b3.set ((b3.2.1 i (by omega)).yr hy)
  have c4 : ∀ j, j ≠ i → aW C j = aW A j := fun j hj => by
    rw [hC]
    show (if j = i then yrW (aW B i) y else aW B j) = aW A j
    rw [if_neg hj]; exact b4 j hj
  have c5 : aW C i = yrW (aW A i) y := by
    rw [hC]
    show (if i = i then yrW (aW B i) y else aW B i) = _
    rw [if_pos rfl, b5]; rfl
  have hTB : TB A i C := ⟨c1, c2, c3, c4, y, c5⟩
  have eS : stm (aW C i) (aS A) (aW C i).2.2.1 = stm (aW A i) (aS A) y := by rw [c5]; rfl
  have eSj : ∀ j, j ≠ i → stm (aW C j) (aS A) (aW C j).2.2.1 = stemOf A j := fun j hj => by rw [c4 j hj]; rfl
  obtain ⟨S, hS⟩ : ∃ S, S = stm (aW A i) (aS A) y := ⟨_, rfl⟩
  rw [← hS] at h eS
  have kS : KWF S := ⟨aW C i, aS A, 0, c3.2.1 i (by omega), hs, ⟨by decide, by decide⟩, by rw [Int.add_zero, eS]⟩
  have z01 : ∀ j, (if j ≠ i ∧ stemOf A j = S then (1 : Int) else 0) = 0 ∨ (if j ≠ i ∧ stemOf A j = S then (1 : Int) else 0) = 1 := fun j => by split <;> simp
  refine ZV_aload_n dX7_isFree_0 rfl ?_
  refine ZV_getR fX7_isFree_19 dX7_isFree_1 (by assumption) rfl (by assumption) ?_
  refine ZV_iload_n dX7_isFree_4 rfl ?_
  refine ZV_iconst dX7_isFree_5 ?_
  refine cl_X7_cell kX7_isFree_67 rfl dX7_isFree_6 (Nat.le_of_ble_eq_true rfl) ?_
  refine sp_X7_cell ?_
  refine ZV_iload_n dX7_isFree_9 rfl ?_
  refine ZV_iast (4 + 47 * i + 0) dX7_isFree_10 (by assumption) (by first | rfl | omega) (by omega) (by omega) ?_
  have hRC : MR (up2 I (m + 4) (4 + 47 * i + 0) y (m + 4)) C := by
    rw [hC]
    refine MR.set hR b3 (by omega) (fun k e1 e2 => up2_k (by omega)) ?_
    obtain ⟨⟨v1, v2⟩, v3, v4⟩ := hR.2.1 i (by omega)
    exact ⟨⟨by rw [show 4 + 47 * i = 4 + 47 * i + 0 by omega, up2_same]; rfl, by rw [up2_k (by omega)]; exact v2⟩, fun a ha => (v3 a ha).move (fun k hk => up2_k (by omega)), v4.move (fun k hk => up2_k (by omega))⟩
  refine ZV_aload_n dX7_isFree_11 rfl ?_
  refine ZV_aload_n dX7_isFree_12 rfl ?_
  refine ZV_getR fX7_isFree_19 dX7_isFree_13 (by assumption) rfl (by assumption) ?_
  refine ZV_iload_n dX7_isFree_16 rfl ?_
  refine ZV_aload_n dX7_isFree_17 rfl ?_
  refine ZV_getR fX7_isFree_19 dX7_isFree_18 (by assumption) rfl (by assumption) ?_
  refine ZV_iconst dX7_isFree_21 ?_
  refine ZV_iald (1) dX7_isFree_22 (by assumption) (by first | rfl | omega) (by omega) (by omega) ?_
  rw [hRC.1.2.1, c2]
  refine cl_X7_layStem kX7_isFree_93 rfl dX7_isFree_23 (by assumption) (Nat.le_of_ble_eq_true rfl) ?_
  refine sp_X7_layStem hL (Or.inr rfl) (by omega) (hRC.2.1 i (by omega)) (c3.2.1 i (by omega)) hs ?_
  intro I1 hI1 hK1
  rw [eS] at hK1
  have hR1 : MR (I1 (m + 4)) C := by rw [hI1 _ (by omega)]; exact hRC
  refine ZV_aload_n dX7_isFree_26 rfl ?_
  refine ZV_getR fX7_isFree_47 dX7_isFree_27 (by assumption) rfl (by assumption) ?_
  refine ZV_iconst dX7_isFree_30 ?_
  refine ZV_aload_n dX7_isFree_31 rfl ?_
  refine ZV_getR fX7_isFree_44 dX7_isFree_32 (by assumption) rfl (by assumption) ?_
  refine ZV_iconst dX7_isFree_35 ?_
  refine ZV_bipush dX7_isFree_36 (by decide) ?_
  refine cl_X7_copy kX7_isFree_63 rfl dX7_isFree_38 (Nat.le_of_ble_eq_true rfl) ?_
  refine sp_X7_copy (x := 0) (y := 0) (n := 14) k6 k5 (by omega) (by omega) (by omega) (by omega) (Or.inl (by omega)) ?_
  intro I2 hI2 hI2k
  have hR2 : MR (I2 (m + 4)) C := by rw [hI2 _ (by omega)]; exact hR1
  have hW2 : KeA (I2 (m + 12)) 0 S := hK1.move (fun k hk => by have := kS.len; rw [hI2k, if_pos ⟨by omega, by omega⟩, show 0 + (0 + k - 0) = 0 + k by omega])
  have fr2 : ∀ q, q ≠ m + 4 → q ≠ m + 12 → q ≠ m + 13 → I2 q = I q := fun q q1 q2 q3 => by rw [hI2 q q2, hI1 q q3, up2_row _ _ q1]
  have stop0 : ∀ (z : Int) (I' : Mm), (0 ≤ z ∧ z ≤ 20) → (∀ q, q ≠ m + 13 → I' q = I2 q) → zsum (fun j => if j ≠ i ∧ stemOf A j = S then 1 else 0) (aN A) ≠ 0 → ZV X E_X7_isFree 46 [some (.ref m), some (vi (i : Int)), some (vi y), some (vi 0), some (vi z)] [] b g I' J post := by
    intro z I' hz hI' hne
    have hR' : MR (I' (m + 4)) C := by rw [hI' _ (by omega)]; exact hR2
    have hx := h I' C (fun q q1 q2 q3 => (hI' q q3).trans (fr2 q q1 q2 q3)) hR' hTB
    rw [if_neg hne] at hx
    refine ZV_iload dX7_isFree_46 rfl ?_
    refine ZV_aload_n dX7_isFree_48 rfl ?_
    refine ZV_getR fX7_isFree_19 dX7_isFree_49 (by assumption) rfl (by assumption) ?_
    refine ZV_iconst dX7_isFree_52 ?_
    refine ZV_iald (0) dX7_isFree_53 (by assumption) (by first | rfl | omega) (by omega) (by omega) ?_
    rw [hR'.1.1, c1]
    refine ZV_icmp_ge (tgt := 111) dX7_isFree_54 (by decide) ⟨by omega, by omega⟩ ⟨by omega, by omega⟩ (fun h54 => ?_) (fun h54 => ?_)
    · refine ZV_iload_n dX7_isFree_111 rfl ?_
      refine ZV_zret dX7_isFree_112 rfl (by first | exact Or.inl rfl | exact Or.inr rfl | assumption | omega) ?_
      exact hx
    · refine ZV_iload_n dX7_isFree_57 rfl ?_
      refine ZV_if_eq (tgt := 111) dX7_isFree_58 (by decide) ⟨by omega, by omega⟩ (fun h58 => ?_) (fun h58 => ?_)
      · refine ZV_iload_n dX7_isFree_111 rfl ?_
        refine ZV_zret dX7_isFree_112 rfl (by first | exact Or.inl rfl | exact Or.inr rfl | assumption | omega) ?_
        exact hx
      · omega
  have key : ∀ q : Nat, q ≤ aN A → ∀ (z : Int) (I' : Mm), z = (q : Int) → (∀ q, q ≠ m + 13 → I' q = I2 q) → zsum (fun j => if j ≠ i ∧ stemOf A j = S then 1 else 0) q = 0 → ZV X E_X7_isFree 46 [some (.ref m), some (vi (i : Int)), some (vi y), some (vi 1), some (vi z)] [] b g I' J post := by
    refine loop_up (aN A) ?_ ?_
    · intro z I' hz hI' hs0
      have hR' : MR (I' (m + 4)) C := by rw [hI' _ (by omega)]; exact hR2
      have hx := h I' C (fun q q1 q2 q3 => (hI' q q3).trans (fr2 q q1 q2 q3)) hR' hTB
      rw [if_pos hs0] at hx
      refine ZV_iload dX7_isFree_46 rfl ?_
      refine ZV_aload_n dX7_isFree_48 rfl ?_
      refine ZV_getR fX7_isFree_19 dX7_isFree_49 (by assumption) rfl (by assumption) ?_
      refine ZV_iconst dX7_isFree_52 ?_
      refine ZV_iald (0) dX7_isFree_53 (by assumption) (by first | rfl | omega) (by omega) (by omega) ?_
      rw [hR'.1.1, c1]
      refine ZV_icmp_ge (tgt := 111) dX7_isFree_54 (by decide) ⟨by omega, by omega⟩ ⟨by omega, by omega⟩ (fun h54 => ?_) (fun h54 => ?_)
      · refine ZV_iload_n dX7_isFree_111 rfl ?_
        refine ZV_zret dX7_isFree_112 rfl (by first | exact Or.inl rfl | exact Or.inr rfl | assumption | omega) ?_
        exact hx
      · omega
    · intro q hq ih z I' hz hI' hs0
      subst hz
      have hR' : MR (I' (m + 4)) C := by rw [hI' _ (by omega)]; exact hR2
      refine ZV_iload dX7_isFree_46 rfl ?_
      refine ZV_aload_n dX7_isFree_48 rfl ?_
      refine ZV_getR fX7_isFree_19 dX7_isFree_49 (by assumption) rfl (by assumption) ?_
      refine ZV_iconst dX7_isFree_52 ?_
      refine ZV_iald (0) dX7_isFree_53 (by assumption) (by first | rfl | omega) (by omega) (by omega) ?_
      rw [hR'.1.1, c1]
      refine ZV_icmp_ge (tgt := 111) dX7_isFree_54 (by decide) ⟨by omega, by omega⟩ ⟨by omega, by omega⟩ (fun h54 => ?_) (fun h54 => ?_)
      · omega
      · refine ZV_iload_n dX7_isFree_57 rfl ?_
        refine ZV_if_eq (tgt := 111) dX7_isFree_58 (by decide) ⟨by omega, by omega⟩ (fun h58 => ?_) (fun h58 => ?_)
        · omega
        · refine ZV_iload dX7_isFree_61 rfl ?_
          refine ZV_iload_n dX7_isFree_63 rfl ?_
          refine ZV_icmp_eq (tgt := 105) dX7_isFree_64 (by decide) ⟨by omega, by omega⟩ ⟨by omega, by omega⟩ (fun h64 => ?_) (fun h64 => ?_)
          · refine ZV_jinc4 dX7_isFree_105 rfl (by decide) ?_
            refine ZV_goto (tgt := 46) dX7_isFree_108 (by decide) ?_
            exact ih _ _ (by omega) hI' (by simp only [zsum]; rw [if_neg (fun e => e.1 (by omega))]; omega)
          · have hqi : q ≠ i := by omega
            refine ZV_aload_n dX7_isFree_67 rfl ?_
            refine ZV_aload_n dX7_isFree_68 rfl ?_
            refine ZV_getR fX7_isFree_19 dX7_isFree_69 (by assumption) rfl (by assumption) ?_
            refine ZV_iload dX7_isFree_72 rfl ?_
            refine ZV_aload_n dX7_isFree_74 rfl ?_
            refine ZV_getR fX7_isFree_19 dX7_isFree_75 (by assumption) rfl (by assumption) ?_
            refine ZV_iconst dX7_isFree_78 ?_
            refine ZV_iald (1) dX7_isFree_79 (by assumption) (by first | rfl | omega) (by omega) (by omega) ?_
            rw [hR'.1.2.1, c2]
            refine cl_X7_layStem kX7_isFree_93 rfl dX7_isFree_80 (by assumption) (Nat.le_of_ble_eq_true rfl) ?_
            refine sp_X7_layStem hL (Or.inr rfl) (by omega) (hR'.2.1 q (by omega)) (c3.2.1 q (by omega)) hs ?_
            intro I3 hI3 hK3
            rw [eSj q hqi] at hK3
            have hI3' : ∀ q, q ≠ m + 13 → I3 q = I2 q := fun q hq => (hI3 q hq).trans (hI' q hq)
            have hW3 : KeA (I3 (m + 12)) 0 S := by rw [hI3' _ (by omega)]; exact hW2
            refine ZV_aload_n dX7_isFree_83 rfl ?_
            refine ZV_getR fX7_isFree_47 dX7_isFree_84 (by assumption) rfl (by assumption) ?_
            refine ZV_iconst dX7_isFree_87 ?_
            refine ZV_aload_n dX7_isFree_88 rfl ?_
            refine ZV_getR fX7_isFree_44 dX7_isFree_89 (by assumption) rfl (by assumption) ?_
            refine ZV_iconst dX7_isFree_92 ?_
            refine cl_X7_areLike kX7_isFree_97 rfl dX7_isFree_93 (Nat.le_of_ble_eq_true rfl) ?_
            refine sp_X7_areLike (pa := 0) (pb := 0) k6 k5 (by omega) (by omega) (by omega) (by omega) hK3 hW3 (stemOf_KWF hG hq) kS ?_
            by_cases e : stemOf A q = S
            · rw [if_pos e]
              have hne : zsum (fun j => if j ≠ i ∧ stemOf A j = S then 1 else 0) (aN A) ≠ 0 := by
                intro e0
                have e1 := zsum_one (f := fun j => if j ≠ i ∧ stemOf A j = S then 1 else 0) (n := aN A) (q := q) z01 hq
                simp only [e0] at e1
                rw [if_pos ⟨hqi, e⟩] at e1
                omega
              refine ZV_if_ne (tgt := 103) dX7_isFree_96 (by decide) ⟨by omega, by omega⟩ (fun h96 => ?_) (fun h96 => ?_)
              · refine ZV_iconst dX7_isFree_103 ?_
                refine ZV_istore3 dX7_isFree_104 rfl (by decide) ?_
                refine ZV_jinc4 dX7_isFree_105 rfl (by decide) ?_
                refine ZV_goto (tgt := 46) dX7_isFree_108 (by decide) ?_
                exact stop0 _ _ ⟨by omega, by omega⟩ hI3' hne
              · omega
            · rw [if_neg e]
              refine ZV_if_ne (tgt := 103) dX7_isFree_96 (by decide) ⟨by omega, by omega⟩ (fun h96 => ?_) (fun h96 => ?_)
              · omega
              · refine ZV_iconst dX7_isFree_99 ?_
                refine ZV_goto (tgt := 104) dX7_isFree_100 (by decide) ?_
                refine ZV_istore3 dX7_isFree_104 rfl (by decide) ?_
                refine ZV_jinc4 dX7_isFree_105 rfl (by decide) ?_
                refine ZV_goto (tgt := 46) dX7_isFree_108 (by decide) ?_
                exact ih _ _ (by omega) hI3' (by simp only [zsum]; rw [if_neg (fun d => e d.2)]; omega)
  refine ZV_iconst dX7_isFree_41 ?_
  refine ZV_istore3 dX7_isFree_42 rfl (by decide) ?_
  refine ZV_iconst dX7_isFree_43 ?_
  refine ZV_istore4 dX7_isFree_44 rfl (by decide) ?_
  exact key 0 (by omega) _ _ rfl (fun _ _ => rfl) rfl
theorem sp_X7_freeYear {m : Nat} {i : Int} {Q : AC} (hM : MInv X g I m Q) (hi : r32 i) (hx1 : ¬ (0 ≤ i ∧ i < aN Q.2.1) → ∀ I', MP X g I I' m Q 1 → post (.inl (some (vi 0))) g I' J) (hx2 : (0 ≤ i ∧ i < aN Q.2.1) → ∀ I', MP X g I I' m Q 0 → post (.inl (some (vi (fyF Q.2.1 i.toNat 2000)))) g I' J) : ZV X E_X7_freeYear 0 [some (.ref m), some (vi i), none, none] [] b g I J post := by
  have hL := hM.1
  have hG := hM.2.2.1.2
  obtain ⟨l0, ⟨p1, p2, p3, p4, p5, p6, p7⟩, ⟨l1, l2, l3, l4, l5, l6⟩, ⟨j1, j2, j3, j4, j5, j6, j7⟩, ⟨k1, k2, k3, k4, k5, k6⟩⟩ := id hL
  have h16 := hG.1.1
  refine ZV_aload_n dX7_freeYear_0 rfl ?_
  refine ZV_aload_n dX7_freeYear_1 rfl ?_
  refine ZV_iload_n dX7_freeYear_2 rfl ?_
  refine cl_X7_isWork kX7_freeYear_183 rfl dX7_freeYear_3 (by assumption) (Nat.le_of_ble_eq_true rfl) ?_
  refine sp_X7_isWork hM hi ?_
  by_cases hi2 : 0 ≤ i ∧ i < aN Q.2.1
  · rw [if_pos hi2]
    have hx := hx2 hi2
    obtain ⟨n, rfl⟩ : ∃ n : Nat, i = n := ⟨i.toNat, by omega⟩
    have hn : n < aN Q.2.1 := by omega
    rw [Int.toNat_natCast] at hx
    refine ZV_if_eq (tgt := 13) dX7_freeYear_6 (by decide) ⟨by omega, by omega⟩ (fun h6 => ?_) (fun h6 => ?_)
    · omega
    · refine ZV_iconst dX7_freeYear_9 ?_
      refine ZV_goto (tgt := 14) dX7_freeYear_10 (by decide) ?_
      refine cl_X7_refused kX7_freeYear_125 rfl dX7_freeYear_14 (by assumption) (Nat.le_of_ble_eq_true rfl) ?_
      refine sp_X7_refused hL ⟨by decide, by decide⟩ ?_
      rw [if_neg (by decide)]
      refine ZV_if_eq (tgt := 22) dX7_freeYear_17 (by decide) ⟨by omega, by omega⟩ (fun h17 => ?_) (fun h17 => ?_)
      · refine ZV_aload_n dX7_freeYear_22 rfl ?_
        refine cl_X7_begin kX7_freeYear_225 rfl dX7_freeYear_23 (by assumption) (Nat.le_of_ble_eq_true rfl) ?_
        refine sp_X7_begin hL (hM.ref (w := 0)).2.2.1.1 hG ?_
        intro I1 hI1 hR1
        have mp1 : MP X g I I1 m Q 0 := hM.mp.tr4 (fun q _ hq => hI1 q hq)
        have hyr := (hG.2.1 n hn).2.2.2.1
        have wn : I1 (m + 3) (4 + 47 * n + 0) = (aW Q.2.1 n).2.2.1 := (mp1.2.1.2.2.1.1.2.1 n hn).1.1
        obtain ⟨y, hy⟩ : ∃ y, y = (aW Q.2.1 n).2.2.1 := ⟨_, rfl⟩
        rw [← hy] at hyr wn
        have tb1 : TB Q.2.1 n Q.2.1 := ⟨rfl, rfl, hG, fun _ _ => rfl, (aW Q.2.1 n).2.2.1, rfl⟩
        have key : ∀ q : Nat, q ≤ 2000 → ∀ (z : Int) (I' : Mm) (B : ASt), z = (q : Int) → fyF Q.2.1 n q = -9 → MP X g I I' m Q 0 → MR (I' (m + 4)) B → TB Q.2.1 n B → ZV X E_X7_freeYear 39 [some (.ref m), some (vi (n : Int)), some (vi y), some (vi z)] [] b g I' J post := by
          refine loop_up 2000 ?_ ?_
          · intro z I' B hz hf mp hR hB
            have hx := hx I' mp
            rw [hf] at hx
            refine ZV_iload_n dX7_freeYear_39 rfl ?_
            refine ZV_sipush dX7_freeYear_40 (by decide) ?_
            refine ZV_icmp_gt (tgt := 100) dX7_freeYear_43 (by decide) ⟨by omega, by omega⟩ ⟨by omega, by omega⟩ (fun h43 => ?_) (fun h43 => ?_)
            · refine ZV_bipush dX7_freeYear_100 (by decide) ?_
              refine ZV_iret dX7_freeYear_102 rfl ?_
              exact hx
            · omega
          · intro q hq ih z I' B hz hf mp hR hB
            subst hz
            have next : ∀ (I' : Mm) (B : ASt), MP X g I I' m Q 0 → MR (I' (m + 4)) B → TB Q.2.1 n B → fyAt Q.2.1 n q = -9 → ZV X E_X7_freeYear 94 [some (.ref m), some (vi (n : Int)), some (vi y), some (vi (q : Int))] [] b g I' J post := by
              intro I' B mp hR hB e
              refine ZV_jinc3 dX7_freeYear_94 rfl (by decide) ?_
              refine ZV_goto (tgt := 39) dX7_freeYear_97 (by decide) ?_
              exact ih _ I' B (by omega) (by simp only [fyF]; rw [if_pos hf, e]) mp hR hB
            have second : ∀ (I' : Mm) (B : ASt), MP X g I I' m Q 0 → MR (I' (m + 4)) B → TB Q.2.1 n B → ¬ freeZ Q.2.1 n (y - q) → ZV X E_X7_freeYear 70 [some (.ref m), some (vi (n : Int)), some (vi y), some (vi (q : Int))] [] b g I' J post := by
              intro I' B mp hR hB e0
              have e1 : fyAt Q.2.1 n q = if freeZ Q.2.1 n (y + q) then y + q else -9 := by unfold fyAt; rw [← hy, if_neg e0]
              refine ZV_iload_n dX7_freeYear_70 rfl ?_
              refine ZV_iload_n dX7_freeYear_71 rfl ?_
              refine ZV_iadd dX7_freeYear_72 ?_
              refine cl_X7_isYear kX7_freeYear_211 rfl dX7_freeYear_73 (Nat.le_of_ble_eq_true rfl) ?_
              refine sp_X7_isYear ⟨by omega, by omega⟩ ?_
              by_cases e2 : 1000 ≤ y + (q : Int) ∧ y + (q : Int) ≤ 2999
              · rw [if_pos e2]
                refine ZV_if_eq (tgt := 94) dX7_freeYear_76 (by decide) ⟨by omega, by omega⟩ (fun h76 => ?_) (fun h76 => ?_)
                · omega
                · refine ZV_aload_n dX7_freeYear_79 rfl ?_
                  refine ZV_iload_n dX7_freeYear_80 rfl ?_
                  refine ZV_iload_n dX7_freeYear_81 rfl ?_
                  refine ZV_iload_n dX7_freeYear_82 rfl ?_
                  refine ZV_iadd dX7_freeYear_83 ?_
                  refine cl_X7_isFree kX7_freeYear_231 rfl dX7_freeYear_84 (by assumption) (Nat.le_of_ble_eq_true rfl) ?_
                  refine sp_X7_isFree hL hR hB hG hn e2 ?_
                  intro I2 B2 hI2 hR2 hB2
                  have mp2 : MP X g I I2 m Q 0 := mp.tr4 (fun a h1 h2 => hI2 a h2 (by omega) (by omega))
                  by_cases e3 : zsum (fun j => if j ≠ n ∧ stemOf Q.2.1 j = stm (aW Q.2.1 n) (aS Q.2.1) (y + q) then 1 else 0) (aN Q.2.1) = 0
                  · rw [if_pos e3]
                    have hx := hx I2 mp2
                    rw [fyF_hit (z := y + q) hf (by rw [e1]; exact if_pos ⟨e2, e3⟩) (by omega) hq] at hx
                    refine ZV_if_eq (tgt := 94) dX7_freeYear_87 (by decide) ⟨by omega, by omega⟩ (fun h87 => ?_) (fun h87 => ?_)
                    · omega
                    · refine ZV_iload_n dX7_freeYear_90 rfl ?_
                      refine ZV_iload_n dX7_freeYear_91 rfl ?_
                      refine ZV_iadd dX7_freeYear_92 ?_
                      refine ZV_iret dX7_freeYear_93 rfl ?_
                      exact hx
                  · rw [if_neg e3]
                    refine ZV_if_eq (tgt := 94) dX7_freeYear_87 (by decide) ⟨by omega, by omega⟩ (fun h87 => ?_) (fun h87 => ?_)
                    · exact next I2 B2 mp2 hR2 hB2 (by rw [e1]; exact if_neg (fun e => e3 e.2))
                    · omega
              · rw [if_neg e2]
                refine ZV_if_eq (tgt := 94) dX7_freeYear_76 (by decide) ⟨by omega, by omega⟩ (fun h76 => ?_) (fun h76 => ?_)
                · exact next I' B mp hR hB (by rw [e1]; exact if_neg (fun e => e2 e.1))
                · omega
            refine ZV_iload_n dX7_freeYear_39 rfl ?_
            refine ZV_sipush dX7_freeYear_40 (by decide) ?_
            refine ZV_icmp_gt (tgt := 100) dX7_freeYear_43 (by decide) ⟨by omega, by omega⟩ ⟨by omega, by omega⟩ (fun h43 => ?_) (fun h43 => ?_)
            · omega
            · refine ZV_iload_n dX7_freeYear_46 rfl ?_
              refine ZV_iload_n dX7_freeYear_47 rfl ?_
              refine ZV_isub dX7_freeYear_48 ?_
              refine cl_X7_isYear kX7_freeYear_211 rfl dX7_freeYear_49 (Nat.le_of_ble_eq_true rfl) ?_
              refine sp_X7_isYear ⟨by omega, by omega⟩ ?_
              by_cases e2 : 1000 ≤ y - (q : Int) ∧ y - (q : Int) ≤ 2999
              · rw [if_pos e2]
                refine ZV_if_eq (tgt := 70) dX7_freeYear_52 (by decide) ⟨by omega, by omega⟩ (fun h52 => ?_) (fun h52 => ?_)
                · omega
                · refine ZV_aload_n dX7_freeYear_55 rfl ?_
                  refine ZV_iload_n dX7_freeYear_56 rfl ?_
                  refine ZV_iload_n dX7_freeYear_57 rfl ?_
                  refine ZV_iload_n dX7_freeYear_58 rfl ?_
                  refine ZV_isub dX7_freeYear_59 ?_
                  refine cl_X7_isFree kX7_freeYear_231 rfl dX7_freeYear_60 (by assumption) (Nat.le_of_ble_eq_true rfl) ?_
                  refine sp_X7_isFree hL hR hB hG hn e2 ?_
                  intro I2 B2 hI2 hR2 hB2
                  have mp2 : MP X g I I2 m Q 0 := mp.tr4 (fun a h1 h2 => hI2 a h2 (by omega) (by omega))
                  by_cases e3 : zsum (fun j => if j ≠ n ∧ stemOf Q.2.1 j = stm (aW Q.2.1 n) (aS Q.2.1) (y - q) then 1 else 0) (aN Q.2.1) = 0
                  · rw [if_pos e3]
                    have hx := hx I2 mp2
                    rw [fyF_hit (z := y - q) hf (by unfold fyAt; rw [← hy]; exact if_pos ⟨e2, e3⟩) (by omega) hq] at hx
                    refine ZV_if_eq (tgt := 70) dX7_freeYear_63 (by decide) ⟨by omega, by omega⟩ (fun h63 => ?_) (fun h63 => ?_)
                    · omega
                    · refine ZV_iload_n dX7_freeYear_66 rfl ?_
                      refine ZV_iload_n dX7_freeYear_67 rfl ?_
                      refine ZV_isub dX7_freeYear_68 ?_
                      refine ZV_iret dX7_freeYear_69 rfl ?_
                      exact hx
                  · rw [if_neg e3]
                    refine ZV_if_eq (tgt := 70) dX7_freeYear_63 (by decide) ⟨by omega, by omega⟩ (fun h63 => ?_) (fun h63 => ?_)
                    · exact second I2 B2 mp2 hR2 hB2 (fun e => e3 e.2)
                    · omega
              · rw [if_neg e2]
                refine ZV_if_eq (tgt := 70) dX7_freeYear_52 (by decide) ⟨by omega, by omega⟩ (fun h52 => ?_) (fun h52 => ?_)
                · exact second I' B mp hR hB (fun e => e2 e.1)
                · omega
        refine ZV_aload_n dX7_freeYear_26 rfl ?_
        refine ZV_getR fX7_freeYear_16 dX7_freeYear_27 (by assumption) rfl (by assumption) ?_
        refine ZV_iload_n dX7_freeYear_30 rfl ?_
        refine ZV_iconst dX7_freeYear_31 ?_
        refine cl_X7_cell kX7_freeYear_67 rfl dX7_freeYear_32 (Nat.le_of_ble_eq_true rfl) ?_
        refine sp_X7_cell ?_
        refine ZV_iald (4 + 47 * n + 0) dX7_freeYear_35 (by assumption) (by first | rfl | omega) (by omega) (by omega) ?_
        rw [wn]
        refine ZV_istore2 dX7_freeYear_36 rfl (by decide) ?_
        refine ZV_iconst dX7_freeYear_37 ?_
        refine ZV_istore3 dX7_freeYear_38 rfl (by decide) ?_
        exact key 0 (by omega) _ I1 Q.2.1 rfl rfl mp1 hR1 tb1
      · omega
  · rw [if_neg hi2]
    refine ZV_if_eq (tgt := 13) dX7_freeYear_6 (by decide) ⟨by omega, by omega⟩ (fun h6 => ?_) (fun h6 => ?_)
    · refine ZV_iconst dX7_freeYear_13 ?_
      refine cl_X7_refused kX7_freeYear_125 rfl dX7_freeYear_14 (by assumption) (Nat.le_of_ble_eq_true rfl) ?_
      refine sp_X7_refused hL ⟨by decide, by decide⟩ ?_
      rw [if_pos (by decide)]
      refine ZV_if_eq (tgt := 22) dX7_freeYear_17 (by decide) ⟨by omega, by omega⟩ (fun h17 => ?_) (fun h17 => ?_)
      · omega
      · refine ZV_iconst dX7_freeYear_20 ?_
        refine ZV_iret dX7_freeYear_21 rfl ?_
        exact hx1 hi2 _ hM.mp
    · omega
end ZM15

