/-! the reference: actions -/
theorem MR.set {R R' : Nat → Int} {A : ASt} {P : AWk} {i : Nat} (h : MR R A) (hG : GoodSt A) (hi : i < aN A) (hr : ∀ k, k < 980 → (k < 4 + 47 * i ∨ 4 + 47 * i + 47 ≤ k) → R' k = R k) (hP : WkA R' (4 + 47 * i) P) : MR R' (aSet A i P) := by
  obtain ⟨⟨r0, r1, r2, r3⟩, rw1, rp⟩ := h
  have h16 := hG.1.1
  have hp16 := hG.1.2.1
  refine ⟨⟨by rw [hr 0 (by omega) (by omega)]; exact r0, by rw [hr 1 (by omega) (by omega)]; exact r1, by rw [hr 2 (by omega) (by omega)]; exact r2, by rw [hr 3 (by omega) (by omega)]; exact r3⟩, fun j hj => ?_, fun p hp => ⟨?_, ?_⟩⟩
  · have hj2 : j < aN A := hj
    show WkA R' (4 + 47 * j) (if j = i then P else aW A j)
    by_cases e : j = i
    · rw [if_pos e, e]; exact hP
    · rw [if_neg e]
      exact (rw1 j hj2).move (hG.2.1 j hj2).1.2 (fun k hk => hr _ (by omega) (by omega))
  · have hp2 : p < aPn A := hp
    have l12 := (hG.2.2 p hp2).1.len.2
    exact (rp p hp2).1.move (p := 756 + 14 * p) (fun k hk => hr _ (by omega) (by omega))
  · have hp2 : p < aPn A := hp
    rw [hr _ (by omega) (by omega)]; exact (rp p hp2).2
theorem MR.plc {R R' : Nat → Int} {A : ASt} {P : AWk} (h : MR R A) (hG : GoodSt A) (hn : aN A < 16) (h0 : R' 0 = (aN A : Int) + 1) (hr : ∀ k, k ≠ 0 → k < 980 → (k < 4 + 47 * aN A ∨ 4 + 47 * aN A + 47 ≤ k) → R' k = R k) (hP : WkA R' (4 + 47 * aN A) P) : MR R' (aPlace A P) := by
  obtain ⟨⟨r0, r1, r2, r3⟩, rw1, rp⟩ := h
  have hp16 := hG.1.2.1
  refine ⟨⟨h0, by rw [hr 1 (by omega) (by omega) (by omega)]; exact r1, by rw [hr 2 (by omega) (by omega) (by omega)]; exact r2, by rw [hr 3 (by omega) (by omega) (by omega)]; exact r3⟩, fun j hj => ?_, fun p hp => ⟨?_, ?_⟩⟩
  · have hj2 : j < aN A + 1 := hj
    show WkA R' (4 + 47 * j) (if j = aN A then P else aW A j)
    by_cases e : j = aN A
    · rw [if_pos e, e]; exact hP
    · rw [if_neg e]
      exact (rw1 j (by omega)).move (hG.2.1 j (by omega)).1.2 (fun k hk => hr _ (by omega) (by omega) (by omega))
  · have hp2 : p < aPn A := hp
    have l12 := (hG.2.2 p hp2).1.len.2
    exact (rp p hp2).1.move (p := 756 + 14 * p) (fun k hk => hr _ (by omega) (by omega) (by omega))
  · have hp2 : p < aPn A := hp
    rw [hr _ (by omega) (by omega) (by omega)]; exact (rp p hp2).2
theorem MInv.now {X : Xt} {g : Geo} {I I' : Mm} {m : Nat} {Q : AC} {A' : ASt} (h : MInv X g I m Q) (h1 : I' m 2 = I m 2) (h2 : I' m 9 = I m 9) (hr : ∀ q, q = m + 1 ∨ q = m + 5 ∨ q = m + 6 ∨ q = m + 7 → I' q = I q) (hR : MR (I' (m + 3)) A') (hG : GoodSt A') : MInv X g I' m (Q.1, A', Q.2.2) := by
  obtain ⟨hL, ⟨t1, t2, t3⟩, hN, ⟨a1, a2, a3⟩, hV⟩ := h
  refine ⟨hL, ⟨by rw [h1]; exact t1, t2, fun p hp => by rw [hr (m + 1) (by omega)]; exact t3 p hp⟩, ⟨hR, hG⟩, ⟨by rw [h2]; exact a1, a2, fun k hk => by rw [hr (m + 5) (by omega)]; exact a3 k hk⟩, fun s hs => ?_⟩
  rw [hr (m + 7) (by omega), hr (m + 6) (by omega)]
  exact hV s hs
section ZM13
variable {X : Xt} {g : Geo} {I J : Mm} {b : Nat × Nat} {post : Out → Geo → Mm → Mm → Prop}
theorem sp_X7_add {m : Nat} {Q : AC} (hM : MInv X g I m Q) (hx1 : ¬ oneW Q.1 → ∀ I', MP X g I I' m Q 1 → post (.inl (some (vi 0))) g I' J) (hx2 : ∀ s, rdv Q.1.2 Q.1.1 = -9 → rn Q.1.2 Q.1.1 = some s → s.1 = 1 → 16 ≤ aN Q.2.1 → ∀ I', MP X g I I' m Q 1 → post (.inl (some (vi 0))) g I' J) (hx3 : ∀ s, rdv Q.1.2 Q.1.1 = -9 → rn Q.1.2 Q.1.1 = some s → s.1 = 1 → aN Q.2.1 < 16 → ∀ I', MP X g I I' m (Q.1, aPlace Q.2.1 (s.2.2.2 0), hpush Q.2.2.1 Q.2.1, Q.2.2.2) 0 → post (.inl (some (vi (aN Q.2.1)))) g I' J) : ZV X E_X7_add 0 [some (.ref m)] [] b g I J post := by
  have hL := hM.1
  have hG := hM.2.2.1.2
  obtain ⟨l0, ⟨p1, p2, p3, p4, p5, p6, p7⟩, ⟨l1, l2, l3, l4, l5, l6⟩, ⟨j1, j2, j3, j4, j5, j6, j7⟩, ⟨k1, k2, k3, k4, k5, k6⟩⟩ := id hL
  have h16 := hG.1.1
  have bad : ∀ I1, RFr I I1 m → (∀ I', MP X g I I' m Q 1 → post (.inl (some (vi 0))) g I' J) → ZV X E_X7_add 24 [some (.ref m)] [vi 1, .ref m] b g I1 J post := by
    intro I1 hF hp
    refine cl_X7_refused kX7_add_125 rfl dX7_add_24 (by assumption) (Nat.le_of_ble_eq_true rfl) ?_
    refine sp_X7_refused hL ⟨by decide, by decide⟩ ?_
    rw [if_pos (by decide)]
    refine ZV_if_eq (tgt := 32) dX7_add_27 (by decide) ⟨by omega, by omega⟩ (fun h27 => ?_) (fun h27 => ?_)
    · omega
    · refine ZV_iconst dX7_add_30 ?_
      refine ZV_iret dX7_add_31 rfl ?_
      exact hp _ ⟨hF.mf.tr (hF.mi hM).mp.1, (hF.mi hM).mp.2.1, (hF.mi hM).mp.2.2⟩
  refine ZV_aload_n dX7_add_0 rfl ?_
  refine ZV_aload_n dX7_add_1 rfl ?_
  refine cl_X7_isOneWork kX7_add_195 rfl dX7_add_2 (by assumption) (Nat.le_of_ble_eq_true rfl) ?_
  refine sp_X7_isOneWork hM ?_
  intro I1 r hF hr
  have hM1 := hF.mi hM
  rcases hr with ⟨e, w1, s, w2, w3, w4, w5⟩ | ⟨e, w1⟩
  · subst e
    have r0 := hM1.2.2.1.1.1.1
    have w6 := w5.2 0 (by omega)
    refine ZV_if_eq (tgt := 23) dX7_add_5 (by decide) ⟨by omega, by omega⟩ (fun h5 => ?_) (fun h5 => ?_)
    · omega
    · refine ZV_aload_n dX7_add_8 rfl ?_
      refine ZV_getR fX7_add_16 dX7_add_9 (by assumption) rfl (by assumption) ?_
      refine ZV_iconst dX7_add_12 ?_
      refine ZV_iald (0) dX7_add_13 (by assumption) (by first | rfl | omega) (by omega) (by omega) ?_
      rw [r0]
      refine ZV_bipush dX7_add_14 (by decide) ?_
      refine ZV_icmp_ge (tgt := 23) dX7_add_16 (by decide) ⟨by omega, by omega⟩ ⟨by omega, by omega⟩ (fun h16 => ?_) (fun h16 => ?_)
      · refine ZV_iconst dX7_add_23 ?_
        exact bad I1 hF (hx2 s w1 w2 w3 (by omega))
      · refine ZV_iconst dX7_add_19 ?_
        refine ZV_goto (tgt := 24) dX7_add_20 (by decide) ?_
        refine cl_X7_refused kX7_add_125 rfl dX7_add_24 (by assumption) (Nat.le_of_ble_eq_true rfl) ?_
        refine sp_X7_refused hL ⟨by decide, by decide⟩ ?_
        rw [if_neg (by decide)]
        have hM2 := hM1.ref (w := 0)
        refine ZV_if_eq (tgt := 32) dX7_add_27 (by decide) ⟨by omega, by omega⟩ (fun h27 => ?_) (fun h27 => ?_)
        · refine ZV_aload_n dX7_add_32 rfl ?_
          refine cl_X7_note kX7_add_198 rfl dX7_add_33 (by assumption) (Nat.le_of_ble_eq_true rfl) ?_
          refine sp_X7_note hM2 ?_
          intro I3 hI3 hI3m hM3
          have hR3 := hM3.2.2.1.1
          have rd3 : ∀ k, I3 (m + 2) k = I1 (m + 2) k := fun k => by rw [hI3 _ (by omega) (by omega), up2_a (by omega)]
          have n3 : I3 (m + 3) 0 = (aN Q.2.1 : Int) := hR3.1.1
          refine ZV_aload_n dX7_add_36 rfl ?_
          refine ZV_getR fX7_add_13 dX7_add_37 (by assumption) rfl (by assumption) ?_
          refine ZV_iconst dX7_add_40 ?_
          refine ZV_aload_n dX7_add_41 rfl ?_
          refine ZV_getR fX7_add_16 dX7_add_42 (by assumption) rfl (by assumption) ?_
          refine ZV_aload_n dX7_add_45 rfl ?_
          refine ZV_getR fX7_add_16 dX7_add_46 (by assumption) rfl (by assumption) ?_
          refine ZV_iconst dX7_add_49 ?_
          refine ZV_iald (0) dX7_add_50 (by assumption) (by first | rfl | omega) (by omega) (by omega) ?_
          rw [n3]
          refine ZV_iconst dX7_add_51 ?_
          refine cl_X7_cell kX7_add_67 rfl dX7_add_52 (Nat.le_of_ble_eq_true rfl) ?_
          refine sp_X7_cell ?_
          rw [show 4 + 47 * (aN Q.2.1 : Int) + 0 = ((4 + 47 * aN Q.2.1 : Nat) : Int) by omega]
          refine ZV_bipush dX7_add_55 (by decide) ?_
          refine cl_X7_copy kX7_add_63 rfl dX7_add_57 (Nat.le_of_ble_eq_true rfl) ?_
          refine sp_X7_copy (x := 4) (n := 47) j2 j3 (by omega) (by omega) (by omega) (by omega) (Or.inl (by omega)) ?_
          intro I4 hI4 hI4k
          have n4 : I4 (m + 3) 0 = (aN Q.2.1 : Int) := by rw [hI4k, if_neg (by omega)]; exact n3
          refine ZV_aload_n dX7_add_60 rfl ?_
          refine ZV_getR fX7_add_16 dX7_add_61 (by assumption) rfl (by assumption) ?_
          refine ZV_iconst dX7_add_64 ?_
          first | refine ZV_dup2 dX7_add_65 rfl rfl ?_ | refine ZV_dup2l dX7_add_65 rfl ?_
          refine ZV_iald (0) dX7_add_66 (by assumption) (by first | rfl | omega) (by omega) (by omega) ?_
          rw [n4]
          refine ZV_iconst dX7_add_67 ?_
          refine ZV_iadd dX7_add_68 ?_
          refine ZV_iast (0) dX7_add_69 (by assumption) (by first | rfl | omega) (by omega) (by omega) ?_
          refine ZV_aload_n dX7_add_70 rfl ?_
          refine ZV_getR fX7_add_16 dX7_add_71 (by assumption) rfl (by assumption) ?_
          refine ZV_iconst dX7_add_74 ?_
          refine ZV_iald (0) dX7_add_75 (by assumption) (by first | rfl | omega) (by omega) (by omega) ?_
          rw [up2_same]
          refine ZV_iconst dX7_add_76 ?_
          refine ZV_isub dX7_add_77 ?_
          rw [show (aN Q.2.1 : Int) + 1 - 1 = (aN Q.2.1 : Int) by omega]
          refine ZV_iret dX7_add_78 rfl ?_
          have m4 : ∀ k, up2 I4 (m + 3) 0 ((aN Q.2.1 : Int) + 1) m k = I3 m k := fun k => by rw [up2_a (by omega), hI4 m (by omega)]
          have q4 : ∀ q, q ≠ m + 3 → up2 I4 (m + 3) 0 ((aN Q.2.1 : Int) + 1) q = I3 q := fun q hq => by rw [up2_row _ _ hq, hI4 q hq]
          refine hx3 s w1 w2 w3 (by omega) _ ⟨fun q hq => ?_, hM3.now (m4 2) (m4 9) (fun q hq => q4 q (by omega)) (MR.plc hR3 hG (by omega) (up2_same _ _ _ _) (fun k e0 e1 e2 => by rw [up2_k e0, hI4k, if_neg (by omega)]) ?_) (hG.place w4 (by omega)), ?_⟩
          · rw [q4 q (by omega), hI3 q (by omega) (by omega), up2_row _ _ (by omega)]
            exact hF.mf q hq
          · exact w6.move (p := 4 + 47 * 0) w4.1.2 (fun k hk => by rw [up2_k (by omega), hI4k, if_pos ⟨by omega, by omega⟩, rd3, show 4 + (4 + 47 * aN Q.2.1 + k - (4 + 47 * aN Q.2.1)) = 4 + 47 * 0 + k by omega])
          · rw [m4, hI3m 0 (by decide), up2_same]
        · omega
  · subst e
    refine ZV_if_eq (tgt := 23) dX7_add_5 (by decide) ⟨by omega, by omega⟩ (fun h5 => ?_) (fun h5 => ?_)
    · refine ZV_iconst dX7_add_23 ?_
      exact bad I1 hF (hx1 w1)
    · omega
theorem sp_X7_isYear {y : Int} (hy : r32 y) (h : post (.inl (some (vi (if 1000 ≤ y ∧ y ≤ 2999 then 1 else 0)))) g I J) : ZV X E_X7_isYear 0 [some (vi y)] [] b g I J post := by
  obtain ⟨y1, y2⟩ := hy
  have e01 : (if 1000 ≤ y ∧ y ≤ 2999 then (1 : Int) else 0) = 0 ∨ (if 1000 ≤ y ∧ y ≤ 2999 then (1 : Int) else 0) = 1 := by split <;> simp
  refine ZV_iload_n dX7_isYear_0 rfl ?_
  refine ZV_i2l dX7_isYear_1 ⟨by omega, by omega⟩ ?_
  refine ZV_ldc2 (z := 1000) dX7_isYear_2 lX7_isYear_207 ?_
  refine ZV_ldc2 (z := 2999) dX7_isYear_5 lX7_isYear_209 ?_
  refine cl_X7_in kX7_isYear_118 rfl dX7_isYear_8 (Nat.le_of_ble_eq_true rfl) ?_
  refine sp_X7_in ⟨by omega, by omega⟩ ⟨by decide, by decide⟩ ⟨by decide, by decide⟩ ?_
  refine ZV_zret dX7_isYear_11 rfl (by first | exact Or.inl rfl | exact Or.inr rfl | assumption | omega) ?_
  exact h
theorem sp_X7_isStyle {y : Int} (hy : r32 y) (h : post (.inl (some (vi (if 0 ≤ y ∧ y < 4 then 1 else 0)))) g I J) : ZV X E_X7_isStyle 0 [some (vi y)] [] b g I J post := by
  obtain ⟨y1, y2⟩ := hy
  have e : (if 0 ≤ y ∧ y ≤ 3 then (1 : Int) else 0) = if 0 ≤ y ∧ y < 4 then 1 else 0 := by
    by_cases c : 0 ≤ y ∧ y < 4
    · rw [if_pos c, if_pos ⟨by omega, by omega⟩]
    · rw [if_neg c, if_neg (by omega)]
  have e01 : (if 0 ≤ y ∧ y < 4 then (1 : Int) else 0) = 0 ∨ (if 0 ≤ y ∧ y < 4 then (1 : Int) else 0) = 1 := by split <;> simp
  refine ZV_iload_n dX7_isStyle_0 rfl ?_
  refine ZV_i2l dX7_isStyle_1 ⟨by omega, by omega⟩ ?_
  refine ZV_lconst (z := 0) dX7_isStyle_2 (by decide) ?_
  refine ZV_ldc2 (z := 3) dX7_isStyle_3 lX7_isStyle_217 ?_
  refine cl_X7_in kX7_isStyle_118 rfl dX7_isStyle_6 (Nat.le_of_ble_eq_true rfl) ?_
  refine sp_X7_in ⟨by omega, by omega⟩ ⟨by decide, by decide⟩ ⟨by decide, by decide⟩ ?_
  rw [e]
  refine ZV_zret dX7_isStyle_9 rfl (by first | exact Or.inl rfl | exact Or.inr rfl | assumption | omega) ?_
  exact h
/-- what the old keys' rows say behind a change that keeps the numbers -/
theorem was_same {m : Nat} {A B : ASt} {I1 I2 : Mm} (hG : GoodSt A) (hn : aN B = aN A) (hw : ∀ i, i < aN A → KeA (I1 (m + 12)) (14 * i) (keyOf A i)) (h12 : I2 (m + 12) = I1 (m + 12)) : ∀ i, i < aN B → KeA (I2 (m + 12)) (14 * oldN (-9) i) (keyOf A i) ∧ KWF (keyOf A i) ∧ oldN (-9) i < 16 := by
  intro i hi
  have h16 := hG.1.1
  have e : oldN (-9) i = i := if_neg (fun q => q.1 rfl)
  rw [e, h12]
  exact ⟨hw i (by omega), keyOf_KWF hG (by omega), by omega⟩
theorem sp_X7_change {m : Nat} {i : Int} {Q : AC} (hM : MInv X g I m Q) (hi : r32 i) (hx0 : ¬ (0 ≤ i ∧ i < aN Q.2.1) → ∀ I', MP X g I I' m Q 1 → post (.inl (some (vi 0))) g I' J) (hx1 : (0 ≤ i ∧ i < aN Q.2.1) → ¬ oneW Q.1 → ∀ I', MP X g I I' m Q 2 → post (.inl (some (vi 0))) g I' J) (hx3 : (0 ≤ i ∧ i < aN Q.2.1) → ∀ s, rdv Q.1.2 Q.1.1 = -9 → rn Q.1.2 Q.1.1 = some s → s.1 = 1 → ∀ I', MP X g I I' m (Q.1, aSet Q.2.1 i.toNat (s.2.2.2 0), hpush Q.2.2.1 Q.2.1, Q.2.2.2) 0 → post (.inl (some (vi (chgN (aSet Q.2.1 i.toNat (s.2.2.2 0)) (keyOf Q.2.1))))) g I' J) : ZV X E_X7_change 0 [some (.ref m), some (vi i)] [] b g I J post := by
  have hL := hM.1
  have hG := hM.2.2.1.2
  obtain ⟨l0, ⟨p1, p2, p3, p4, p5, p6, p7⟩, ⟨l1, l2, l3, l4, l5, l6⟩, ⟨j1, j2, j3, j4, j5, j6, j7⟩, ⟨k1, k2, k3, k4, k5, k6⟩⟩ := id hL
  have h16 := hG.1.1
  have bad : ∀ I1 w, (w = 1 ∨ w = 2) → RFr I I1 m → (∀ I', MP X g I I' m Q w → post (.inl (some (vi 0))) g I' J) → ZV X E_X7_change 25 [some (.ref m), some (vi i)] [vi w, .ref m] b g I1 J post := by
    intro I1 w hw hF hp
    refine cl_X7_refused kX7_change_125 rfl dX7_change_25 (by assumption) (Nat.le_of_ble_eq_true rfl) ?_
    refine sp_X7_refused hL ⟨by omega, by omega⟩ ?_
    rw [if_pos (by omega)]
    refine ZV_if_eq (tgt := 33) dX7_change_28 (by decide) ⟨by omega, by omega⟩ (fun h28 => ?_) (fun h28 => ?_)
    · omega
    · refine ZV_iconst dX7_change_31 ?_
      refine ZV_iret dX7_change_32 rfl ?_
      exact hp _ ⟨hF.mf.tr (hF.mi hM).mp.1, (hF.mi hM).mp.2.1, (hF.mi hM).mp.2.2⟩
  refine ZV_aload_n dX7_change_0 rfl ?_
  refine ZV_aload_n dX7_change_1 rfl ?_
  refine ZV_iload_n dX7_change_2 rfl ?_
  refine cl_X7_isWork kX7_change_183 rfl dX7_change_3 (by assumption) (Nat.le_of_ble_eq_true rfl) ?_
  refine sp_X7_isWork hM hi ?_
  by_cases hi2 : 0 ≤ i ∧ i < aN Q.2.1
  · rw [if_pos hi2]
    refine ZV_if_ne (tgt := 13) dX7_change_6 (by decide) ⟨by omega, by omega⟩ (fun h6 => ?_) (fun h6 => ?_)
    · refine ZV_aload_n dX7_change_13 rfl ?_
      refine cl_X7_isOneWork kX7_change_195 rfl dX7_change_14 (by assumption) (Nat.le_of_ble_eq_true rfl) ?_
      refine sp_X7_isOneWork hM ?_
      intro I1 r hF hr
      have hM1 := hF.mi hM
      rcases hr with ⟨e, w1, s, w2, w3, w4, w5⟩ | ⟨e, w1⟩
      · subst e
        have w6 := w5.2 0 (by omega)
        have hx := hx3 hi2 s w1 w2 w3
        obtain ⟨n, rfl⟩ : ∃ n : Nat, i = n := ⟨i.toNat, by omega⟩
        have hn : n < aN Q.2.1 := by omega
        rw [Int.toNat_natCast] at hx
        refine ZV_if_eq (tgt := 24) dX7_change_17 (by decide) ⟨by omega, by omega⟩ (fun h17 => ?_) (fun h17 => ?_)
        · omega
        · refine ZV_iconst dX7_change_20 ?_
          refine ZV_goto (tgt := 25) dX7_change_21 (by decide) ?_
          refine cl_X7_refused kX7_change_125 rfl dX7_change_25 (by assumption) (Nat.le_of_ble_eq_true rfl) ?_
          refine sp_X7_refused hL ⟨by decide, by decide⟩ ?_
          rw [if_neg (by decide)]
          have hM2 := hM1.ref (w := 0)
          refine ZV_if_eq (tgt := 33) dX7_change_28 (by decide) ⟨by omega, by omega⟩ (fun h28 => ?_) (fun h28 => ?_)
          · refine ZV_aload_n dX7_change_33 rfl ?_
            refine cl_X7_note kX7_change_198 rfl dX7_change_34 (by assumption) (Nat.le_of_ble_eq_true rfl) ?_
            refine sp_X7_note hM2 ?_
            intro I3 hI3 hI3m hM3
            refine ZV_aload_n dX7_change_37 rfl ?_
            refine cl_X7_layWas kX7_change_201 rfl dX7_change_38 (by assumption) (Nat.le_of_ble_eq_true rfl) ?_
            refine sp_X7_layWas hL hM3.2.2.1.1 hG ?_
            intro I4 hI4 hW4
            have hR4 : MR (I4 (m + 3)) Q.2.1 := by rw [hI4 _ (by omega) (by omega) (by omega) (by omega) (by omega) (by omega)]; exact hM3.2.2.1.1
            have rd4 : ∀ k, I4 (m + 2) k = I1 (m + 2) k := fun k => by rw [hI4 _ (by omega) (by omega) (by omega) (by omega) (by omega) (by omega), hI3 _ (by omega) (by omega), up2_a (by omega)]
            refine ZV_aload_n dX7_change_41 rfl ?_
            refine ZV_getR fX7_change_13 dX7_change_42 (by assumption) rfl (by assumption) ?_
            refine ZV_iconst dX7_change_45 ?_
            refine ZV_aload_n dX7_change_46 rfl ?_
            refine ZV_getR fX7_change_16 dX7_change_47 (by assumption) rfl (by assumption) ?_
            refine ZV_iload_n dX7_change_50 rfl ?_
            refine ZV_iconst dX7_change_51 ?_
            refine cl_X7_cell kX7_change_67 rfl dX7_change_52 (Nat.le_of_ble_eq_true rfl) ?_
            refine sp_X7_cell ?_
            rw [show 4 + 47 * (n : Int) + 0 = ((4 + 47 * n : Nat) : Int) by omega]
            refine ZV_bipush dX7_change_55 (by decide) ?_
            refine cl_X7_copy kX7_change_63 rfl dX7_change_57 (Nat.le_of_ble_eq_true rfl) ?_
            refine sp_X7_copy (x := 4) (n := 47) j2 j3 (by omega) (by omega) (by omega) (by omega) (Or.inl (by omega)) ?_
            intro I5 hI5 hI5k
            have hG5 : GoodSt (aSet Q.2.1 n (s.2.2.2 0)) := hG.set w4
            have hR5 : MR (I5 (m + 3)) (aSet Q.2.1 n (s.2.2.2 0)) := MR.set hR4 hG hn (fun k e1 e2 => by rw [hI5k, if_neg (by omega)]) (w6.move (p := 4 + 47 * 0) w4.1.2 (fun k hk => by rw [hI5k, if_pos ⟨by omega, by omega⟩, rd4, show 4 + (4 + 47 * n + k - (4 + 47 * n)) = 4 + 47 * 0 + k by omega]))
            refine ZV_aload_n dX7_change_60 rfl ?_
            refine ZV_aload_n dX7_change_61 rfl ?_
            refine ZV_getR fX7_change_16 dX7_change_62 (by assumption) rfl (by assumption) ?_
            refine ZV_bipush dX7_change_65 (by decide) ?_
            refine cl_X7_others kX7_change_204 rfl dX7_change_67 (by assumption) (Nat.le_of_ble_eq_true rfl) ?_
            refine sp_X7_others hL (Or.inl rfl) hR5 hG5 (Or.inl rfl) (was_same hG rfl hW4 (hI5 _ (by omega))) ?_
            intro I6 hF6
            have q6 : ∀ q, q < m + 8 → q ≠ m + 3 → I6 q = I3 q := fun q h1 h2 => by rw [hF6 q (by omega) (by omega) (by omega) (by omega) (by omega), hI5 q h2, hI4 q (by omega) (by omega) (by omega) (by omega) (by omega) (by omega)]
            have hc := chgN_rng (aSet Q.2.1 n (s.2.2.2 0)) (keyOf Q.2.1)
            refine ZV_iret dX7_change_70 rfl ?_
            refine hx _ ⟨fun q hq => ?_, hM3.now (by rw [q6 m (by omega) (by omega)]) (by rw [q6 m (by omega) (by omega)]) (fun q hq => q6 q (by omega) (by omega)) (by rw [hF6 _ (by omega) (by omega) (by omega) (by omega) (by omega)]; exact hR5) hG5, ?_⟩
            · rw [hF6 q (by omega) (by omega) (by omega) (by omega) (by omega), hI5 q (by omega), hI4 q (by omega) (by omega) (by omega) (by omega) (by omega) (by omega), hI3 q (by omega) (by omega), up2_row _ _ (by omega)]
              exact hF.mf q hq
            · rw [q6 m (by omega) (by omega), hI3m 0 (by decide), up2_same]
          · omega
      · subst e
        refine ZV_if_eq (tgt := 24) dX7_change_17 (by decide) ⟨by omega, by omega⟩ (fun h17 => ?_) (fun h17 => ?_)
        · refine ZV_iconst dX7_change_24 ?_
          exact bad I1 2 (Or.inr rfl) hF (hx1 hi2 w1)
        · omega
    · omega
  · rw [if_neg hi2]
    refine ZV_if_ne (tgt := 13) dX7_change_6 (by decide) ⟨by omega, by omega⟩ (fun h6 => ?_) (fun h6 => ?_)
    · omega
    · refine ZV_iconst dX7_change_9 ?_
      refine ZV_goto (tgt := 25) dX7_change_10 (by decide) ?_
      exact bad I 1 (Or.inl rfl) (RFr.rf I m) (hx0 hi2)
theorem sp_X7_setYear {m : Nat} {i y : Int} {Q : AC} (hM : MInv X g I m Q) (hi : r32 i) (hy : r32 y) (hx1 : ¬ (0 ≤ i ∧ i < aN Q.2.1) → ∀ I', MP X g I I' m Q 1 → post (.inl (some (vi 0))) g I' J) (hx2 : (0 ≤ i ∧ i < aN Q.2.1) → ¬ (1000 ≤ y ∧ y ≤ 2999) → ∀ I', MP X g I I' m Q 2 → post (.inl (some (vi 0))) g I' J) (hx3 : (0 ≤ i ∧ i < aN Q.2.1) → (1000 ≤ y ∧ y ≤ 2999) → ∀ I', MP X g I I' m (Q.1, aSet Q.2.1 i.toNat (yrW (aW Q.2.1 i.toNat) y), hpush Q.2.2.1 Q.2.1, Q.2.2.2) 0 → post (.inl (some (vi (chgN (aSet Q.2.1 i.toNat (yrW (aW Q.2.1 i.toNat) y)) (keyOf Q.2.1))))) g I' J) : ZV X E_X7_setYear 0 [some (.ref m), some (vi i), some (vi y)] [] b g I J post := by
  have hL := hM.1
  have hG := hM.2.2.1.2
  obtain ⟨l0, ⟨p1, p2, p3, p4, p5, p6, p7⟩, ⟨l1, l2, l3, l4, l5, l6⟩, ⟨j1, j2, j3, j4, j5, j6, j7⟩, ⟨k1, k2, k3, k4, k5, k6⟩⟩ := id hL
  have h16 := hG.1.1
  have bad : ∀ w, (w = 1 ∨ w = 2) → (∀ I', MP X g I I' m Q w → post (.inl (some (vi 0))) g I' J) → ZV X E_X7_setYear 25 [some (.ref m), some (vi i), some (vi y)] [vi w, .ref m] b g I J post := by
    intro w hw hp
    refine cl_X7_refused kX7_setYear_125 rfl dX7_setYear_25 (by assumption) (Nat.le_of_ble_eq_true rfl) ?_
    refine sp_X7_refused hL ⟨by omega, by omega⟩ ?_
    rw [if_pos (by omega)]
    refine ZV_if_eq (tgt := 33) dX7_setYear_28 (by decide) ⟨by omega, by omega⟩ (fun h28 => ?_) (fun h28 => ?_)
    · omega
    · refine ZV_iconst dX7_setYear_31 ?_
      refine ZV_iret dX7_setYear_32 rfl ?_
      exact hp _ hM.mp
  refine ZV_aload_n dX7_setYear_0 rfl ?_
  refine ZV_aload_n dX7_setYear_1 rfl ?_
  refine ZV_iload_n dX7_setYear_2 rfl ?_
  refine cl_X7_isWork kX7_setYear_183 rfl dX7_setYear_3 (by assumption) (Nat.le_of_ble_eq_true rfl) ?_
  refine sp_X7_isWork hM hi ?_
  by_cases hi2 : 0 ≤ i ∧ i < aN Q.2.1
  · rw [if_pos hi2]
    refine ZV_if_ne (tgt := 13) dX7_setYear_6 (by decide) ⟨by omega, by omega⟩ (fun h6 => ?_) (fun h6 => ?_)
    · refine ZV_iload_n dX7_setYear_13 rfl ?_
      refine cl_X7_isYear kX7_setYear_211 rfl dX7_setYear_14 (Nat.le_of_ble_eq_true rfl) ?_
      refine sp_X7_isYear hy ?_
      by_cases hy2 : 1000 ≤ y ∧ y ≤ 2999
      · rw [if_pos hy2]
        have hx := hx3 hi2 hy2
        obtain ⟨n, rfl⟩ : ∃ n : Nat, i = n := ⟨i.toNat, by omega⟩
        have hn : n < aN Q.2.1 := by omega
        rw [Int.toNat_natCast] at hx
        refine ZV_if_eq (tgt := 24) dX7_setYear_17 (by decide) ⟨by omega, by omega⟩ (fun h17 => ?_) (fun h17 => ?_)
        · omega
        · refine ZV_iconst dX7_setYear_20 ?_
          refine ZV_goto (tgt := 25) dX7_setYear_21 (by decide) ?_
          refine cl_X7_refused kX7_setYear_125 rfl dX7_setYear_25 (by assumption) (Nat.le_of_ble_eq_true rfl) ?_
          refine sp_X7_refused hL ⟨by decide, by decide⟩ ?_
          rw [if_neg (by decide)]
          have hM2 := hM.ref (w := 0)
          refine ZV_if_eq (tgt := 33) dX7_setYear_28 (by decide) ⟨by omega, by omega⟩ (fun h28 => ?_) (fun h28 => ?_)
          · refine ZV_aload_n dX7_setYear_33 rfl ?_
            refine cl_X7_note kX7_setYear_198 rfl dX7_setYear_34 (by assumption) (Nat.le_of_ble_eq_true rfl) ?_
            refine sp_X7_note hM2 ?_
            intro I3 hI3 hI3m hM3
            refine ZV_aload_n dX7_setYear_37 rfl ?_
            refine cl_X7_layWas kX7_setYear_201 rfl dX7_setYear_38 (by assumption) (Nat.le_of_ble_eq_true rfl) ?_
            refine sp_X7_layWas hL hM3.2.2.1.1 hG ?_
            intro I4 hI4 hW4
            have hR4 : MR (I4 (m + 3)) Q.2.1 := by rw [hI4 _ (by omega) (by omega) (by omega) (by omega) (by omega) (by omega)]; exact hM3.2.2.1.1
            refine ZV_aload_n dX7_setYear_41 rfl ?_
            refine ZV_getR fX7_setYear_16 dX7_setYear_42 (by assumption) rfl (by assumption) ?_
            refine ZV_iload_n dX7_setYear_45 rfl ?_
            refine ZV_iconst dX7_setYear_46 ?_
            refine cl_X7_cell kX7_setYear_67 rfl dX7_setYear_47 (Nat.le_of_ble_eq_true rfl) ?_
            refine sp_X7_cell ?_
            refine ZV_iload_n dX7_setYear_50 rfl ?_
            refine ZV_iast (4 + 47 * n + 0) dX7_setYear_51 (by assumption) (by first | rfl | omega) (by omega) (by omega) ?_
            have hG5 : GoodSt (aSet Q.2.1 n (yrW (aW Q.2.1 n) y)) := hG.set ((hG.2.1 n hn).yr hy2)
            have w6 := hR4.2.1 n hn
            have hR5 : MR (up2 I4 (m + 3) (4 + 47 * n + 0) y (m + 3)) (aSet Q.2.1 n (yrW (aW Q.2.1 n) y)) := by
              refine MR.set hR4 hG hn (fun k e1 e2 => up2_k (by omega)) ?_
              obtain ⟨⟨v1, v2⟩, v3, v4⟩ := w6
              exact ⟨⟨by rw [show 4 + 47 * n = 4 + 47 * n + 0 by omega, up2_same]; rfl, by rw [up2_k (by omega)]; exact v2⟩, fun a ha => (v3 a ha).move (fun k hk => up2_k (by omega)), v4.move (fun k hk => up2_k (by omega))⟩
            refine ZV_aload_n dX7_setYear_52 rfl ?_
            refine ZV_aload_n dX7_setYear_53 rfl ?_
            refine ZV_getR fX7_setYear_16 dX7_setYear_54 (by assumption) rfl (by assumption) ?_
            refine ZV_bipush dX7_setYear_57 (by decide) ?_
            refine cl_X7_others kX7_setYear_204 rfl dX7_setYear_59 (by assumption) (Nat.le_of_ble_eq_true rfl) ?_
            refine sp_X7_others hL (Or.inl rfl) hR5 hG5 (Or.inl rfl) (was_same hG rfl hW4 (up2_row _ _ (by omega))) ?_
            intro I6 hF6
            have q6 : ∀ q, q < m + 8 → q ≠ m + 3 → I6 q = I3 q := fun q h1 h2 => by rw [hF6 q (by omega) (by omega) (by omega) (by omega) (by omega), up2_row _ _ h2, hI4 q (by omega) (by omega) (by omega) (by omega) (by omega) (by omega)]
            have hc := chgN_rng (aSet Q.2.1 n (yrW (aW Q.2.1 n) y)) (keyOf Q.2.1)
            refine ZV_iret dX7_setYear_62 rfl ?_
            refine hx _ ⟨fun q hq => ?_, hM3.now (by rw [q6 m (by omega) (by omega)]) (by rw [q6 m (by omega) (by omega)]) (fun q hq => q6 q (by omega) (by omega)) (by rw [hF6 _ (by omega) (by omega) (by omega) (by omega) (by omega)]; exact hR5) hG5, ?_⟩
            · rw [hF6 q (by omega) (by omega) (by omega) (by omega) (by omega), up2_row _ _ (by omega), hI4 q (by omega) (by omega) (by omega) (by omega) (by omega) (by omega), hI3 q (by omega) (by omega), up2_row _ _ (by omega)]
            · rw [q6 m (by omega) (by omega), hI3m 0 (by decide), up2_same]
          · omega
      · rw [if_neg hy2]
        refine ZV_if_eq (tgt := 24) dX7_setYear_17 (by decide) ⟨by omega, by omega⟩ (fun h17 => ?_) (fun h17 => ?_)
        · refine ZV_iconst dX7_setYear_24 ?_
          exact bad 2 (Or.inr rfl) (hx2 hi2 hy2)
        · omega
    · omega
  · rw [if_neg hi2]
    refine ZV_if_ne (tgt := 13) dX7_setYear_6 (by decide) ⟨by omega, by omega⟩ (fun h6 => ?_) (fun h6 => ?_)
    · omega
    · refine ZV_iconst dX7_setYear_9 ?_
      refine ZV_goto (tgt := 25) dX7_setYear_10 (by decide) ?_
      exact bad 1 (Or.inl rfl) (hx1 hi2)
theorem sp_X7_remove {m : Nat} {i : Int} {Q : AC} (hM : MInv X g I m Q) (hi : r32 i) (hx1 : ¬ (0 ≤ i ∧ i < aN Q.2.1) → ∀ I', MP X g I I' m Q 1 → post (.inl (some (vi 0))) g I' J) (hx2 : (0 ≤ i ∧ i < aN Q.2.1) → ∀ I', MP X g I I' m (Q.1, aTake Q.2.1 i.toNat, hpush Q.2.2.1 Q.2.1, Q.2.2.2) 0 → post (.inl (some (vi (chgN (aTake Q.2.1 i.toNat) (fun j => if j < i.toNat then keyOf Q.2.1 j else keyOf Q.2.1 (j + 1)))))) g I' J) : ZV X E_X7_remove 0 [some (.ref m), some (vi i)] [] b g I J post := by
  have hL := hM.1
  have hG := hM.2.2.1.2
  obtain ⟨l0, ⟨p1, p2, p3, p4, p5, p6, p7⟩, ⟨l1, l2, l3, l4, l5, l6⟩, ⟨j1, j2, j3, j4, j5, j6, j7⟩, ⟨k1, k2, k3, k4, k5, k6⟩⟩ := id hL
  have h16 := hG.1.1
  refine ZV_aload_n dX7_remove_0 rfl ?_
  refine ZV_aload_n dX7_remove_1 rfl ?_
  refine ZV_iload_n dX7_remove_2 rfl ?_
  refine cl_X7_isWork kX7_remove_183 rfl dX7_remove_3 (by assumption) (Nat.le_of_ble_eq_true rfl) ?_
  refine sp_X7_isWork hM hi ?_
  by_cases hi2 : 0 ≤ i ∧ i < aN Q.2.1
  · rw [if_pos hi2]
    have hx := hx2 hi2
    obtain ⟨n, rfl⟩ : ∃ n : Nat, i = n := ⟨i.toNat, by omega⟩
    have hn : n < aN Q.2.1 := by omega
    rw [Int.toNat_natCast] at hx
    refine ZV_if_eq (tgt := 13) dX7_remove_6 (by decide) ⟨by omega, by omega⟩ (fun h6 => ?_) (fun h6 => ?_)
    · omega
    · refine ZV_iconst dX7_remove_9 ?_
      refine ZV_goto (tgt := 14) dX7_remove_10 (by decide) ?_
      refine cl_X7_refused kX7_remove_125 rfl dX7_remove_14 (by assumption) (Nat.le_of_ble_eq_true rfl) ?_
      refine sp_X7_refused hL ⟨by decide, by decide⟩ ?_
      rw [if_neg (by decide)]
      have hM2 := hM.ref (w := 0)
      refine ZV_if_eq (tgt := 22) dX7_remove_17 (by decide) ⟨by omega, by omega⟩ (fun h17 => ?_) (fun h17 => ?_)
      · refine ZV_aload_n dX7_remove_22 rfl ?_
        refine cl_X7_note kX7_remove_198 rfl dX7_remove_23 (by assumption) (Nat.le_of_ble_eq_true rfl) ?_
        refine sp_X7_note hM2 ?_
        intro I3 hI3 hI3m hM3
        refine ZV_aload_n dX7_remove_26 rfl ?_
        refine cl_X7_layWas kX7_remove_201 rfl dX7_remove_27 (by assumption) (Nat.le_of_ble_eq_true rfl) ?_
        refine sp_X7_layWas hL hM3.2.2.1.1 hG ?_
        intro I4 hI4 hW4
        have hR4 : MR (I4 (m + 3)) Q.2.1 := by rw [hI4 _ (by omega) (by omega) (by omega) (by omega) (by omega) (by omega)]; exact hM3.2.2.1.1
        refine ZV_aload_n dX7_remove_30 rfl ?_
        refine ZV_getR fX7_remove_16 dX7_remove_31 (by assumption) rfl (by assumption) ?_
        refine ZV_iload_n dX7_remove_34 rfl ?_
        refine cl_X7_drop kX7_remove_214 rfl dX7_remove_35 (Nat.le_of_ble_eq_true rfl) ?_
        refine sp_X7_drop j3 hR4 hG hn ?_
        intro I5 hI5 hR5
        have hG5 := hG.take hn
        refine ZV_aload_n dX7_remove_38 rfl ?_
        refine ZV_aload_n dX7_remove_39 rfl ?_
        refine ZV_getR fX7_remove_16 dX7_remove_40 (by assumption) rfl (by assumption) ?_
        refine ZV_iload_n dX7_remove_43 rfl ?_
        refine cl_X7_others kX7_remove_204 rfl dX7_remove_44 (by assumption) (Nat.le_of_ble_eq_true rfl) ?_
        refine sp_X7_others (gn := (n : Int)) (K := fun j => if j < n then keyOf Q.2.1 j else keyOf Q.2.1 (j + 1)) hL (Or.inl rfl) hR5 hG5 (Or.inr ⟨by omega, by omega⟩) (fun j hj => ?_) ?_
        · have hj2 : j < aN Q.2.1 - 1 := hj
          rw [hI5 _ (by omega)]
          show KeA (I4 (m + 12)) (14 * oldN n j) (if j < n then keyOf Q.2.1 j else keyOf Q.2.1 (j + 1)) ∧ KWF (if j < n then keyOf Q.2.1 j else keyOf Q.2.1 (j + 1)) ∧ oldN n j < 16
          by_cases e : j < n
          · have eo : oldN (n : Int) j = j := if_neg (by omega)
            rw [if_pos e, eo]
            exact ⟨hW4 j (show j < aN Q.2.1 by omega), keyOf_KWF hG (by omega), by omega⟩
          · have eo : oldN (n : Int) j = j + 1 := if_pos ⟨by omega, by omega⟩
            rw [if_neg e, eo]
            exact ⟨hW4 (j + 1) (show j + 1 < aN Q.2.1 by omega), keyOf_KWF hG (by omega), by omega⟩
        · intro I6 hF6
          have q6 : ∀ q, q < m + 8 → q ≠ m + 3 → I6 q = I3 q := fun q h1 h2 => by rw [hF6 q (by omega) (by omega) (by omega) (by omega) (by omega), hI5 q h2, hI4 q (by omega) (by omega) (by omega) (by omega) (by omega) (by omega)]
          have hc := chgN_rng (aTake Q.2.1 n) (fun j => if j < n then keyOf Q.2.1 j else keyOf Q.2.1 (j + 1))
          refine ZV_iret dX7_remove_47 rfl ?_
          refine hx _ ⟨fun q hq => ?_, hM3.now (by rw [q6 m (by omega) (by omega)]) (by rw [q6 m (by omega) (by omega)]) (fun q hq => q6 q (by omega) (by omega)) (by rw [hF6 _ (by omega) (by omega) (by omega) (by omega) (by omega)]; exact hR5) hG5, ?_⟩
          · rw [hF6 q (by omega) (by omega) (by omega) (by omega) (by omega), hI5 q (by omega), hI4 q (by omega) (by omega) (by omega) (by omega) (by omega) (by omega), hI3 q (by omega) (by omega), up2_row _ _ (by omega)]
          · rw [q6 m (by omega) (by omega), hI3m 0 (by decide), up2_same]
      · omega
  · rw [if_neg hi2]
    refine ZV_if_eq (tgt := 13) dX7_remove_6 (by decide) ⟨by omega, by omega⟩ (fun h6 => ?_) (fun h6 => ?_)
    · refine ZV_iconst dX7_remove_13 ?_
      refine cl_X7_refused kX7_remove_125 rfl dX7_remove_14 (by assumption) (Nat.le_of_ble_eq_true rfl) ?_
      refine sp_X7_refused hL ⟨by decide, by decide⟩ ?_
      rw [if_pos (by decide)]
      refine ZV_if_eq (tgt := 22) dX7_remove_17 (by decide) ⟨by omega, by omega⟩ (fun h17 => ?_) (fun h17 => ?_)
      · omega
      · refine ZV_iconst dX7_remove_20 ?_
        refine ZV_iret dX7_remove_21 rfl ?_
        exact hx1 hi2 _ hM.mp
    · omega
end ZM13

