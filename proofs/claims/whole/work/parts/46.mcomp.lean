/-! the reference: comparing names, works, keys -/
theorem acmp_zero {f f' : Nat → Int} {n : Nat} (h : acmp f f' n = 0) : ∀ m, n ≤ m → (∀ k, n ≤ k → k < m → f k = f' k) → acmp f f' m = 0 := by
  intro m
  induction m with
  | zero => intro q _; rw [show n = 0 by omega] at h; exact h
  | succ m ih =>
    intro q hk
    by_cases e : n = m + 1
    · rw [← e]; exact h
    · have h1 := ih (by omega) (fun k h1 h2 => hk k h1 (by omega))
      simp only [acmp]
      rw [if_pos h1, hk m (by omega) (by omega)]
      unfold zcmp
      rw [if_neg (by omega), if_pos rfl]
theorem zcmp_sg (x y : Int) : (zcmp x y < 0 ↔ x < y) ∧ (zcmp x y = 0 ↔ x = y) := by
  unfold zcmp
  split
  · exact ⟨⟨fun _ => by omega, fun _ => by decide⟩, ⟨fun q => absurd q (by decide), fun q => by omega⟩⟩
  · split
    · exact ⟨⟨fun q => absurd q (by decide), fun q => by omega⟩, ⟨fun _ => by omega, fun _ => rfl⟩⟩
    · exact ⟨⟨fun q => absurd q (by decide), fun q => by omega⟩, ⟨fun q => absurd q (by decide), fun q => by omega⟩⟩
def cellOf (κ : Int) (q : Nat) : Int := if q = 0 then klen κ else kch κ ((q - 1 : Nat) : Int)
theorem KeA.cell {R : Nat → Int} {p : Nat} {κ : Int} (h : KeA R p κ) {q : Nat} (hq : (q : Int) ≤ klen κ) : R (p + q) = cellOf κ q := by
  unfold cellOf
  by_cases e : q = 0
  · rw [if_pos e, e]; exact h.1
  · rw [if_neg e]
    have := h.2 (q - 1) (by omega)
    rw [show p + 1 + (q - 1) = p + q by omega] at this
    exact this
section ZM2
variable {X : Xt} {g : Geo} {I J : Mm} {b : Nat × Nat} {post : Out → Geo → Mm → Mm → Prop}
theorem sp_X7_compareNames {r pa pb : Nat} {u v : Int} (hr : ksh X g r = some (.inr (0, 980))) (ha : pa + 9 ≤ 980) (hb : pb + 9 ≤ 980) (hu : wfN u) (hv : wfN v) (hA : NmA (I r) pa u) (hB : NmA (I r) pb v) (h : ∀ z, (z < 0 ↔ u < v) → (z = 0 ↔ u = v) → (-100 ≤ z ∧ z ≤ 100) → post (.inl (some (vi z))) g I J) : ZV X E_X7_compareNames 0 [some (.ref r), some (vi (pa : Int)), some (vi (pb : Int)), none, none] [] b g I J post := by
  obtain ⟨u1, u2, u3⟩ := wfN_len hu
  obtain ⟨v1, v2, v3⟩ := wfN_len hv
  obtain ⟨M, hM⟩ : ∃ M : Nat, M = (if nlen v ≤ nlen u then nlen v else nlen u).toNat := ⟨_, rfl⟩
  have hM1 : M ≤ (nlen u).toNat ∧ M ≤ (nlen v).toNat ∧ (M = (nlen u).toNat ∨ M = (nlen v).toNat) := by
    rw [hM]; split <;> omega
  have key : ∀ q : Nat, q ≤ M → ∀ (z : Int), z = (q : Int) + 1 → (∀ j, j < q → dg u j = dg v j) → ZV X E_X7_compareNames 22 [some (.ref r), some (vi (pa : Int)), some (vi (pb : Int)), some (vi (M : Int)), some (vi z)] [] b g I J post := by
    refine loop_up M ?_ ?_
    · intro z hz hq
      refine ZV_iload dX7_compareNames_22 rfl ?_
      refine ZV_iload_n dX7_compareNames_24 rfl ?_
      refine ZV_icmp_gt (tgt := 63) dX7_compareNames_25 (by decide) ⟨by omega, by omega⟩ ⟨by omega, by omega⟩ (fun h25 => ?_) (fun h25 => ?_)
      · refine ZV_aload_n dX7_compareNames_63 rfl ?_
        refine ZV_iload_n dX7_compareNames_64 rfl ?_
        refine ZV_iald (pa) dX7_compareNames_65 (by assumption) (by first | rfl | omega) (by omega) (by omega) ?_
        refine ZV_aload_n dX7_compareNames_66 rfl ?_
        refine ZV_iload_n dX7_compareNames_67 rfl ?_
        refine ZV_iald (pb) dX7_compareNames_68 (by assumption) (by first | rfl | omega) (by omega) (by omega) ?_
        rw [hA.1, hB.1]
        refine ZV_isub dX7_compareNames_69 ?_
        refine ZV_iret dX7_compareNames_70 rfl ?_
        refine h _ ?_ ?_ ⟨by omega, by omega⟩
        · rcases Int.lt_trichotomy (nlen u) (nlen v) with e | e | e
          · have h1 := nm_lt (k := M) (wfN_ok hu) (wfN_ok hv) (by omega) hq (by rw [nmW_out u1 (by omega) (by omega)]; have := v1.2.2.2 M (by omega); omega)
            omega
          · have h1 := nm_eq (wfN_ok hu) (wfN_ok hv) (fun j hj => by
              by_cases c : j < M
              · exact hq j c
              · rw [nmW_out u1 (by omega) hj, nmW_out v1 (by omega) hj])
            omega
          · have h1 := nm_lt (k := M) (wfN_ok hv) (wfN_ok hu) (by omega) (fun j hj => (hq j hj).symm) (by rw [nmW_out v1 (by omega) (by omega)]; have := u1.2.2.2 M (by omega); omega)
            omega
        · rcases Int.lt_trichotomy (nlen u) (nlen v) with e | e | e
          · exact ⟨fun _ => by omega, fun c => by rw [c] at e; omega⟩
          · have h1 := nm_eq (wfN_ok hu) (wfN_ok hv) (fun j hj => by
              by_cases c : j < M
              · exact hq j c
              · rw [nmW_out u1 (by omega) hj, nmW_out v1 (by omega) hj])
            omega
          · exact ⟨fun _ => by omega, fun c => by rw [c] at e; omega⟩
      · omega
    · intro q hq ih z hz hp
      have a1 := hA.2 q (by omega)
      have b1 := hB.2 q (by omega)
      have d1 := dg_rng u q
      have d2 := dg_rng v q
      have a2 : I r (pa + 1 + q) = 96 + dg u q := a1
      have b2 : I r (pb + 1 + q) = 96 + dg v q := b1
      refine ZV_iload dX7_compareNames_22 rfl ?_
      refine ZV_iload_n dX7_compareNames_24 rfl ?_
      refine ZV_icmp_gt (tgt := 63) dX7_compareNames_25 (by decide) ⟨by omega, by omega⟩ ⟨by omega, by omega⟩ (fun h25 => ?_) (fun h25 => ?_)
      · omega
      · refine ZV_aload_n dX7_compareNames_28 rfl ?_
        refine ZV_iload_n dX7_compareNames_29 rfl ?_
        refine ZV_iload dX7_compareNames_30 rfl ?_
        refine ZV_iadd dX7_compareNames_32 ?_
        refine ZV_iald (pa + 1 + q) dX7_compareNames_33 (by assumption) (by first | rfl | omega) (by omega) (by omega) ?_
        refine ZV_aload_n dX7_compareNames_34 rfl ?_
        refine ZV_iload_n dX7_compareNames_35 rfl ?_
        refine ZV_iload dX7_compareNames_36 rfl ?_
        refine ZV_iadd dX7_compareNames_38 ?_
        refine ZV_iald (pb + 1 + q) dX7_compareNames_39 (by assumption) (by first | rfl | omega) (by omega) (by omega) ?_
        rw [a2, b2]
        refine ZV_icmp_eq (tgt := 57) dX7_compareNames_40 (by decide) ⟨by omega, by omega⟩ ⟨by omega, by omega⟩ (fun h40 => ?_) (fun h40 => ?_)
        · refine ZV_jinc4 dX7_compareNames_57 rfl (by decide) ?_
          refine ZV_goto (tgt := 22) dX7_compareNames_60 (by decide) ?_
          exact ih _ (by omega) (fun j hj => by
            by_cases e : j = q
            · rw [e]; omega
            · exact hp j (by omega))
        · refine ZV_aload_n dX7_compareNames_43 rfl ?_
          refine ZV_iload_n dX7_compareNames_44 rfl ?_
          refine ZV_iload dX7_compareNames_45 rfl ?_
          refine ZV_iadd dX7_compareNames_47 ?_
          refine ZV_iald (pa + 1 + q) dX7_compareNames_48 (by assumption) (by first | rfl | omega) (by omega) (by omega) ?_
          refine ZV_aload_n dX7_compareNames_49 rfl ?_
          refine ZV_iload_n dX7_compareNames_50 rfl ?_
          refine ZV_iload dX7_compareNames_51 rfl ?_
          refine ZV_iadd dX7_compareNames_53 ?_
          refine ZV_iald (pb + 1 + q) dX7_compareNames_54 (by assumption) (by first | rfl | omega) (by omega) (by omega) ?_
          rw [a2, b2]
          refine ZV_isub dX7_compareNames_55 ?_
          refine ZV_iret dX7_compareNames_56 rfl ?_
          refine h _ ?_ ?_ ⟨by omega, by omega⟩
          · by_cases e : dg u q < dg v q
            · have h1 := nm_lt (k := q) (wfN_ok hu) (wfN_ok hv) (by omega) hp e
              omega
            · have h1 := nm_lt (k := q) (wfN_ok hv) (wfN_ok hu) (by omega) (fun j hj => (hp j hj).symm) (by omega)
              omega
          · by_cases e : dg u q < dg v q
            · have h1 := nm_lt (k := q) (wfN_ok hu) (wfN_ok hv) (by omega) hp e
              omega
            · have h1 := nm_lt (k := q) (wfN_ok hv) (wfN_ok hu) (by omega) (fun j hj => (hp j hj).symm) (by omega)
              omega
  refine ZV_aload_n dX7_compareNames_0 rfl ?_
  refine ZV_iload_n dX7_compareNames_1 rfl ?_
  refine ZV_iald (pa) dX7_compareNames_2 (by assumption) (by first | rfl | omega) (by omega) (by omega) ?_
  refine ZV_aload_n dX7_compareNames_3 rfl ?_
  refine ZV_iload_n dX7_compareNames_4 rfl ?_
  refine ZV_iald (pb) dX7_compareNames_5 (by assumption) (by first | rfl | omega) (by omega) (by omega) ?_
  rw [hA.1, hB.1]
  refine ZV_icmp_ge (tgt := 15) dX7_compareNames_6 (by decide) ⟨by omega, by omega⟩ ⟨by omega, by omega⟩ (fun h6 => ?_) (fun h6 => ?_)
  · refine ZV_aload_n dX7_compareNames_15 rfl ?_
    refine ZV_iload_n dX7_compareNames_16 rfl ?_
    refine ZV_iald (pb) dX7_compareNames_17 (by assumption) (by first | rfl | omega) (by omega) (by omega) ?_
    rw [hB.1]
    rw [if_pos (by omega)] at hM
    rw [show nlen v = (M : Int) by omega]
    refine ZV_istore3 dX7_compareNames_18 rfl (by decide) ?_
    refine ZV_iconst dX7_compareNames_19 ?_
    refine ZV_istore4 dX7_compareNames_20 rfl (by decide) ?_
    exact key 0 (by omega) _ rfl (fun j hj => absurd hj (Nat.not_lt_zero j))
  · refine ZV_aload_n dX7_compareNames_9 rfl ?_
    refine ZV_iload_n dX7_compareNames_10 rfl ?_
    refine ZV_iald (pa) dX7_compareNames_11 (by assumption) (by first | rfl | omega) (by omega) (by omega) ?_
    rw [hA.1]
    rw [if_neg (by omega)] at hM
    rw [show nlen u = (M : Int) by omega]
    refine ZV_goto (tgt := 18) dX7_compareNames_12 (by decide) ?_
    refine ZV_istore3 dX7_compareNames_18 rfl (by decide) ?_
    refine ZV_iconst dX7_compareNames_19 ?_
    refine ZV_istore4 dX7_compareNames_20 rfl (by decide) ?_
    exact key 0 (by omega) _ rfl (fun j hj => absurd hj (Nat.not_lt_zero j))
theorem sp_X7_compareAuthors {r i j : Nat} {P Q : AWk} (hr : ksh X g r = some (.inr (0, 980))) (hi : i < 16) (hj : j < 16) (hP : WkA (I r) (4 + 47 * i) P) (hQ : WkA (I r) (4 + 47 * j) Q) (wP : AWF P) (wQ : AWF Q) (h : ∀ z, (z < 0 ↔ acmp P.1 Q.1 4 < 0) → (z = 0 ↔ acmp P.1 Q.1 4 = 0) → (-100 ≤ z ∧ z ≤ 100) → post (.inl (some (vi z))) g I J) : ZV X E_X7_compareAuthors 0 [some (.ref r), some (vi (i : Int)), some (vi (j : Int)), none, none, none, none] [] b g I J post := by
  obtain ⟨⟨p1, p2⟩, p3⟩ := wP.1, wP.2
  obtain ⟨⟨q1, q2⟩, q3⟩ := wQ.1, wQ.2
  obtain ⟨M, hM⟩ : ∃ M : Nat, M = (if Q.2.1 ≤ P.2.1 then Q.2.1 else P.2.1).toNat := ⟨_, rfl⟩
  have hM1 : (M : Int) ≤ P.2.1 ∧ (M : Int) ≤ Q.2.1 ∧ ((M : Int) = P.2.1 ∨ (M : Int) = Q.2.1) := by
    rw [hM]; split <;> omega
  have c1 : I r (4 + 47 * i + 1) = P.2.1 := hP.1.2
  have c2 : I r (4 + 47 * j + 1) = Q.2.1 := hQ.1.2
  have key : ∀ q : Nat, q ≤ M → ∀ (z : Int) (o : Option Value), z = (q : Int) → acmp P.1 Q.1 q = 0 → ZV X E_X7_compareAuthors 20 [some (.ref r), some (vi (i : Int)), some (vi (j : Int)), some (vi P.2.1), some (vi Q.2.1), some (vi z), o] [] b g I J post := by
    refine loop_up M ?_ ?_
    · intro z o hz hq
      have fin : ZV X E_X7_compareAuthors 65 [some (.ref r), some (vi (i : Int)), some (vi (j : Int)), some (vi P.2.1), some (vi Q.2.1), some (vi z), o] [] b g I J post := by
        refine ZV_iload_n dX7_compareAuthors_65 rfl ?_
        refine ZV_iload dX7_compareAuthors_66 rfl ?_
        refine ZV_isub dX7_compareAuthors_68 ?_
        refine ZV_iret dX7_compareAuthors_69 rfl ?_
        have sg : (P.2.1 - Q.2.1 < 0 ↔ acmp P.1 Q.1 4 < 0) ∧ (P.2.1 - Q.2.1 = 0 ↔ acmp P.1 Q.1 4 = 0) := by
          rcases Int.lt_trichotomy P.2.1 Q.2.1 with e | e | e
          · have e1 : acmp P.1 Q.1 (M + 1) = -1 := by
              simp only [acmp]
              rw [if_pos hq, wP.2.2.1 M (by omega)]
              have := wfN_pos (wQ.2.1 M (by omega))
              unfold zcmp
              rw [if_pos this]
            have e2 := acmp_stable (m := M + 1) (by rw [e1]; decide) 4 (by omega)
            rw [e2, e1]
            omega
          · have e1 := acmp_zero hq 4 (by omega) (fun k h1 h2 => by rw [wP.2.2.1 k (by omega), wQ.2.2.1 k (by omega)])
            rw [e1]
            omega
          · have e1 : acmp P.1 Q.1 (M + 1) = 1 := by
              simp only [acmp]
              rw [if_pos hq, wQ.2.2.1 M (by omega)]
              have := wfN_pos (wP.2.1 M (by omega))
              unfold zcmp
              rw [if_neg (by omega), if_neg (by omega)]
            have e2 := acmp_stable (m := M + 1) (by rw [e1]; decide) 4 (by omega)
            rw [e2, e1]
            omega
        exact h _ sg.1 sg.2 ⟨by omega, by omega⟩
      refine ZV_iload dX7_compareAuthors_20 rfl ?_
      refine ZV_iload_n dX7_compareAuthors_22 rfl ?_
      refine ZV_icmp_ge (tgt := 65) dX7_compareAuthors_23 (by decide) ⟨by omega, by omega⟩ ⟨by omega, by omega⟩ (fun h23 => ?_) (fun h23 => ?_)
      · exact fin
      · refine ZV_iload dX7_compareAuthors_26 rfl ?_
        refine ZV_iload dX7_compareAuthors_28 rfl ?_
        refine ZV_icmp_ge (tgt := 65) dX7_compareAuthors_30 (by decide) ⟨by omega, by omega⟩ ⟨by omega, by omega⟩ (fun h30 => ?_) (fun h30 => ?_)
        · exact fin
        · omega
    · intro q hq ih z o hz hac
      subst hz
      refine ZV_iload dX7_compareAuthors_20 rfl ?_
      refine ZV_iload_n dX7_compareAuthors_22 rfl ?_
      refine ZV_icmp_ge (tgt := 65) dX7_compareAuthors_23 (by decide) ⟨by omega, by omega⟩ ⟨by omega, by omega⟩ (fun h23 => ?_) (fun h23 => ?_)
      · omega
      · refine ZV_iload dX7_compareAuthors_26 rfl ?_
        refine ZV_iload dX7_compareAuthors_28 rfl ?_
        refine ZV_icmp_ge (tgt := 65) dX7_compareAuthors_30 (by decide) ⟨by omega, by omega⟩ ⟨by omega, by omega⟩ (fun h30 => ?_) (fun h30 => ?_)
        · omega
        · refine ZV_aload_n dX7_compareAuthors_33 rfl ?_
          refine ZV_iload_n dX7_compareAuthors_34 rfl ?_
          refine ZV_iload dX7_compareAuthors_35 rfl ?_
          refine cl_X7_author kX7_compareAuthors_71 rfl dX7_compareAuthors_37 (Nat.le_of_ble_eq_true rfl) ?_
          refine sp_X7_author ?_
          rw [show 4 + 47 * (i : Int) + (2 + 9 * (q : Int)) = ((4 + 47 * i + 2 + 9 * q : Nat) : Int) by omega]
          refine ZV_iload_n dX7_compareAuthors_40 rfl ?_
          refine ZV_iload dX7_compareAuthors_41 rfl ?_
          refine cl_X7_author kX7_compareAuthors_71 rfl dX7_compareAuthors_43 (Nat.le_of_ble_eq_true rfl) ?_
          refine sp_X7_author ?_
          rw [show 4 + 47 * (j : Int) + (2 + 9 * (q : Int)) = ((4 + 47 * j + 2 + 9 * q : Nat) : Int) by omega]
          refine cl_X7_compareNames kX7_compareAuthors_74 rfl dX7_compareAuthors_46 (Nat.le_of_ble_eq_true rfl) ?_
          refine sp_X7_compareNames hr (by omega) (by omega) (wP.2.1 q (by omega)) (wQ.2.1 q (by omega)) (hP.2.1 q (by omega)) (hQ.2.1 q (by omega)) ?_
          intro z z1 z2 z3
          obtain ⟨s1, s2⟩ := zcmp_sg (P.1 q) (Q.1 q)
          have e1 : acmp P.1 Q.1 (q + 1) = zcmp (P.1 q) (Q.1 q) := by simp only [acmp]; rw [if_pos hac]
          refine ZV_istore6 dX7_compareAuthors_49 rfl (by decide) ?_
          refine ZV_iload dX7_compareAuthors_51 rfl ?_
          refine ZV_if_eq (tgt := 59) dX7_compareAuthors_53 (by decide) ⟨by omega, by omega⟩ (fun h53 => ?_) (fun h53 => ?_)
          · refine ZV_jinc5 dX7_compareAuthors_59 rfl (by decide) ?_
            refine ZV_goto (tgt := 20) dX7_compareAuthors_62 (by decide) ?_
            exact ih _ _ (by omega) (by rw [e1]; omega)
          · refine ZV_iload dX7_compareAuthors_56 rfl ?_
            refine ZV_iret dX7_compareAuthors_58 rfl ?_
            have e2 := acmp_stable (m := q + 1) (f := P.1) (f' := Q.1) (by rw [e1]; omega) 4 (by omega)
            exact h z (by rw [e2, e1]; omega) (by rw [e2, e1]; omega) z3
  refine ZV_aload_n dX7_compareAuthors_0 rfl ?_
  refine ZV_iload_n dX7_compareAuthors_1 rfl ?_
  refine ZV_iconst dX7_compareAuthors_2 ?_
  refine cl_X7_cell kX7_compareAuthors_67 rfl dX7_compareAuthors_3 (Nat.le_of_ble_eq_true rfl) ?_
  refine sp_X7_cell ?_
  refine ZV_iald (4 + 47 * i + 1) dX7_compareAuthors_6 (by assumption) (by first | rfl | omega) (by omega) (by omega) ?_
  rw [c1]
  refine ZV_istore3 dX7_compareAuthors_7 rfl (by decide) ?_
  refine ZV_aload_n dX7_compareAuthors_8 rfl ?_
  refine ZV_iload_n dX7_compareAuthors_9 rfl ?_
  refine ZV_iconst dX7_compareAuthors_10 ?_
  refine cl_X7_cell kX7_compareAuthors_67 rfl dX7_compareAuthors_11 (Nat.le_of_ble_eq_true rfl) ?_
  refine sp_X7_cell ?_
  refine ZV_iald (4 + 47 * j + 1) dX7_compareAuthors_14 (by assumption) (by first | rfl | omega) (by omega) (by omega) ?_
  rw [c2]
  refine ZV_istore4 dX7_compareAuthors_15 rfl (by decide) ?_
  refine ZV_iconst dX7_compareAuthors_17 ?_
  refine ZV_istore5 dX7_compareAuthors_18 rfl (by decide) ?_
  exact key 0 (by omega) _ _ rfl rfl
theorem sp_X7_isAhead {r i j : Nat} {P Q : AWk} {od : Int} (hr : ksh X g r = some (.inr (0, 980))) (hi : i < 16) (hj : j < 16) (hP : WkA (I r) (4 + 47 * i) P) (hQ : WkA (I r) (4 + 47 * j) Q) (wP : AWF P) (wQ : AWF Q) (ho : I r 2 = od) (ho2 : od = 0 ∨ od = 1) (h : post (.inl (some (vi (bz od P Q i j)))) g I J) : ZV X E_X7_isAhead 0 [some (.ref r), some (vi (i : Int)), some (vi (j : Int)), none, none, none, none, none] [] b g I J post := by
  have y1 := wP.2.2.2.1
  have y2 := wQ.2.2.2.1
  have c1 : I r (4 + 47 * i + 0) = P.2.2.1 := hP.1.1
  have c2 : I r (4 + 47 * j + 0) = Q.2.2.1 := hQ.1.1
  obtain ⟨f0, hf0⟩ : ∃ f0, f0 = acmp P.1 Q.1 4 := ⟨_, rfl⟩
  obtain ⟨s0, hs0⟩ : ∃ s0, s0 = zcmp P.2.2.1 Q.2.2.1 := ⟨_, rfl⟩
  obtain ⟨t0, ht0⟩ : ∃ t0, t0 = zcmp P.2.2.2 Q.2.2.2 := ⟨_, rfl⟩
  have ys := zcmp_sg P.2.2.1 Q.2.2.1
  have ts := zcmp_sg P.2.2.2 Q.2.2.2
  unfold bz at h
  rw [← hf0, ← hs0, ← ht0] at h
  rw [← hs0] at ys
  rw [← ht0] at ts
  have last : ∀ (L3 L4 L5 : Option Value) (s6 z : Int), (-2000 ≤ z ∧ z ≤ 2000) → post (.inl (some (vi (if z < 0 ∨ (z = 0 ∧ (i : Int) < j) then 1 else 0)))) g I J → ZV X E_X7_isAhead 88 [some (.ref r), some (vi (i : Int)), some (vi (j : Int)), L3, L4, L5, some (vi s6), none] [vi z] b g I J post := by
    intro L3 L4 L5 s6 z hz hp
    refine ZV_istore7 dX7_isAhead_88 rfl (by decide) ?_
    refine ZV_iload dX7_isAhead_90 rfl ?_
    refine ZV_if_lt (tgt := 105) dX7_isAhead_92 (by decide) ⟨by omega, by omega⟩ (fun h92 => ?_) (fun h92 => ?_)
    · refine ZV_iconst dX7_isAhead_105 ?_
      refine ZV_goto (tgt := 110) dX7_isAhead_106 (by decide) ?_
      refine ZV_zret dX7_isAhead_110 rfl (by first | exact Or.inl rfl | exact Or.inr rfl | assumption | omega) ?_
      rw [if_pos (Or.inl (by omega))] at hp
      exact hp
    · refine ZV_iload dX7_isAhead_95 rfl ?_
      refine ZV_if_ne (tgt := 109) dX7_isAhead_97 (by decide) ⟨by omega, by omega⟩ (fun h97 => ?_) (fun h97 => ?_)
      · refine ZV_iconst dX7_isAhead_109 ?_
        refine ZV_zret dX7_isAhead_110 rfl (by first | exact Or.inl rfl | exact Or.inr rfl | assumption | omega) ?_
        rw [if_neg (by omega)] at hp
        exact hp
      · refine ZV_iload_n dX7_isAhead_100 rfl ?_
        refine ZV_iload_n dX7_isAhead_101 rfl ?_
        refine ZV_icmp_ge (tgt := 109) dX7_isAhead_102 (by decide) ⟨by omega, by omega⟩ ⟨by omega, by omega⟩ (fun h102 => ?_) (fun h102 => ?_)
        · refine ZV_iconst dX7_isAhead_109 ?_
          refine ZV_zret dX7_isAhead_110 rfl (by first | exact Or.inl rfl | exact Or.inr rfl | assumption | omega) ?_
          rw [if_neg (by omega)] at hp
          exact hp
        · refine ZV_iconst dX7_isAhead_105 ?_
          refine ZV_goto (tgt := 110) dX7_isAhead_106 (by decide) ?_
          refine ZV_zret dX7_isAhead_110 rfl (by first | exact Or.inl rfl | exact Or.inr rfl | assumption | omega) ?_
          rw [if_pos (Or.inr ⟨by omega, by omega⟩)] at hp
          exact hp
  have tail : ∀ (L3 L4 : Option Value) (f s f1 s1 : Int), (-2000 ≤ f ∧ f ≤ 2000) → (-2000 ≤ s ∧ s ≤ 2000) → (f < 0 ↔ f1 < 0) → (f = 0 ↔ f1 = 0) → (s < 0 ↔ s1 < 0) → (s = 0 ↔ s1 = 0) → post (.inl (some (vi (ch3 f1 s1 t0 i j)))) g I J → ZV X E_X7_isAhead 52 [some (.ref r), some (vi (i : Int)), some (vi (j : Int)), L3, L4, some (vi f), some (vi s), none] [] b g I J post := by
    intro L3 L4 f s f1 s1 hf hs k1 k2 k3 k4 hp
    unfold ch3 neg1 at hp
    refine ZV_iload dX7_isAhead_52 rfl ?_
    refine ZV_if_eq (tgt := 62) dX7_isAhead_54 (by decide) ⟨by omega, by omega⟩ (fun h54 => ?_) (fun h54 => ?_)
    · rw [if_neg (by omega)] at hp
      refine ZV_iload dX7_isAhead_62 rfl ?_
      refine ZV_if_eq (tgt := 72) dX7_isAhead_64 (by decide) ⟨by omega, by omega⟩ (fun h64 => ?_) (fun h64 => ?_)
      · rw [if_neg (by omega)] at hp
        refine ZV_aload_n dX7_isAhead_72 rfl ?_
        refine ZV_iload_n dX7_isAhead_73 rfl ?_
        refine ZV_bipush dX7_isAhead_74 (by decide) ?_
        refine cl_X7_cell kX7_isAhead_67 rfl dX7_isAhead_76 (Nat.le_of_ble_eq_true rfl) ?_
        refine sp_X7_cell ?_
        rw [show 4 + 47 * (i : Int) + 38 = ((4 + 47 * i + 38 : Nat) : Int) by omega]
        refine ZV_iload_n dX7_isAhead_79 rfl ?_
        refine ZV_bipush dX7_isAhead_80 (by decide) ?_
        refine cl_X7_cell kX7_isAhead_67 rfl dX7_isAhead_82 (Nat.le_of_ble_eq_true rfl) ?_
        refine sp_X7_cell ?_
        rw [show 4 + 47 * (j : Int) + 38 = ((4 + 47 * j + 38 : Nat) : Int) by omega]
        refine cl_X7_compareNames kX7_isAhead_74 rfl dX7_isAhead_85 (Nat.le_of_ble_eq_true rfl) ?_
        refine sp_X7_compareNames hr (by omega) (by omega) wP.2.2.2.2 wQ.2.2.2.2 hP.2.2 hQ.2.2 ?_
        intro z z1 z2 z3
        refine last _ _ _ _ z ⟨by omega, by omega⟩ ?_
        by_cases e : t0 = 0
        · rw [if_neg (by omega)] at hp
          by_cases e2 : (i : Int) < j
          · rw [if_pos e2] at hp
            rw [if_pos (Or.inr ⟨by omega, e2⟩)]
            exact hp
          · rw [if_neg e2] at hp
            rw [if_neg (by omega)]
            exact hp
        · rw [if_pos e] at hp
          by_cases e2 : t0 < 0
          · rw [if_pos e2] at hp
            rw [if_pos (Or.inl (by omega))]
            exact hp
          · rw [if_neg e2] at hp
            rw [if_neg (by omega)]
            exact hp
      · rw [if_pos (by omega)] at hp
        refine ZV_iload dX7_isAhead_67 rfl ?_
        refine ZV_goto (tgt := 88) dX7_isAhead_69 (by decide) ?_
        refine last _ _ _ _ s hs ?_
        by_cases e2 : s1 < 0
        · rw [if_pos e2] at hp
          rw [if_pos (Or.inl (by omega))]
          exact hp
        · rw [if_neg e2] at hp
          rw [if_neg (by omega)]
          exact hp
    · rw [if_pos (by omega)] at hp
      refine ZV_iload dX7_isAhead_57 rfl ?_
      refine ZV_goto (tgt := 88) dX7_isAhead_59 (by decide) ?_
      refine last _ _ _ _ f hf ?_
      by_cases e2 : f1 < 0
      · rw [if_pos e2] at hp
        rw [if_pos (Or.inl (by omega))]
        exact hp
      · rw [if_neg e2] at hp
        rw [if_neg (by omega)]
        exact hp
  refine ZV_aload_n dX7_isAhead_0 rfl ?_
  refine ZV_iload_n dX7_isAhead_1 rfl ?_
  refine ZV_iconst dX7_isAhead_2 ?_
  refine cl_X7_cell kX7_isAhead_67 rfl dX7_isAhead_3 (Nat.le_of_ble_eq_true rfl) ?_
  refine sp_X7_cell ?_
  refine ZV_iald (4 + 47 * i + 0) dX7_isAhead_6 (by assumption) (by first | rfl | omega) (by omega) (by omega) ?_
  rw [c1]
  refine ZV_aload_n dX7_isAhead_7 rfl ?_
  refine ZV_iload_n dX7_isAhead_8 rfl ?_
  refine ZV_iconst dX7_isAhead_9 ?_
  refine cl_X7_cell kX7_isAhead_67 rfl dX7_isAhead_10 (Nat.le_of_ble_eq_true rfl) ?_
  refine sp_X7_cell ?_
  refine ZV_iald (4 + 47 * j + 0) dX7_isAhead_13 (by assumption) (by first | rfl | omega) (by omega) (by omega) ?_
  rw [c2]
  refine ZV_isub dX7_isAhead_14 ?_
  refine ZV_istore3 dX7_isAhead_15 rfl (by decide) ?_
  refine ZV_aload_n dX7_isAhead_16 rfl ?_
  refine ZV_iload_n dX7_isAhead_17 rfl ?_
  refine ZV_iload_n dX7_isAhead_18 rfl ?_
  refine cl_X7_compareAuthors kX7_isAhead_78 rfl dX7_isAhead_19 (Nat.le_of_ble_eq_true rfl) ?_
  refine sp_X7_compareAuthors hr hi hj hP hQ wP wQ ?_
  intro z z1 z2 z3
  rw [← hf0] at z1 z2
  refine ZV_istore4 dX7_isAhead_22 rfl (by decide) ?_
  refine ZV_aload_n dX7_isAhead_24 rfl ?_
  refine ZV_iconst dX7_isAhead_25 ?_
  refine ZV_iald (2) dX7_isAhead_26 (by assumption) (by first | rfl | omega) (by omega) (by omega) ?_
  rw [ho]
  refine ZV_if_ne (tgt := 35) dX7_isAhead_27 (by decide) ⟨by omega, by omega⟩ (fun h27 => ?_) (fun h27 => ?_)
  · refine ZV_iload_n dX7_isAhead_35 rfl ?_
    refine ZV_istore5 dX7_isAhead_36 rfl (by decide) ?_
    refine ZV_aload_n dX7_isAhead_38 rfl ?_
    refine ZV_iconst dX7_isAhead_39 ?_
    refine ZV_iald (2) dX7_isAhead_40 (by assumption) (by first | rfl | omega) (by omega) (by omega) ?_
    rw [ho]
    refine ZV_if_ne (tgt := 48) dX7_isAhead_41 (by decide) ⟨by omega, by omega⟩ (fun h41 => ?_) (fun h41 => ?_)
    · refine ZV_iload dX7_isAhead_48 rfl ?_
      refine ZV_istore6 dX7_isAhead_50 rfl (by decide) ?_
      rw [if_neg (by omega)] at h
      exact tail _ _ _ _ s0 f0 ⟨by omega, by omega⟩ ⟨by omega, by omega⟩ (by omega) (by omega) z1 z2 h
    · omega
  · refine ZV_iload dX7_isAhead_30 rfl ?_
    refine ZV_goto (tgt := 36) dX7_isAhead_32 (by decide) ?_
    refine ZV_istore5 dX7_isAhead_36 rfl (by decide) ?_
    refine ZV_aload_n dX7_isAhead_38 rfl ?_
    refine ZV_iconst dX7_isAhead_39 ?_
    refine ZV_iald (2) dX7_isAhead_40 (by assumption) (by first | rfl | omega) (by omega) (by omega) ?_
    rw [ho]
    refine ZV_if_ne (tgt := 48) dX7_isAhead_41 (by decide) ⟨by omega, by omega⟩ (fun h41 => ?_) (fun h41 => ?_)
    · omega
    · refine ZV_iload_n dX7_isAhead_44 rfl ?_
      refine ZV_goto (tgt := 50) dX7_isAhead_45 (by decide) ?_
      refine ZV_istore6 dX7_isAhead_50 rfl (by decide) ?_
      rw [if_pos (by omega)] at h
      exact tail _ _ _ _ f0 s0 ⟨by omega, by omega⟩ ⟨by omega, by omega⟩ z1 z2 (by omega) (by omega) h
theorem sp_X7_areLike {ra pa na rb pb nb : Nat} {κ κ' : Int} (hra : ksh X g ra = some (.inr (0, na))) (hrb : ksh X g rb = some (.inr (0, nb))) (ha : pa + 13 ≤ na) (hb : pb + 13 ≤ nb) (hna : na < 20000) (hnb : nb < 20000) (hA : KeA (I ra) pa κ) (hB : KeA (I rb) pb κ') (wA : KWF κ) (wB : KWF κ') (h : post (.inl (some (vi (if κ = κ' then 1 else 0)))) g I J) : ZV X E_X7_areLike 0 [some (.ref ra), some (vi (pa : Int)), some (.ref rb), some (vi (pb : Int)), none, none] [] b g I J post := by
  have lA := wA.len
  have lB := wB.len
  have kr : ∀ κ (q : Nat), KWF κ → -200 ≤ cellOf κ q ∧ cellOf κ q ≤ 200 := by
    intro κ q hκ
    have := hκ.len
    unfold cellOf
    split
    · omega
    · have a1 := nlen_rng (khd κ)
      have a2 := klet_rng κ
      have a3 := dgz_rng (khd κ) ((q - 1 : Nat) : Int)
      unfold kch codeAt
      repeat' split
      all_goals omega
  have stop0 : ∀ z : Int, (0 ≤ z ∧ z ≤ 20) → κ ≠ κ' → ZV X E_X7_areLike 6 [some (.ref ra), some (vi (pa : Int)), some (.ref rb), some (vi (pb : Int)), some (vi 0), some (vi z)] [] b g I J post := by
    intro z hz hne
    rw [if_neg hne] at h
    refine ZV_iload dX7_areLike_6 rfl ?_
    refine ZV_aload_n dX7_areLike_8 rfl ?_
    refine ZV_iload_n dX7_areLike_9 rfl ?_
    refine ZV_iald (pa) dX7_areLike_10 (by assumption) (by first | rfl | omega) (by omega) (by omega) ?_
    rw [hA.1]
    refine ZV_icmp_gt (tgt := 47) dX7_areLike_11 (by decide) ⟨by omega, by omega⟩ ⟨by omega, by omega⟩ (fun h11 => ?_) (fun h11 => ?_)
    · refine ZV_iload dX7_areLike_47 rfl ?_
      refine ZV_zret dX7_areLike_49 rfl (by first | exact Or.inl rfl | exact Or.inr rfl | assumption | omega) ?_
      exact h
    · refine ZV_iload dX7_areLike_14 rfl ?_
      refine ZV_if_eq (tgt := 47) dX7_areLike_16 (by decide) ⟨by omega, by omega⟩ (fun h16 => ?_) (fun h16 => ?_)
      · refine ZV_iload dX7_areLike_47 rfl ?_
        refine ZV_zret dX7_areLike_49 rfl (by first | exact Or.inl rfl | exact Or.inr rfl | assumption | omega) ?_
        exact h
      · omega
  have key : ∀ q : Nat, q ≤ (klen κ).toNat + 1 → ∀ (z : Int), z = (q : Int) → (∀ p, p < q → cellOf κ p = cellOf κ' p) → ZV X E_X7_areLike 6 [some (.ref ra), some (vi (pa : Int)), some (.ref rb), some (vi (pb : Int)), some (vi 1), some (vi z)] [] b g I J post := by
    refine loop_up ((klen κ).toNat + 1) ?_ ?_
    · intro z hz hq
      have e : κ = κ' := by
        refine KWF_inj wA wB ?_ (fun k hk => ?_)
        · have := hq 0 (by omega)
          exact this
        · have := hq (k + 1) (by omega)
          exact this
      rw [if_pos e] at h
      refine ZV_iload dX7_areLike_6 rfl ?_
      refine ZV_aload_n dX7_areLike_8 rfl ?_
      refine ZV_iload_n dX7_areLike_9 rfl ?_
      refine ZV_iald (pa) dX7_areLike_10 (by assumption) (by first | rfl | omega) (by omega) (by omega) ?_
      rw [hA.1]
      refine ZV_icmp_gt (tgt := 47) dX7_areLike_11 (by decide) ⟨by omega, by omega⟩ ⟨by omega, by omega⟩ (fun h11 => ?_) (fun h11 => ?_)
      · refine ZV_iload dX7_areLike_47 rfl ?_
        refine ZV_zret dX7_areLike_49 rfl (by first | exact Or.inl rfl | exact Or.inr rfl | assumption | omega) ?_
        exact h
      · omega
    · intro q hq ih z hz hp
      have a1 := hA.cell (q := q) (by omega)
      have hl2 : (q : Int) ≤ klen κ' := by
        by_cases e : q = 0
        · omega
        · have h0 := hp 0 (by omega)
          have h1 : klen κ = klen κ' := h0
          omega
      have b1 := hB.cell (q := q) hl2
      obtain ⟨k1, k2⟩ := kr κ q wA
      obtain ⟨k3, k4⟩ := kr κ' q wB
      refine ZV_iload dX7_areLike_6 rfl ?_
      refine ZV_aload_n dX7_areLike_8 rfl ?_
      refine ZV_iload_n dX7_areLike_9 rfl ?_
      refine ZV_iald (pa) dX7_areLike_10 (by assumption) (by first | rfl | omega) (by omega) (by omega) ?_
      rw [hA.1]
      refine ZV_icmp_gt (tgt := 47) dX7_areLike_11 (by decide) ⟨by omega, by omega⟩ ⟨by omega, by omega⟩ (fun h11 => ?_) (fun h11 => ?_)
      · omega
      · refine ZV_iload dX7_areLike_14 rfl ?_
        refine ZV_if_eq (tgt := 47) dX7_areLike_16 (by decide) ⟨by omega, by omega⟩ (fun h16 => ?_) (fun h16 => ?_)
        · omega
        · refine ZV_aload_n dX7_areLike_19 rfl ?_
          refine ZV_iload_n dX7_areLike_20 rfl ?_
          refine ZV_iload dX7_areLike_21 rfl ?_
          refine ZV_iadd dX7_areLike_23 ?_
          refine ZV_iald (pa + q) dX7_areLike_24 (by assumption) (by first | rfl | omega) (by omega) (by omega) ?_
          refine ZV_aload_n dX7_areLike_25 rfl ?_
          refine ZV_iload_n dX7_areLike_26 rfl ?_
          refine ZV_iload dX7_areLike_27 rfl ?_
          refine ZV_iadd dX7_areLike_29 ?_
          refine ZV_iald (pb + q) dX7_areLike_30 (by assumption) (by first | rfl | omega) (by omega) (by omega) ?_
          rw [a1, b1]
          refine ZV_icmp_ne (tgt := 38) dX7_areLike_31 (by decide) ⟨by omega, by omega⟩ ⟨by omega, by omega⟩ (fun h31 => ?_) (fun h31 => ?_)
          · refine ZV_iconst dX7_areLike_38 ?_
            refine ZV_istore4 dX7_areLike_39 rfl (by decide) ?_
            refine ZV_jinc5 dX7_areLike_41 rfl (by decide) ?_
            refine ZV_goto (tgt := 6) dX7_areLike_44 (by decide) ?_
            exact stop0 _ ⟨by omega, by omega⟩ (fun e => by rw [e] at h31; exact h31 rfl)
          · refine ZV_iconst dX7_areLike_34 ?_
            refine ZV_goto (tgt := 39) dX7_areLike_35 (by decide) ?_
            refine ZV_istore4 dX7_areLike_39 rfl (by decide) ?_
            refine ZV_jinc5 dX7_areLike_41 rfl (by decide) ?_
            refine ZV_goto (tgt := 6) dX7_areLike_44 (by decide) ?_
            exact ih _ (by omega) (fun p hp2 => by
              by_cases e : p = q
              · rw [e]; exact h31
              · exact hp p (by omega))
  refine ZV_iconst dX7_areLike_0 ?_
  refine ZV_istore4 dX7_areLike_1 rfl (by decide) ?_
  refine ZV_iconst dX7_areLike_3 ?_
  refine ZV_istore5 dX7_areLike_4 rfl (by decide) ?_
  exact key 0 (by omega) _ rfl (fun p hp => absurd hp (Nat.not_lt_zero p))
end ZM2

