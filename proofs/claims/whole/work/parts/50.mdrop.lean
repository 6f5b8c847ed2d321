/-! the reference: removing a work, printing, counting other keys -/
def oldN (gn : Int) (i : Nat) : Nat := if gn ≠ -9 ∧ gn ≤ (i : Int) then i + 1 else i
section ZM6
variable {X : Xt} {g : Geo} {I J : Mm} {b : Nat × Nat} {post : Out → Geo → Mm → Mm → Prop}
theorem sp_X7_drop {r i : Nat} {A : ASt} (hk : ksh X g r = some (.inr (0, 980))) (hR : MR (I r) A) (hG : GoodSt A) (hi : i < aN A) (h : ∀ I', (∀ q, q ≠ r → I' q = I q) → MR (I' r) (aTake A i) → post (.inl none) g I' J) : ZV X E_X7_drop 0 [some (.ref r), some (vi (i : Int)), none, none] [] b g I J post := by
  have h16 := hG.1.1
  have hp16 := hG.1.2.1
  obtain ⟨⟨r0, r1, r2, r3⟩, rw1, rp⟩ := hR
  have loop2 : ∀ (I1 : Mm), (∀ q, q ≠ r → I1 q = I q) → (I1 r 0 = (aN A : Int) - 1) → (∀ k, k ≠ 0 → I1 r k = if 4 + 47 * i ≤ k ∧ k < 709 then I r (k + 47) else I r k) → ∀ q : Nat, q ≤ aPn A → ∀ (z : Int) (o : Option Value) (I' : Mm), z = (q : Int) → (∀ a, a ≠ r → I' a = I a) → (∀ p, p < q → I' r (756 + 14 * p + 13) = disw i (aPo A p)) → (∀ k, (∀ p, p < q → k ≠ 756 + 14 * p + 13) → I' r k = I1 r k) → ZV X E_X7_drop 37 [some (.ref r), some (vi (i : Int)), some (vi z), o] [] b g I' J post := by
    intro I1 hI1 h10 h1k
    refine loop_up (aPn A) ?_ ?_
    · intro z o I' hz hI hp hk9
      have e3 : I' r 3 = (aPn A : Int) := by rw [hk9 3 (fun p _ => by omega), h1k 3 (by decide), if_neg (by omega)]; exact r3
      refine ZV_iload_n dX7_drop_37 rfl ?_
      refine ZV_aload_n dX7_drop_38 rfl ?_
      refine ZV_iconst dX7_drop_39 ?_
      refine ZV_iald (3) dX7_drop_40 (by assumption) (by first | rfl | omega) (by omega) (by omega) ?_
      rw [e3]
      refine ZV_icmp_ge (tgt := 95) dX7_drop_41 (by decide) ⟨by omega, by omega⟩ ⟨by omega, by omega⟩ (fun h41 => ?_) (fun h41 => ?_)
      · refine ZV_vret dX7_drop_95 rfl ?_
        refine h I' hI ⟨⟨?_, ?_, ?_, e3⟩, fun j hj => ?_, fun p hp9 => ⟨?_, hp p hp9⟩⟩
        · rw [hk9 0 (fun p _ => by omega), h10]
          show (aN A : Int) - 1 = ((aN A - 1 : Nat) : Int)
          omega
        · rw [hk9 1 (fun p _ => by omega), h1k 1 (by decide), if_neg (by omega)]; exact r1
        · rw [hk9 2 (fun p _ => by omega), h1k 2 (by decide), if_neg (by omega)]; exact r2
        · have hj2 : j < aN A - 1 := hj
          show WkA (I' r) (4 + 47 * j) (if j < i then aW A j else aW A (j + 1))
          by_cases e : j < i
          · rw [if_pos e]
            exact (rw1 j (by omega)).move (hG.2.1 j (by omega)).1.2 (fun k hk8 => by rw [hk9 _ (fun p _ => by omega), h1k _ (by omega), if_neg (by omega)])
          · rw [if_neg e]
            exact (rw1 (j + 1) (by omega)).move (hG.2.1 (j + 1) (by omega)).1.2 (fun k hk8 => by rw [hk9 _ (fun p _ => by omega), h1k _ (by omega), if_pos ⟨by omega, by omega⟩, show 4 + 47 * j + k + 47 = 4 + 47 * (j + 1) + k by omega])
        · have hp9' : p < aPn A := hp9
          have l12 := (hG.2.2 p hp9').1.len.2
          exact (rp p hp9').1.move (p := 756 + 14 * p) fun k hk8 => by rw [hk9 _ (fun p _ => by omega), h1k _ (by omega), if_neg (by omega)]
      · omega
    · intro q hq ih z o I' hz hI hp hk9
      subst hz
      have e3 : I' r 3 = (aPn A : Int) := by rw [hk9 3 (fun p _ => by omega), h1k 3 (by decide), if_neg (by omega)]; exact r3
      have eo : I' r (756 + 14 * q + 13) = aPo A q := by rw [hk9 _ (fun p _ => by omega), h1k _ (by omega), if_neg (by omega)]; exact (rp q hq).2
      obtain ⟨o1, o2⟩ := (hG.pr q hq).2
      have o3 := (hG.2.2 q hq).2
      have fin : ∀ v, v = disw i (aPo A q) → ZV X E_X7_drop 88 [some (.ref r), some (vi (i : Int)), some (vi (q : Int)), some (vi (756 + 14 * (q : Int) + 13))] [vi v, vi (756 + 14 * (q : Int) + 13), .ref r] b g I' J post := by
        intro v hv
        refine ZV_iast (756 + 14 * q + 13) dX7_drop_88 (by assumption) (by first | rfl | omega) (by omega) (by omega) ?_
        refine ZV_jinc2 dX7_drop_89 rfl (by decide) ?_
        refine ZV_goto (tgt := 37) dX7_drop_92 (by decide) ?_
        refine ih _ _ _ (by omega) (fun a ha => (up2_row _ _ ha).trans (hI a ha)) (fun p hp8 => ?_) (fun k hk8 => ?_)
        · by_cases e : p = q
          · rw [e, up2_same, hv]
          · rw [up2_k (by omega)]; exact hp p (by omega)
        · rw [up2_k (hk8 q (by omega))]
          exact hk9 k (fun p hp8 => hk8 p (by omega))
      refine ZV_iload_n dX7_drop_37 rfl ?_
      refine ZV_aload_n dX7_drop_38 rfl ?_
      refine ZV_iconst dX7_drop_39 ?_
      refine ZV_iald (3) dX7_drop_40 (by assumption) (by first | rfl | omega) (by omega) (by omega) ?_
      rw [e3]
      refine ZV_icmp_ge (tgt := 95) dX7_drop_41 (by decide) ⟨by omega, by omega⟩ ⟨by omega, by omega⟩ (fun h41 => ?_) (fun h41 => ?_)
      · omega
      · refine ZV_sipush dX7_drop_44 (by decide) ?_
        refine ZV_bipush dX7_drop_47 (by decide) ?_
        refine ZV_iload_n dX7_drop_49 rfl ?_
        refine ZV_imul dX7_drop_50 ?_
        refine ZV_iadd dX7_drop_51 ?_
        refine ZV_bipush dX7_drop_52 (by decide) ?_
        refine ZV_iadd dX7_drop_54 ?_
        refine ZV_istore3 dX7_drop_55 rfl (by decide) ?_
        refine ZV_aload_n dX7_drop_56 rfl ?_
        refine ZV_iload_n dX7_drop_57 rfl ?_
        refine ZV_aload_n dX7_drop_58 rfl ?_
        refine ZV_iload_n dX7_drop_59 rfl ?_
        refine ZV_iald (756 + 14 * q + 13) dX7_drop_60 (by assumption) (by first | rfl | omega) (by omega) (by omega) ?_
        rw [eo]
        refine ZV_iload_n dX7_drop_61 rfl ?_
        refine ZV_icmp_ne (tgt := 70) dX7_drop_62 (by decide) ⟨by omega, by omega⟩ ⟨by omega, by omega⟩ (fun h62 => ?_) (fun h62 => ?_)
        · refine ZV_aload_n dX7_drop_70 rfl ?_
          refine ZV_iload_n dX7_drop_71 rfl ?_
          refine ZV_iald (756 + 14 * q + 13) dX7_drop_72 (by assumption) (by first | rfl | omega) (by omega) (by omega) ?_
          rw [eo]
          refine ZV_iload_n dX7_drop_73 rfl ?_
          refine ZV_icmp_le (tgt := 85) dX7_drop_74 (by decide) ⟨by omega, by omega⟩ ⟨by omega, by omega⟩ (fun h74 => ?_) (fun h74 => ?_)
          · refine ZV_aload_n dX7_drop_85 rfl ?_
            refine ZV_iload_n dX7_drop_86 rfl ?_
            refine ZV_iald (756 + 14 * q + 13) dX7_drop_87 (by assumption) (by first | rfl | omega) (by omega) (by omega) ?_
            rw [eo]
            exact fin _ (by unfold disw; rw [if_neg (by omega), if_neg (by omega)])
          · refine ZV_aload_n dX7_drop_77 rfl ?_
            refine ZV_iload_n dX7_drop_78 rfl ?_
            refine ZV_iald (756 + 14 * q + 13) dX7_drop_79 (by assumption) (by first | rfl | omega) (by omega) (by omega) ?_
            rw [eo]
            refine ZV_iconst dX7_drop_80 ?_
            refine ZV_isub dX7_drop_81 ?_
            refine ZV_goto (tgt := 88) dX7_drop_82 (by decide) ?_
            exact fin _ (by unfold disw; rw [if_neg (by omega), if_pos (by omega)])
        · refine ZV_bipush dX7_drop_65 (by decide) ?_
          refine ZV_goto (tgt := 88) dX7_drop_67 (by decide) ?_
          exact fin _ (by unfold disw; rw [if_pos (by omega)])
  have loop1 : ∀ q : Nat, q ≤ 705 - 47 * i → ∀ (z : Int) (I' : Mm), z = 4 + 47 * (i : Int) + (q : Int) → (∀ a, a ≠ r → I' a = I a) → (∀ k, I' r k = if 4 + 47 * i ≤ k ∧ k < 4 + 47 * i + q then I r (k + 47) else I r k) → ZV X E_X7_drop 6 [some (.ref r), some (vi (i : Int)), some (vi z), none] [] b g I' J post := by
    refine loop_up (705 - 47 * i) ?_ ?_
    · intro z I' hz hI hk9
      have e0 : I' r 0 = (aN A : Int) := by rw [hk9, if_neg (by omega)]; exact r0
      refine ZV_iload_n dX7_drop_6 rfl ?_
      refine ZV_sipush dX7_drop_7 (by decide) ?_
      refine ZV_icmp_ge (tgt := 28) dX7_drop_10 (by decide) ⟨by omega, by omega⟩ ⟨by omega, by omega⟩ (fun h10 => ?_) (fun h10 => ?_)
      · refine ZV_aload_n dX7_drop_28 rfl ?_
        refine ZV_iconst dX7_drop_29 ?_
        first | refine ZV_dup2 dX7_drop_30 rfl rfl ?_ | refine ZV_dup2l dX7_drop_30 rfl ?_
        refine ZV_iald (0) dX7_drop_31 (by assumption) (by first | rfl | omega) (by omega) (by omega) ?_
        rw [e0]
        refine ZV_iconst dX7_drop_32 ?_
        refine ZV_isub dX7_drop_33 ?_
        refine ZV_iast (0) dX7_drop_34 (by assumption) (by first | rfl | omega) (by omega) (by omega) ?_
        refine ZV_iconst dX7_drop_35 ?_
        refine ZV_istore2 dX7_drop_36 rfl (by decide) ?_
        refine loop2 _ (fun a ha => (up2_row _ _ ha).trans (hI a ha)) (up2_same _ _ _ _) (fun k hk8 => ?_) 0 (by omega) _ _ _ rfl (fun a ha => (up2_row _ _ ha).trans (hI a ha)) (fun p hp => absurd hp (Nat.not_lt_zero p)) (fun _ _ => rfl)
        rw [up2_k hk8, hk9]
        by_cases e : 4 + 47 * i ≤ k ∧ k < 709
        · rw [if_pos e, if_pos ⟨e.1, by omega⟩]
        · rw [if_neg e, if_neg (by omega)]
      · omega
    · intro q hq ih z I' hz hI hk9
      have ev : I' r (4 + 47 * i + q + 47) = I r (4 + 47 * i + q + 47) := by rw [hk9, if_neg (by omega)]
      refine ZV_iload_n dX7_drop_6 rfl ?_
      refine ZV_sipush dX7_drop_7 (by decide) ?_
      refine ZV_icmp_ge (tgt := 28) dX7_drop_10 (by decide) ⟨by omega, by omega⟩ ⟨by omega, by omega⟩ (fun h10 => ?_) (fun h10 => ?_)
      · omega
      · refine ZV_aload_n dX7_drop_13 rfl ?_
        refine ZV_iload_n dX7_drop_14 rfl ?_
        refine ZV_aload_n dX7_drop_15 rfl ?_
        refine ZV_iload_n dX7_drop_16 rfl ?_
        refine ZV_bipush dX7_drop_17 (by decide) ?_
        refine ZV_iadd dX7_drop_19 ?_
        refine ZV_iald (4 + 47 * i + q + 47) dX7_drop_20 (by assumption) (by first | rfl | omega) (by omega) (by omega) ?_
        rw [ev]
        refine ZV_iast (4 + 47 * i + q) dX7_drop_21 (by assumption) (by first | rfl | omega) (by omega) (by omega) ?_
        refine ZV_jinc2 dX7_drop_22 rfl (by decide) ?_
        refine ZV_goto (tgt := 6) dX7_drop_25 (by decide) ?_
        refine ih _ _ (by omega) (fun a ha => (up2_row _ _ ha).trans (hI a ha)) (fun k => ?_)
        by_cases e : k = 4 + 47 * i + q
        · rw [e, up2_same, if_pos ⟨by omega, by omega⟩]
        · rw [up2_k e, hk9]
          by_cases e2 : 4 + 47 * i ≤ k ∧ k < 4 + 47 * i + q
          · rw [if_pos e2, if_pos ⟨e2.1, by omega⟩]
          · rw [if_neg e2, if_neg (by omega)]
  refine ZV_iload_n dX7_drop_0 rfl ?_
  refine ZV_iconst dX7_drop_1 ?_
  refine cl_X7_cell kX7_drop_67 rfl dX7_drop_2 (Nat.le_of_ble_eq_true rfl) ?_
  refine sp_X7_cell ?_
  refine ZV_istore2 dX7_drop_5 rfl (by decide) ?_
  exact loop1 0 (by omega) _ _ (by omega) (fun _ _ => rfl) (fun k => by rw [if_neg (by omega)])
theorem sp_X7_goPrint {m r : Nat} {A : ASt} (hL : ML X g m) (hr : r = m + 3 ∨ r = m + 4) (hR : MR (I r) A) (hG : GoodSt A) (h : ∀ I', (∀ q, q ≠ r → q ≠ m + 8 → q ≠ m + 9 → q ≠ m + 10 → q ≠ m + 11 → q ≠ m + 13 → I' q = I q) → MR (I' r) (aPrint A (keyOf A)) → post (.inl none) g I' J) : ZV X E_X7_goPrint 0 [some (.ref m), some (.ref r), none] [] b g I J post := by
  obtain ⟨l0, ⟨p1, p2, p3, p4, p5, p6, p7⟩, ⟨l1, l2, l3, l4, l5, l6⟩, ⟨j1, j2, j3, j4, j5, j6, j7⟩, ⟨k1, k2, k3, k4, k5, k6⟩⟩ := id hL
  have hrk : ksh X g r = some (.inr (0, 980)) := by rcases hr with e | e <;> rw [e] <;> assumption
  have h16 := hG.1.1
  obtain ⟨⟨r0, r1, r2, r3⟩, rw1, rp⟩ := id hR
  refine ZV_aload_n dX7_goPrint_0 rfl ?_
  refine ZV_aload_n dX7_goPrint_1 rfl ?_
  refine ZV_aload_n dX7_goPrint_2 rfl ?_
  refine ZV_iconst dX7_goPrint_3 ?_
  refine ZV_iald (1) dX7_goPrint_4 (by assumption) (by first | rfl | omega) (by omega) (by omega) ?_
  rw [r1]
  refine cl_X7_lay kX7_goPrint_108 rfl dX7_goPrint_5 (by assumption) (Nat.le_of_ble_eq_true rfl) ?_
  refine sp_X7_lay hL hr hR hG hG.1.2.2.1 ?_
  intro I1 hF hLd
  have rr : I1 r = I r := hF r (by omega) (by omega) (by omega) (by omega) (by omega)
  have key : ∀ q : Nat, q ≤ aN A → ∀ (z : Int) (I' : Mm), z = (q : Int) → (∀ a, a ≠ r → I' a = I1 a) → I' r 3 = (aN A : Int) → (∀ k, k < 756 → k ≠ 3 → I' r k = I1 r k) → (∀ p, p < q → KeA (I' r) (756 + 14 * p) (keyOf A p) ∧ I' r (756 + 14 * p + 13) = (p : Int)) → ZV X E_X7_goPrint 16 [some (.ref m), some (.ref r), some (vi z)] [] b g I' J post := by
    refine loop_up (aN A) ?_ ?_
    · intro z I' hz hI h3 hk hp
      have e0 : I' r 0 = (aN A : Int) := by rw [hk 0 (by decide) (by decide), rr]; exact r0
      refine ZV_iload_n dX7_goPrint_16 rfl ?_
      refine ZV_aload_n dX7_goPrint_17 rfl ?_
      refine ZV_iconst dX7_goPrint_18 ?_
      refine ZV_iald (0) dX7_goPrint_19 (by assumption) (by first | rfl | omega) (by omega) (by omega) ?_
      rw [e0]
      refine ZV_icmp_ge (tgt := 65) dX7_goPrint_20 (by decide) ⟨by omega, by omega⟩ ⟨by omega, by omega⟩ (fun h20 => ?_) (fun h20 => ?_)
      · refine ZV_vret dX7_goPrint_65 rfl ?_
        refine h I' (fun a a0 a1 a2 a3 a4 a5 => (hI a a0).trans (hF a a1 a2 a3 a4 a5)) ⟨⟨e0, ?_, ?_, h3⟩, fun j hj => ?_, hp⟩
        · rw [hk 1 (by decide) (by decide), rr]; exact r1
        · rw [hk 2 (by decide) (by decide), rr]; exact r2
        · have hj2 : j < aN A := hj
          exact (rw1 j hj2).move (p := 4 + 47 * j) (hG.2.1 j hj2).1.2 (fun k hk8 => by rw [hk _ (by omega) (by omega), rr])
      · omega
    · intro q hq ih z I' hz hI h3 hk hp
      subst hz
      have e0 : I' r 0 = (aN A : Int) := by rw [hk 0 (by decide) (by decide), rr]; exact r0
      have e8 : I' (m + 8) = I1 (m + 8) := hI _ (by omega)
      obtain ⟨v1, -⟩ := hLd q hq
      have kl := (keyOf_KWF hG hq).len
      refine ZV_iload_n dX7_goPrint_16 rfl ?_
      refine ZV_aload_n dX7_goPrint_17 rfl ?_
      refine ZV_iconst dX7_goPrint_18 ?_
      refine ZV_iald (0) dX7_goPrint_19 (by assumption) (by first | rfl | omega) (by omega) (by omega) ?_
      rw [e0]
      refine ZV_icmp_ge (tgt := 65) dX7_goPrint_20 (by decide) ⟨by omega, by omega⟩ ⟨by omega, by omega⟩ (fun h20 => ?_) (fun h20 => ?_)
      · omega
      · refine ZV_aload_n dX7_goPrint_23 rfl ?_
        refine ZV_getR fX7_goPrint_32 dX7_goPrint_24 (by assumption) rfl (by assumption) ?_
        refine ZV_bipush dX7_goPrint_27 (by decide) ?_
        refine ZV_iload_n dX7_goPrint_29 rfl ?_
        refine ZV_imul dX7_goPrint_30 ?_
        rw [show 14 * (q : Int) = ((14 * q : Nat) : Int) by omega]
        refine ZV_aload_n dX7_goPrint_31 rfl ?_
        refine ZV_sipush dX7_goPrint_32 (by decide) ?_
        refine ZV_bipush dX7_goPrint_35 (by decide) ?_
        refine ZV_iload_n dX7_goPrint_37 rfl ?_
        refine ZV_imul dX7_goPrint_38 ?_
        refine ZV_iadd dX7_goPrint_39 ?_
        rw [show 756 + 14 * (q : Int) = ((756 + 14 * q : Nat) : Int) by omega]
        refine ZV_bipush dX7_goPrint_40 (by decide) ?_
        refine cl_X7_copy kX7_goPrint_63 rfl dX7_goPrint_42 (Nat.le_of_ble_eq_true rfl) ?_
        refine sp_X7_copy (n := 13) k1 hrk (by omega) (by omega) (by omega) (by omega) (Or.inl (by omega)) ?_
        intro I2 hI2 hI2k
        refine ZV_aload_n dX7_goPrint_45 rfl ?_
        refine ZV_sipush dX7_goPrint_46 (by decide) ?_
        refine ZV_bipush dX7_goPrint_49 (by decide) ?_
        refine ZV_iload_n dX7_goPrint_51 rfl ?_
        refine ZV_imul dX7_goPrint_52 ?_
        refine ZV_iadd dX7_goPrint_53 ?_
        refine ZV_bipush dX7_goPrint_54 (by decide) ?_
        refine ZV_iadd dX7_goPrint_56 ?_
        refine ZV_iload_n dX7_goPrint_57 rfl ?_
        refine ZV_iast (756 + 14 * q + 13) dX7_goPrint_58 (by assumption) (by first | rfl | omega) (by omega) (by omega) ?_
        refine ZV_jinc2 dX7_goPrint_59 rfl (by decide) ?_
        refine ZV_goto (tgt := 16) dX7_goPrint_62 (by decide) ?_
        refine ih _ _ (by omega) (fun a ha => (up2_row _ _ ha).trans ((hI2 a ha).trans (hI a ha))) ?_ (fun k k1 k2 => ?_) (fun p hp9 => ?_)
        · rw [up2_k (by omega), hI2k, if_neg (by omega)]; exact h3
        · rw [up2_k (by omega), hI2k, if_neg (by omega)]; exact hk k k1 k2
        · by_cases e : p = q
          · rw [e]
            refine ⟨?_, up2_same _ _ _ _⟩
            have v2 : KeA (I1 (m + 8)) (14 * q) (keyOf A q) := v1
            refine v2.move fun k hk8 => ?_
            rw [up2_k (by omega), hI2k, if_pos ⟨by omega, by omega⟩, e8, show 14 * q + (756 + 14 * q + k - (756 + 14 * q)) = 14 * q + k by omega]
          · obtain ⟨y1, y2⟩ := hp p (by omega)
            have l12 := (keyOf_KWF hG (show p < aN A by omega)).len.2
            refine ⟨y1.move (p := 756 + 14 * p) fun k hk8 => ?_, ?_⟩
            · rw [up2_k (by omega), hI2k, if_neg (by omega)]
            · rw [up2_k (by omega), hI2k, if_neg (by omega)]; exact y2
  refine ZV_aload_n dX7_goPrint_8 rfl ?_
  refine ZV_iconst dX7_goPrint_9 ?_
  refine ZV_aload_n dX7_goPrint_10 rfl ?_
  refine ZV_iconst dX7_goPrint_11 ?_
  refine ZV_iald (0) dX7_goPrint_12 (by assumption) (by first | rfl | omega) (by omega) (by omega) ?_
  rw [show I1 r 0 = (aN A : Int) by rw [rr]; exact r0]
  refine ZV_iast (3) dX7_goPrint_13 (by assumption) (by first | rfl | omega) (by omega) (by omega) ?_
  refine ZV_iconst dX7_goPrint_14 ?_
  refine ZV_istore2 dX7_goPrint_15 rfl (by decide) ?_
  exact key 0 (by omega) _ _ rfl (fun a ha => up2_row _ _ ha) (up2_same _ _ _ _) (fun k k1 k2 => up2_k k2) (fun p hp => absurd hp (Nat.not_lt_zero p))
theorem sp_X7_others {m r : Nat} {B : ASt} {K : Nat → Int} {gn : Int} (hL : ML X g m) (hr : r = m + 3 ∨ r = m + 4) (hR : MR (I r) B) (hG : GoodSt B) (hgn : gn = -9 ∨ (0 ≤ gn ∧ gn ≤ 16)) (hW : ∀ i, i < aN B → KeA (I (m + 12)) (14 * oldN gn i) (K i) ∧ KWF (K i) ∧ oldN gn i < 16) (h : ∀ I', LFr I I' m → post (.inl (some (vi (chgN B K)))) g I' J) : ZV X E_X7_others 0 [some (.ref m), some (.ref r), some (vi gn), none, none, none] [] b g I J post := by
  obtain ⟨l0, ⟨p1, p2, p3, p4, p5, p6, p7⟩, ⟨l1, l2, l3, l4, l5, l6⟩, ⟨j1, j2, j3, j4, j5, j6, j7⟩, ⟨k1, k2, k3, k4, k5, k6⟩⟩ := id hL
  have hrk : ksh X g r = some (.inr (0, 980)) := by rcases hr with e | e <;> rw [e] <;> assumption
  have h16 := hG.1.1
  refine ZV_aload_n dX7_others_0 rfl ?_
  refine ZV_aload_n dX7_others_1 rfl ?_
  refine ZV_aload_n dX7_others_2 rfl ?_
  refine ZV_iconst dX7_others_3 ?_
  refine ZV_iald (1) dX7_others_4 (by assumption) (by first | rfl | omega) (by omega) (by omega) ?_
  rw [hR.1.2.1]
  refine cl_X7_lay kX7_others_108 rfl dX7_others_5 (by assumption) (Nat.le_of_ble_eq_true rfl) ?_
  refine sp_X7_lay hL hr hR hG hG.1.2.2.1 ?_
  intro I' hF hLd
  have rr : I' r = I r := hF r (by omega) (by omega) (by omega) (by omega) (by omega)
  have e12 : I' (m + 12) = I (m + 12) := hF _ (by omega) (by omega) (by omega) (by omega) (by omega)
  have r0 : I' r 0 = (aN B : Int) := by rw [rr]; exact hR.1.1
  have h := h I' hF
  have key : ∀ q : Nat, q ≤ aN B → ∀ (c z : Int) (o : Option Value), z = (q : Int) → c = zsum (fun i => if keyOf B i = K i then 0 else 1) q → ZV X E_X7_others 13 [some (.ref m), some (.ref r), some (vi gn), some (vi c), some (vi z), o] [] b g I' J post := by
    refine loop_up (aN B) ?_ ?_
    · intro c z o hz hc
      refine ZV_iload dX7_others_13 rfl ?_
      refine ZV_aload_n dX7_others_15 rfl ?_
      refine ZV_iconst dX7_others_16 ?_
      refine ZV_iald (0) dX7_others_17 (by assumption) (by first | rfl | omega) (by omega) (by omega) ?_
      rw [r0]
      refine ZV_icmp_ge (tgt := 105) dX7_others_18 (by decide) ⟨by omega, by omega⟩ ⟨by omega, by omega⟩ (fun h18 => ?_) (fun h18 => ?_)
      · refine ZV_iload_n dX7_others_105 rfl ?_
        refine ZV_iret dX7_others_106 rfl ?_
        rw [hc]; exact h
      · omega
    · intro q hq ih c z o hz hc
      subst hz
      obtain ⟨y1, y2, y3⟩ := hW q hq
      obtain ⟨v1, -⟩ := hLd q hq
      have v2 : KeA (I' (m + 8)) (14 * q) (keyOf B q) := v1
      have wq := keyOf_KWF hG hq
      have lq := wq.len
      have lk := y2.len
      rw [← e12] at y1
      have es : zsum (fun i => if keyOf B i = K i then 0 else 1) (q + 1) = c + if keyOf B q = K q then 0 else 1 := by simp only [zsum]; rw [hc]
      have c2 := zsum_01 (f := fun i => if keyOf B i = K i then 0 else 1) q (fun i _ => by by_cases e : keyOf B i = K i <;> simp [e])
      rw [← hc] at c2
      have fin : ∀ (x : Int) (o5 : Option Value), x = (if keyOf B q = K q then 0 else 1) → ZV X E_X7_others 97 [some (.ref m), some (.ref r), some (vi gn), some (vi c), some (vi (q : Int)), o5] [vi x, vi c] b g I' J post := by
        intro x o5 hx
        refine ZV_iadd dX7_others_97 ?_
        refine ZV_istore3 dX7_others_98 rfl (by decide) ?_
        refine ZV_jinc4 dX7_others_99 rfl (by decide) ?_
        refine ZV_goto (tgt := 13) dX7_others_102 (by decide) ?_
        exact ih _ _ _ (by omega) (by rw [es, hx])
      have mid : ∀ (od : Int) (o5 : Option Value), od = (oldN gn q : Int) → ZV X E_X7_others 42 [some (.ref m), some (.ref r), some (vi gn), some (vi c), some (vi (q : Int)), o5] [vi od] b g I' J post := by
        intro od o5 hod
        subst hod
        have k10 : I' (m + 8) (14 * q) = klen (keyOf B q) := v2.1
        have k11 : I' (m + 12) (14 * oldN gn q) = klen (K q) := y1.1
        refine ZV_istore5 dX7_others_42 rfl (by decide) ?_
        refine ZV_iload_n dX7_others_44 rfl ?_
        refine ZV_aload_n dX7_others_45 rfl ?_
        refine ZV_getR fX7_others_32 dX7_others_46 (by assumption) rfl (by assumption) ?_
        refine ZV_bipush dX7_others_49 (by decide) ?_
        refine ZV_iload dX7_others_51 rfl ?_
        refine ZV_imul dX7_others_53 ?_
        refine ZV_iald (14 * q) dX7_others_54 (by assumption) (by first | rfl | omega) (by omega) (by omega) ?_
        rw [k10]
        refine ZV_aload_n dX7_others_55 rfl ?_
        refine ZV_getR fX7_others_44 dX7_others_56 (by assumption) rfl (by assumption) ?_
        refine ZV_bipush dX7_others_59 (by decide) ?_
        refine ZV_iload dX7_others_61 rfl ?_
        refine ZV_imul dX7_others_63 ?_
        refine ZV_iald (14 * oldN gn q) dX7_others_64 (by assumption) (by first | rfl | omega) (by omega) (by omega) ?_
        rw [k11]
        refine ZV_icmp_ne (tgt := 96) dX7_others_65 (by decide) ⟨by omega, by omega⟩ ⟨by omega, by omega⟩ (fun h65 => ?_) (fun h65 => ?_)
        · refine ZV_iconst dX7_others_96 ?_
          exact fin _ _ (by rw [if_neg (fun e => h65 (by rw [e]))])
        · refine ZV_aload_n dX7_others_68 rfl ?_
          refine ZV_getR fX7_others_32 dX7_others_69 (by assumption) rfl (by assumption) ?_
          refine ZV_bipush dX7_others_72 (by decide) ?_
          refine ZV_iload dX7_others_74 rfl ?_
          refine ZV_imul dX7_others_76 ?_
          rw [show 14 * (q : Int) = ((14 * q : Nat) : Int) by omega]
          refine ZV_aload_n dX7_others_77 rfl ?_
          refine ZV_getR fX7_others_44 dX7_others_78 (by assumption) rfl (by assumption) ?_
          refine ZV_bipush dX7_others_81 (by decide) ?_
          refine ZV_iload dX7_others_83 rfl ?_
          refine ZV_imul dX7_others_85 ?_
          rw [show 14 * (oldN gn q : Int) = ((14 * oldN gn q : Nat) : Int) by omega]
          refine cl_X7_areLike kX7_others_97 rfl dX7_others_86 (Nat.le_of_ble_eq_true rfl) ?_
          refine sp_X7_areLike k1 k5 (by omega) (by omega) (by omega) (by omega) v2 y1 wq y2 ?_
          by_cases e : keyOf B q = K q
          · rw [if_pos e]
            refine ZV_if_eq (tgt := 96) dX7_others_89 (by decide) ⟨by omega, by omega⟩ (fun h89 => ?_) (fun h89 => ?_)
            · omega
            · refine ZV_iconst dX7_others_92 ?_
              refine ZV_goto (tgt := 97) dX7_others_93 (by decide) ?_
              exact fin _ _ (by rw [if_pos e])
          · rw [if_neg e]
            refine ZV_if_eq (tgt := 96) dX7_others_89 (by decide) ⟨by omega, by omega⟩ (fun h89 => ?_) (fun h89 => ?_)
            · refine ZV_iconst dX7_others_96 ?_
              exact fin _ _ (by rw [if_neg e])
            · omega
      refine ZV_iload dX7_others_13 rfl ?_
      refine ZV_aload_n dX7_others_15 rfl ?_
      refine ZV_iconst dX7_others_16 ?_
      refine ZV_iald (0) dX7_others_17 (by assumption) (by first | rfl | omega) (by omega) (by omega) ?_
      rw [r0]
      refine ZV_icmp_ge (tgt := 105) dX7_others_18 (by decide) ⟨by omega, by omega⟩ ⟨by omega, by omega⟩ (fun h18 => ?_) (fun h18 => ?_)
      · omega
      · refine ZV_iload_n dX7_others_21 rfl ?_
        refine ZV_bipush dX7_others_22 (by decide) ?_
        refine ZV_icmp_eq (tgt := 40) dX7_others_24 (by decide) ⟨by omega, by omega⟩ ⟨by omega, by omega⟩ (fun h24 => ?_) (fun h24 => ?_)
        · refine ZV_iload dX7_others_40 rfl ?_
          exact mid _ _ (by unfold oldN; rw [if_neg (by omega)])
        · refine ZV_iload dX7_others_27 rfl ?_
          refine ZV_iload_n dX7_others_29 rfl ?_
          refine ZV_icmp_lt (tgt := 40) dX7_others_30 (by decide) ⟨by omega, by omega⟩ ⟨by omega, by omega⟩ (fun h30 => ?_) (fun h30 => ?_)
          · refine ZV_iload dX7_others_40 rfl ?_
            exact mid _ _ (by unfold oldN; rw [if_neg (by omega)])
          · refine ZV_iload dX7_others_33 rfl ?_
            refine ZV_iconst dX7_others_35 ?_
            refine ZV_iadd dX7_others_36 ?_
            refine ZV_goto (tgt := 42) dX7_others_37 (by decide) ?_
            exact mid _ _ (by unfold oldN; rw [if_pos ⟨by omega, by omega⟩]; omega)
  refine ZV_iconst dX7_others_8 ?_
  refine ZV_istore3 dX7_others_9 rfl (by decide) ?_
  refine ZV_iconst dX7_others_10 ?_
  refine ZV_istore4 dX7_others_11 rfl (by decide) ?_
  exact key 0 (by omega) _ _ _ rfl rfl
end ZM6

