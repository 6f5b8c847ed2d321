/-! the reference: letters, keys, places, meanings -/
theorem codeAt_wf {v k : Int} (h : wfN v) (hk : 0 ≤ k) : codeAt v k = if k < nlen v then 96 + dg v k.toNat else -9 := by
  obtain ⟨h1, h2, h3⟩ := wfN_len h
  unfold codeAt dgz
  by_cases c : k < nlen v
  · have := h1.2.2.2 k.toNat (by omega)
    have e : (if 0 ≤ k ∧ k < 8 then dg v k.toNat else 0) = dg v k.toNat := if_pos ⟨hk, by omega⟩
    rw [e, if_pos c, if_neg (by omega)]
  · have e : (if 0 ≤ k ∧ k < 8 then dg v k.toNat else 0) = 0 := by
      by_cases c2 : 0 ≤ k ∧ k < 8
      · rw [if_pos c2, nmW_out h1 (by omega) (by omega)]
      · rw [if_neg c2]
    rw [e, if_neg c, if_pos rfl]
theorem kch_out {κ k : Int} (h : klen κ ≤ k) : kch κ k = -9 := by
  have s1 := ksg_rng κ
  have s2 := kdg_rng κ
  have s3 := klet_rng κ
  have e : klen κ = nlen (khd κ) + ksg κ + kdg κ + (if 0 < klet κ then 1 else 0) := rfl
  unfold kch
  by_cases c : 0 < klet κ
  · rw [if_pos c] at e
    rw [if_neg (by omega), if_neg (by omega), if_neg (by omega), if_neg (by omega)]
  · rw [if_neg c] at e
    rw [if_neg (by omega), if_neg (by omega), if_neg (by omega), if_neg (by omega)]
section ZM8
variable {X : Xt} {g : Geo} {I J : Mm} {b : Nat × Nat} {post : Out → Geo → Mm → Mm → Prop}
theorem sp_X7_letter {m : Nat} {i a k : Int} {Q : AC} (hM : MInv X g I m Q) (hi : r32 i) (ha : r32 a) (hk : r32 k) (hx1 : ¬ (0 ≤ i ∧ i < aN Q.2.1) → ∀ I', MP X g I I' m Q 1 → post (.inl (some (vi 0))) g I' J) (hx2 : (0 ≤ i ∧ i < aN Q.2.1) → ¬ (0 ≤ a ∧ a ≤ (aW Q.2.1 i.toNat).2.1 ∧ 0 ≤ k) → ∀ I', MP X g I I' m Q 2 → post (.inl (some (vi 0))) g I' J) (hx3 : (0 ≤ i ∧ i < aN Q.2.1) → (0 ≤ a ∧ a ≤ (aW Q.2.1 i.toNat).2.1 ∧ 0 ≤ k) → ∀ I', MP X g I I' m Q 0 → post (.inl (some (vi (codeAt (nmAt (aW Q.2.1 i.toNat) a) k)))) g I' J) : ZV X E_X7_letter 0 [some (.ref m), some (vi i), some (vi a), some (vi k), none] [] b g I J post := by
  have hL := hM.1
  have hG := hM.2.2.1.2
  obtain ⟨l0, ⟨p1, p2, p3, p4, p5, p6, p7⟩, ⟨l1, l2, l3, l4, l5, l6⟩, ⟨j1, j2, j3, j4, j5, j6, j7⟩, ⟨k1, k2, k3, k4, k5, k6⟩⟩ := id hL
  have h16 := hG.1.1
  have hi' := hi
  obtain ⟨a1, a2⟩ := ha
  obtain ⟨z1, z2⟩ := hk
  have bad : ∀ (w : Int), (w = 1 ∨ w = 2) → (∀ I', MP X g I I' m Q w → post (.inl (some (vi 0))) g I' J) → ZV X E_X7_letter 42 [some (.ref m), some (vi i), some (vi a), some (vi k), none] [vi w, .ref m] b g I J post := by
    intro w hw hp
    refine cl_X7_refused kX7_letter_125 rfl dX7_letter_42 (by assumption) (Nat.le_of_ble_eq_true rfl) ?_
    refine sp_X7_refused hL ⟨by omega, by omega⟩ ?_
    rw [if_pos (by omega)]
    refine ZV_if_eq (tgt := 50) dX7_letter_45 (by decide) ⟨by omega, by omega⟩ (fun h45 => ?_) (fun h45 => ?_)
    · omega
    · refine ZV_iconst dX7_letter_48 ?_
      refine ZV_iret dX7_letter_49 rfl ?_
      exact hp _ hM.mp
  refine ZV_aload_n dX7_letter_0 rfl ?_
  refine ZV_aload_n dX7_letter_1 rfl ?_
  refine ZV_iload_n dX7_letter_2 rfl ?_
  refine cl_X7_isWork kX7_letter_183 rfl dX7_letter_3 (by assumption) (Nat.le_of_ble_eq_true rfl) ?_
  refine sp_X7_isWork hM hi' ?_
  by_cases hi2 : 0 ≤ i ∧ i < aN Q.2.1
  · rw [if_pos hi2]
    obtain ⟨n, rfl⟩ : ∃ n : Nat, i = n := ⟨i.toNat, by omega⟩
    have hn : n < aN Q.2.1 := by omega
    rw [Int.toNat_natCast] at hx2 hx3
    have wW := hG.2.1 n hn
    obtain ⟨⟨n1, n2⟩, wA⟩ := id wW
    have c1 : I (m + 3) (4 + 47 * n + 1) = (aW Q.2.1 n).2.1 := (hM.2.2.1.1.2.1 n hn).1.2
    refine ZV_if_ne (tgt := 13) dX7_letter_6 (by decide) ⟨by omega, by omega⟩ (fun h6 => ?_) (fun h6 => ?_)
    · refine ZV_iload_n dX7_letter_13 rfl ?_
      refine ZV_i2l dX7_letter_14 ⟨by omega, by omega⟩ ?_
      refine ZV_lconst (z := 0) dX7_letter_15 (by decide) ?_
      refine ZV_aload_n dX7_letter_16 rfl ?_
      refine ZV_getR fX7_letter_16 dX7_letter_17 (by assumption) rfl (by assumption) ?_
      refine ZV_iload_n dX7_letter_20 rfl ?_
      refine ZV_iconst dX7_letter_21 ?_
      refine cl_X7_cell kX7_letter_67 rfl dX7_letter_22 (Nat.le_of_ble_eq_true rfl) ?_
      refine sp_X7_cell ?_
      refine ZV_iald (4 + 47 * n + 1) dX7_letter_25 (by assumption) (by first | rfl | omega) (by omega) (by omega) ?_
      rw [c1]
      refine ZV_i2l dX7_letter_26 ⟨by omega, by omega⟩ ?_
      refine cl_X7_in kX7_letter_118 rfl dX7_letter_27 (Nat.le_of_ble_eq_true rfl) ?_
      refine sp_X7_in ⟨by omega, by omega⟩ ⟨by decide, by decide⟩ ⟨by omega, by omega⟩ ?_
      by_cases hc : 0 ≤ a ∧ a ≤ (aW Q.2.1 n).2.1
      · rw [if_pos hc]
        refine ZV_if_eq (tgt := 37) dX7_letter_30 (by decide) ⟨by omega, by omega⟩ (fun h30 => ?_) (fun h30 => ?_)
        · omega
        · refine ZV_iload_n dX7_letter_33 rfl ?_
          refine ZV_if_ge (tgt := 41) dX7_letter_34 (by decide) ⟨by omega, by omega⟩ (fun h34 => ?_) (fun h34 => ?_)
          · refine ZV_iconst dX7_letter_41 ?_
            refine cl_X7_refused kX7_letter_125 rfl dX7_letter_42 (by assumption) (Nat.le_of_ble_eq_true rfl) ?_
            refine sp_X7_refused hL ⟨by decide, by decide⟩ ?_
            rw [if_neg (by decide)]
            have hM1 := hM.ref (w := 0)
            have hx := hx3 hi2 ⟨hc.1, hc.2, by omega⟩ _ hM.mp
            obtain ⟨-, rw1, rp⟩ := id hM1.2.2.1.1
            obtain ⟨⟨w1, w2⟩, w3, w4⟩ := rw1 n hn
            have fin : ∀ (p : Nat) (v : Int), p + 9 ≤ 980 → wfN v → NmA (up2 I m 0 0 (m + 3)) p v → v = nmAt (aW Q.2.1 n) a → ZV X E_X7_letter 78 [some (.ref m), some (vi (n : Int)), some (vi a), some (vi k), none] [vi (p : Int)] b g (up2 I m 0 0) J post := by
              intro p v hp hv hA he
              rw [← he, codeAt_wf hv (by omega)] at hx
              obtain ⟨u1, u2, u3⟩ := wfN_len hv
              refine ZV_istore4 dX7_letter_78 rfl (by decide) ?_
              refine ZV_iload_n dX7_letter_80 rfl ?_
              refine ZV_aload_n dX7_letter_81 rfl ?_
              refine ZV_getR fX7_letter_16 dX7_letter_82 (by assumption) rfl (by assumption) ?_
              refine ZV_iload dX7_letter_85 rfl ?_
              refine ZV_iald (p) dX7_letter_87 (by assumption) (by first | rfl | omega) (by omega) (by omega) ?_
              rw [hA.1]
              refine ZV_icmp_ge (tgt := 105) dX7_letter_88 (by decide) ⟨by omega, by omega⟩ ⟨by omega, by omega⟩ (fun h88 => ?_) (fun h88 => ?_)
              · rw [if_neg (by omega)] at hx
                refine ZV_bipush dX7_letter_105 (by decide) ?_
                refine ZV_iret dX7_letter_107 rfl ?_
                exact hx
              · rw [if_pos (by omega)] at hx
                have hq : up2 I m 0 0 (m + 3) (p + 1 + k.toNat) = 96 + dg v k.toNat := hA.2 k.toNat (by omega)
                have dr := dg_rng v k.toNat
                refine ZV_aload_n dX7_letter_91 rfl ?_
                refine ZV_getR fX7_letter_16 dX7_letter_92 (by assumption) rfl (by assumption) ?_
                refine ZV_iload dX7_letter_95 rfl ?_
                refine ZV_iconst dX7_letter_97 ?_
                refine ZV_iadd dX7_letter_98 ?_
                refine ZV_iload_n dX7_letter_99 rfl ?_
                refine ZV_iadd dX7_letter_100 ?_
                refine ZV_iald (p + 1 + k.toNat) dX7_letter_101 (by assumption) (by first | rfl | omega) (by omega) (by omega) ?_
                rw [hq]
                refine ZV_goto (tgt := 107) dX7_letter_102 (by decide) ?_
                refine ZV_iret dX7_letter_107 rfl ?_
                exact hx
            refine ZV_if_eq (tgt := 50) dX7_letter_45 (by decide) ⟨by omega, by omega⟩ (fun h45 => ?_) (fun h45 => ?_)
            · refine ZV_iload_n dX7_letter_50 rfl ?_
              refine ZV_aload_n dX7_letter_51 rfl ?_
              refine ZV_getR fX7_letter_16 dX7_letter_52 (by assumption) rfl (by assumption) ?_
              refine ZV_iload_n dX7_letter_55 rfl ?_
              refine ZV_iconst dX7_letter_56 ?_
              refine cl_X7_cell kX7_letter_67 rfl dX7_letter_57 (Nat.le_of_ble_eq_true rfl) ?_
              refine sp_X7_cell ?_
              refine ZV_iald (4 + 47 * n + 1) dX7_letter_60 (by assumption) (by first | rfl | omega) (by omega) (by omega) ?_
              rw [w2]
              refine ZV_icmp_ne (tgt := 73) dX7_letter_61 (by decide) ⟨by omega, by omega⟩ ⟨by omega, by omega⟩ (fun h61 => ?_) (fun h61 => ?_)
              · refine ZV_iload_n dX7_letter_73 rfl ?_
                refine ZV_iload_n dX7_letter_74 rfl ?_
                refine cl_X7_author kX7_letter_71 rfl dX7_letter_75 (Nat.le_of_ble_eq_true rfl) ?_
                refine sp_X7_author ?_
                have hw9 := w3 a.toNat (by omega)
                rw [show 4 + 47 * (n : Int) + (2 + 9 * a) = ((4 + 47 * n + 2 + 9 * a.toNat : Nat) : Int) by omega]
                exact fin _ _ (by omega) (wA.1 a.toNat (by omega)) hw9 (by unfold nmAt; rw [if_pos ⟨by omega, by omega, by omega⟩])
              · refine ZV_iload_n dX7_letter_64 rfl ?_
                refine ZV_bipush dX7_letter_65 (by decide) ?_
                refine cl_X7_cell kX7_letter_67 rfl dX7_letter_67 (Nat.le_of_ble_eq_true rfl) ?_
                refine sp_X7_cell ?_
                rw [show 4 + 47 * (n : Int) + 38 = ((4 + 47 * n + 38 : Nat) : Int) by omega]
                refine ZV_goto (tgt := 78) dX7_letter_70 (by decide) ?_
                exact fin _ _ (by omega) wA.2.2.2 w4 (by unfold nmAt; rw [if_neg (by omega)])
            · omega
          · refine ZV_iconst dX7_letter_37 ?_
            refine ZV_goto (tgt := 42) dX7_letter_38 (by decide) ?_
            exact bad 2 (Or.inr rfl) (hx2 hi2 (by omega))
      · rw [if_neg hc]
        refine ZV_if_eq (tgt := 37) dX7_letter_30 (by decide) ⟨by omega, by omega⟩ (fun h30 => ?_) (fun h30 => ?_)
        · refine ZV_iconst dX7_letter_37 ?_
          refine ZV_goto (tgt := 42) dX7_letter_38 (by decide) ?_
          exact bad 2 (Or.inr rfl) (hx2 hi2 (fun e => hc ⟨e.1, e.2.1⟩))
        · omega
    · omega
  · rw [if_neg hi2]
    refine ZV_if_ne (tgt := 13) dX7_letter_6 (by decide) ⟨by omega, by omega⟩ (fun h6 => ?_) (fun h6 => ?_)
    · omega
    · refine ZV_iconst dX7_letter_9 ?_
      refine ZV_goto (tgt := 42) dX7_letter_10 (by decide) ?_
      exact bad 1 (Or.inl rfl) (hx1 hi2)
theorem sp_X7_key {m : Nat} {i k : Int} {Q : AC} (hM : MInv X g I m Q) (hi : r32 i) (hk : r32 k) (hx1 : ¬ (0 ≤ i ∧ i < aN Q.2.1) → ∀ I', MP X g I I' m Q 1 → post (.inl (some (vi 0))) g I' J) (hx2 : (0 ≤ i ∧ i < aN Q.2.1) → k < 0 → ∀ I', MP X g I I' m Q 2 → post (.inl (some (vi 0))) g I' J) (hx3 : (0 ≤ i ∧ i < aN Q.2.1) → 0 ≤ k → ∀ I', MP X g I I' m Q 0 → post (.inl (some (vi (kch (keyOf Q.2.1 i.toNat) k)))) g I' J) : ZV X E_X7_key 0 [some (.ref m), some (vi i), some (vi k)] [] b g I J post := by
  have hL := hM.1
  have hG := hM.2.2.1.2
  obtain ⟨l0, ⟨p1, p2, p3, p4, p5, p6, p7⟩, ⟨l1, l2, l3, l4, l5, l6⟩, ⟨j1, j2, j3, j4, j5, j6, j7⟩, ⟨k1, k2, k3, k4, k5, k6⟩⟩ := id hL
  have h16 := hG.1.1
  have hi' := hi
  obtain ⟨z1, z2⟩ := hk
  have bad : ∀ (w : Int), (w = 1 ∨ w = 2) → (∀ I', MP X g I I' m Q w → post (.inl (some (vi 0))) g I' J) → ZV X E_X7_key 22 [some (.ref m), some (vi i), some (vi k)] [vi w, .ref m] b g I J post := by
    intro w hw hp
    refine cl_X7_refused kX7_key_125 rfl dX7_key_22 (by assumption) (Nat.le_of_ble_eq_true rfl) ?_
    refine sp_X7_refused hL ⟨by omega, by omega⟩ ?_
    rw [if_pos (by omega)]
    refine ZV_if_eq (tgt := 30) dX7_key_25 (by decide) ⟨by omega, by omega⟩ (fun h25 => ?_) (fun h25 => ?_)
    · omega
    · refine ZV_iconst dX7_key_28 ?_
      refine ZV_iret dX7_key_29 rfl ?_
      exact hp _ hM.mp
  refine ZV_aload_n dX7_key_0 rfl ?_
  refine ZV_aload_n dX7_key_1 rfl ?_
  refine ZV_iload_n dX7_key_2 rfl ?_
  refine cl_X7_isWork kX7_key_183 rfl dX7_key_3 (by assumption) (Nat.le_of_ble_eq_true rfl) ?_
  refine sp_X7_isWork hM hi' ?_
  by_cases hi2 : 0 ≤ i ∧ i < aN Q.2.1
  · rw [if_pos hi2]
    obtain ⟨n, rfl⟩ : ∃ n : Nat, i = n := ⟨i.toNat, by omega⟩
    have hn : n < aN Q.2.1 := by omega
    rw [Int.toNat_natCast] at hx3
    refine ZV_if_ne (tgt := 13) dX7_key_6 (by decide) ⟨by omega, by omega⟩ (fun h6 => ?_) (fun h6 => ?_)
    · refine ZV_iload_n dX7_key_13 rfl ?_
      refine ZV_if_ge (tgt := 21) dX7_key_14 (by decide) ⟨by omega, by omega⟩ (fun h14 => ?_) (fun h14 => ?_)
      · refine ZV_iconst dX7_key_21 ?_
        refine cl_X7_refused kX7_key_125 rfl dX7_key_22 (by assumption) (Nat.le_of_ble_eq_true rfl) ?_
        refine sp_X7_refused hL ⟨by decide, by decide⟩ ?_
        rw [if_neg (by decide)]
        refine ZV_if_eq (tgt := 30) dX7_key_25 (by decide) ⟨by omega, by omega⟩ (fun h25 => ?_) (fun h25 => ?_)
        · have hM1 := hM.ref (w := 0)
          refine ZV_aload_n dX7_key_30 rfl ?_
          refine cl_X7_layNow kX7_key_105 rfl dX7_key_31 (by assumption) (Nat.le_of_ble_eq_true rfl) ?_
          refine sp_X7_layNow hL hM1.2.2.1.1 hG ?_
          intro I1 hF hLd
          have mp : MP X g I I1 m Q 0 := hM.mp.lay hF
          have hx := hx3 hi2 (by omega) I1 mp
          obtain ⟨v1, -⟩ := hLd n hn
          have v10 : I1 (m + 8) (14 * n) = klen (keyOf Q.2.1 n) := v1.1
          have kl := (keyOf_KWF hG hn).len
          refine ZV_iload_n dX7_key_34 rfl ?_
          refine ZV_aload_n dX7_key_35 rfl ?_
          refine ZV_getR fX7_key_32 dX7_key_36 (by assumption) rfl (by assumption) ?_
          refine ZV_bipush dX7_key_39 (by decide) ?_
          refine ZV_iload_n dX7_key_41 rfl ?_
          refine ZV_imul dX7_key_42 ?_
          refine ZV_iald (14 * n) dX7_key_43 (by assumption) (by first | rfl | omega) (by omega) (by omega) ?_
          rw [v10]
          refine ZV_icmp_ge (tgt := 63) dX7_key_44 (by decide) ⟨by omega, by omega⟩ ⟨by omega, by omega⟩ (fun h44 => ?_) (fun h44 => ?_)
          · rw [kch_out (by omega)] at hx
            refine ZV_bipush dX7_key_63 (by decide) ?_
            refine ZV_iret dX7_key_65 rfl ?_
            exact hx
          · have hq : I1 (m + 8) (14 * n + 1 + k.toNat) = kch (keyOf Q.2.1 n) (k.toNat : Nat) := v1.2 k.toNat (by omega)
            rw [show ((k.toNat : Nat) : Int) = k by omega] at hq
            refine ZV_aload_n dX7_key_47 rfl ?_
            refine ZV_getR fX7_key_32 dX7_key_48 (by assumption) rfl (by assumption) ?_
            refine ZV_bipush dX7_key_51 (by decide) ?_
            refine ZV_iload_n dX7_key_53 rfl ?_
            refine ZV_imul dX7_key_54 ?_
            refine ZV_iconst dX7_key_55 ?_
            refine ZV_iadd dX7_key_56 ?_
            refine ZV_iload_n dX7_key_57 rfl ?_
            refine ZV_iadd dX7_key_58 ?_
            refine ZV_iald (14 * n + 1 + k.toNat) dX7_key_59 (by assumption) (by first | rfl | omega) (by omega) (by omega) ?_
            rw [hq]
            refine ZV_goto (tgt := 65) dX7_key_60 (by decide) ?_
            refine ZV_iret dX7_key_65 rfl ?_
            exact hx
        · omega
      · refine ZV_iconst dX7_key_17 ?_
        refine ZV_goto (tgt := 22) dX7_key_18 (by decide) ?_
        exact bad 2 (Or.inr rfl) (hx2 hi2 (by omega))
    · omega
  · rw [if_neg hi2]
    refine ZV_if_ne (tgt := 13) dX7_key_6 (by decide) ⟨by omega, by omega⟩ (fun h6 => ?_) (fun h6 => ?_)
    · omega
    · refine ZV_iconst dX7_key_9 ?_
      refine ZV_goto (tgt := 22) dX7_key_10 (by decide) ?_
      exact bad 1 (Or.inl rfl) (hx1 hi2)
theorem sp_X7_at {m : Nat} {k : Int} {Q : AC} (hM : MInv X g I m Q) (hk : r32 k) (hx1 : 0 ≤ k → ∀ I', MP X g I I' m Q 0 → post (.inl (some (vi (zfst (fun i => if plN Q.2.1 i = k then 1 else 0) (aN Q.2.1))))) g I' J) (hx2 : k < 0 → ∀ I', MP X g I I' m Q 1 → post (.inl (some (vi 0))) g I' J) : ZV X E_X7_at 0 [some (.ref m), some (vi k), none] [] b g I J post := by
  have hL := hM.1
  have hG := hM.2.2.1.2
  obtain ⟨l0, ⟨p1, p2, p3, p4, p5, p6, p7⟩, ⟨l1, l2, l3, l4, l5, l6⟩, ⟨j1, j2, j3, j4, j5, j6, j7⟩, ⟨k1, k2, k3, k4, k5, k6⟩⟩ := id hL
  have h16 := hG.1.1
  obtain ⟨z1, z2⟩ := hk
  refine ZV_aload_n dX7_at_0 rfl ?_
  refine ZV_iload_n dX7_at_1 rfl ?_
  refine ZV_if_ge (tgt := 9) dX7_at_2 (by decide) ⟨by omega, by omega⟩ (fun h2 => ?_) (fun h2 => ?_)
  · refine ZV_iconst dX7_at_9 ?_
    refine cl_X7_refused kX7_at_125 rfl dX7_at_10 (by assumption) (Nat.le_of_ble_eq_true rfl) ?_
    refine sp_X7_refused hL ⟨by decide, by decide⟩ ?_
    rw [if_neg (by decide)]
    refine ZV_if_eq (tgt := 18) dX7_at_13 (by decide) ⟨by omega, by omega⟩ (fun h13 => ?_) (fun h13 => ?_)
    · have hM1 := hM.ref (w := 0)
      refine ZV_aload_n dX7_at_18 rfl ?_
      refine cl_X7_layNow kX7_at_105 rfl dX7_at_19 (by assumption) (Nat.le_of_ble_eq_true rfl) ?_
      refine sp_X7_layNow hL hM1.2.2.1.1 hG ?_
      intro I1 hF hLd
      have mp : MP X g I I1 m Q 0 := hM.mp.lay hF
      have hx := hx1 (by omega) I1 mp
      have r0 := mp.2.1.2.2.1.1.1.1
      have key : ∀ q : Nat, q ≤ aN Q.2.1 → ∀ z : Int, z = (q : Int) → zfst (fun i => if plN Q.2.1 i = k then 1 else 0) q = -9 → ZV X E_X7_at 24 [some (.ref m), some (vi k), some (vi z)] [] b g I1 J post := by
        refine loop_up (aN Q.2.1) ?_ ?_
        · intro z hz hc
          rw [hc] at hx
          refine ZV_iload_n dX7_at_24 rfl ?_
          refine ZV_aload_n dX7_at_25 rfl ?_
          refine ZV_getR fX7_at_16 dX7_at_26 (by assumption) rfl (by assumption) ?_
          refine ZV_iconst dX7_at_29 ?_
          refine ZV_iald (0) dX7_at_30 (by assumption) (by first | rfl | omega) (by omega) (by omega) ?_
          rw [r0]
          refine ZV_icmp_ge (tgt := 52) dX7_at_31 (by decide) ⟨by omega, by omega⟩ ⟨by omega, by omega⟩ (fun h31 => ?_) (fun h31 => ?_)
          · refine ZV_bipush dX7_at_52 (by decide) ?_
            refine ZV_iret dX7_at_54 rfl ?_
            exact hx
          · omega
        · intro q hq ih z hz hc
          obtain ⟨v1, v2, v3, v4⟩ := hLd q hq
          have v5 : I1 (m + 11) q = plN Q.2.1 q := v4
          have pr := zsum_01 (f := fun j => bz (aO Q.2.1) (aW Q.2.1 j) (aW Q.2.1 q) j q) (aN Q.2.1) (fun j _ => bz_01 ..)
          have pe : plN Q.2.1 q = zsum (fun j => bz (aO Q.2.1) (aW Q.2.1 j) (aW Q.2.1 q) j q) (aN Q.2.1) := rfl
          refine ZV_iload_n dX7_at_24 rfl ?_
          refine ZV_aload_n dX7_at_25 rfl ?_
          refine ZV_getR fX7_at_16 dX7_at_26 (by assumption) rfl (by assumption) ?_
          refine ZV_iconst dX7_at_29 ?_
          refine ZV_iald (0) dX7_at_30 (by assumption) (by first | rfl | omega) (by omega) (by omega) ?_
          rw [r0]
          refine ZV_icmp_ge (tgt := 52) dX7_at_31 (by decide) ⟨by omega, by omega⟩ ⟨by omega, by omega⟩ (fun h31 => ?_) (fun h31 => ?_)
          · omega
          · refine ZV_aload_n dX7_at_34 rfl ?_
            refine ZV_getR fX7_at_41 dX7_at_35 (by assumption) rfl (by assumption) ?_
            refine ZV_iload_n dX7_at_38 rfl ?_
            refine ZV_iald (q) dX7_at_39 (by assumption) (by first | rfl | omega) (by omega) (by omega) ?_
            rw [v5]
            refine ZV_iload_n dX7_at_40 rfl ?_
            refine ZV_icmp_ne (tgt := 46) dX7_at_41 (by decide) ⟨by omega, by omega⟩ ⟨by omega, by omega⟩ (fun h41 => ?_) (fun h41 => ?_)
            · refine ZV_jinc2 dX7_at_46 rfl (by decide) ?_
              refine ZV_goto (tgt := 24) dX7_at_49 (by decide) ?_
              exact ih _ (by omega) (zfst_miss hc (by rw [if_neg h41]; decide))
            · rw [zfst_hit hc (if_pos h41) hq, ← hz] at hx
              refine ZV_iload_n dX7_at_44 rfl ?_
              refine ZV_iret dX7_at_45 rfl ?_
              exact hx
      refine ZV_iconst dX7_at_22 ?_
      refine ZV_istore2 dX7_at_23 rfl (by decide) ?_
      exact key 0 (by omega) _ rfl rfl
    · omega
  · refine ZV_iconst dX7_at_5 ?_
    refine ZV_goto (tgt := 10) dX7_at_6 (by decide) ?_
    refine cl_X7_refused kX7_at_125 rfl dX7_at_10 (by assumption) (Nat.le_of_ble_eq_true rfl) ?_
    refine sp_X7_refused hL ⟨by decide, by decide⟩ ?_
    rw [if_pos (by decide)]
    refine ZV_if_eq (tgt := 18) dX7_at_13 (by decide) ⟨by omega, by omega⟩ (fun h13 => ?_) (fun h13 => ?_)
    · omega
    · refine ZV_iconst dX7_at_16 ?_
      refine ZV_iret dX7_at_17 rfl ?_
      exact hx2 (by omega) _ hM.mp
theorem sp_X7_meaning {m : Nat} {Q : AC} (hM : MInv X g I m Q) (h : ∀ I', MP X g I I' m Q 0 → post (.inl (some (vi (meanF Q.1 Q.2.1)))) g I' J) : ZV X E_X7_meaning 0 [some (.ref m), none] [] b g I J post := by
  have hL := hM.1
  have hG := hM.2.2.1.2
  obtain ⟨l0, ⟨p1, p2, p3, p4, p5, p6, p7⟩, ⟨l1, l2, l3, l4, l5, l6⟩, ⟨j1, j2, j3, j4, j5, j6, j7⟩, ⟨k1, k2, k3, k4, k5, k6⟩⟩ := id hL
  have h16 := hG.1.1
  unfold meanF at h
  refine ZV_aload_n dX7_meaning_0 rfl ?_
  refine ZV_iconst dX7_meaning_1 ?_
  refine ZV_putI fX7_meaning_54 dX7_meaning_2 (by assumption) rfl ?_
  refine ZV_aload_n dX7_meaning_5 rfl ?_
  refine cl_X7_layNow kX7_meaning_105 rfl dX7_meaning_6 (by assumption) (Nat.le_of_ble_eq_true rfl) ?_
  have hM1 := hM.ref (w := 0)
  refine sp_X7_layNow hL hM1.2.2.1.1 hG ?_
  intro I1 hF hLd
  have mp : MP X g I I1 m Q 0 := hM.mp.lay hF
  have hx := h I1 mp
  have r0 := mp.2.1.2.2.1.1.1.1
  have key : ∀ q : Nat, q ≤ aN Q.2.1 → ∀ z : Int, z = (q : Int) → zfst (fun i => @ite _ (spl Q.1 (keyOf Q.2.1 i)) (Classical.propDecidable _) 1 0) q = -9 → ZV X E_X7_meaning 11 [some (.ref m), some (vi z)] [] b g I1 J post := by
    refine loop_up (aN Q.2.1) ?_ ?_
    · intro z hz hc
      rw [hc] at hx
      refine ZV_iload_n dX7_meaning_11 rfl ?_
      refine ZV_aload_n dX7_meaning_12 rfl ?_
      refine ZV_getR fX7_meaning_16 dX7_meaning_13 (by assumption) rfl (by assumption) ?_
      refine ZV_iconst dX7_meaning_16 ?_
      refine ZV_iald (0) dX7_meaning_17 (by assumption) (by first | rfl | omega) (by omega) (by omega) ?_
      rw [r0]
      refine ZV_icmp_ge (tgt := 44) dX7_meaning_18 (by decide) ⟨by omega, by omega⟩ ⟨by omega, by omega⟩ (fun h18 => ?_) (fun h18 => ?_)
      · refine ZV_bipush dX7_meaning_44 (by decide) ?_
        refine ZV_iret dX7_meaning_46 rfl ?_
        exact hx
      · omega
    · intro q hq ih z hz hc
      subst hz
      obtain ⟨v1, v2, v3, v4⟩ := hLd q hq
      refine ZV_iload_n dX7_meaning_11 rfl ?_
      refine ZV_aload_n dX7_meaning_12 rfl ?_
      refine ZV_getR fX7_meaning_16 dX7_meaning_13 (by assumption) rfl (by assumption) ?_
      refine ZV_iconst dX7_meaning_16 ?_
      refine ZV_iald (0) dX7_meaning_17 (by assumption) (by first | rfl | omega) (by omega) (by omega) ?_
      rw [r0]
      refine ZV_icmp_ge (tgt := 44) dX7_meaning_18 (by decide) ⟨by omega, by omega⟩ ⟨by omega, by omega⟩ (fun h18 => ?_) (fun h18 => ?_)
      · omega
      · refine ZV_aload_n dX7_meaning_21 rfl ?_
        refine ZV_aload_n dX7_meaning_22 rfl ?_
        refine ZV_getR fX7_meaning_32 dX7_meaning_23 (by assumption) rfl (by assumption) ?_
        refine ZV_bipush dX7_meaning_26 (by decide) ?_
        refine ZV_iload_n dX7_meaning_28 rfl ?_
        refine ZV_imul dX7_meaning_29 ?_
        rw [show 14 * (q : Int) = ((14 * q : Nat) : Int) by omega]
        refine cl_X7_isText kX7_meaning_188 rfl dX7_meaning_30 (by assumption) (Nat.le_of_ble_eq_true rfl) ?_
        refine sp_X7_isText hL k1 (by omega) (by omega) v1 (keyOf_KWF hG hq) mp.2.1.2.1 ?_
        intro r hr
        rcases hr with ⟨e, hr⟩ | ⟨e, hr⟩
        · subst e
          rw [zfst_hit hc (by rw [if_pos hr]) hq] at hx
          refine ZV_if_eq (tgt := 38) dX7_meaning_33 (by decide) ⟨by omega, by omega⟩ (fun h33 => ?_) (fun h33 => ?_)
          · omega
          · refine ZV_iload_n dX7_meaning_36 rfl ?_
            refine ZV_iret dX7_meaning_37 rfl ?_
            exact hx
        · subst e
          refine ZV_if_eq (tgt := 38) dX7_meaning_33 (by decide) ⟨by omega, by omega⟩ (fun h33 => ?_) (fun h33 => ?_)
          · refine ZV_jinc1 dX7_meaning_38 rfl (by decide) ?_
            refine ZV_goto (tgt := 11) dX7_meaning_41 (by decide) ?_
            exact ih _ (by omega) (zfst_miss hc (by rw [if_neg hr]; decide))
          · omega
  refine ZV_iconst dX7_meaning_9 ?_
  refine ZV_istore1 dX7_meaning_10 rfl (by decide) ?_
  exact key 0 (by omega) _ rfl rfl
theorem sp_X7_printedMeaning {m : Nat} {Q : AC} (hM : MInv X g I m Q) (h : ∀ I', MP X g I I' m Q 0 → post (.inl (some (vi (pmeanF Q.1 Q.2.1)))) g I' J) : ZV X E_X7_printedMeaning 0 [some (.ref m), none] [] b g I J post := by
  have hL := hM.1
  have hG := hM.2.2.1.2
  obtain ⟨l0, ⟨p1, p2, p3, p4, p5, p6, p7⟩, ⟨l1, l2, l3, l4, l5, l6⟩, ⟨j1, j2, j3, j4, j5, j6, j7⟩, ⟨k1, k2, k3, k4, k5, k6⟩⟩ := id hL
  have hp16 := hG.1.2.1
  have hM1 := hM.ref (w := 0)
  have hx := h _ hM.mp
  unfold pmeanF at hx
  have hR := hM1.2.2.1.1
  have r3 := hR.1.2.2.2
  refine ZV_aload_n dX7_printedMeaning_0 rfl ?_
  refine ZV_iconst dX7_printedMeaning_1 ?_
  refine ZV_putI fX7_printedMeaning_54 dX7_printedMeaning_2 (by assumption) rfl ?_
  refine ZV_iconst dX7_printedMeaning_5 ?_
  refine ZV_istore1 dX7_printedMeaning_6 rfl (by decide) ?_
  have key : ∀ q : Nat, q ≤ aPn Q.2.1 → ∀ z : Int, z = (q : Int) → pfst Q.1 Q.2.1 q = -9 → ZV X E_X7_printedMeaning 7 [some (.ref m), some (vi z)] [] b g (up2 I m 0 0) J post := by
    refine loop_up (aPn Q.2.1) ?_ ?_
    · intro z hz hc
      rw [if_pos hc] at hx
      refine ZV_iload_n dX7_printedMeaning_7 rfl ?_
      refine ZV_aload_n dX7_printedMeaning_8 rfl ?_
      refine ZV_getR fX7_printedMeaning_16 dX7_printedMeaning_9 (by assumption) rfl (by assumption) ?_
      refine ZV_iconst dX7_printedMeaning_12 ?_
      refine ZV_iald (3) dX7_printedMeaning_13 (by assumption) (by first | rfl | omega) (by omega) (by omega) ?_
      rw [r3]
      refine ZV_icmp_ge (tgt := 59) dX7_printedMeaning_14 (by decide) ⟨by omega, by omega⟩ ⟨by omega, by omega⟩ (fun h14 => ?_) (fun h14 => ?_)
      · refine ZV_bipush dX7_printedMeaning_59 (by decide) ?_
        refine ZV_iret dX7_printedMeaning_61 rfl ?_
        exact hx
      · omega
    · intro q hq ih z hz hc
      subst hz
      obtain ⟨v1, v2⟩ := hR.2.2 q hq
      obtain ⟨o1, o2⟩ := (hG.pr q hq).2
      refine ZV_iload_n dX7_printedMeaning_7 rfl ?_
      refine ZV_aload_n dX7_printedMeaning_8 rfl ?_
      refine ZV_getR fX7_printedMeaning_16 dX7_printedMeaning_9 (by assumption) rfl (by assumption) ?_
      refine ZV_iconst dX7_printedMeaning_12 ?_
      refine ZV_iald (3) dX7_printedMeaning_13 (by assumption) (by first | rfl | omega) (by omega) (by omega) ?_
      rw [r3]
      refine ZV_icmp_ge (tgt := 59) dX7_printedMeaning_14 (by decide) ⟨by omega, by omega⟩ ⟨by omega, by omega⟩ (fun h14 => ?_) (fun h14 => ?_)
      · omega
      · refine ZV_aload_n dX7_printedMeaning_17 rfl ?_
        refine ZV_aload_n dX7_printedMeaning_18 rfl ?_
        refine ZV_getR fX7_printedMeaning_16 dX7_printedMeaning_19 (by assumption) rfl (by assumption) ?_
        refine ZV_sipush dX7_printedMeaning_22 (by decide) ?_
        refine ZV_bipush dX7_printedMeaning_25 (by decide) ?_
        refine ZV_iload_n dX7_printedMeaning_27 rfl ?_
        refine ZV_imul dX7_printedMeaning_28 ?_
        refine ZV_iadd dX7_printedMeaning_29 ?_
        rw [show 756 + 14 * (q : Int) = ((756 + 14 * q : Nat) : Int) by omega]
        refine cl_X7_isText kX7_printedMeaning_188 rfl dX7_printedMeaning_30 (by assumption) (Nat.le_of_ble_eq_true rfl) ?_
        refine sp_X7_isText hL j3 (by omega) (by omega) v1 (hG.2.2 q hq).1 hM1.2.1 ?_
        intro r hr
        rcases hr with ⟨e, hr⟩ | ⟨e, hr⟩
        · subst e
          have eh : pfst Q.1 Q.2.1 (aPn Q.2.1) = (q : Int) := zfst_hit hc (by rw [if_pos hr]) hq
          rw [eh, if_neg (by omega), Int.toNat_natCast] at hx
          refine ZV_if_eq (tgt := 53) dX7_printedMeaning_33 (by decide) ⟨by omega, by omega⟩ (fun h33 => ?_) (fun h33 => ?_)
          · omega
          · refine ZV_aload_n dX7_printedMeaning_36 rfl ?_
            refine ZV_getR fX7_printedMeaning_16 dX7_printedMeaning_37 (by assumption) rfl (by assumption) ?_
            refine ZV_sipush dX7_printedMeaning_40 (by decide) ?_
            refine ZV_bipush dX7_printedMeaning_43 (by decide) ?_
            refine ZV_iload_n dX7_printedMeaning_45 rfl ?_
            refine ZV_imul dX7_printedMeaning_46 ?_
            refine ZV_iadd dX7_printedMeaning_47 ?_
            refine ZV_bipush dX7_printedMeaning_48 (by decide) ?_
            refine ZV_iadd dX7_printedMeaning_50 ?_
            refine ZV_iald (756 + 14 * q + 13) dX7_printedMeaning_51 (by assumption) (by first | rfl | omega) (by omega) (by omega) ?_
            rw [v2]
            refine ZV_iret dX7_printedMeaning_52 rfl ?_
            exact hx
        · subst e
          refine ZV_if_eq (tgt := 53) dX7_printedMeaning_33 (by decide) ⟨by omega, by omega⟩ (fun h33 => ?_) (fun h33 => ?_)
          · refine ZV_jinc1 dX7_printedMeaning_53 rfl (by decide) ?_
            refine ZV_goto (tgt := 7) dX7_printedMeaning_56 (by decide) ?_
            exact ih _ (by omega) (zfst_miss hc (by rw [if_neg hr]; decide))
          · omega
  exact key 0 (by omega) _ rfl rfl
theorem sp_X7_printed {m : Nat} {k : Int} {Q : AC} (hM : MInv X g I m Q) (hk : r32 k) (hx1 : (0 ≤ k ∧ k ≤ 2) → ∀ I', MP X g I I' m Q 0 → post (.inl (some (vi (prF Q.2.1 k)))) g I' J) (hx2 : ¬ (0 ≤ k ∧ k ≤ 2) → ∀ I', MP X g I I' m Q 1 → post (.inl (some (vi 0))) g I' J) : ZV X E_X7_printed 0 [some (.ref m), some (vi k)] [] b g I J post := by
  have hL := hM.1
  have hG := hM.2.2.1.2
  obtain ⟨l0, ⟨p1, p2, p3, p4, p5, p6, p7⟩, ⟨l1, l2, l3, l4, l5, l6⟩, ⟨j1, j2, j3, j4, j5, j6, j7⟩, ⟨k1, k2, k3, k4, k5, k6⟩⟩ := id hL
  obtain ⟨z1, z2⟩ := hk
  refine ZV_aload_n dX7_printed_0 rfl ?_
  refine ZV_iload_n dX7_printed_1 rfl ?_
  refine ZV_i2l dX7_printed_2 ⟨by omega, by omega⟩ ?_
  refine ZV_lconst (z := 0) dX7_printed_3 (by decide) ?_
  refine ZV_ldc2 (z := 2) dX7_printed_4 lX7_printed_148 ?_
  refine cl_X7_in kX7_printed_118 rfl dX7_printed_7 (Nat.le_of_ble_eq_true rfl) ?_
  refine sp_X7_in ⟨by omega, by omega⟩ ⟨by decide, by decide⟩ ⟨by decide, by decide⟩ ?_
  by_cases hc : 0 ≤ k ∧ k ≤ 2
  · rw [if_pos hc]
    refine ZV_if_eq (tgt := 17) dX7_printed_10 (by decide) ⟨by omega, by omega⟩ (fun h10 => ?_) (fun h10 => ?_)
    · omega
    · refine ZV_iconst dX7_printed_13 ?_
      refine ZV_goto (tgt := 18) dX7_printed_14 (by decide) ?_
      refine cl_X7_refused kX7_printed_125 rfl dX7_printed_18 (by assumption) (Nat.le_of_ble_eq_true rfl) ?_
      refine sp_X7_refused hL ⟨by decide, by decide⟩ ?_
      rw [if_neg (by decide)]
      refine ZV_if_eq (tgt := 28) dX7_printed_21 (by decide) ⟨by omega, by omega⟩ (fun h21 => ?_) (fun h21 => ?_)
      · have hM1 := hM.ref (w := 0)
        refine ZV_aload_n dX7_printed_28 rfl ?_
        refine ZV_aload_n dX7_printed_29 rfl ?_
        refine ZV_getR fX7_printed_16 dX7_printed_30 (by assumption) rfl (by assumption) ?_
        refine ZV_iload_n dX7_printed_33 rfl ?_
        refine cl_X7_printedOf kX7_printed_192 rfl dX7_printed_34 (by assumption) (Nat.le_of_ble_eq_true rfl) ?_
        refine sp_X7_printedOf hL (Or.inl rfl) hM1.2.2.1.1 hG hc ?_
        intro I1 hF hLd
        have mp : MP X g I I1 m Q 0 := hM.mp.lay hF
        have hx := hx1 hc I1 mp
        rw [knd_prF hG hc]
        refine ZV_iret dX7_printed_37 rfl ?_
        exact hx
      · omega
  · rw [if_neg hc]
    refine ZV_if_eq (tgt := 17) dX7_printed_10 (by decide) ⟨by omega, by omega⟩ (fun h10 => ?_) (fun h10 => ?_)
    · refine ZV_iconst dX7_printed_17 ?_
      refine cl_X7_refused kX7_printed_125 rfl dX7_printed_18 (by assumption) (Nat.le_of_ble_eq_true rfl) ?_
      refine sp_X7_refused hL ⟨by decide, by decide⟩ ?_
      rw [if_pos (by decide)]
      refine ZV_if_eq (tgt := 28) dX7_printed_21 (by decide) ⟨by omega, by omega⟩ (fun h21 => ?_) (fun h21 => ?_)
      · omega
      · refine ZV_iconst dX7_printed_24 ?_
        refine ZV_goto (tgt := 37) dX7_printed_25 (by decide) ?_
        refine ZV_iret dX7_printed_37 rfl ?_
        exact hx2 hc _ hM.mp
    · omega
end ZM8

