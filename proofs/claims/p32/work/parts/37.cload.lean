/-! CitationKeys: load, save, restore -/
def aList (A : ASt) (ws : Nat → AWk) : Nat → ASt
  | 0 => aEmpty A
  | n + 1 => aPlace (aList A ws n) (ws n)
theorem aList_n (A : ASt) (ws : Nat → AWk) : ∀ n, aN (aList A ws n) = n
  | 0 => rfl
  | n + 1 => by show aN (aList A ws n) + 1 = n + 1; rw [aList_n A ws n]
theorem CTx.fr {I I' : Mm} {c : Nat} {T : Nat × (Nat → Int)} (h : CTx I c T) (hr : ∀ q, q < c + 36 → I' q = I q) : CTx I' c T := h.rw' (fun q q1 q2 => hr q (by omega))
section ZA4
variable {X : Xt} {g : Geo} {I J : Mm} {b : Nat × Nat} {post : Out → Geo → Mm → Mm → Prop}
theorem sp_X6_needSlot {s : Int} (hs : r32 s) (hg : g.2.2 = false) (hb : 1 ≤ b.1 ∧ 6 ≤ b.2) (h : (0 ≤ s ∧ s < 2 ∧ post (.inl none) g I J) ∨ (¬ (0 ≤ s ∧ s < 2) ∧ post (.inr zIOB) g I J)) : ZV X E_X6_needSlot 0 [some (vi s)] [] b g I J post := by
  obtain ⟨s1, s2⟩ := hs
  refine ZV_iload_n dX6_needSlot_0 rfl ?_
  refine ZV_if_lt (tgt := 9) dX6_needSlot_1 (by decide) ⟨by omega, by omega⟩ (fun h1 => ?_) (fun h1 => ?_)
  · refine ZV_throwW tX6_needSlot_9 rfl dX6_needSlot_9 dX6_needSlot_12 dX6_needSlot_13 dX6_needSlot_16 dX6_needSlot_19 ⟨by decide, by decide⟩ ⟨by first | omega | (dsimp only; omega), by first | omega | (dsimp only; omega)⟩ (by assumption) ?_
    rcases h with ⟨q1, q2, h⟩ | ⟨q1, h⟩
    · omega
    · exact h
  · refine ZV_iload_n dX6_needSlot_4 rfl ?_
    refine ZV_iconst dX6_needSlot_5 ?_
    refine ZV_icmp_lt (tgt := 20) dX6_needSlot_6 (by decide) ⟨by omega, by omega⟩ ⟨by omega, by omega⟩ (fun h6 => ?_) (fun h6 => ?_)
    · refine ZV_vret dX6_needSlot_20 rfl ?_
      rcases h with ⟨q1, q2, h⟩ | ⟨q1, h⟩
      · exact h
      · omega
    · refine ZV_throwW tX6_needSlot_9 rfl dX6_needSlot_9 dX6_needSlot_12 dX6_needSlot_13 dX6_needSlot_16 dX6_needSlot_19 ⟨by decide, by decide⟩ ⟨by first | omega | (dsimp only; omega), by first | omega | (dsimp only; omega)⟩ (by assumption) ?_
      rcases h with ⟨q1, q2, h⟩ | ⟨q1, h⟩
      · omega
      · exact h
theorem sp_X6_save {c : Nat} {s : Int} {Q : AC} (hC : CInv X g I J c Q) (hs : r32 s) (hb : 1 ≤ b.1 ∧ 6 ≤ b.2) (hx1 : ¬ (0 ≤ s ∧ s < 2) → post (.inr zIOB) g I J) (hx2 : (0 ≤ s ∧ s < 2) → ∀ I' J', CFr g g I I' J J' c → CInv X g I' J' c (Q.1, Q.2.1, Q.2.2.1, fun k => if k = s.toNat then some Q.2.1 else Q.2.2.2 k) → post (.inl (some (vi (aN Q.2.1)))) g I' J') : ZV X E_X6_save 0 [some (.ref c), some (vi s)] [] b g I J post := by
  obtain ⟨⟨l0, l1, l2, l3, l4, l5, l6, l7⟩, lT, lN, -, -, -, ⟨lS, lV⟩, lB⟩ := id hC.1
  have ln := lN.1.1
  have hg := hC.2.1
  refine ZV_iload_n dX6_save_0 rfl ?_
  refine cl_X6_needSlot kX6_save_273 rfl dX6_save_1 ⟨by first | omega | (dsimp only; omega), by first | omega | (dsimp only; omega)⟩ (Nat.le_of_ble_eq_true rfl) ?_
  refine sp_X6_needSlot hs hg ⟨by decide, by decide⟩ ?_
  by_cases hs2 : 0 ≤ s ∧ s < 2
  · refine Or.inl ⟨hs2.1, hs2.2, ?_⟩
    obtain ⟨n, rfl⟩ : ∃ n : Nat, s = n := ⟨s.toNat, by omega⟩
    have hn : n < 2 := by omega
    rw [Int.toNat_natCast] at hx2
    obtain ⟨v1, v2⟩ := lV n hn
    have v3 := v2.1.1
    obtain ⟨hL, -, hT, ⟨⟨hA, hK, hS⟩, hG⟩, hH, hV⟩ := hC
    refine ZV_aload_n dX6_save_4 rfl ?_
    refine ZV_getR fX6_save_40 dX6_save_5 (by assumption) rfl (by assumption) ?_
    refine ZV_iload_n dX6_save_8 rfl ?_
    first | refine ZV_aaldW (n) dX6_save_9 (by assumption) (by first | rfl | omega) (by omega) (by omega) (by assumption) ?_ | refine ZV_aaldS (n) dX6_save_9 (by assumption) (by first | rfl | omega) (by omega) (by omega) (by assumption) ?_
    refine ZV_aload_n dX6_save_10 rfl ?_
    refine ZV_getR fX6_save_19 dX6_save_11 (by assumption) rfl (by assumption) ?_
    refine cl_X3_copyFrom kX6_save_254 rfl dX6_save_14 (by assumption) (Nat.le_of_ble_eq_true rfl) ?_
    refine sp_X3_copyFrom v2 lN (by omega) hA hG.1 hK hS ?_
    intro I1 J1 hA1 hK1 hS1 hF1
    refine ZV_aload_n dX6_save_17 rfl ?_
    refine ZV_getR fX6_save_44 dX6_save_18 (by assumption) rfl (by assumption) ?_
    refine ZV_iload_n dX6_save_21 rfl ?_
    refine ZV_iconst dX6_save_22 ?_
    refine ZV_zast (n) dX6_save_23 (by assumption) (by first | rfl | omega) (by omega) (by omega) (by first | exact Or.inl rfl | exact Or.inr rfl | omega) ?_
    refine ZV_aload_n dX6_save_24 rfl ?_
    refine ZV_getR fX6_save_19 dX6_save_25 (by assumption) rfl (by assumption) ?_
    refine ZV_getI fX6_save_94 dX6_save_28 (by assumption) rfl ?_
    refine ZV_iret dX6_save_31 rfl ?_
    have hF2 : FrO I1 (up2 I1 (c + 725) n 1) J1 J1 (c + 725) (c + 726) := fun q hq => ⟨up2_row _ _ (by omega), rfl⟩
    have hFF : ∀ q, (q < c + 649 + 38 * n ∨ c + 649 + 38 * n + 38 ≤ q) → q ≠ c + 725 → up2 I1 (c + 725) n 1 q = I q ∧ J1 q = J q := fun q q1 q2 => ⟨(up2_row _ _ q2).trans (hF1 q (by omega)).1, (hF1 q (by omega)).2⟩
    have e1 : up2 I1 (c + 725) n 1 (c + 36) 1 = (aN Q.2.1 : Int) := by rw [(hFF (c + 36) (by omega) (by omega)).1]; exact hA.1.1
    rw [e1]
    refine hx2 hs2 _ _ ⟨rfl, fun q hq => ⟨rfl, hFF q (by omega) (by omega)⟩⟩ ⟨hL, hg, hT.fr (fun q hq => (hFF q (by omega) (by omega)).1), StF.rw' lN ⟨⟨hA, hK, hS⟩, hG⟩ rfl (fun q q1 q2 => hFF q (by omega) (by omega)), hH.rw' hL (fun _ _ _ => rfl) (fun q q1 q2 => hFF q (by omega) (by omega)), fun k hk => ?_⟩
    show ((if k = n then some Q.2.1 else Q.2.2.2 k) = none ∧ up2 I1 (c + 725) n 1 (c + 725) k = 0) ∨ ∃ A, (if k = n then some Q.2.1 else Q.2.2.2 k) = some A ∧ up2 I1 (c + 725) n 1 (c + 725) k = 1 ∧ StF g (up2 I1 (c + 725) n 1) J1 (c + 649 + 38 * k) A
    by_cases e : k = n
    · subst e
      rw [if_pos rfl]
      refine Or.inr ⟨_, rfl, up2_same _ _ _ _, StF.rw' v2 ⟨⟨hA1, hK1, hS1⟩, hG⟩ rfl (fun q q1 q2 => hF2 q (by omega))⟩
    · rw [if_neg e]
      have eb : up2 I1 (c + 725) n 1 (c + 725) k = I (c + 725) k := by rw [up2_k e, (hF1 (c + 725) (by omega)).1]
      rw [eb]
      rcases hV k hk with ⟨h1, h2⟩ | ⟨A, h1, h2, h3⟩
      · exact Or.inl ⟨h1, h2⟩
      · exact Or.inr ⟨A, h1, h2, StF.rw' (lV k hk).2 h3 rfl (fun q q1 q2 => hFF q (by omega) (by omega))⟩
  · exact Or.inr ⟨hs2, hx1 hs2⟩
theorem sp_X6_restore {c : Nat} {s : Int} {Q : AC} (hC : CInv X g I J c Q) (hs : r32 s) (hb : 2 ≤ b.1 ∧ 12 ≤ b.2) (hx1 : ¬ (0 ≤ s ∧ s < 2) → post (.inr zIOB) g I J) (hx2 : (0 ≤ s ∧ s < 2) → Q.2.2.2 s.toNat = none → post (.inr zISE) g I J) (hx3 : (0 ≤ s ∧ s < 2) → ∀ A, Q.2.2.2 s.toNat = some A → ∀ I' J', CFr g g I I' J J' c → CInv X g I' J' c (Q.1, A, (0, Q.2.2.1.2), Q.2.2.2) → post (.inl (some (vi (aN A)))) g I' J') : ZV X E_X6_restore 0 [some (.ref c), some (vi s)] [] b g I J post := by
  obtain ⟨⟨l0, l1, l2, l3, l4, l5, l6, l7⟩, lT, lN, -, -, lH, ⟨lS, lV⟩, lB⟩ := id hC.1
  have ln := lN.1.1
  have lh := lH.1.1
  have hg := hC.2.1
  refine ZV_iload_n dX6_restore_0 rfl ?_
  refine cl_X6_needSlot kX6_restore_273 rfl dX6_restore_1 ⟨by first | omega | (dsimp only; omega), by first | omega | (dsimp only; omega)⟩ (Nat.le_of_ble_eq_true rfl) ?_
  refine sp_X6_needSlot hs hg ⟨by decide, by decide⟩ ?_
  by_cases hs2 : 0 ≤ s ∧ s < 2
  · refine Or.inl ⟨hs2.1, hs2.2, ?_⟩
    obtain ⟨n, rfl⟩ : ∃ n : Nat, s = n := ⟨s.toNat, by omega⟩
    have hn : n < 2 := by omega
    rw [Int.toNat_natCast] at hx2 hx3
    obtain ⟨v1, v2⟩ := lV n hn
    obtain ⟨hL, -, hT, hN, ⟨o, o1, o2, o3, o4, o5⟩, hV⟩ := hC
    refine ZV_aload_n dX6_restore_4 rfl ?_
    refine ZV_getR fX6_restore_44 dX6_restore_5 (by assumption) rfl (by assumption) ?_
    refine ZV_iload_n dX6_restore_8 rfl ?_
    refine ZV_zald (n) dX6_restore_9 (by assumption) (by first | rfl | omega) (by omega) (by omega) ?_
    rcases hV n hn with ⟨h1, h2⟩ | ⟨A, h1, h2, ⟨⟨hA, hK, hS⟩, hG⟩⟩
    · rw [h2]
      refine ZV_if_ne (tgt := 24) dX6_restore_10 (by decide) ⟨by omega, by omega⟩ (fun h10 => ?_) (fun h10 => ?_)
      · omega
      · refine ZV_throwW tX6_restore_13 rfl dX6_restore_13 dX6_restore_16 dX6_restore_17 dX6_restore_20 dX6_restore_23 ⟨by decide, by decide⟩ ⟨by first | omega | (dsimp only; omega), by first | omega | (dsimp only; omega)⟩ (by assumption) ?_
        exact hx2 hs2 h1
    · rw [h2]
      refine ZV_if_ne (tgt := 24) dX6_restore_10 (by decide) ⟨by omega, by omega⟩ (fun h10 => ?_) (fun h10 => ?_)
      · refine ZV_aload_n dX6_restore_24 rfl ?_
        refine ZV_getR fX6_restore_19 dX6_restore_25 (by assumption) rfl (by assumption) ?_
        refine ZV_aload_n dX6_restore_28 rfl ?_
        refine ZV_getR fX6_restore_40 dX6_restore_29 (by assumption) rfl (by assumption) ?_
        refine ZV_iload_n dX6_restore_32 rfl ?_
        first | refine ZV_aaldW (n) dX6_restore_33 (by assumption) (by first | rfl | omega) (by omega) (by omega) (by assumption) ?_ | refine ZV_aaldS (n) dX6_restore_33 (by assumption) (by first | rfl | omega) (by omega) (by omega) (by assumption) ?_
        refine cl_X3_copyFrom kX6_restore_254 rfl dX6_restore_34 (by assumption) (Nat.le_of_ble_eq_true rfl) ?_
        refine sp_X3_copyFrom lN v2 (by omega) hA hG.1 hK hS ?_
        intro I1 J1 hA1 hK1 hS1 hF1
        refine ZV_aload_n dX6_restore_37 rfl ?_
        refine ZV_getR fX6_restore_36 dX6_restore_38 (by assumption) rfl (by assumption) ?_
        refine cl_X0_forget kX6_restore_91 rfl dX6_restore_41 (by assumption) (Nat.le_of_ble_eq_true rfl) ?_
        refine sp_X0_forget lH ?_
        have hFF : ∀ q, (q < c + 36 ∨ c + 36 + 38 ≤ q) → q ≠ c + 114 → up2 I1 (c + 114) 2 0 q = I q ∧ J1 q = J q := fun q q1 q2 => ⟨(up2_row _ _ q2).trans (hF1 q (by omega)).1, (hF1 q (by omega)).2⟩
        have hF2 : FrO I1 (up2 I1 (c + 114) 2 0) J1 J1 (c + 114) (c + 115) := fun q hq => ⟨up2_row _ _ (by omega), rfl⟩
        have e1 : up2 I1 (c + 114) 2 0 (c + 36) 1 = (aN A : Int) := by rw [up2_row _ _ (by omega)]; exact hA1.1.1
        refine ZV_aload_n dX6_restore_44 rfl ?_
        refine ZV_getR fX6_restore_19 dX6_restore_45 (by assumption) rfl (by assumption) ?_
        refine ZV_getI fX6_restore_94 dX6_restore_48 (by assumption) rfl ?_
        rw [e1]
        refine ZV_iret dX6_restore_51 rfl ?_
        refine hx3 hs2 A h1 _ _ ⟨rfl, fun q hq => ⟨rfl, hFF q (by omega) (by omega)⟩⟩ ⟨hL, hg, hT.fr (fun q hq => (hFF q (by omega) (by omega)).1), StF.rw' lN ⟨⟨hA1, hK1, hS1⟩, hG⟩ rfl (fun q q1 q2 => hF2 q (by omega)), ⟨o, o1, ?_, up2_same _ _ _ _, Nat.zero_le _, fun k hk => absurd hk (Nat.not_lt_zero k)⟩, hV.rw' hL (fun _ _ _ => rfl) (fun q q1 q2 => hFF q (by omega) (by omega))⟩
        rw [up2_k (by decide), (hF1 (c + 114) (by omega)).1]
        exact o2
      · omega
  · exact Or.inr ⟨hs2, hx1 hs2⟩
theorem sp_X6_load {c : Nat} {Q : AC} (hC : CInv X g I J c Q) (hb : 1 ≤ b.1 ∧ 6 ≤ b.2) (hx1 : rdv Q.1.2 Q.1.1 ≠ -9 → ∀ I' J', CFr g g I I' J J' c → CInv X g I' J' c Q → post (.inr zISE) g I' J') (hx2 : ∀ s, rdv Q.1.2 Q.1.1 = -9 → rn Q.1.2 Q.1.1 = some s → (∀ k, k < s.1 → AWF (s.2.2.2 k)) → s.1 ≤ 16 → ∀ I' J', CFr g g I I' J J' c → CInv X g I' J' c (Q.1, aList Q.2.1 s.2.2.2 s.1, (0, Q.2.2.1.2), fun _ => none) → post (.inl (some (vi (s.1 : Int)))) g I' J') : ZV X E_X6_load 0 [some (.ref c), none] [] b g I J post := by
  obtain ⟨⟨l0, l1, l2, l3, l4, l5, l6, l7⟩, lT, lN, -, -, lH, ⟨lS, lV⟩, lB⟩ := id hC.1
  obtain ⟨⟨m1, m2, m3, m4, m5⟩, m6⟩ := id lT
  have ln := lN.1.1
  have lh := lH.1.1
  have hg := hC.2.1
  have hR := rdv_rng Q.1
  have hlen := hC.2.2.1.2.1
  refine ZV_aload_n dX6_load_0 rfl ?_
  refine ZV_getR fX6_load_10 dX6_load_1 (by assumption) rfl (by assumption) ?_
  refine cl_X4_read kX6_load_68 rfl dX6_load_4 (by assumption) (Nat.le_of_ble_eq_true rfl) ?_
  refine CInv_read hC ?_
  intro I1 J1 hF1 hC1 hw
  refine ZV_bipush dX6_load_7 (by decide) ?_
  refine ZV_icmp_eq (tgt := 22) dX6_load_9 (by decide) ⟨by omega, by omega⟩ ⟨by omega, by omega⟩ (fun h9 => ?_) (fun h9 => ?_)
  · obtain ⟨s, w1, w2, w3, w4, w5⟩ := hw (by omega)
    have hs1 := w5.1
    have hAW : ∀ k, k < s.1 → AWF (s.2.2.2 k) := by
      intro k hk
      by_cases e : k = s.1 - 1
      · have := w5.2.1
        rw [w2, ← e] at this
        exact CWF_AWF this w3
      · exact w5.2.2 k (by omega)
    refine ZV_aload_n dX6_load_22 rfl ?_
    refine ZV_getR fX6_load_19 dX6_load_23 (by assumption) rfl (by assumption) ?_
    refine cl_X3_empty kX6_load_74 rfl dX6_load_26 (by assumption) (Nat.le_of_ble_eq_true rfl) ?_
    refine sp_X3_empty (A := Q.2.1) lN ?_
    intro I2 hA2 hF2
    refine ZV_iconst dX6_load_29 ?_
    refine ZV_istore1 dX6_load_30 rfl (by decide) ?_
    have key2 : ∀ (I3 J3 : Mm) (o1 : Option Value), CFr g g I I3 J J3 c → CInv X g I3 J3 c (Q.1, aList Q.2.1 s.2.2.2 s.1, (0, Q.2.2.1.2), Q.2.2.2) → ZV X E_X6_load 79 [some (.ref c), o1] [] b g I3 J3 post := by
      intro I3 J3 oo hF3 hC3
      obtain ⟨hL3, hg3, hT3, hN3, hH3, hV3⟩ := hC3
      have loop : ∀ q : Nat, q ≤ 2 → ∀ (z : Int) (I4 : Mm), z = (q : Int) → (∀ a, a ≠ c + 725 → I4 a = I3 a) → (∀ k, k < q → I4 (c + 725) k = 0) → ZV X E_X6_load 81 [some (.ref c), some (vi z)] [] b g I4 J3 post := by
        refine loop_up 2 ?_ ?_
        · intro z I4 hz hI4 h0
          have e1 : I4 (c + 36) 1 = (s.1 : Int) := by
            rw [hI4 (c + 36) (by omega)]
            have := hN3.1.1.1.1
            rw [aList_n] at this
            exact this
          refine ZV_iload_n dX6_load_81 rfl ?_
          refine ZV_iconst dX6_load_82 ?_
          refine ZV_icmp_ge (tgt := 99) dX6_load_83 (by decide) ⟨by omega, by omega⟩ ⟨by omega, by omega⟩ (fun h83 => ?_) (fun h83 => ?_)
          · refine ZV_aload_n dX6_load_99 rfl ?_
            refine ZV_getR fX6_load_19 dX6_load_100 (by assumption) rfl (by assumption) ?_
            refine ZV_getI fX6_load_94 dX6_load_103 (by assumption) rfl ?_
            rw [e1]
            refine ZV_iret dX6_load_106 rfl ?_
            exact hx2 s (by omega) w1 hAW hs1.2 _ _ ⟨rfl, fun q hq => ⟨rfl, by rw [hI4 q (by omega)]; exact (hF3.2 q hq).2.1, (hF3.2 q hq).2.2⟩⟩ ⟨hL3, hg3, hT3.fr (fun q hq => hI4 q (by omega)), hN3.rw' lN rfl (fun q q1 q2 => ⟨hI4 q (by omega), rfl⟩), hH3.rw' hL3 (fun _ _ _ => rfl) (fun q q1 q2 => ⟨hI4 q (by omega), rfl⟩), fun k hk => Or.inl ⟨rfl, h0 k hk⟩⟩
          · omega
        · intro q hq ih z I4 hz hI4 h0
          refine ZV_iload_n dX6_load_81 rfl ?_
          refine ZV_iconst dX6_load_82 ?_
          refine ZV_icmp_ge (tgt := 99) dX6_load_83 (by decide) ⟨by omega, by omega⟩ ⟨by omega, by omega⟩ (fun h83 => ?_) (fun h83 => ?_)
          · omega
          · refine ZV_aload_n dX6_load_86 rfl ?_
            refine ZV_getR fX6_load_44 dX6_load_87 (by assumption) rfl (by assumption) ?_
            refine ZV_iload_n dX6_load_90 rfl ?_
            refine ZV_iconst dX6_load_91 ?_
            refine ZV_zast (q) dX6_load_92 (by assumption) (by first | rfl | omega) (by omega) (by omega) (by first | exact Or.inl rfl | exact Or.inr rfl | omega) ?_
            refine ZV_jinc1 dX6_load_93 rfl (by decide) ?_
            refine ZV_goto (tgt := 81) dX6_load_96 (by decide) ?_
            refine ih _ _ (by omega) (fun a ha => (up2_row _ _ ha).trans (hI4 a ha)) (fun k hk => ?_)
            by_cases e : k = q
            · rw [e, up2_same]
            · rw [up2_k e]; exact h0 k (by omega)
      refine ZV_iconst dX6_load_79 ?_
      refine ZV_istore1 dX6_load_80 rfl (by decide) ?_
      exact loop 0 (by omega) _ _ rfl (fun _ _ => rfl) (fun k hk => absurd hk (Nat.not_lt_zero k))
    have key1 : ∀ q : Nat, q ≤ s.1 → ∀ (z : Int) (I3 J3 : Mm) (K : Nat → Int), z = (q : Int) → FrO I1 I3 J1 J3 (c + 36) (c + 74) → CPre X g I3 J3 c Q.1 (aList Q.2.1 s.2.2.2 q) K Q.2.2.1 Q.2.2.2 → ZV X E_X6_load 31 [some (.ref c), some (vi z)] [] b g I3 J3 post := by
      refine loop_up s.1 ?_ ?_
      · intro z I3 J3 K hz hF3 hP
        have e1 : I3 (c + 1) 3 = (s.1 : Int) := by rw [(hF3 (c + 1) (by omega)).1]; exact w4.1
        refine ZV_iload_n dX6_load_31 rfl ?_
        refine ZV_aload_n dX6_load_32 rfl ?_
        refine ZV_getR fX6_load_10 dX6_load_33 (by assumption) rfl (by assumption) ?_
        refine ZV_getI fX6_load_77 dX6_load_36 (by assumption) rfl ?_
        rw [e1]
        refine ZV_icmp_ge (tgt := 64) dX6_load_39 (by decide) ⟨by omega, by omega⟩ ⟨by omega, by omega⟩ (fun h39 => ?_) (fun h39 => ?_)
        · refine ZV_aload_n dX6_load_64 rfl ?_
          refine ZV_getR fX6_load_19 dX6_load_65 (by assumption) rfl (by assumption) ?_
          refine cl_X3_rekey kX6_load_88 rfl dX6_load_68 (by assumption) (Nat.le_of_ble_eq_true rfl) ?_
          refine hP.rekey ?_
          intro J4 hF4 hC4
          refine ZV_pop dX6_load_71 rfl ?_
          refine ZV_aload_n dX6_load_72 rfl ?_
          refine ZV_getR fX6_load_36 dX6_load_73 (by assumption) rfl (by assumption) ?_
          refine cl_X0_forget kX6_load_91 rfl dX6_load_76 (by assumption) (Nat.le_of_ble_eq_true rfl) ?_
          refine sp_X0_forget lH ?_
          obtain ⟨hL4, hg4, hT4, hN4, ⟨o, o1, o2, o3, o4, o5⟩, hV4⟩ := hC4
          have hFh : ∀ q, q ≠ c + 114 → up2 I3 (c + 114) 2 0 q = I3 q ∧ J4 q = J4 q := fun q hq => ⟨up2_row _ _ hq, rfl⟩
          refine key2 _ _ _ ((hF1.tr (hF3.cf g (by omega) (by omega))).tr ((hF4.cf g (by omega) (by omega)).tr ⟨rfl, fun q hq => ⟨rfl, hFh q (by omega)⟩⟩)) ⟨hL4, hg4, hT4.fr (fun q hq => (hFh q (by omega)).1), hN4.rw' lN rfl (fun q q1 q2 => hFh q (by omega)), ⟨o, o1, (up2_k (by decide)).trans o2, up2_same _ _ _ _, Nat.zero_le _, fun k hk => absurd hk (Nat.not_lt_zero k)⟩, hV4.rw' hL4 (fun _ _ _ => rfl) (fun q q1 q2 => hFh q (by omega))⟩
        · omega
      · intro q hq ih z I3 J3 K hz hF3 hP
        have e1 : I3 (c + 1) 3 = (s.1 : Int) := by rw [(hF3 (c + 1) (by omega)).1]; exact w4.1
        obtain ⟨m7, m8⟩ := m6 q (by omega)
        have m9 := m8.1
        obtain ⟨hA3, hG3, hK3, hr3⟩ := id hP.2.2.2.1
        have en := aList_n Q.2.1 s.2.2.2 q
        have hWk : WkAt I3 J3 (c + 1 + 3 + 2 * q) (s.2.2.2 q) := by
          obtain ⟨v1, v2, v3, v4⟩ := w4.2.2.2 q hq
          have f1 := hF3 (c + 1 + 3 + 2 * q) (by omega)
          have f2 := hF3 (c + 1 + 3 + 2 * q + 1) (by omega)
          exact ⟨fun a ha => by rw [f2.2]; exact v1 a ha, by rw [f1.1]; exact v2, by rw [f1.1]; exact v3, by rw [f1.2]; exact v4⟩
        refine ZV_iload_n dX6_load_31 rfl ?_
        refine ZV_aload_n dX6_load_32 rfl ?_
        refine ZV_getR fX6_load_10 dX6_load_33 (by assumption) rfl (by assumption) ?_
        refine ZV_getI fX6_load_77 dX6_load_36 (by assumption) rfl ?_
        rw [e1]
        refine ZV_icmp_ge (tgt := 64) dX6_load_39 (by decide) ⟨by omega, by omega⟩ ⟨by omega, by omega⟩ (fun h39 => ?_) (fun h39 => ?_)
        · omega
        · refine ZV_aload_n dX6_load_42 rfl ?_
          refine ZV_getR fX6_load_19 dX6_load_43 (by assumption) rfl (by assumption) ?_
          refine ZV_aload_n dX6_load_46 rfl ?_
          refine ZV_getR fX6_load_10 dX6_load_47 (by assumption) rfl (by assumption) ?_
          refine ZV_getR fX6_load_80 dX6_load_50 (by assumption) rfl (by assumption) ?_
          refine ZV_iload_n dX6_load_53 rfl ?_
          first | refine ZV_aaldW (q) dX6_load_54 (by assumption) (by first | rfl | omega) (by omega) (by omega) (by assumption) ?_ | refine ZV_aaldS (q) dX6_load_54 (by assumption) (by first | rfl | omega) (by omega) (by omega) (by assumption) ?_
          refine cl_X3_place kX6_load_84 rfl dX6_load_55 (by assumption) (Nat.le_of_ble_eq_true rfl) ?_
          refine sp_X3_place lN m8 (by omega) hA3 hG3.1 hK3 hWk (by omega) ?_
          intro I5 J5 hA5 hK5 hF5
          refine ZV_jinc1 dX6_load_58 rfl (by decide) ?_
          refine ZV_goto (tgt := 31) dX6_load_61 (by decide) ?_
          refine ih _ _ _ (fun i => if i = aN (aList Q.2.1 s.2.2.2 q) then 0 else K i) (by omega) (hF3.tr (hF5.mono (by omega) (by omega))) (hP.now (GeoFr.rf g _) lN (hF5.mono (by omega) (by omega)) hA5 (hG3.place (hAW q hq) (by omega)) hK5 (fun i hi => ?_))
          have hi2 : i < aN (aList Q.2.1 s.2.2.2 q) + 1 := hi
          show r64 (if i = aN (aList Q.2.1 s.2.2.2 q) then 0 else K i)
          split
          · exact ⟨by decide, by decide⟩
          · exact hr3 i (by omega)
    refine key1 0 (by omega) _ _ _ (keyOf Q.2.1) rfl (hF2.mono (by omega) (by omega)) (hC1.pre.now (GeoFr.rf g _) lN (hF2.mono (by omega) (by omega)) hA2 hC.2.2.2.1.2.emp (fun i hi => absurd hi (Nat.not_lt_zero i)) (fun i hi => absurd hi (Nat.not_lt_zero i)))
  · refine ZV_throw tX6_load_12 rfl dX6_load_12 dX6_load_15 dX6_load_16 dX6_load_18 dX6_load_21 ⟨by decide, by decide⟩ ⟨by first | omega | (dsimp only; omega), by first | omega | (dsimp only; omega)⟩ (by assumption) ?_
    exact hx1 h9 _ _ hF1 hC1
end ZA4

