section ZTx0
variable {X : Xt} {b : Nat × Nat} {g : Geo} {I J : Mm} {post : Out → Geo → Mm → Mm → Prop}
theorem sp_X4_takesAuthors {T w : Nat} {tk c : Int} {W : AWk} (hk : ksh X g T = some (.inl 2)) (hw : WG X g w) (hd : w ≠ T ∧ w + 1 ≠ T) (h4 : I T 4 = 0) (h5 : I T 5 = tk) (ht : 0 ≤ tk ∧ tk ≤ 8) (hW : WkAt I J w W) (hC : CIn 0 tk W) (hc : 0 ≤ c ∧ c < 256) (h : ∀ r I' J', TF2 I I' J J' T w → RA T w (tA tk W c) r I' J' → post (.inl (some (vi r))) g I' J') : ZV X E_X4_takesAuthors 0 [some (.ref T), some (.ref w), some (vi c), none] [] b g I J post := by
  have hw' := hw
  obtain ⟨k1, k2, k3⟩ := hw
  obtain ⟨w1, w2, w3, w4⟩ := hW
  obtain ⟨⟨c1, c2, c3, c4⟩, c5, c6, -⟩ := hC
  have hn : ∃ n : Nat, W.2.1 - 1 = (n : Int) ∧ n < 4 := ⟨(W.2.1 - 1).toNat, by omega, by omega⟩
  obtain ⟨n, hn1, hn2⟩ := hn
  have hnT : (W.2.1 - 1).toNat = n := by omega
  have hau := c1 n hn2
  unfold nmOK at hau
  rw [hnT] at c6
  unfold tA at h
  rw [hnT] at h
  have tail : ∀ o, ¬ (97 ≤ c ∧ c ≤ 122) → ZV X E_X4_takesAuthors 53 [some (.ref T), some (.ref w), some (vi c), o] [] b g I J post := by
    intro o hnl
    rw [if_neg hnl] at h
    have tail2 : (¬ (c = 44 ∧ 0 < tk ∧ W.2.1 < 4)) → ZV X E_X4_takesAuthors 91 [some (.ref T), some (.ref w), some (vi c), o] [] b g I J post := by
      intro hnc
      rw [if_neg hnc] at h
      have tail3 : ¬ (c = 58 ∧ 0 < tk) → ZV X E_X4_takesAuthors 111 [some (.ref T), some (.ref w), some (vi c), o] [] b g I J post := by
        intro hn3
        rw [if_neg hn3] at h
        refine ZV_iconst dX4_takesAuthors_111 ?_
        refine ZV_zret dX4_takesAuthors_112 rfl (by first | exact Or.inl rfl | exact Or.inr rfl | assumption | omega) ?_
        exact h _ _ _ ⟨fun _ _ => ⟨rfl, rfl⟩, rfl, rfl⟩ (Or.inr ⟨rfl, rfl⟩)
      refine ZV_iload_n dX4_takesAuthors_91 rfl ?_
      refine ZV_bipush dX4_takesAuthors_92 (by decide) ?_
      refine ZV_icmp_ne (tgt := 111) dX4_takesAuthors_94 (by decide) ⟨by omega, by omega⟩ ⟨by omega, by omega⟩ (fun h94 => ?_) (fun h94 => ?_)
      · exact tail3 (by omega)
      · refine ZV_aload_n dX4_takesAuthors_97 rfl ?_
        refine ZV_getI fX4_takesAuthors_49 dX4_takesAuthors_98 (by assumption) rfl ?_
        rw [h5]
        refine ZV_if_le (tgt := 111) dX4_takesAuthors_101 (by decide) ⟨by omega, by omega⟩ (fun h101 => ?_) (fun h101 => ?_)
        · exact tail3 (by omega)
        · rw [if_pos (by omega)] at h
          refine ZV_aload_n dX4_takesAuthors_104 rfl ?_
          refine ZV_iconst dX4_takesAuthors_105 ?_
          refine cl_X4_begin kX4_takesAuthors_58 rfl dX4_takesAuthors_106 (by assumption) (Nat.le_of_ble_eq_true rfl) ?_
          refine sp_X4_begin hk ?_
          refine ZV_iconst dX4_takesAuthors_109 ?_
          refine ZV_zret dX4_takesAuthors_110 rfl (by first | exact Or.inl rfl | exact Or.inr rfl | assumption | omega) ?_
          refine h _ _ _ ⟨fun q hq => ⟨by rw [up2_row _ _ hq.1, up2_row _ _ hq.1], rfl⟩, by rw [up2_k (by decide), up2_k (by decide)], by rw [up2_k (by decide), up2_k (by decide)]⟩ (Or.inl ⟨_, _, _, rfl, rfl, by rw [up2_k (by decide), up2_same], by rw [up2_same], w1, ?_, ?_, w4⟩)
          · rw [up2_a hd.1, up2_a hd.1]; exact w2
          · rw [up2_a hd.1, up2_a hd.1]; exact w3
    refine ZV_iload_n dX4_takesAuthors_53 rfl ?_
    refine ZV_bipush dX4_takesAuthors_54 (by decide) ?_
    refine ZV_icmp_ne (tgt := 91) dX4_takesAuthors_56 (by decide) ⟨by omega, by omega⟩ ⟨by omega, by omega⟩ (fun h56 => ?_) (fun h56 => ?_)
    · exact tail2 (by omega)
    · refine ZV_aload_n dX4_takesAuthors_59 rfl ?_
      refine ZV_getI fX4_takesAuthors_49 dX4_takesAuthors_60 (by assumption) rfl ?_
      rw [h5]
      refine ZV_if_le (tgt := 91) dX4_takesAuthors_63 (by decide) ⟨by omega, by omega⟩ (fun h63 => ?_) (fun h63 => ?_)
      · exact tail2 (by omega)
      · refine ZV_aload_n dX4_takesAuthors_66 rfl ?_
        refine ZV_getI fX4_takesAuthors_55 dX4_takesAuthors_67 (by assumption) rfl ?_
        rw [w2]
        refine ZV_iconst dX4_takesAuthors_70 ?_
        refine ZV_icmp_ge (tgt := 91) dX4_takesAuthors_71 (by decide) ⟨by omega, by omega⟩ ⟨by omega, by omega⟩ (fun h71 => ?_) (fun h71 => ?_)
        · exact tail2 (by omega)
        · rw [if_pos (by omega)] at h
          refine ZV_aload_n dX4_takesAuthors_74 rfl ?_
          refine ZV_dup dX4_takesAuthors_75 rfl ?_
          refine ZV_getI fX4_takesAuthors_55 dX4_takesAuthors_76 (by assumption) rfl ?_
          rw [w2]
          refine ZV_iconst dX4_takesAuthors_79 ?_
          refine ZV_iadd dX4_takesAuthors_80 ?_
          refine ZV_putI fX4_takesAuthors_55 dX4_takesAuthors_81 (by assumption) rfl ?_
          refine ZV_aload_n dX4_takesAuthors_84 rfl ?_
          refine ZV_iconst dX4_takesAuthors_85 ?_
          refine cl_X4_begin kX4_takesAuthors_58 rfl dX4_takesAuthors_86 (by assumption) (Nat.le_of_ble_eq_true rfl) ?_
          refine sp_X4_begin hk ?_
          refine ZV_iconst dX4_takesAuthors_89 ?_
          refine ZV_zret dX4_takesAuthors_90 rfl (by first | exact Or.inl rfl | exact Or.inr rfl | assumption | omega) ?_
          refine h _ _ _ ⟨fun q hq => ⟨by rw [up2_row _ _ hq.1, up2_row _ _ hq.1, up2_row _ _ hq.2.1], rfl⟩, ?_, ?_⟩ (Or.inl ⟨_, _, _, rfl, rfl, by rw [up2_k (by decide), up2_same], by rw [up2_same], w1, ?_, ?_, w4⟩)
          · rw [up2_k (by decide), up2_k (by decide), up2_a (fun e => hd.1 e.symm)]
          · rw [up2_k (by decide), up2_k (by decide), up2_a (fun e => hd.1 e.symm)]
          · rw [up2_a hd.1, up2_a hd.1, up2_same]
          · rw [up2_a hd.1, up2_a hd.1, up2_k (by decide)]; exact w3
  refine ZV_aload_n dX4_takesAuthors_0 rfl ?_
  refine ZV_getI fX4_takesAuthors_55 dX4_takesAuthors_1 (by assumption) rfl ?_
  rw [w2]
  refine ZV_iconst dX4_takesAuthors_4 ?_
  refine ZV_isub dX4_takesAuthors_5 ?_
  refine ZV_istore3 dX4_takesAuthors_6 rfl (by decide) ?_
  refine ZV_iload_n dX4_takesAuthors_7 rfl ?_
  refine cl_X4_isLetter kX4_takesAuthors_72 rfl dX4_takesAuthors_8 (Nat.le_of_ble_eq_true rfl) ?_
  refine sp_X4_isLetter (by omega) ?_
  by_cases hl : 97 ≤ c ∧ c ≤ 122
  · rw [if_pos hl]
    rw [if_pos hl] at h
    refine ZV_if_eq (tgt := 53) dX4_takesAuthors_11 (by decide) ⟨by omega, by omega⟩ (fun h11 => ?_) (fun h11 => ?_)
    · omega
    · refine ZV_iload_n dX4_takesAuthors_14 rfl ?_
      refine ZV_if_lt (tgt := 53) dX4_takesAuthors_15 (by decide) ⟨by omega, by omega⟩ (fun h15 => ?_) (fun h15 => ?_)
      · omega
      · refine ZV_iload_n dX4_takesAuthors_18 rfl ?_
        refine ZV_iconst dX4_takesAuthors_19 ?_
        refine ZV_icmp_ge (tgt := 53) dX4_takesAuthors_20 (by decide) ⟨by omega, by omega⟩ ⟨by omega, by omega⟩ (fun h20 => ?_) (fun h20 => ?_)
        · omega
        · refine ZV_aload_n dX4_takesAuthors_23 rfl ?_
          refine ZV_getR fX4_takesAuthors_75 dX4_takesAuthors_24 (by assumption) rfl (by assumption) ?_
          refine ZV_iload_n dX4_takesAuthors_27 rfl ?_
          refine ZV_aload_n dX4_takesAuthors_28 rfl ?_
          refine ZV_getR fX4_takesAuthors_75 dX4_takesAuthors_29 (by assumption) rfl (by assumption) ?_
          refine ZV_iload_n dX4_takesAuthors_32 rfl ?_
          refine ZV_lald (n) dX4_takesAuthors_33 (by assumption) (by first | rfl | omega) (by omega) (by omega) ?_
          rw [w1 n hn2]
          refine ZV_aload_n dX4_takesAuthors_34 rfl ?_
          refine ZV_getI fX4_takesAuthors_49 dX4_takesAuthors_35 (by assumption) rfl ?_
          rw [h5]
          refine ZV_iload_n dX4_takesAuthors_38 rfl ?_
          refine ZV_bipush dX4_takesAuthors_39 (by decide) ?_
          refine ZV_isub dX4_takesAuthors_41 ?_
          refine ZV_iconst dX4_takesAuthors_42 ?_
          refine ZV_iadd dX4_takesAuthors_43 ?_
          refine cl_X2_with kX4_takesAuthors_79 rfl dX4_takesAuthors_44 (Nat.le_of_ble_eq_true rfl) ?_
          refine sp_X2_with hau.1 ⟨by omega, by omega⟩ ⟨by omega, by omega⟩ ⟨by omega, by omega⟩ (fun q => c6 rfl q.2) ?_
          refine ZV_last (n) dX4_takesAuthors_47 (by assumption) (by first | rfl | omega) (by omega) (by omega) ?_
          refine ZV_aload_n dX4_takesAuthors_48 rfl ?_
          refine cl_X4_countLetter kX4_takesAuthors_85 rfl dX4_takesAuthors_49 (by assumption) (Nat.le_of_ble_eq_true rfl) ?_
          refine sp_X4_countLetter hk h5 ht ?_
          refine ZV_zret dX4_takesAuthors_52 rfl (by first | exact Or.inl rfl | exact Or.inr rfl | assumption | omega) ?_
          by_cases h8 : tk < 8
          · rw [if_pos (show 0 ≤ tk ∧ tk < 8 from ⟨ht.1, h8⟩), if_pos h8]
            rw [if_pos h8] at h
            refine h _ _ _ ⟨fun q hq => ⟨up2_row _ _ hq.1, up2_row _ _ hq.2.2⟩, by rw [up2_k (by decide)], by rw [up2_k (by decide)]⟩ (Or.inl ⟨_, _, _, rfl, rfl, by rw [up2_k (by decide)]; exact h4, by rw [up2_same], ?_, ?_, ?_, ?_⟩)
            · intro a ha
              show _ = up1 W.1 n (addL (W.1 n) tk c) a
              unfold up1 addL
              by_cases e : a = n
              · rw [e, up2_same, if_pos rfl, show c - 97 + 1 = c - 96 by omega]
              · rw [up2_k e, if_neg e]; exact w1 a ha
            · rw [up2_a hd.1]; exact w2
            · rw [up2_a hd.1]; exact w3
            · rw [up2_a (by omega)]; exact w4
          · rw [if_neg (show ¬ (0 ≤ tk ∧ tk < 8) by omega), if_neg h8]
            rw [if_neg h8] at h
            refine h _ _ _ ⟨fun q hq => ⟨up2_row _ _ hq.1, up2_row _ _ hq.2.2⟩, by rw [up2_k (by decide)], by rw [up2_k (by decide)]⟩ (Or.inr ⟨rfl, rfl⟩)
  · rw [if_neg hl]
    refine ZV_if_eq (tgt := 53) dX4_takesAuthors_11 (by decide) ⟨by omega, by omega⟩ (fun h11 => ?_) (fun h11 => ?_)
    · exact tail _ hl
    · omega
end ZTx0

