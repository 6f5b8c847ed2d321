section ZTx1
variable {X : Xt} {b : Nat × Nat} {g : Geo} {I J : Mm} {post : Out → Geo → Mm → Mm → Prop}
theorem sp_X4_takesYear {T w : Nat} {tk c : Int} {W : AWk} (hk : ksh X g T = some (.inl 2)) (hw : WG X g w) (hd : w ≠ T ∧ w + 1 ≠ T) (e4 : I T 4 = 1) (e5 : I T 5 = tk) (ht : 0 ≤ tk ∧ tk ≤ 4) (hW : WkAt I J w W) (hC : CIn 1 tk W) (hc : 0 ≤ c ∧ c < 256) (h : ∀ r I' J', TF2 I I' J J' T w → RA T w (tY tk W c) r I' J' → post (.inl (some (vi r))) g I' J') : ZV X E_X4_takesYear 0 [some (.ref T), some (.ref w), some (vi c), none] [] b g I J post := by
  have hw' := hw
  obtain ⟨k1, k2, k3⟩ := hw
  obtain ⟨w1, w2, w3, w4⟩ := hW
  obtain ⟨⟨c1, c2, c3, c4⟩, c5, -, -, c6⟩ := hC
  unfold tY at h
  have fin : ∀ v : Int, ((v = 1 ∧ ((tk = 0 ∧ (c = 49 ∨ c = 50)) ∨ (tk ≠ 0 ∧ 48 ≤ c ∧ c ≤ 57))) ∨ (v = 0 ∧ ¬ ((tk = 0 ∧ (c = 49 ∨ c = 50)) ∨ (tk ≠ 0 ∧ 48 ≤ c ∧ c ≤ 57)))) → tk ≠ 4 → ZV X E_X4_takesYear 69 [some (.ref T), some (.ref w), some (vi c), none] [vi v] b g I J post := by
    intro v hv h44
    rw [if_neg h44] at h
    rcases hv with ⟨rfl, hv⟩ | ⟨rfl, hv⟩
    · rw [if_pos hv] at h
      refine ZV_istore3 dX4_takesYear_69 rfl (by decide) ?_
      refine ZV_iload_n dX4_takesYear_70 rfl ?_
      refine ZV_if_eq (tgt := 100) dX4_takesYear_71 (by decide) ⟨by omega, by omega⟩ (fun h71 => ?_) (fun h71 => ?_)
      · omega
      · refine ZV_aload_n dX4_takesYear_74 rfl ?_
        refine ZV_aload_n dX4_takesYear_75 rfl ?_
        refine ZV_getI fX4_takesYear_88 dX4_takesYear_76 (by assumption) rfl ?_
        rw [w3]
        refine ZV_bipush dX4_takesYear_79 (by decide) ?_
        refine ZV_imul dX4_takesYear_81 ?_
        refine ZV_iload_n dX4_takesYear_82 rfl ?_
        refine ZV_iadd dX4_takesYear_83 ?_
        refine ZV_bipush dX4_takesYear_84 (by decide) ?_
        refine ZV_isub dX4_takesYear_86 ?_
        refine ZV_putI fX4_takesYear_88 dX4_takesYear_87 (by assumption) rfl ?_
        refine ZV_aload_n dX4_takesYear_90 rfl ?_
        refine ZV_dup dX4_takesYear_91 rfl ?_
        refine ZV_getI fX4_takesYear_49 dX4_takesYear_92 (by assumption) rfl ?_
        rw [up2_a (fun e => hd.1 e.symm), e5]
        refine ZV_iconst dX4_takesYear_95 ?_
        refine ZV_iadd dX4_takesYear_96 ?_
        refine ZV_putI fX4_takesYear_49 dX4_takesYear_97 (by assumption) rfl ?_
        refine ZV_iload_n dX4_takesYear_100 rfl ?_
        refine ZV_zret dX4_takesYear_101 rfl (by first | exact Or.inl rfl | exact Or.inr rfl | assumption | omega) ?_
        refine h _ _ _ ⟨fun q hq => ⟨by rw [up2_row _ _ hq.1, up2_row _ _ hq.2.1], rfl⟩, ?_, ?_⟩ (Or.inl ⟨_, _, _, rfl, rfl, ?_, by rw [up2_same], w1, ?_, ?_, ?_⟩)
        · rw [up2_k (by decide), up2_a (fun e => hd.1 e.symm)]
        · rw [up2_k (by decide), up2_a (fun e => hd.1 e.symm)]
        · rw [up2_k (by decide), up2_a (fun e => hd.1 e.symm)]; exact e4
        · rw [up2_a hd.1, up2_k (by decide)]; exact w2
        · rw [up2_a hd.1, up2_same]
        · exact w4
    · rw [if_neg hv] at h
      refine ZV_istore3 dX4_takesYear_69 rfl (by decide) ?_
      refine ZV_iload_n dX4_takesYear_70 rfl ?_
      refine ZV_if_eq (tgt := 100) dX4_takesYear_71 (by decide) ⟨by omega, by omega⟩ (fun h71 => ?_) (fun h71 => ?_)
      · refine ZV_iload_n dX4_takesYear_100 rfl ?_
        refine ZV_zret dX4_takesYear_101 rfl (by first | exact Or.inl rfl | exact Or.inr rfl | assumption | omega) ?_
        exact h _ _ _ ⟨fun _ _ => ⟨rfl, rfl⟩, rfl, rfl⟩ (Or.inr ⟨rfl, rfl⟩)
      · omega
  refine ZV_aload_n dX4_takesYear_0 rfl ?_
  refine ZV_getI fX4_takesYear_49 dX4_takesYear_1 (by assumption) rfl ?_
  rw [e5]
  refine ZV_iconst dX4_takesYear_4 ?_
  refine ZV_icmp_ne (tgt := 25) dX4_takesYear_5 (by decide) ⟨by omega, by omega⟩ ⟨by omega, by omega⟩ (fun h5 => ?_) (fun h5 => ?_)
  · refine ZV_aload_n dX4_takesYear_25 rfl ?_
    refine ZV_getI fX4_takesYear_49 dX4_takesYear_26 (by assumption) rfl ?_
    rw [e5]
    refine ZV_if_ne (tgt := 52) dX4_takesYear_29 (by decide) ⟨by omega, by omega⟩ (fun h29 => ?_) (fun h29 => ?_)
    · refine ZV_iload_n dX4_takesYear_52 rfl ?_
      refine ZV_bipush dX4_takesYear_53 (by decide) ?_
      refine ZV_icmp_lt (tgt := 68) dX4_takesYear_55 (by decide) ⟨by omega, by omega⟩ ⟨by omega, by omega⟩ (fun h55 => ?_) (fun h55 => ?_)
      · refine ZV_iconst dX4_takesYear_68 ?_
        exact fin _ (by omega) (by omega)
      · refine ZV_iload_n dX4_takesYear_58 rfl ?_
        refine ZV_bipush dX4_takesYear_59 (by decide) ?_
        refine ZV_icmp_gt (tgt := 68) dX4_takesYear_61 (by decide) ⟨by omega, by omega⟩ ⟨by omega, by omega⟩ (fun h61 => ?_) (fun h61 => ?_)
        · refine ZV_iconst dX4_takesYear_68 ?_
          exact fin _ (by omega) (by omega)
        · refine ZV_iconst dX4_takesYear_64 ?_
          refine ZV_goto (tgt := 69) dX4_takesYear_65 (by decide) ?_
          exact fin _ (by omega) (by omega)
    · refine ZV_iload_n dX4_takesYear_32 rfl ?_
      refine ZV_bipush dX4_takesYear_33 (by decide) ?_
      refine ZV_icmp_eq (tgt := 44) dX4_takesYear_35 (by decide) ⟨by omega, by omega⟩ ⟨by omega, by omega⟩ (fun h35 => ?_) (fun h35 => ?_)
      · refine ZV_iconst dX4_takesYear_44 ?_
        refine ZV_goto (tgt := 69) dX4_takesYear_45 (by decide) ?_
        exact fin _ (by omega) (by omega)
      · refine ZV_iload_n dX4_takesYear_38 rfl ?_
        refine ZV_bipush dX4_takesYear_39 (by decide) ?_
        refine ZV_icmp_ne (tgt := 48) dX4_takesYear_41 (by decide) ⟨by omega, by omega⟩ ⟨by omega, by omega⟩ (fun h41 => ?_) (fun h41 => ?_)
        · refine ZV_iconst dX4_takesYear_48 ?_
          refine ZV_goto (tgt := 69) dX4_takesYear_49 (by decide) ?_
          exact fin _ (by omega) (by omega)
        · refine ZV_iconst dX4_takesYear_44 ?_
          refine ZV_goto (tgt := 69) dX4_takesYear_45 (by decide) ?_
          exact fin _ (by omega) (by omega)
  · refine ZV_aload_n dX4_takesYear_8 rfl ?_
    refine ZV_iconst dX4_takesYear_9 ?_
    refine cl_X4_begin kX4_takesYear_58 rfl dX4_takesYear_10 (by assumption) (Nat.le_of_ble_eq_true rfl) ?_
    rw [if_pos h5] at h
    refine sp_X4_begin hk ?_
    have fr : TF2 I (up2 (up2 I T 4 2) T 5 0) J J T w := ⟨fun q hq => ⟨by rw [up2_row _ _ hq.1, up2_row _ _ hq.1], rfl⟩, by rw [up2_k (by decide), up2_k (by decide)], by rw [up2_k (by decide), up2_k (by decide)]⟩
    refine ZV_iload_n dX4_takesYear_13 rfl ?_
    refine ZV_bipush dX4_takesYear_14 (by decide) ?_
    refine ZV_icmp_ne (tgt := 23) dX4_takesYear_16 (by decide) ⟨by omega, by omega⟩ ⟨by omega, by omega⟩ (fun h16 => ?_) (fun h16 => ?_)
    · rw [if_neg (by omega)] at h
      refine ZV_iconst dX4_takesYear_23 ?_
      refine ZV_zret dX4_takesYear_24 rfl (by first | exact Or.inl rfl | exact Or.inr rfl | assumption | omega) ?_
      exact h _ _ _ fr (Or.inr ⟨rfl, rfl⟩)
    · rw [if_pos (by omega)] at h
      refine ZV_iconst dX4_takesYear_19 ?_
      refine ZV_goto (tgt := 24) dX4_takesYear_20 (by decide) ?_
      refine ZV_zret dX4_takesYear_24 rfl (by first | exact Or.inl rfl | exact Or.inr rfl | assumption | omega) ?_
      refine h _ _ _ fr (Or.inl ⟨_, _, _, rfl, rfl, by rw [up2_k (by decide), up2_same], by rw [up2_same], w1, ?_, ?_, w4⟩)
      · rw [up2_a hd.1, up2_a hd.1]; exact w2
      · rw [up2_a hd.1, up2_a hd.1]; exact w3
end ZTx1

