/-! CitationKeys$State: its methods that write, but takeOut -/
def aEmpty (A : ASt) : ASt := (0, aW A, 0, 0, 0, aPk A, aPo A)
def aPlace (A : ASt) (P : AWk) : ASt := (aN A + 1, (fun i => if i = aN A then P else aW A i), aS A, aO A, aPn A, aPk A, aPo A)
def aPrint (A : ASt) (K : Nat → Int) : ASt := (aN A, aW A, aS A, aO A, aN A, K, fun p => (p : Int))
def disw (i : Int) (z : Int) : Int := if z = i then -2 else if i < z then z - 1 else z
def stemOf (A : ASt) (i : Nat) : Int := stm (aW A i) (aS A) (aW A i).2.2.1
def letOf (A : ASt) (i : Nat) : Int := if 1 < zsum (fun j => if stemOf A j = stemOf A i then 1 else 0) (aN A) then zsum (fun j => if stemOf A j = stemOf A i then bz (aO A) (aW A j) (aW A i) j i else 0) (aN A) + 1 else 0
def keyOf (A : ASt) (i : Nat) : Int := stemOf A i + letOf A i
theorem stemOf_rng {A : ASt} (hO : StOK A) {i : Nat} (hi : i < aN A) : 0 ≤ stemOf A i ∧ stemOf A i + 32 ≤ 576460752303423488 ∧ stemOf A i % 32 = 0 := stm_rng (hO.2.2.2.2 i hi) (hO.2.2.2.2 i hi).2.2.1
theorem letOf_rng {A : ASt} (hO : StOK A) (i : Nat) : 0 ≤ letOf A i ∧ letOf A i ≤ 17 := by
  have hn := hO.1
  have c2 := zsum_01 (f := fun j => if stemOf A j = stemOf A i then bz (aO A) (aW A j) (aW A i) j i else 0) (aN A) (fun j _ => by by_cases e : stemOf A j = stemOf A i; (simp only [if_pos e]; exact bz_01 ..); simp [e])
  unfold letOf
  split <;> omega
theorem keyOf_rng {A : ASt} (hO : StOK A) {i : Nat} (hi : i < aN A) : 0 ≤ keyOf A i ∧ keyOf A i < 576460752303423488 := by
  have h1 := stemOf_rng hO hi
  have h2 := letOf_rng hO i
  unfold keyOf
  omega
section ZSw
variable {X : Xt} {b : Nat × Nat} {g : Geo} {I J : Mm} {post : Out → Geo → Mm → Mm → Prop}
theorem sp_X3_empty {t : Nat} {A : ASt} (hL : SL X g t) (h : ∀ I', StAt g I' J t (aEmpty A) → FrO I I' J J t (t + 38) → post (.inl none) g I' J) : ZV X E_X3_empty 0 [some (.ref t)] [] b g I J post := by
  obtain ⟨⟨s1, s2, s3, s4, s5, s6⟩, ⟨s7, s8, s9, s10, s11⟩, -⟩ := hL
  refine ZV_aload_n dX3_empty_0 rfl ?_
  refine ZV_iconst dX3_empty_1 ?_
  refine ZV_putI fX3_empty_32 dX3_empty_2 (by assumption) rfl ?_
  refine ZV_aload_n dX3_empty_5 rfl ?_
  refine ZV_iconst dX3_empty_6 ?_
  refine ZV_putI fX3_empty_36 dX3_empty_7 (by assumption) rfl ?_
  refine ZV_aload_n dX3_empty_10 rfl ?_
  refine ZV_iconst dX3_empty_11 ?_
  refine ZV_putI fX3_empty_39 dX3_empty_12 (by assumption) rfl ?_
  refine ZV_aload_n dX3_empty_15 rfl ?_
  refine ZV_iconst dX3_empty_16 ?_
  refine ZV_putI fX3_empty_42 dX3_empty_17 (by assumption) rfl ?_
  refine ZV_vret dX3_empty_20 rfl ?_
  refine h _ ⟨⟨?_, ?_, ?_, ?_⟩, fun i hi => absurd hi (Nat.not_lt_zero i), fun i hi => absurd hi (Nat.not_lt_zero i)⟩ (((((FrO.rf I J t (t + 38)).upI ?_ ?_).upI ?_ ?_).upI ?_ ?_).upI ?_ ?_)
  · rw [up2_k (by decide), up2_k (by decide), up2_k (by decide), up2_same]; rfl
  · rw [up2_k (by decide), up2_k (by decide), up2_same]; rfl
  · rw [up2_k (by decide), up2_same]; rfl
  · rw [up2_same]; rfl
  all_goals omega
theorem sp_X3_copyFrom {t u : Nat} {A : ASt} {K S : Nat → Int} (hL : SL X g t) (hM : SL X g u) (hd : t + 38 ≤ u ∨ u + 38 ≤ t) (hA : StAt g I J u A) (hO : StOK A) (hK : KyAt J u (aN A) K) (hS : SmAt J u (aN A) S) (h : ∀ I' J', StAt g I' J' t A → KyAt J' t (aN A) K → SmAt J' t (aN A) S → FrO I I' J J' t (t + 38) → post (.inl none) g I' J') : ZV X E_X3_copyFrom 0 [some (.ref t), some (.ref u), none] [] b g I J post := by
  have hL' := hL
  have hM' := hM
  have hA' := hA
  obtain ⟨hn, hpn, -⟩ := id hO
  obtain ⟨⟨s1, s2, s3, s4, s5, s6⟩, ⟨s7, s8, s9, s10, s11⟩, -⟩ := hL
  obtain ⟨⟨u1, u2, u3, u4, u5, u6⟩, ⟨u7, u8, u9, u10, u11⟩, -⟩ := hM
  obtain ⟨⟨a1, a2, a3, a4⟩, a5, a6⟩ := hA
  refine ZV_aload_n dX3_copyFrom_0 rfl ?_
  refine ZV_aload_n dX3_copyFrom_1 rfl ?_
  refine ZV_getI fX3_copyFrom_32 dX3_copyFrom_2 (by assumption) rfl ?_
  refine ZV_putI fX3_copyFrom_32 dX3_copyFrom_5 (by assumption) rfl ?_
  refine ZV_aload_n dX3_copyFrom_8 rfl ?_
  refine ZV_aload_n dX3_copyFrom_9 rfl ?_
  refine ZV_getI fX3_copyFrom_36 dX3_copyFrom_10 (by assumption) rfl ?_
  refine ZV_putI fX3_copyFrom_36 dX3_copyFrom_13 (by assumption) rfl ?_
  refine ZV_aload_n dX3_copyFrom_16 rfl ?_
  refine ZV_aload_n dX3_copyFrom_17 rfl ?_
  refine ZV_getI fX3_copyFrom_39 dX3_copyFrom_18 (by assumption) rfl ?_
  refine ZV_putI fX3_copyFrom_39 dX3_copyFrom_21 (by assumption) rfl ?_
  refine ZV_aload_n dX3_copyFrom_24 rfl ?_
  refine ZV_aload_n dX3_copyFrom_25 rfl ?_
  refine ZV_getI fX3_copyFrom_42 dX3_copyFrom_26 (by assumption) rfl ?_
  refine ZV_putI fX3_copyFrom_42 dX3_copyFrom_29 (by assumption) rfl ?_
  refine ZV_iconst dX3_copyFrom_32 ?_
  refine ZV_istore2 dX3_copyFrom_33 rfl (by decide) ?_
  have hI0 : ∀ q, q ≠ t → (up2 (up2 (up2 (up2 I t 1 (I u 1)) t 2 (up2 I t 1 (I u 1) u 2)) t 3 (up2 (up2 I t 1 (I u 1)) t 2 (up2 I t 1 (I u 1) u 2) u 3)) t 8 (up2 (up2 (up2 I t 1 (I u 1)) t 2 (up2 I t 1 (I u 1) u 2)) t 3 (up2 (up2 I t 1 (I u 1)) t 2 (up2 I t 1 (I u 1) u 2) u 3) u 8)) q = I q := fun q hq => by
    rw [up2_row _ _ hq, up2_row _ _ hq, up2_row _ _ hq, up2_row _ _ hq]
  have hut : u ≠ t := by omega
  have hI1 : ∃ I1 : Mm, I1 = (up2 (up2 (up2 (up2 I t 1 (I u 1)) t 2 (up2 I t 1 (I u 1) u 2)) t 3 (up2 (up2 I t 1 (I u 1)) t 2 (up2 I t 1 (I u 1) u 2) u 3)) t 8 (up2 (up2 (up2 I t 1 (I u 1)) t 2 (up2 I t 1 (I u 1) u 2)) t 3 (up2 (up2 I t 1 (I u 1)) t 2 (up2 I t 1 (I u 1) u 2) u 3) u 8)) := ⟨_, rfl⟩
  obtain ⟨I1, e1⟩ := hI1
  have f1 : I1 t 1 = (aN A : Int) := by rw [e1, up2_k (by decide), up2_k (by decide), up2_k (by decide), up2_same]; exact a1
  have f2 : I1 t 2 = aS A := by rw [e1, up2_k (by decide), up2_k (by decide), up2_same, up2_a hut]; exact a2
  have f3 : I1 t 3 = aO A := by rw [e1, up2_k (by decide), up2_same, up2_a hut, up2_a hut]; exact a3
  have f4 : I1 t 8 = (aPn A : Int) := by rw [e1, up2_same, up2_a hut, up2_a hut, up2_a hut]; exact a4
  rw [← e1] at hI0 ⊢
  have fr0 : FrO I I1 J J t (t + 38) := fun q hq => ⟨hI0 q (by omega), rfl⟩
  have key2 : ∀ q : Nat, q ≤ aPn A → ∀ (z : Int) (I' J' : Mm), z = (q : Int) → (I' t 1 = (aN A : Int) ∧ I' t 2 = aS A ∧ I' t 3 = aO A ∧ I' t 8 = (aPn A : Int)) → (∀ i, i < aN A → WkAt I' J' (swk g t i) (aW A i) ∧ J' (t + 34) i = S i ∧ J' (t + 35) i = K i) → (∀ p, p < q → J' (t + 36) p = aPk A p ∧ I' (t + 37) p = aPo A p) → FrO I I' J J' t (t + 38) → ZV X E_X3_copyFrom 89 [some (.ref t), some (.ref u), some (vi z)] [] b g I' J' post := by
    refine loop_up (aPn A) ?_ ?_
    · intro z I' J' hz hf hw hp hF
      have hf4 := hf.2.2.2
      refine ZV_iload_n dX3_copyFrom_89 rfl ?_
      refine ZV_aload_n dX3_copyFrom_90 rfl ?_
      refine ZV_getI fX3_copyFrom_42 dX3_copyFrom_91 (by assumption) rfl ?_
      refine ZV_icmp_ge (tgt := 127) dX3_copyFrom_94 (by decide) ⟨by omega, by omega⟩ ⟨by omega, by omega⟩ (fun h94 => ?_) (fun h94 => ?_)
      · refine ZV_vret dX3_copyFrom_127 rfl ?_
        exact h I' J' ⟨hf, fun i hi => (hw i hi).1, hp⟩ (fun i hi => (hw i hi).2.2) (fun i hi => (hw i hi).2.1) hF
      · omega
    · intro q hq ih z I' J' hz hf hw hp hF
      have hf4 := hf.2.2.2
      have hAu := hA'.fr hM' hn hF (by omega)
      refine ZV_iload_n dX3_copyFrom_89 rfl ?_
      refine ZV_aload_n dX3_copyFrom_90 rfl ?_
      refine ZV_getI fX3_copyFrom_42 dX3_copyFrom_91 (by assumption) rfl ?_
      refine ZV_icmp_ge (tgt := 127) dX3_copyFrom_94 (by decide) ⟨by omega, by omega⟩ ⟨by omega, by omega⟩ (fun h94 => ?_) (fun h94 => ?_)
      · omega
      · refine ZV_aload_n dX3_copyFrom_97 rfl ?_
        refine ZV_getR fX3_copyFrom_25 dX3_copyFrom_98 (by assumption) rfl (by assumption) ?_
        refine ZV_iload_n dX3_copyFrom_101 rfl ?_
        refine ZV_aload_n dX3_copyFrom_102 rfl ?_
        refine ZV_getR fX3_copyFrom_25 dX3_copyFrom_103 (by assumption) rfl (by assumption) ?_
        refine ZV_iload_n dX3_copyFrom_106 rfl ?_
        refine ZV_lald (q) dX3_copyFrom_107 (by assumption) (by first | rfl | omega) (by omega) (by omega) ?_
        refine ZV_last (q) dX3_copyFrom_108 (by assumption) (by first | rfl | omega) (by omega) (by omega) ?_
        refine ZV_aload_n dX3_copyFrom_109 rfl ?_
        refine ZV_getR fX3_copyFrom_28 dX3_copyFrom_110 (by assumption) rfl (by assumption) ?_
        refine ZV_iload_n dX3_copyFrom_113 rfl ?_
        refine ZV_aload_n dX3_copyFrom_114 rfl ?_
        refine ZV_getR fX3_copyFrom_28 dX3_copyFrom_115 (by assumption) rfl (by assumption) ?_
        refine ZV_iload_n dX3_copyFrom_118 rfl ?_
        refine ZV_iald (q) dX3_copyFrom_119 (by assumption) (by first | rfl | omega) (by omega) (by omega) ?_
        refine ZV_iast (q) dX3_copyFrom_120 (by assumption) (by first | rfl | omega) (by omega) (by omega) ?_
        refine ZV_jinc2 dX3_copyFrom_121 rfl (by decide) ?_
        refine ZV_goto (tgt := 89) dX3_copyFrom_124 (by decide) ?_
        rw [(hAu.2.2 q hq).1, (hAu.2.2 q hq).2]
        refine ih _ _ _ (by omega) ?_ (fun i hi => ?_) (fun p hp9 => ?_) ((hF.upJ (by omega) (by omega)).upI (by omega) (by omega))
        · rw [up2_a (by omega), up2_a (by omega), up2_a (by omega), up2_a (by omega)]; exact hf
        · have hs := (SL_sw hL' (i := i) (by omega)).2.2
          refine ⟨(hw i hi).1.fr (lo := t + 36) (hi := t + 38) (((FrO.rf I' J' (t + 36) (t + 38)).upJ (by omega) (by omega)).upI (by omega) (by omega)) (by omega), ?_, ?_⟩
          · rw [up2_a (by omega)]; exact (hw i hi).2.1
          · rw [up2_a (by omega)]; exact (hw i hi).2.2
        · by_cases e : p = q
          · rw [e, up2_same, up2_same]; exact ⟨rfl, rfl⟩
          · rw [up2_k e, up2_k e]; exact hp p (by omega)
  have key1 : ∀ q : Nat, q ≤ aN A → ∀ (z : Int) (I' J' : Mm), z = (q : Int) → (I' t 1 = (aN A : Int) ∧ I' t 2 = aS A ∧ I' t 3 = aO A ∧ I' t 8 = (aPn A : Int)) → (∀ i, i < q → WkAt I' J' (swk g t i) (aW A i) ∧ J' (t + 34) i = S i ∧ J' (t + 35) i = K i) → FrO I I' J J' t (t + 38) → ZV X E_X3_copyFrom 34 [some (.ref t), some (.ref u), some (vi z)] [] b g I' J' post := by
    refine loop_up (aN A) ?_ ?_
    · intro z I' J' hz hf hw hF
      have hf1 := hf.1
      refine ZV_iload_n dX3_copyFrom_34 rfl ?_
      refine ZV_aload_n dX3_copyFrom_35 rfl ?_
      refine ZV_getI fX3_copyFrom_32 dX3_copyFrom_36 (by assumption) rfl ?_
      refine ZV_icmp_ge (tgt := 87) dX3_copyFrom_39 (by decide) ⟨by omega, by omega⟩ ⟨by omega, by omega⟩ (fun h39 => ?_) (fun h39 => ?_)
      · refine ZV_iconst dX3_copyFrom_87 ?_
        refine ZV_istore2 dX3_copyFrom_88 rfl (by decide) ?_
        exact key2 0 (by omega) _ _ _ rfl hf hw (fun p hp => absurd hp (Nat.not_lt_zero p)) hF
      · omega
    · intro q hq ih z I' J' hz hf hw hF
      have hf1 := hf.1
      have hAu := hA'.fr hM' hn hF (by omega)
      obtain ⟨x1, x2, x3⟩ := SL_sw hL' (i := q) (by omega)
      obtain ⟨y1, y2, y3⟩ := SL_sw hM' (i := q) (by omega)
      have x4 := x2.1
      refine ZV_iload_n dX3_copyFrom_34 rfl ?_
      refine ZV_aload_n dX3_copyFrom_35 rfl ?_
      refine ZV_getI fX3_copyFrom_32 dX3_copyFrom_36 (by assumption) rfl ?_
      refine ZV_icmp_ge (tgt := 87) dX3_copyFrom_39 (by decide) ⟨by omega, by omega⟩ ⟨by omega, by omega⟩ (fun h39 => ?_) (fun h39 => ?_)
      · omega
      · refine ZV_aload_n dX3_copyFrom_42 rfl ?_
        refine ZV_getR fX3_copyFrom_11 dX3_copyFrom_43 (by assumption) rfl (by assumption) ?_
        refine ZV_iload_n dX3_copyFrom_46 rfl ?_
        first | refine ZV_aaldW (q) dX3_copyFrom_47 (by assumption) (by first | rfl | omega) (by omega) (by omega) (by assumption) ?_ | refine ZV_aaldS (q) dX3_copyFrom_47 (by assumption) (by first | rfl | omega) (by omega) (by omega) (by assumption) ?_
        refine ZV_aload_n dX3_copyFrom_48 rfl ?_
        refine ZV_getR fX3_copyFrom_11 dX3_copyFrom_49 (by assumption) rfl (by assumption) ?_
        refine ZV_iload_n dX3_copyFrom_52 rfl ?_
        first | refine ZV_aaldW (q) dX3_copyFrom_53 (by assumption) (by first | rfl | omega) (by omega) (by omega) (by assumption) ?_ | refine ZV_aaldS (q) dX3_copyFrom_53 (by assumption) (by first | rfl | omega) (by omega) (by omega) (by assumption) ?_
        refine cl_X5_copyFrom kX3_copyFrom_45 rfl dX3_copyFrom_54 (by assumption) (Nat.le_of_ble_eq_true rfl) ?_
        refine sp_X5_copyFrom x2 y2 (by omega) (hAu.2.1 q hq) ?_
        intro I'' J'' hw2 hF2
        have hF3 : FrO I I'' J J'' t (t + 38) := hF.tr (hF2.mono (by omega) (by omega))
        have hK3 := hK.fr hF3 (by omega)
        have hS3 := hS.fr hF3 (by omega)
        refine ZV_aload_n dX3_copyFrom_57 rfl ?_
        refine ZV_getR fX3_copyFrom_18 dX3_copyFrom_58 (by assumption) rfl (by assumption) ?_
        refine ZV_iload_n dX3_copyFrom_61 rfl ?_
        refine ZV_aload_n dX3_copyFrom_62 rfl ?_
        refine ZV_getR fX3_copyFrom_18 dX3_copyFrom_63 (by assumption) rfl (by assumption) ?_
        refine ZV_iload_n dX3_copyFrom_66 rfl ?_
        refine ZV_lald (q) dX3_copyFrom_67 (by assumption) (by first | rfl | omega) (by omega) (by omega) ?_
        refine ZV_last (q) dX3_copyFrom_68 (by assumption) (by first | rfl | omega) (by omega) (by omega) ?_
        refine ZV_aload_n dX3_copyFrom_69 rfl ?_
        refine ZV_getR fX3_copyFrom_22 dX3_copyFrom_70 (by assumption) rfl (by assumption) ?_
        refine ZV_iload_n dX3_copyFrom_73 rfl ?_
        refine ZV_aload_n dX3_copyFrom_74 rfl ?_
        refine ZV_getR fX3_copyFrom_22 dX3_copyFrom_75 (by assumption) rfl (by assumption) ?_
        refine ZV_iload_n dX3_copyFrom_78 rfl ?_
        refine ZV_lald (q) dX3_copyFrom_79 (by assumption) (by first | rfl | omega) (by omega) (by omega) ?_
        refine ZV_last (q) dX3_copyFrom_80 (by assumption) (by first | rfl | omega) (by omega) (by omega) ?_
        refine ZV_jinc2 dX3_copyFrom_81 rfl (by decide) ?_
        refine ZV_goto (tgt := 34) dX3_copyFrom_84 (by decide) ?_
        rw [up2_a (by omega : u + 35 ≠ t + 34), hK3 q hq, hS3 q hq]
        have hFJ : FrO I'' I'' J'' (up2 (up2 J'' (t + 34) q (S q)) (t + 35) q (K q)) (t + 34) (t + 36) := ((FrO.rf I'' J'' (t + 34) (t + 36)).upJ (by omega) (by omega)).upJ (by omega) (by omega)
        refine ih _ _ _ (by omega) ?_ (fun i hi => ?_) (hF3.tr (hFJ.mono (by omega) (by omega)))
        · rw [(hF2 t (by omega)).1]; exact hf
        · have hs := (SL_sw hL' (i := i) (by omega)).2.2
          by_cases e : i = q
          · subst e
            refine ⟨hw2.fr hFJ (by omega), ?_, ?_⟩
            · rw [up2_a (by omega), up2_same]
            · rw [up2_same]
          · obtain ⟨v1, v2, v3⟩ := hw i (by omega)
            have hne := SL_ne hL' (i := i) (j := q) (by omega) (by omega) e
            refine ⟨(v1.fr hF2 (by omega)).fr hFJ (by omega), ?_, ?_⟩
            · rw [up2_a (by omega), up2_k e, (hF2 (t + 34) (by omega)).2]; exact v2
            · rw [up2_k e, up2_a (by omega), (hF2 (t + 35) (by omega)).2]; exact v3
  exact key1 0 (by omega) _ _ _ rfl ⟨f1, f2, f3, f4⟩ (fun i hi => absurd hi (Nat.not_lt_zero i)) fr0
theorem sp_X3_place {t w : Nat} {A : ASt} {P : AWk} {K : Nat → Int} (hL : SL X g t) (hw : WG X g w) (hd : w + 2 ≤ t ∨ t + 38 ≤ w) (hA : StAt g I J t A) (hO : StOK A) (hK : KyAt J t (aN A) K) (hP : WkAt I J w P) (hlt : aN A < 16) (h : ∀ I' J', StAt g I' J' t (aPlace A P) → KyAt J' t (aN A + 1) (fun i => if i = aN A then 0 else K i) → FrO I I' J J' t (t + 38) → post (.inl none) g I' J') : ZV X E_X3_place 0 [some (.ref t), some (.ref w)] [] b g I J post := by
  have hL' := hL
  obtain ⟨hn, hpn, -⟩ := id hO
  obtain ⟨⟨s1, s2, s3, s4, s5, s6⟩, ⟨s7, s8, s9, s10, s11⟩, -⟩ := hL
  obtain ⟨⟨a1, a2, a3, a4⟩, a5, a6⟩ := hA
  obtain ⟨x1, x2, x3⟩ := SL_sw hL' (i := aN A) (by omega)
  have x4 := x2.1
  refine ZV_aload_n dX3_place_0 rfl ?_
  refine ZV_getI fX3_place_32 dX3_place_1 (by assumption) rfl ?_
  refine ZV_bipush dX3_place_4 (by decide) ?_
  refine ZV_icmp_lt (tgt := 10) dX3_place_6 (by decide) ⟨by omega, by omega⟩ ⟨by omega, by omega⟩ (fun h6 => ?_) (fun h6 => ?_)
  · refine ZV_aload_n dX3_place_10 rfl ?_
    refine ZV_getR fX3_place_11 dX3_place_11 (by assumption) rfl (by assumption) ?_
    refine ZV_aload_n dX3_place_14 rfl ?_
    refine ZV_getI fX3_place_32 dX3_place_15 (by assumption) rfl ?_
    first | refine ZV_aaldW (aN A) dX3_place_18 (by assumption) (by first | rfl | omega) (by omega) (by omega) (by assumption) ?_ | refine ZV_aaldS (aN A) dX3_place_18 (by assumption) (by first | rfl | omega) (by omega) (by omega) (by assumption) ?_
    refine ZV_aload_n dX3_place_19 rfl ?_
    refine cl_X5_copyFrom kX3_place_45 rfl dX3_place_20 (by assumption) (Nat.le_of_ble_eq_true rfl) ?_
    refine sp_X5_copyFrom x2 hw (by omega) hP ?_
    intro I2 J2 hw2 hF2
    have b1 : I2 t 1 = (aN A : Int) := by rw [(hF2 t (by omega)).1]; exact a1
    refine ZV_aload_n dX3_place_23 rfl ?_
    refine ZV_getR fX3_place_22 dX3_place_24 (by assumption) rfl (by assumption) ?_
    refine ZV_aload_n dX3_place_27 rfl ?_
    refine ZV_getI fX3_place_32 dX3_place_28 (by assumption) rfl ?_
    refine ZV_lconst (z := 0) dX3_place_31 (by decide) ?_
    refine ZV_last (aN A) dX3_place_32 (by assumption) (by first | rfl | omega) (by omega) (by omega) ?_
    refine ZV_aload_n dX3_place_33 rfl ?_
    refine ZV_dup dX3_place_34 rfl ?_
    refine ZV_getI fX3_place_32 dX3_place_35 (by assumption) rfl ?_
    refine ZV_iconst dX3_place_38 ?_
    refine ZV_iadd dX3_place_39 ?_
    refine ZV_putI fX3_place_32 dX3_place_40 (by assumption) rfl ?_
    refine ZV_vret dX3_place_43 rfl ?_
    rw [b1]
    have hF4 : FrO I2 (up2 I2 t 1 ((aN A : Int) + 1)) J2 (up2 J2 (t + 35) (aN A) 0) t (t + 38) := ((FrO.rf I2 J2 t (t + 38)).upJ (by omega) (by omega)).upI (by omega) (by omega)
    have tw : ∀ i, i < 16 → ∀ Q, WkAt I2 J2 (swk g t i) Q → WkAt (up2 I2 t 1 ((aN A : Int) + 1)) (up2 J2 (t + 35) (aN A) 0) (swk g t i) Q := by
      intro i hi Q hQ
      have hs := (SL_sw hL' (i := i) hi).2.2
      have h5 : FrO I2 I2 J2 (up2 J2 (t + 35) (aN A) 0) (t + 35) (t + 36) := (FrO.rf I2 J2 (t + 35) (t + 36)).upJ (by omega) (by omega)
      have h6 : FrO I2 (up2 I2 t 1 ((aN A : Int) + 1)) (up2 J2 (t + 35) (aN A) 0) (up2 J2 (t + 35) (aN A) 0) t (t + 1) := fun q hq => ⟨up2_row _ _ (by omega), rfl⟩
      exact (hQ.fr h5 (by omega)).fr h6 (by omega)
    refine h _ _ ⟨⟨?_, ?_, ?_, ?_⟩, fun i hi => ?_, fun p hp => ?_⟩ (fun i hi => ?_) ((hF2.mono (by omega) (by omega)).tr hF4)
    · rw [up2_same]; rfl
    · rw [up2_k (by decide), (hF2 t (by omega)).1]; exact a2
    · rw [up2_k (by decide), (hF2 t (by omega)).1]; exact a3
    · rw [up2_k (by decide), (hF2 t (by omega)).1]; exact a4
    · have hi' : i < aN A + 1 := hi
      by_cases e : i = aN A
      · have e2 : aW (aPlace A P) i = P := by show (if i = aN A then P else aW A i) = P; rw [if_pos e]
        rw [e2, e]
        exact tw _ (by omega) _ hw2
      · have e2 : aW (aPlace A P) i = aW A i := by show (if i = aN A then P else aW A i) = aW A i; rw [if_neg e]
        rw [e2]
        have hne := SL_ne hL' (i := i) (j := aN A) (by omega) (by omega) e
        exact tw _ (by omega) _ ((a5 i (by omega)).fr hF2 (by omega))
    · have hp' : p < aPn A := hp
      rw [up2_a (by omega), up2_a (by omega), (hF2 (t + 36) (by omega)).2, (hF2 (t + 37) (by omega)).1]
      exact a6 p hp'
    · show _ = if i = aN A then 0 else K i
      by_cases e : i = aN A
      · rw [if_pos e, e, up2_same]
      · rw [if_neg e, up2_k e, (hF2 (t + 35) (by omega)).2]
        exact hK i (by omega)
  · omega
theorem sp_X3_printKeys {t : Nat} {A : ASt} {K : Nat → Int} (hL : SL X g t) (hA : StAt g I J t A) (hO : StOK A) (hK : KyAt J t (aN A) K) (h : ∀ I' J', StAt g I' J' t (aPrint A K) → (∀ q, q ≠ t ∧ q ≠ t + 37 → I' q = I q) → (∀ q, q ≠ t + 36 → J' q = J q) → post (.inl none) g I' J') : ZV X E_X3_printKeys 0 [some (.ref t), none] [] b g I J post := by
  have hL' := hL
  obtain ⟨hn, hpn, -⟩ := id hO
  obtain ⟨⟨s1, s2, s3, s4, s5, s6⟩, ⟨s7, s8, s9, s10, s11⟩, -⟩ := hL
  obtain ⟨⟨a1, a2, a3, a4⟩, a5, a6⟩ := hA
  refine ZV_iconst dX3_printKeys_0 ?_
  refine ZV_istore1 dX3_printKeys_1 rfl (by decide) ?_
  have key : ∀ q : Nat, q ≤ aN A → ∀ (z : Int) (I' J' : Mm), z = (q : Int) → (∀ p, p < q → J' (t + 36) p = K p ∧ I' (t + 37) p = (p : Int)) → (∀ q, q ≠ t + 37 → I' q = I q) → (∀ q, q ≠ t + 36 → J' q = J q) → ZV X E_X3_printKeys 2 [some (.ref t), some (vi z)] [] b g I' J' post := by
    refine loop_up (aN A) ?_ ?_
    · intro z I' J' hz hp hI hJ
      have b1 : I' t 1 = (aN A : Int) := by rw [hI t (by omega)]; exact a1
      refine ZV_iload_n dX3_printKeys_2 rfl ?_
      refine ZV_aload_n dX3_printKeys_3 rfl ?_
      refine ZV_getI fX3_printKeys_32 dX3_printKeys_4 (by assumption) rfl ?_
      refine ZV_icmp_ge (tgt := 35) dX3_printKeys_7 (by decide) ⟨by omega, by omega⟩ ⟨by omega, by omega⟩ (fun h7 => ?_) (fun h7 => ?_)
      · refine ZV_aload_n dX3_printKeys_35 rfl ?_
        refine ZV_aload_n dX3_printKeys_36 rfl ?_
        refine ZV_getI fX3_printKeys_32 dX3_printKeys_37 (by assumption) rfl ?_
        refine ZV_putI fX3_printKeys_42 dX3_printKeys_40 (by assumption) rfl ?_
        refine ZV_vret dX3_printKeys_43 rfl ?_
        rw [b1]
        refine h _ _ ⟨⟨?_, ?_, ?_, ?_⟩, fun i hi => ?_, fun p hp9 => ?_⟩ (fun q hq => by rw [up2_row _ _ hq.1]; exact hI q hq.2) hJ
        · rw [up2_k (by decide)]; exact b1
        · rw [up2_k (by decide), hI t (by omega)]; exact a2
        · rw [up2_k (by decide), hI t (by omega)]; exact a3
        · rw [up2_same]; rfl
        · have hi' : i < aN A := hi
          have hs := (SL_sw hL' (i := i) (by omega)).2.2
          obtain ⟨w1, w2, w3, w4⟩ := a5 i hi'
          refine ⟨fun a ha => ?_, ?_, ?_, ?_⟩
          · rw [hJ _ (by omega)]; exact w1 a ha
          · rw [up2_a (by omega), hI _ (by omega)]; exact w2
          · rw [up2_a (by omega), hI _ (by omega)]; exact w3
          · rw [hJ _ (by omega)]; exact w4
        · rw [up2_a (by omega)]; exact hp p hp9
      · omega
    · intro q hq ih z I' J' hz hp hI hJ
      have b1 : I' t 1 = (aN A : Int) := by rw [hI t (by omega)]; exact a1
      have k1 : J' (t + 35) q = K q := by rw [hJ _ (by omega)]; exact hK q hq
      refine ZV_iload_n dX3_printKeys_2 rfl ?_
      refine ZV_aload_n dX3_printKeys_3 rfl ?_
      refine ZV_getI fX3_printKeys_32 dX3_printKeys_4 (by assumption) rfl ?_
      refine ZV_icmp_ge (tgt := 35) dX3_printKeys_7 (by decide) ⟨by omega, by omega⟩ ⟨by omega, by omega⟩ (fun h7 => ?_) (fun h7 => ?_)
      · omega
      · refine ZV_aload_n dX3_printKeys_10 rfl ?_
        refine ZV_getR fX3_printKeys_25 dX3_printKeys_11 (by assumption) rfl (by assumption) ?_
        refine ZV_iload_n dX3_printKeys_14 rfl ?_
        refine ZV_aload_n dX3_printKeys_15 rfl ?_
        refine ZV_getR fX3_printKeys_22 dX3_printKeys_16 (by assumption) rfl (by assumption) ?_
        refine ZV_iload_n dX3_printKeys_19 rfl ?_
        refine ZV_lald (q) dX3_printKeys_20 (by assumption) (by first | rfl | omega) (by omega) (by omega) ?_
        refine ZV_last (q) dX3_printKeys_21 (by assumption) (by first | rfl | omega) (by omega) (by omega) ?_
        refine ZV_aload_n dX3_printKeys_22 rfl ?_
        refine ZV_getR fX3_printKeys_28 dX3_printKeys_23 (by assumption) rfl (by assumption) ?_
        refine ZV_iload_n dX3_printKeys_26 rfl ?_
        refine ZV_iload_n dX3_printKeys_27 rfl ?_
        refine ZV_iast (q) dX3_printKeys_28 (by assumption) (by first | rfl | omega) (by omega) (by omega) ?_
        refine ZV_jinc1 dX3_printKeys_29 rfl (by decide) ?_
        refine ZV_goto (tgt := 2) dX3_printKeys_32 (by decide) ?_
        rw [k1]
        refine ih _ _ _ (by omega) (fun p hp9 => ?_) (fun q9 hq9 => by rw [up2_row _ _ hq9]; exact hI q9 hq9) (fun q9 hq9 => by rw [up2_row _ _ hq9]; exact hJ q9 hq9)
        by_cases e : p = q
        · rw [e, up2_same, up2_same]; exact ⟨rfl, hz⟩
        · rw [up2_k e, up2_k e]; exact hp p (by omega)
  exact key 0 (by omega) _ _ _ rfl (fun p hp => absurd hp (Nat.not_lt_zero p)) (fun _ _ => rfl) (fun _ _ => rfl)
theorem sp_X3_disown {t pn : Nat} {i : Int} {po : Nat → Int} (hL : SL X g t) (hpn : pn ≤ 16) (hi : r32 i) (h8 : I t 8 = (pn : Int)) (hpo : ∀ p, p < pn → I (t + 37) p = po p ∧ r32 (po p)) (h : ∀ I', (∀ p, p < pn → I' (t + 37) p = disw i (po p)) → (∀ q, q ≠ t + 37 → I' q = I q) → post (.inl none) g I' J) : ZV X E_X3_disown 0 [some (.ref t), some (vi i), none] [] b g I J post := by
  obtain ⟨⟨s1, s2, s3, s4, s5, s6⟩, ⟨s7, s8, s9, s10, s11⟩, -⟩ := hL
  obtain ⟨i1, i2⟩ := hi
  refine ZV_iconst dX3_disown_0 ?_
  refine ZV_istore2 dX3_disown_1 rfl (by decide) ?_
  have key : ∀ q : Nat, q ≤ pn → ∀ (z : Int) (I' : Mm), z = (q : Int) → (∀ p, p < pn → I' (t + 37) p = if p < q then disw i (po p) else po p) → (∀ q, q ≠ t + 37 → I' q = I q) → ZV X E_X3_disown 2 [some (.ref t), some (vi i), some (vi z)] [] b g I' J post := by
    refine loop_up pn ?_ ?_
    · intro z I' hz hp hI
      have b1 : I' t 8 = (pn : Int) := by rw [hI t (by omega)]; exact h8
      refine ZV_iload_n dX3_disown_2 rfl ?_
      refine ZV_aload_n dX3_disown_3 rfl ?_
      refine ZV_getI fX3_disown_42 dX3_disown_4 (by assumption) rfl ?_
      refine ZV_icmp_ge (tgt := 57) dX3_disown_7 (by decide) ⟨by omega, by omega⟩ ⟨by omega, by omega⟩ (fun h7 => ?_) (fun h7 => ?_)
      · refine ZV_vret dX3_disown_57 rfl ?_
        exact h _ (fun p hp9 => by rw [hp p hp9, if_pos hp9]) hI
      · omega
    · intro q hq ih z I' hz hp hI
      have b1 : I' t 8 = (pn : Int) := by rw [hI t (by omega)]; exact h8
      have k1 : I' (t + 37) q = po q := by rw [hp q hq, if_neg (by omega)]
      obtain ⟨-, r1, r2⟩ := hpo q hq
      have step : ∀ v, v = disw i (po q) → ∀ p, p < pn → up2 I' (t + 37) q v (t + 37) p = if p < q + 1 then disw i (po p) else po p := by
        intro v hv p hp9
        by_cases e : p = q
        · rw [e, up2_same, if_pos (by omega), hv]
        · rw [up2_k e, hp p hp9]
          by_cases e2 : p < q
          · rw [if_pos e2, if_pos (by omega)]
          · rw [if_neg e2, if_neg (by omega)]
      refine ZV_iload_n dX3_disown_2 rfl ?_
      refine ZV_aload_n dX3_disown_3 rfl ?_
      refine ZV_getI fX3_disown_42 dX3_disown_4 (by assumption) rfl ?_
      refine ZV_icmp_ge (tgt := 57) dX3_disown_7 (by decide) ⟨by omega, by omega⟩ ⟨by omega, by omega⟩ (fun h7 => ?_) (fun h7 => ?_)
      · omega
      · refine ZV_aload_n dX3_disown_10 rfl ?_
        refine ZV_getR fX3_disown_28 dX3_disown_11 (by assumption) rfl (by assumption) ?_
        refine ZV_iload_n dX3_disown_14 rfl ?_
        refine ZV_iald (q) dX3_disown_15 (by assumption) (by first | rfl | omega) (by omega) (by omega) ?_
        rw [k1]
        refine ZV_iload_n dX3_disown_16 rfl ?_
        refine ZV_icmp_ne (tgt := 31) dX3_disown_17 (by decide) ⟨by omega, by omega⟩ ⟨by omega, by omega⟩ (fun h17 => ?_) (fun h17 => ?_)
        · refine ZV_aload_n dX3_disown_31 rfl ?_
          refine ZV_getR fX3_disown_28 dX3_disown_32 (by assumption) rfl (by assumption) ?_
          refine ZV_iload_n dX3_disown_35 rfl ?_
          refine ZV_iald (q) dX3_disown_36 (by assumption) (by first | rfl | omega) (by omega) (by omega) ?_
          rw [k1]
          refine ZV_iload_n dX3_disown_37 rfl ?_
          refine ZV_icmp_le (tgt := 51) dX3_disown_38 (by decide) ⟨by omega, by omega⟩ ⟨by omega, by omega⟩ (fun h38 => ?_) (fun h38 => ?_)
          · refine ZV_jinc2 dX3_disown_51 rfl (by decide) ?_
            refine ZV_goto (tgt := 2) dX3_disown_54 (by decide) ?_
            refine ih _ _ (by omega) (fun p hp9 => ?_) hI
            rw [hp p hp9]
            by_cases e : p = q
            · rw [e, if_neg (by omega), if_pos (by omega)]
              unfold disw
              rw [if_neg h17, if_neg (by omega)]
            · by_cases e2 : p < q
              · rw [if_pos e2, if_pos (by omega)]
              · rw [if_neg e2, if_neg (by omega)]
          · refine ZV_aload_n dX3_disown_41 rfl ?_
            refine ZV_getR fX3_disown_28 dX3_disown_42 (by assumption) rfl (by assumption) ?_
            refine ZV_iload_n dX3_disown_45 rfl ?_
            first | refine ZV_dup2 dX3_disown_46 rfl rfl ?_ | refine ZV_dup2l dX3_disown_46 rfl ?_
            refine ZV_iald (q) dX3_disown_47 (by assumption) (by first | rfl | omega) (by omega) (by omega) ?_
            rw [k1]
            refine ZV_iconst dX3_disown_48 ?_
            refine ZV_isub dX3_disown_49 ?_
            refine ZV_iast (q) dX3_disown_50 (by assumption) (by first | rfl | omega) (by omega) (by omega) ?_
            refine ZV_jinc2 dX3_disown_51 rfl (by decide) ?_
            refine ZV_goto (tgt := 2) dX3_disown_54 (by decide) ?_
            exact ih _ _ (by omega) (step _ (by unfold disw; rw [if_neg h17, if_pos (by omega)])) (fun q9 hq9 => by rw [up2_row _ _ hq9]; exact hI q9 hq9)
        · refine ZV_aload_n dX3_disown_20 rfl ?_
          refine ZV_getR fX3_disown_28 dX3_disown_21 (by assumption) rfl (by assumption) ?_
          refine ZV_iload_n dX3_disown_24 rfl ?_
          refine ZV_bipush dX3_disown_25 (by decide) ?_
          refine ZV_iast (q) dX3_disown_27 (by assumption) (by first | rfl | omega) (by omega) (by omega) ?_
          refine ZV_goto (tgt := 51) dX3_disown_28 (by decide) ?_
          refine ZV_jinc2 dX3_disown_51 rfl (by decide) ?_
          refine ZV_goto (tgt := 2) dX3_disown_54 (by decide) ?_
          exact ih _ _ (by omega) (step _ (by unfold disw; rw [if_pos h17])) (fun q9 hq9 => by rw [up2_row _ _ hq9]; exact hI q9 hq9)
  exact key 0 (by omega) _ _ rfl (fun p hp => by rw [if_neg (by omega)]; exact (hpo p hp).1) (fun _ _ => rfl)
end ZSw

