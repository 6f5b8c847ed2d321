/-! CitationKeys: one command -/
def cmdF (A : ASt) (k : Int) : Option ASt := cmd1 A (k / 1000) (k % 1000)
theorem GoodSt.sr {A : ASt} (h : GoodSt A) : ∀ p, p < aPn A → r64 (aPk A p) ∧ r32 (aPo A p) := h.pr
theorem prF0_rng (A : ASt) : -(2 * (aPn A : Int)) ≤ prF A 0 ∧ prF A 0 ≤ aPn A := by
  have h1 := zsum_01 (f := fun p => if holdK (keyOf A) (aN A) (aPk A p) = aPo A p then 1 else 0) (aPn A) (fun p _ => by by_cases e : holdK (keyOf A) (aN A) (aPk A p) = aPo A p <;> simp [e])
  have h2 := zsum_01 (f := fun p => if holdK (keyOf A) (aN A) (aPk A p) = -9 then 1 else 0) (aPn A) (fun p _ => by by_cases e : holdK (keyOf A) (aN A) (aPk A p) = -9 <;> simp [e])
  have e : prF A 0 = (aPn A : Int) - zsum (fun p => if holdK (keyOf A) (aN A) (aPk A p) = aPo A p then 1 else 0) (aPn A) - zsum (fun p => if holdK (keyOf A) (aN A) (aPk A p) = -9 then 1 else 0) (aPn A) := rfl
  omega
section ZA8
variable {X : Xt} {g : Geo} {I J : Mm} {b : Nat × Nat} {post : Out → Geo → Mm → Mm → Prop}
theorem sp_X6_succeeds {t : Nat} {k : Int} {A : ASt} (hL : SL X g t) (hS : StF g I J t A) (hk : 0 ≤ k ∧ k < 10000) (hx1 : cmdF A k = none → post (.inl (some (vi 0))) g I J) (hx2 : ∀ A', cmdF A k = some A' → ∀ g' I' J', TFr g g' I I' J J' t → TIn X g' I' J' t A' → post (.inl (some (vi 1))) g' I' J') : ZV X E_X6_succeeds 0 [some (.ref t), some (vi k), none] [] b g I J post := by
  have lt := hL.1.1
  obtain ⟨⟨hA, hK, hSm⟩, hG⟩ := hS
  have hO := hG.1
  have h16 := hO.1
  have e1 := hA.1.1
  obtain ⟨⟨s1, s2, s3, s4, s5, s6⟩, ⟨s7, s8, s9, s10, s11⟩, -⟩ := id hL
  have hT : TIn X g I J t A := ⟨hL, hA, hG, keyOf A, hK, fun i hi => (hG.ky i hi).2⟩
  have same : ∀ A', A = A' → TFr g g I I J J t ∧ TIn X g I J t A' := fun A' e => ⟨TFr.rf g I J t, e ▸ hT⟩
  unfold cmdF at hx1 hx2
  obtain ⟨d, hd⟩ : ∃ d, d = k / 1000 := ⟨_, rfl⟩
  obtain ⟨r, hr⟩ : ∃ r, r = k % 1000 := ⟨_, rfl⟩
  rw [← hd, ← hr] at hx1 hx2
  have et : k.tmod 1000 = r := by rw [Int.tmod_eq_emod_of_nonneg (by omega)]; omega
  have ed : k.tdiv 1000 = d := by rw [Int.tdiv_eq_ediv_of_nonneg (by omega)]; omega
  have hrr : 0 ≤ r ∧ r < 1000 := by omega
  have e10 : r.tdiv 10 = r / 10 := Int.tdiv_eq_ediv_of_nonneg (by omega)
  have m10 : r.tmod 10 = r % 10 := Int.tmod_eq_emod_of_nonneg (by omega)
  have hdc : d = 0 ∨ d = 1 ∨ d = 2 ∨ d = 3 ∨ d = 4 ∨ d = 5 ∨ d = 6 ∨ d = 7 ∨ d = 8 ∨ d = 9 := by omega
  clear hd hr
  refine ZV_iload_n dX6_succeeds_0 rfl ?_
  refine ZV_sipush dX6_succeeds_1 (by decide) ?_
  refine ZV_irem dX6_succeeds_4 ⟨by omega, by omega⟩ ⟨by omega, by omega⟩ (by omega) ?_
  rw [et]
  refine ZV_istore2 dX6_succeeds_5 rfl (by decide) ?_
  refine ZV_iload_n dX6_succeeds_6 rfl ?_
  refine ZV_sipush dX6_succeeds_7 (by decide) ?_
  refine ZV_idiv dX6_succeeds_10 ⟨by omega, by omega⟩ ⟨by omega, by omega⟩ (by omega) ?_
  rw [ed]
  rcases hdc with rfl | rfl | rfl | rfl | rfl | rfl | rfl | rfl | rfl | rfl
  · refine ZV_tableOut (tgt := 201) dX6_succeeds_11 ⟨by omega, by omega⟩ (by omega) (by decide) ?_
    refine ZV_iconst dX6_succeeds_201 ?_
    refine ZV_zret dX6_succeeds_202 rfl (by first | exact Or.inl rfl | exact Or.inr rfl | assumption | omega) ?_
    exact hx1 rfl
  · refine ZV_tableIn (tgt := 60) dX6_succeeds_11 ⟨by decide, by decide⟩ (by decide) (by decide) rfl (by decide) ?_
    have e : cmd1 A 1 r = if 0 ≤ r ∧ r < aN A then some (aTake A r.toNat) else none := rfl
    rw [e] at hx1 hx2
    refine ZV_aload_n dX6_succeeds_60 rfl ?_
    refine ZV_iload_n dX6_succeeds_61 rfl ?_
    refine cl_X6_removes kX6_succeeds_293 rfl dX6_succeeds_62 (Nat.le_of_ble_eq_true rfl) ?_
    refine sp_X6_removes hT ⟨by omega, by omega⟩ (fun q => ?_) (fun q g' I' J' hF hI => ?_)
    · refine ZV_zret dX6_succeeds_65 rfl (by first | exact Or.inl rfl | exact Or.inr rfl | assumption | omega) ?_
      exact hx1 (if_neg q)
    · refine ZV_zret dX6_succeeds_65 rfl (by first | exact Or.inl rfl | exact Or.inr rfl | assumption | omega) ?_
      exact hx2 _ (if_pos q) _ _ _ hF hI
  · refine ZV_tableIn (tgt := 66) dX6_succeeds_11 ⟨by decide, by decide⟩ (by decide) (by decide) rfl (by decide) ?_
    have e : cmd1 A 2 r = if 0 ≤ r ∧ r < 4 then some (aSty A r) else none := rfl
    rw [e] at hx1 hx2
    refine ZV_aload_n dX6_succeeds_66 rfl ?_
    refine ZV_iload_n dX6_succeeds_67 rfl ?_
    refine cl_X6_setsStyle kX6_succeeds_296 rfl dX6_succeeds_68 (Nat.le_of_ble_eq_true rfl) ?_
    refine sp_X6_setsStyle hT ⟨by omega, by omega⟩ (fun q => ?_) (fun q I' J' hF hI => ?_)
    · refine ZV_zret dX6_succeeds_71 rfl (by first | exact Or.inl rfl | exact Or.inr rfl | assumption | omega) ?_
      exact hx1 (if_neg q)
    · refine ZV_zret dX6_succeeds_71 rfl (by first | exact Or.inl rfl | exact Or.inr rfl | assumption | omega) ?_
      exact hx2 _ (if_pos q) _ _ _ hF hI
  · refine ZV_tableIn (tgt := 72) dX6_succeeds_11 ⟨by decide, by decide⟩ (by decide) (by decide) rfl (by decide) ?_
    have e : cmd1 A 3 r = if 0 ≤ r ∧ r < 2 then some (aOrd A r) else none := rfl
    rw [e] at hx1 hx2
    refine ZV_aload_n dX6_succeeds_72 rfl ?_
    refine ZV_iload_n dX6_succeeds_73 rfl ?_
    refine cl_X6_setsOrder kX6_succeeds_299 rfl dX6_succeeds_74 (Nat.le_of_ble_eq_true rfl) ?_
    refine sp_X6_setsOrder hT ⟨by omega, by omega⟩ (fun q => ?_) (fun q I' J' hF hI => ?_)
    · refine ZV_zret dX6_succeeds_77 rfl (by first | exact Or.inl rfl | exact Or.inr rfl | assumption | omega) ?_
      exact hx1 (if_neg q)
    · refine ZV_zret dX6_succeeds_77 rfl (by first | exact Or.inl rfl | exact Or.inr rfl | assumption | omega) ?_
      exact hx2 _ (if_pos q) _ _ _ hF hI
  · refine ZV_tableIn (tgt := 78) dX6_succeeds_11 ⟨by decide, by decide⟩ (by decide) (by decide) rfl (by decide) ?_
    have e : cmd1 A 4 r = if (0 ≤ r / 10 ∧ r / 10 < aN A) ∧ (1000 ≤ (aW A (r / 10).toNat).2.2.1 + (r % 10 - 5) ∧ (aW A (r / 10).toNat).2.2.1 + (r % 10 - 5) ≤ 2999) then some (aSet A (r / 10).toNat (yrW (aW A (r / 10).toNat) ((aW A (r / 10).toNat).2.2.1 + (r % 10 - 5)))) else none := rfl
    rw [e] at hx1 hx2
    refine ZV_aload_n dX6_succeeds_78 rfl ?_
    refine ZV_iload_n dX6_succeeds_79 rfl ?_
    refine ZV_bipush dX6_succeeds_80 (by decide) ?_
    refine ZV_idiv dX6_succeeds_82 ⟨by omega, by omega⟩ ⟨by omega, by omega⟩ (by omega) ?_
    rw [e10]
    refine ZV_iload_n dX6_succeeds_83 rfl ?_
    refine ZV_bipush dX6_succeeds_84 (by decide) ?_
    refine ZV_irem dX6_succeeds_86 ⟨by omega, by omega⟩ ⟨by omega, by omega⟩ (by omega) ?_
    rw [m10]
    refine ZV_iconst dX6_succeeds_87 ?_
    refine ZV_isub dX6_succeeds_88 ?_
    refine cl_X6_movesYear kX6_succeeds_302 rfl dX6_succeeds_89 (Nat.le_of_ble_eq_true rfl) ?_
    refine sp_X6_movesYear hT ⟨by omega, by omega⟩ ⟨by omega, by omega⟩ (fun q => ?_) (fun q I' J' hF hI => ?_)
    · refine ZV_zret dX6_succeeds_92 rfl (by first | exact Or.inl rfl | exact Or.inr rfl | assumption | omega) ?_
      exact hx1 (if_neg q)
    · refine ZV_zret dX6_succeeds_92 rfl (by first | exact Or.inl rfl | exact Or.inr rfl | assumption | omega) ?_
      exact hx2 _ (if_pos q) _ _ _ hF hI
  · refine ZV_tableIn (tgt := 93) dX6_succeeds_11 ⟨by decide, by decide⟩ (by decide) (by decide) rfl (by decide) ?_
    have e : cmd1 A 5 r = if (0 ≤ r ∧ r < aN A) ∧ 0 < klet (keyOf A r.toNat) then some A else none := rfl
    rw [e] at hx1 hx2
    refine ZV_aload_n dX6_succeeds_93 rfl ?_
    refine ZV_iload_n dX6_succeeds_94 rfl ?_
    refine cl_X3_has kX6_succeeds_278 rfl dX6_succeeds_95 (by assumption) (Nat.le_of_ble_eq_true rfl) ?_
    refine sp_X3_has lt ⟨by omega, by omega⟩ ⟨by omega, by omega⟩ ?_
    rw [e1]
    by_cases q : 0 ≤ r ∧ r < aN A
    · rw [if_pos q]
      obtain ⟨n, rfl⟩ : ∃ n : Nat, r = n := ⟨r.toNat, by omega⟩
      rw [Int.toNat_natCast] at hx1 hx2
      have hn : n < aN A := by omega
      have kr := klet_rng (keyOf A n)
      refine ZV_if_eq (tgt := 117) dX6_succeeds_98 (by decide) ⟨by omega, by omega⟩ (fun h98 => ?_) (fun h98 => ?_)
      · omega
      · refine ZV_aload_n dX6_succeeds_101 rfl ?_
        refine ZV_getR fX6_succeeds_140 dX6_succeeds_102 (by assumption) rfl (by assumption) ?_
        refine ZV_iload_n dX6_succeeds_105 rfl ?_
        refine ZV_lald (n) dX6_succeeds_106 (by assumption) (by first | rfl | omega) (by omega) (by omega) ?_
        rw [hK n hn]
        refine cl_X1_letterOf kX6_succeeds_147 rfl dX6_succeeds_107 (Nat.le_of_ble_eq_true rfl) ?_
        refine sp_X1_letterOf ?_
        refine ZV_if_le (tgt := 117) dX6_succeeds_110 (by decide) ⟨by omega, by omega⟩ (fun h110 => ?_) (fun h110 => ?_)
        · refine ZV_iconst dX6_succeeds_117 ?_
          refine ZV_zret dX6_succeeds_118 rfl (by first | exact Or.inl rfl | exact Or.inr rfl | assumption | omega) ?_
          exact hx1 (if_neg (fun q2 => by have := q2.2; omega))
        · refine ZV_iconst dX6_succeeds_113 ?_
          refine ZV_goto (tgt := 118) dX6_succeeds_114 (by decide) ?_
          refine ZV_zret dX6_succeeds_118 rfl (by first | exact Or.inl rfl | exact Or.inr rfl | assumption | omega) ?_
          exact hx2 A (if_pos ⟨q, by omega⟩) _ _ _ (same A rfl).1 (same A rfl).2
    · rw [if_neg q]
      refine ZV_if_eq (tgt := 117) dX6_succeeds_98 (by decide) ⟨by omega, by omega⟩ (fun h98 => ?_) (fun h98 => ?_)
      · refine ZV_iconst dX6_succeeds_117 ?_
        refine ZV_zret dX6_succeeds_118 rfl (by first | exact Or.inl rfl | exact Or.inr rfl | assumption | omega) ?_
        exact hx1 (if_neg (fun q2 => q q2.1))
      · omega
  · refine ZV_tableIn (tgt := 119) dX6_succeeds_11 ⟨by decide, by decide⟩ (by decide) (by decide) rfl (by decide) ?_
    have e : cmd1 A 6 r = if r < 100 ∧ r ≤ letdN A then some A else none := rfl
    rw [e] at hx1 hx2
    have hl := letdN_rng A
    have el : zsum (fun i => if 0 < klet (keyOf A i) then 1 else 0) (aN A) = letdN A := rfl
    refine ZV_iload_n dX6_succeeds_119 rfl ?_
    refine ZV_bipush dX6_succeeds_120 (by decide) ?_
    refine ZV_icmp_ge (tgt := 137) dX6_succeeds_122 (by decide) ⟨by omega, by omega⟩ ⟨by omega, by omega⟩ (fun h122 => ?_) (fun h122 => ?_)
    · refine ZV_iconst dX6_succeeds_137 ?_
      refine ZV_zret dX6_succeeds_138 rfl (by first | exact Or.inl rfl | exact Or.inr rfl | assumption | omega) ?_
      exact hx1 (if_neg (fun q2 => by have := q2.1; omega))
    · refine ZV_aload_n dX6_succeeds_125 rfl ?_
      refine cl_X3_lettered kX6_succeeds_103 rfl dX6_succeeds_126 (by assumption) (Nat.le_of_ble_eq_true rfl) ?_
      refine sp_X3_lettered hL hA hO hK ?_
      rw [el]
      refine ZV_iload_n dX6_succeeds_129 rfl ?_
      refine ZV_icmp_lt (tgt := 137) dX6_succeeds_130 (by decide) ⟨by omega, by omega⟩ ⟨by omega, by omega⟩ (fun h130 => ?_) (fun h130 => ?_)
      · refine ZV_iconst dX6_succeeds_137 ?_
        refine ZV_zret dX6_succeeds_138 rfl (by first | exact Or.inl rfl | exact Or.inr rfl | assumption | omega) ?_
        exact hx1 (if_neg (fun q2 => by have := q2.2; omega))
      · refine ZV_iconst dX6_succeeds_133 ?_
        refine ZV_goto (tgt := 138) dX6_succeeds_134 (by decide) ?_
        refine ZV_zret dX6_succeeds_138 rfl (by first | exact Or.inl rfl | exact Or.inr rfl | assumption | omega) ?_
        exact hx2 A (if_pos ⟨by omega, by omega⟩) _ _ _ (same A rfl).1 (same A rfl).2
  · refine ZV_tableIn (tgt := 139) dX6_succeeds_11 ⟨by decide, by decide⟩ (by decide) (by decide) rfl (by decide) ?_
    have e : cmd1 A 7 r = if r = 0 then some (aPrint A (keyOf A)) else none := rfl
    rw [e] at hx1 hx2
    refine ZV_aload_n dX6_succeeds_139 rfl ?_
    refine ZV_iload_n dX6_succeeds_140 rfl ?_
    refine cl_X6_prints kX6_succeeds_306 rfl dX6_succeeds_141 (Nat.le_of_ble_eq_true rfl) ?_
    refine sp_X6_prints hL hA hG hK ⟨by omega, by omega⟩ (fun q => ?_) (fun q I' J' hF hI => ?_)
    · refine ZV_zret dX6_succeeds_144 rfl (by first | exact Or.inl rfl | exact Or.inr rfl | assumption | omega) ?_
      exact hx1 (if_neg q)
    · refine ZV_zret dX6_succeeds_144 rfl (by first | exact Or.inl rfl | exact Or.inr rfl | assumption | omega) ?_
      exact hx2 _ (if_pos q) _ _ _ hF hI
  · refine ZV_tableIn (tgt := 145) dX6_succeeds_11 ⟨by decide, by decide⟩ (by decide) (by decide) rfl (by decide) ?_
    have e : cmd1 A 8 r = if r < 100 ∧ prF A 0 ≤ r then some A else none := rfl
    rw [e] at hx1 hx2
    have hl := prF0_rng A
    have hp2 := hO.2.1
    have el : (aPn A : Int) - zsum (fun p => if holdK (keyOf A) (aN A) (aPk A p) = aPo A p then 1 else 0) (aPn A) - zsum (fun p => if holdK (keyOf A) (aN A) (aPk A p) = -9 then 1 else 0) (aPn A) = prF A 0 := rfl
    refine ZV_iload_n dX6_succeeds_145 rfl ?_
    refine ZV_bipush dX6_succeeds_146 (by decide) ?_
    refine ZV_icmp_ge (tgt := 163) dX6_succeeds_148 (by decide) ⟨by omega, by omega⟩ ⟨by omega, by omega⟩ (fun h148 => ?_) (fun h148 => ?_)
    · refine ZV_iconst dX6_succeeds_163 ?_
      refine ZV_zret dX6_succeeds_164 rfl (by first | exact Or.inl rfl | exact Or.inr rfl | assumption | omega) ?_
      exact hx1 (if_neg (fun q2 => by have := q2.1; omega))
    · refine ZV_aload_n dX6_succeeds_151 rfl ?_
      refine cl_X3_printedOfAnother kX6_succeeds_187 rfl dX6_succeeds_152 (by assumption) (Nat.le_of_ble_eq_true rfl) ?_
      refine sp_X3_printedOfAnother hL hA hO hK (fun i hi => (hG.ky i hi).2) hG.pr ?_
      rw [el]
      refine ZV_iload_n dX6_succeeds_155 rfl ?_
      refine ZV_icmp_gt (tgt := 163) dX6_succeeds_156 (by decide) ⟨by omega, by omega⟩ ⟨by omega, by omega⟩ (fun h156 => ?_) (fun h156 => ?_)
      · refine ZV_iconst dX6_succeeds_163 ?_
        refine ZV_zret dX6_succeeds_164 rfl (by first | exact Or.inl rfl | exact Or.inr rfl | assumption | omega) ?_
        exact hx1 (if_neg (fun q2 => by have := q2.2; omega))
      · refine ZV_iconst dX6_succeeds_159 ?_
        refine ZV_goto (tgt := 164) dX6_succeeds_160 (by decide) ?_
        refine ZV_zret dX6_succeeds_164 rfl (by first | exact Or.inl rfl | exact Or.inr rfl | assumption | omega) ?_
        exact hx2 A (if_pos ⟨by omega, by omega⟩) _ _ _ (same A rfl).1 (same A rfl).2
  · refine ZV_tableIn (tgt := 165) dX6_succeeds_11 ⟨by decide, by decide⟩ (by decide) (by decide) rfl (by decide) ?_
    have e : cmd1 A 9 r = if (0 ≤ r / 10 ∧ r / 10 < aN A) ∧ klet (keyOf A (r / 10).toNat) = r % 10 then some A else none := rfl
    rw [e] at hx1 hx2
    refine ZV_aload_n dX6_succeeds_165 rfl ?_
    refine ZV_iload_n dX6_succeeds_166 rfl ?_
    refine ZV_bipush dX6_succeeds_167 (by decide) ?_
    refine ZV_idiv dX6_succeeds_169 ⟨by omega, by omega⟩ ⟨by omega, by omega⟩ (by omega) ?_
    rw [e10]
    refine cl_X3_has kX6_succeeds_278 rfl dX6_succeeds_170 (by assumption) (Nat.le_of_ble_eq_true rfl) ?_
    refine sp_X3_has lt ⟨by omega, by omega⟩ ⟨by omega, by omega⟩ ?_
    rw [e1]
    by_cases q : 0 ≤ r / 10 ∧ r / 10 < aN A
    · rw [if_pos q]
      obtain ⟨n, hn0⟩ : ∃ n : Nat, r / 10 = n := ⟨(r / 10).toNat, by omega⟩
      rw [hn0] at hx1 hx2 q
      rw [Int.toNat_natCast] at hx1 hx2
      have hn : n < aN A := by omega
      have kr := klet_rng (keyOf A n)
      refine ZV_if_eq (tgt := 199) dX6_succeeds_173 (by decide) ⟨by omega, by omega⟩ (fun h173 => ?_) (fun h173 => ?_)
      · omega
      · refine ZV_aload_n dX6_succeeds_176 rfl ?_
        refine ZV_getR fX6_succeeds_140 dX6_succeeds_177 (by assumption) rfl (by assumption) ?_
        refine ZV_iload_n dX6_succeeds_180 rfl ?_
        refine ZV_bipush dX6_succeeds_181 (by decide) ?_
        refine ZV_idiv dX6_succeeds_183 ⟨by omega, by omega⟩ ⟨by omega, by omega⟩ (by omega) ?_
        rw [e10, hn0]
        refine ZV_lald (n) dX6_succeeds_184 (by assumption) (by first | rfl | omega) (by omega) (by omega) ?_
        rw [hK n hn]
        refine cl_X1_letterOf kX6_succeeds_147 rfl dX6_succeeds_185 (Nat.le_of_ble_eq_true rfl) ?_
        refine sp_X1_letterOf ?_
        refine ZV_iload_n dX6_succeeds_188 rfl ?_
        refine ZV_bipush dX6_succeeds_189 (by decide) ?_
        refine ZV_irem dX6_succeeds_191 ⟨by omega, by omega⟩ ⟨by omega, by omega⟩ (by omega) ?_
        rw [m10]
        refine ZV_icmp_ne (tgt := 199) dX6_succeeds_192 (by decide) ⟨by omega, by omega⟩ ⟨by omega, by omega⟩ (fun h192 => ?_) (fun h192 => ?_)
        · refine ZV_iconst dX6_succeeds_199 ?_
          refine ZV_zret dX6_succeeds_200 rfl (by first | exact Or.inl rfl | exact Or.inr rfl | assumption | omega) ?_
          exact hx1 (if_neg (fun q2 => by have := q2.2; omega))
        · refine ZV_iconst dX6_succeeds_195 ?_
          refine ZV_goto (tgt := 200) dX6_succeeds_196 (by decide) ?_
          refine ZV_zret dX6_succeeds_200 rfl (by first | exact Or.inl rfl | exact Or.inr rfl | assumption | omega) ?_
          exact hx2 A (if_pos ⟨q, by omega⟩) _ _ _ (same A rfl).1 (same A rfl).2
    · rw [if_neg q]
      refine ZV_if_eq (tgt := 199) dX6_succeeds_173 (by decide) ⟨by omega, by omega⟩ (fun h173 => ?_) (fun h173 => ?_)
      · refine ZV_iconst dX6_succeeds_199 ?_
        refine ZV_zret dX6_succeeds_200 rfl (by first | exact Or.inl rfl | exact Or.inr rfl | assumption | omega) ?_
        exact hx1 (if_neg (fun q2 => q q2.1))
      · omega
theorem TIn.rekey {t : Nat} {A : ASt} (hT : TIn X g I J t A) (h : ∀ J' z, FrO I I J J' t (t + 38) → StF g I J' t A → post (.inl (some (vi z))) g I J') : ZV X E_X3_rekey 0 [some (.ref t), none, none, none, none] [] b g I J post := by
  obtain ⟨hL, hA, hG, K, hK, hKr⟩ := hT
  refine sp_X3_rekey hL hA hG.1 hK hKr ?_
  intro J' a1 a2 a3 a4
  exact h J' _ (fun q hq => ⟨rfl, a4 q (by omega)⟩) ⟨⟨a1, a3, a2⟩, hG⟩
def sdiv (s : Int) : Nat → Int
  | 0 => s
  | n + 1 => sdiv s n / 10000
theorem sdiv_rng {s : Int} (hs : 0 ≤ s) : ∀ n, 0 ≤ sdiv s n ∧ sdiv s n ≤ s := by
  intro n
  induction n with
  | zero => exact ⟨hs, Int.le_refl s⟩
  | succ n ih => simp only [sdiv]; omega
theorem sp_X6_commandAt {s : Int} {k : Nat} (hs : 0 ≤ s) (hr : r64 s) (hk : k ≤ 4) (h : post (.inl (some (vi (sdiv s k % 10000)))) g I J) : ZV X E_X6_commandAt 0 [some (vl s), none, some (vi (k : Int)), none, none, none] [] b g I J post := by
  obtain ⟨r1, r2⟩ := hr
  refine ZV_lload_n dX6_commandAt_0 rfl ?_
  refine ZV_lstore3 dX6_commandAt_1 rfl (by decide) ?_
  refine ZV_iconst dX6_commandAt_2 ?_
  refine ZV_istore5 dX6_commandAt_3 rfl (by decide) ?_
  have key : ∀ q : Nat, q ≤ k → ∀ z v : Int, z = (q : Int) → v = sdiv s q → ZV X E_X6_commandAt 5 [some (vl s), none, some (vi (k : Int)), some (vl v), none, some (vi z)] [] b g I J post := by
    refine loop_up k ?_ ?_
    · intro z v hz hv
      have hb := sdiv_rng hs k
      rw [← hv] at hb h
      refine ZV_iload dX6_commandAt_5 rfl ?_
      refine ZV_iload_n dX6_commandAt_7 rfl ?_
      refine ZV_icmp_ge (tgt := 23) dX6_commandAt_8 (by decide) ⟨by omega, by omega⟩ ⟨by omega, by omega⟩ (fun h8 => ?_) (fun h8 => ?_)
      · refine ZV_lload_n dX6_commandAt_23 rfl ?_
        refine ZV_ldc2 (z := 10000) dX6_commandAt_24 lX6_commandAt_250 ?_
        refine ZV_lrem dX6_commandAt_27 ⟨by omega, by omega⟩ ⟨by omega, by omega⟩ (by omega) ?_
        rw [Int.tmod_eq_emod_of_nonneg (by omega)]
        refine ZV_l2i dX6_commandAt_28 ?_
        refine ZV_iret dX6_commandAt_29 rfl ?_
        exact h
      · omega
    · intro q hq ih z v hz hv
      have hb := sdiv_rng hs q
      rw [← hv] at hb
      refine ZV_iload dX6_commandAt_5 rfl ?_
      refine ZV_iload_n dX6_commandAt_7 rfl ?_
      refine ZV_icmp_ge (tgt := 23) dX6_commandAt_8 (by decide) ⟨by omega, by omega⟩ ⟨by omega, by omega⟩ (fun h8 => ?_) (fun h8 => ?_)
      · omega
      · refine ZV_lload_n dX6_commandAt_11 rfl ?_
        refine ZV_ldc2 (z := 10000) dX6_commandAt_12 lX6_commandAt_250 ?_
        refine ZV_ldiv dX6_commandAt_15 ⟨by omega, by omega⟩ ⟨by omega, by omega⟩ (by omega) ?_
        rw [Int.tdiv_eq_ediv_of_nonneg (by omega)]
        refine ZV_lstore3 dX6_commandAt_16 rfl (by decide) ?_
        refine ZV_jinc5 dX6_commandAt_17 rfl (by decide) ?_
        refine ZV_goto (tgt := 5) dX6_commandAt_20 (by decide) ?_
        exact ih _ _ (by omega) (by simp only [sdiv]; rw [hv])
  exact key 0 (by omega) _ _ rfl rfl
end ZA8

