/-! the reference: scripts, simulations, save slots -/
theorem sdiv_10 (s : Int) : ∀ k : Nat, k ≤ 3 → sdiv s k = s / (10 : Int) ^ (4 * k)
  | 0, _ => by show s = s / 1; omega
  | 1, _ => by show s / 10000 = s / 10000; rfl
  | 2, _ => by show s / 10000 / 10000 = s / 100000000; omega
  | 3, _ => by show s / 10000 / 10000 / 10000 = s / 1000000000000; omega
  | k + 4, h => by omega
theorem un_10 : ∀ n : Nat, n ≤ 4 → un n = (10 : Int) ^ (4 * n)
  | 0, _ => rfl
  | 1, _ => rfl
  | 2, _ => rfl
  | 3, _ => rfl
  | 4, _ => rfl
  | n + 5, h => by omega
theorem p10_rng : ∀ n : Nat, n ≤ 16 → 1 ≤ (10 : Int) ^ n ∧ (10 : Int) ^ n ≤ 10000000000000000 := by
  intro n hn
  have h1 : ∀ k : Nat, 1 ≤ (10 : Int) ^ k := fun k => Int.pow_pos (by decide)
  refine ⟨h1 n, ?_⟩
  have e : (10000000000000000 : Int) = 10 ^ n * 10 ^ (16 - n) := by
    rw [← Int.pow_add, show n + (16 - n) = 16 by omega]; rfl
  rw [e]
  have := Int.mul_le_mul_of_nonneg_left (h1 (16 - n)) (show 0 ≤ (10 : Int) ^ n by have := h1 n; omega)
  omega
section ZM16
variable {X : Xt} {g : Geo} {I J : Mm} {b : Nat × Nat} {post : Out → Geo → Mm → Mm → Prop}
theorem sp_X7_has {r : Nat} {i : Int} {n : Nat} (hk : ksh X g r = some (.inr (0, 980))) (h0 : I r 0 = (n : Int)) (hn : n ≤ 16) (hi : 0 ≤ i ∧ i ≤ 1000) (h : post (.inl (some (vi (if 0 ≤ i ∧ i < (n : Int) then 1 else 0)))) g I J) : ZV X E_X7_has 0 [some (.ref r), some (vi i)] [] b g I J post := by
  refine ZV_iload_n dX7_has_0 rfl ?_
  refine ZV_aload_n dX7_has_1 rfl ?_
  refine ZV_iconst dX7_has_2 ?_
  refine ZV_iald (0) dX7_has_3 (by assumption) (by first | rfl | omega) (by omega) (by omega) ?_
  rw [h0]
  refine ZV_icmp_ge (tgt := 11) dX7_has_4 (by decide) ⟨by omega, by omega⟩ ⟨by omega, by omega⟩ (fun h4 => ?_) (fun h4 => ?_)
  · refine ZV_iconst dX7_has_11 ?_
    refine ZV_zret dX7_has_12 rfl (by first | exact Or.inl rfl | exact Or.inr rfl | assumption | omega) ?_
    rw [if_neg (by omega)] at h
    exact h
  · refine ZV_iconst dX7_has_7 ?_
    refine ZV_goto (tgt := 12) dX7_has_8 (by decide) ?_
    refine ZV_zret dX7_has_12 rfl (by first | exact Or.inl rfl | exact Or.inr rfl | assumption | omega) ?_
    rw [if_pos ⟨by omega, by omega⟩] at h
    exact h
theorem sp_X7_does {m : Nat} {k : Int} {A : ASt} (hL : ML X g m) (hR : MR (I (m + 4)) A) (hG : GoodSt A) (hk : 0 ≤ k ∧ k < 10000) (hx1 : cmdF A k = none → ∀ I', (∀ q, (q < m + 8 ∨ m + 14 ≤ q) → q ≠ m + 4 → I' q = I q) → post (.inl (some (vi 0))) g I' J) (hx2 : ∀ A', cmdF A k = some A' → GoodSt A' → ∀ I', (∀ q, (q < m + 8 ∨ m + 14 ≤ q) → q ≠ m + 4 → I' q = I q) → MR (I' (m + 4)) A' → post (.inl (some (vi 1))) g I' J) : ZV X E_X7_does 0 [some (.ref m), some (vi k), none, none, none, none, none] [] b g I J post := by
  obtain ⟨l0, ⟨p1, p2, p3, p4, p5, p6, p7⟩, ⟨l1, l2, l3, l4, l5, l6⟩, ⟨j1, j2, j3, j4, j5, j6, j7⟩, ⟨k1, k2, k3, k4, k5, k6⟩⟩ := id hL
  have h16 := hG.1.1
  unfold cmdF at hx1 hx2
  obtain ⟨d, hd⟩ : ∃ d, d = k / 1000 := ⟨_, rfl⟩
  obtain ⟨r, hr⟩ : ∃ r, r = k % 1000 := ⟨_, rfl⟩
  rw [← hd, ← hr] at hx1 hx2
  have hrr : 0 ≤ r ∧ r < 1000 := by omega
  have ed : k.tdiv 1000 = d := by rw [Int.tdiv_eq_ediv_of_nonneg (by omega)]; omega
  have e1 : k.tdiv 100 = k / 100 := Int.tdiv_eq_ediv_of_nonneg (by omega)
  have e2 : (k / 100).tmod 10 = r / 100 := by rw [Int.tmod_eq_emod_of_nonneg (by omega)]; omega
  have e3 : k.tmod 100 = r % 100 := by rw [Int.tmod_eq_emod_of_nonneg (by omega)]; omega
  have e4 : k.tdiv 10 = k / 10 := Int.tdiv_eq_ediv_of_nonneg (by omega)
  have e5 : (k / 10).tmod 100 = r / 10 := by rw [Int.tmod_eq_emod_of_nonneg (by omega)]; omega
  have e6 : k.tmod 10 = r % 10 := by rw [Int.tmod_eq_emod_of_nonneg (by omega)]; omega
  have hdc : d = 0 ∨ d = 1 ∨ d = 2 ∨ d = 3 ∨ d = 4 ∨ d = 5 ∨ d = 6 ∨ d = 7 ∨ d = 8 ∨ d = 9 := by omega
  have hkd : k = 1000 * d + r := by omega
  refine ZV_iload_n dX7_does_0 rfl ?_
  refine ZV_sipush dX7_does_1 (by decide) ?_
  refine ZV_idiv dX7_does_4 ⟨by omega, by omega⟩ ⟨by omega, by omega⟩ (by omega) ?_
  rw [ed]
  refine ZV_istore2 dX7_does_5 rfl (by decide) ?_
  refine ZV_iload_n dX7_does_6 rfl ?_
  refine ZV_bipush dX7_does_7 (by decide) ?_
  refine ZV_idiv dX7_does_9 ⟨by omega, by omega⟩ ⟨by omega, by omega⟩ (by omega) ?_
  rw [e1]
  refine ZV_bipush dX7_does_10 (by decide) ?_
  refine ZV_irem dX7_does_12 ⟨by omega, by omega⟩ ⟨by omega, by omega⟩ (by omega) ?_
  rw [e2]
  refine ZV_istore3 dX7_does_13 rfl (by decide) ?_
  refine ZV_iload_n dX7_does_14 rfl ?_
  refine ZV_bipush dX7_does_15 (by decide) ?_
  refine ZV_irem dX7_does_17 ⟨by omega, by omega⟩ ⟨by omega, by omega⟩ (by omega) ?_
  rw [e3]
  refine ZV_istore4 dX7_does_18 rfl (by decide) ?_
  refine ZV_iload_n dX7_does_20 rfl ?_
  refine ZV_bipush dX7_does_21 (by decide) ?_
  refine ZV_idiv dX7_does_23 ⟨by omega, by omega⟩ ⟨by omega, by omega⟩ (by omega) ?_
  rw [e4]
  refine ZV_bipush dX7_does_24 (by decide) ?_
  refine ZV_irem dX7_does_26 ⟨by omega, by omega⟩ ⟨by omega, by omega⟩ (by omega) ?_
  rw [e5]
  refine ZV_istore5 dX7_does_27 rfl (by decide) ?_
  refine ZV_iload_n dX7_does_29 rfl ?_
  refine ZV_bipush dX7_does_30 (by decide) ?_
  refine ZV_irem dX7_does_32 ⟨by omega, by omega⟩ ⟨by omega, by omega⟩ (by omega) ?_
  rw [e6]
  refine ZV_istore6 dX7_does_33 rfl (by decide) ?_
  refine ZV_aload_n dX7_does_35 rfl ?_
  refine ZV_aload_n dX7_does_36 rfl ?_
  refine ZV_getR fX7_does_19 dX7_does_37 (by assumption) rfl (by assumption) ?_
  refine ZV_aload_n dX7_does_40 rfl ?_
  refine ZV_getR fX7_does_19 dX7_does_41 (by assumption) rfl (by assumption) ?_
  refine ZV_iconst dX7_does_44 ?_
  refine ZV_iald (1) dX7_does_45 (by assumption) (by first | rfl | omega) (by omega) (by omega) ?_
  rw [hR.1.2.1]
  refine cl_X7_lay kX7_does_108 rfl dX7_does_46 (by assumption) (Nat.le_of_ble_eq_true rfl) ?_
  refine sp_X7_lay hL (Or.inr rfl) hR hG hG.1.2.2.1 ?_
  intro I1 hF hLd0
  have hLd : Laid I1 m A := hLd0
  have e4r : I1 (m + 4) = I (m + 4) := hF _ (by omega) (by omega) (by omega) (by omega) (by omega)
  have hR1 : MR (I1 (m + 4)) A := by rw [e4r]; exact hR
  have fr : ∀ q, (q < m + 8 ∨ m + 14 ≤ q) → q ≠ m + 4 → I1 q = I q := fun q hq _ => hF q (by omega) (by omega) (by omega) (by omega) (by omega)
  have r0 := hR1.1.1
  have no : cmd1 A d r = none → post (.inl (some (vi 0))) g I1 J := fun e => hx1 e I1 fr
  have same : cmd1 A d r = some A → post (.inl (some (vi 1))) g I1 J := fun e => hx2 A e hG I1 fr hR1
  refine ZV_iload_n dX7_does_49 rfl ?_
  clear hd hr
  rcases hdc with rfl | rfl | rfl | rfl | rfl | rfl | rfl | rfl | rfl | rfl
  · refine ZV_tableOut (tgt := 364) dX7_does_50 ⟨by omega, by omega⟩ (by omega) (by decide) ?_
    refine ZV_iconst dX7_does_364 ?_
    refine ZV_zret dX7_does_365 rfl (by first | exact Or.inl rfl | exact Or.inr rfl | assumption | omega) ?_
    exact no rfl
  · refine ZV_tableIn (tgt := 100) dX7_does_50 ⟨by decide, by decide⟩ (by decide) (by decide) rfl (by decide) ?_
    have e : cmd1 A 1 r = if 0 ≤ r ∧ r < aN A then some (aTake A r.toNat) else none := rfl
    rw [e] at no hx2
    refine ZV_iload_n dX7_does_100 rfl ?_
    refine ZV_if_ne (tgt := 116) dX7_does_101 (by decide) ⟨by omega, by omega⟩ (fun h101 => ?_) (fun h101 => ?_)
    · refine ZV_iconst dX7_does_116 ?_
      refine ZV_zret dX7_does_117 rfl (by first | exact Or.inl rfl | exact Or.inr rfl | assumption | omega) ?_
      exact no (if_neg (by omega))
    · refine ZV_aload_n dX7_does_104 rfl ?_
      refine ZV_getR fX7_does_19 dX7_does_105 (by assumption) rfl (by assumption) ?_
      refine ZV_iload dX7_does_108 rfl ?_
      refine cl_X7_has kX7_does_238 rfl dX7_does_110 (Nat.le_of_ble_eq_true rfl) ?_
      refine sp_X7_has j4 r0 h16 ⟨by omega, by omega⟩ ?_
      by_cases c : 0 ≤ r % 100 ∧ r % 100 < aN A
      · rw [if_pos c]
        obtain ⟨n, hn⟩ : ∃ n : Nat, r = n := ⟨r.toNat, by omega⟩
        have hx := hx2 (aTake A n) (by rw [hn, if_pos ⟨by omega, by omega⟩, Int.toNat_natCast]) (hG.take (by omega))
        refine ZV_if_ne (tgt := 118) dX7_does_113 (by decide) ⟨by omega, by omega⟩ (fun h113 => ?_) (fun h113 => ?_)
        · refine ZV_aload_n dX7_does_118 rfl ?_
          refine ZV_getR fX7_does_19 dX7_does_119 (by assumption) rfl (by assumption) ?_
          refine ZV_iload dX7_does_122 rfl ?_
          rw [show r % 100 = (n : Int) by omega]
          refine cl_X7_drop kX7_does_214 rfl dX7_does_124 (Nat.le_of_ble_eq_true rfl) ?_
          refine sp_X7_drop j4 hR1 hG (by omega) ?_
          intro I2 hI2 hR2
          refine ZV_iconst dX7_does_127 ?_
          refine ZV_zret dX7_does_128 rfl (by first | exact Or.inl rfl | exact Or.inr rfl | assumption | omega) ?_
          exact hx I2 (fun q h1 h2 => (hI2 q h2).trans (fr q h1 h2)) hR2
        · omega
      · rw [if_neg c]
        refine ZV_if_ne (tgt := 118) dX7_does_113 (by decide) ⟨by omega, by omega⟩ (fun h113 => ?_) (fun h113 => ?_)
        · omega
        · refine ZV_iconst dX7_does_116 ?_
          refine ZV_zret dX7_does_117 rfl (by first | exact Or.inl rfl | exact Or.inr rfl | assumption | omega) ?_
          exact no (if_neg (by omega))
  · refine ZV_tableIn (tgt := 129) dX7_does_50 ⟨by decide, by decide⟩ (by decide) (by decide) rfl (by decide) ?_
    have e : cmd1 A 2 r = if 0 ≤ r ∧ r < 4 then some (aSty A r) else none := rfl
    rw [e] at no hx2
    refine ZV_iload_n dX7_does_129 rfl ?_
    refine ZV_if_ne (tgt := 141) dX7_does_130 (by decide) ⟨by omega, by omega⟩ (fun h130 => ?_) (fun h130 => ?_)
    · refine ZV_iconst dX7_does_141 ?_
      refine ZV_zret dX7_does_142 rfl (by first | exact Or.inl rfl | exact Or.inr rfl | assumption | omega) ?_
      exact no (if_neg (by omega))
    · refine ZV_iload dX7_does_133 rfl ?_
      refine cl_X7_isStyle kX7_does_219 rfl dX7_does_135 (Nat.le_of_ble_eq_true rfl) ?_
      refine sp_X7_isStyle ⟨by omega, by omega⟩ ?_
      by_cases c : 0 ≤ r % 100 ∧ r % 100 < 4
      · rw [if_pos c]
        have hx := hx2 (aSty A r) (if_pos ⟨by omega, by omega⟩) (hG.sty ⟨by omega, by omega⟩)
        refine ZV_if_ne (tgt := 143) dX7_does_138 (by decide) ⟨by omega, by omega⟩ (fun h138 => ?_) (fun h138 => ?_)
        · refine ZV_aload_n dX7_does_143 rfl ?_
          refine ZV_getR fX7_does_19 dX7_does_144 (by assumption) rfl (by assumption) ?_
          refine ZV_iconst dX7_does_147 ?_
          refine ZV_iload dX7_does_148 rfl ?_
          refine ZV_iast (1) dX7_does_150 (by assumption) (by first | rfl | omega) (by omega) (by omega) ?_
          refine ZV_iconst dX7_does_151 ?_
          refine ZV_zret dX7_does_152 rfl (by first | exact Or.inl rfl | exact Or.inr rfl | assumption | omega) ?_
          exact hx _ (fun q h1 h2 => (up2_row _ _ h2).trans (fr q h1 h2)) (hR1.sty hG _ (by rw [up2_same]; omega) (fun k hk => up2_k hk))
        · omega
      · rw [if_neg c]
        refine ZV_if_ne (tgt := 143) dX7_does_138 (by decide) ⟨by omega, by omega⟩ (fun h138 => ?_) (fun h138 => ?_)
        · omega
        · refine ZV_iconst dX7_does_141 ?_
          refine ZV_zret dX7_does_142 rfl (by first | exact Or.inl rfl | exact Or.inr rfl | assumption | omega) ?_
          exact no (if_neg (by omega))
  · refine ZV_tableIn (tgt := 153) dX7_does_50 ⟨by decide, by decide⟩ (by decide) (by decide) rfl (by decide) ?_
    have e : cmd1 A 3 r = if 0 ≤ r ∧ r < 2 then some (aOrd A r) else none := rfl
    rw [e] at no hx2
    refine ZV_iload_n dX7_does_153 rfl ?_
    refine ZV_if_ne (tgt := 163) dX7_does_154 (by decide) ⟨by omega, by omega⟩ (fun h154 => ?_) (fun h154 => ?_)
    · refine ZV_iconst dX7_does_163 ?_
      refine ZV_zret dX7_does_164 rfl (by first | exact Or.inl rfl | exact Or.inr rfl | assumption | omega) ?_
      exact no (if_neg (by omega))
    · refine ZV_iload dX7_does_157 rfl ?_
      refine ZV_iconst dX7_does_159 ?_
      refine ZV_icmp_le (tgt := 165) dX7_does_160 (by decide) ⟨by omega, by omega⟩ ⟨by omega, by omega⟩ (fun h160 => ?_) (fun h160 => ?_)
      · have hx := hx2 (aOrd A r) (if_pos ⟨by omega, by omega⟩) (hG.ord (by omega))
        refine ZV_aload_n dX7_does_165 rfl ?_
        refine ZV_getR fX7_does_19 dX7_does_166 (by assumption) rfl (by assumption) ?_
        refine ZV_iconst dX7_does_169 ?_
        refine ZV_iload dX7_does_170 rfl ?_
        refine ZV_iast (2) dX7_does_172 (by assumption) (by first | rfl | omega) (by omega) (by omega) ?_
        refine ZV_iconst dX7_does_173 ?_
        refine ZV_zret dX7_does_174 rfl (by first | exact Or.inl rfl | exact Or.inr rfl | assumption | omega) ?_
        exact hx _ (fun q h1 h2 => (up2_row _ _ h2).trans (fr q h1 h2)) (hR1.ord hG _ (by rw [up2_same]; omega) (fun k hk => up2_k hk))
      · refine ZV_iconst dX7_does_163 ?_
        refine ZV_zret dX7_does_164 rfl (by first | exact Or.inl rfl | exact Or.inr rfl | assumption | omega) ?_
        exact no (if_neg (by omega))
  · refine ZV_tableIn (tgt := 175) dX7_does_50 ⟨by decide, by decide⟩ (by decide) (by decide) rfl (by decide) ?_
    have e : cmd1 A 4 r = if (0 ≤ r / 10 ∧ r / 10 < aN A) ∧ (1000 ≤ (aW A (r / 10).toNat).2.2.1 + (r % 10 - 5) ∧ (aW A (r / 10).toNat).2.2.1 + (r % 10 - 5) ≤ 2999) then some (aSet A (r / 10).toNat (yrW (aW A (r / 10).toNat) ((aW A (r / 10).toNat).2.2.1 + (r % 10 - 5)))) else none := rfl
    rw [e] at no hx2
    refine ZV_aload_n dX7_does_175 rfl ?_
    refine ZV_getR fX7_does_19 dX7_does_176 (by assumption) rfl (by assumption) ?_
    refine ZV_iload dX7_does_179 rfl ?_
    refine cl_X7_has kX7_does_238 rfl dX7_does_181 (Nat.le_of_ble_eq_true rfl) ?_
    refine sp_X7_has j4 r0 h16 ⟨by omega, by omega⟩ ?_
    by_cases c : 0 ≤ r / 10 ∧ r / 10 < aN A
    · rw [if_pos c]
      obtain ⟨n, hn⟩ : ∃ n : Nat, r / 10 = n := ⟨(r / 10).toNat, by omega⟩
      rw [hn, Int.toNat_natCast] at no hx2
      rw [hn]
      have hn2 : n < aN A := by omega
      have hyr := (hG.2.1 n hn2).2.2.2.1
      obtain ⟨⟨v1, v2⟩, v3, v4⟩ := hR1.2.1 n hn2
      have v1' : I1 (m + 4) (4 + 47 * n + 0) = (aW A n).2.2.1 := v1
      refine ZV_if_eq (tgt := 209) dX7_does_184 (by decide) ⟨by omega, by omega⟩ (fun h184 => ?_) (fun h184 => ?_)
      · omega
      · refine ZV_aload_n dX7_does_187 rfl ?_
        refine ZV_getR fX7_does_19 dX7_does_188 (by assumption) rfl (by assumption) ?_
        refine ZV_iload dX7_does_191 rfl ?_
        refine ZV_iconst dX7_does_193 ?_
        refine cl_X7_cell kX7_does_67 rfl dX7_does_194 (Nat.le_of_ble_eq_true rfl) ?_
        refine sp_X7_cell ?_
        refine ZV_iald (4 + 47 * n + 0) dX7_does_197 (by assumption) (by first | rfl | omega) (by omega) (by omega) ?_
        rw [v1']
        refine ZV_iload dX7_does_198 rfl ?_
        refine ZV_iadd dX7_does_200 ?_
        refine ZV_iconst dX7_does_201 ?_
        refine ZV_isub dX7_does_202 ?_
        refine cl_X7_isYear kX7_does_211 rfl dX7_does_203 (Nat.le_of_ble_eq_true rfl) ?_
        refine sp_X7_isYear ⟨by omega, by omega⟩ ?_
        by_cases c2 : 1000 ≤ (aW A n).2.2.1 + r % 10 - 5 ∧ (aW A n).2.2.1 + r % 10 - 5 ≤ 2999
        · rw [if_pos c2]
          have hy2 : 1000 ≤ (aW A n).2.2.1 + (r % 10 - 5) ∧ (aW A n).2.2.1 + (r % 10 - 5) ≤ 2999 := ⟨by omega, by omega⟩
          have hx := hx2 _ (if_pos ⟨by omega, hy2⟩) (hG.set ((hG.2.1 n hn2).yr hy2))
          refine ZV_if_ne (tgt := 211) dX7_does_206 (by decide) ⟨by omega, by omega⟩ (fun h206 => ?_) (fun h206 => ?_)
          · refine ZV_aload_n dX7_does_211 rfl ?_
            refine ZV_getR fX7_does_19 dX7_does_212 (by assumption) rfl (by assumption) ?_
            refine ZV_iload dX7_does_215 rfl ?_
            refine ZV_iconst dX7_does_217 ?_
            refine cl_X7_cell kX7_does_67 rfl dX7_does_218 (Nat.le_of_ble_eq_true rfl) ?_
            refine sp_X7_cell ?_
            first | refine ZV_dup2 dX7_does_221 rfl rfl ?_ | refine ZV_dup2l dX7_does_221 rfl ?_
            refine ZV_iald (4 + 47 * n + 0) dX7_does_222 (by assumption) (by first | rfl | omega) (by omega) (by omega) ?_
            rw [v1']
            refine ZV_iload dX7_does_223 rfl ?_
            refine ZV_iconst dX7_does_225 ?_
            refine ZV_isub dX7_does_226 ?_
            refine ZV_iadd dX7_does_227 ?_
            refine ZV_iast (4 + 47 * n + 0) dX7_does_228 (by assumption) (by first | rfl | omega) (by omega) (by omega) ?_
            refine ZV_iconst dX7_does_229 ?_
            refine ZV_zret dX7_does_230 rfl (by first | exact Or.inl rfl | exact Or.inr rfl | assumption | omega) ?_
            refine hx _ (fun q h1 h2 => (up2_row _ _ h2).trans (fr q h1 h2)) (MR.set hR1 hG hn2 (fun k e1 e2 => up2_k (by omega)) ?_)
            exact ⟨⟨by rw [show 4 + 47 * n = 4 + 47 * n + 0 by omega, up2_same]; rfl, by rw [up2_k (by omega)]; exact v2⟩, fun a ha => (v3 a ha).move (fun k hk => up2_k (by omega)), v4.move (fun k hk => up2_k (by omega))⟩
          · omega
        · rw [if_neg c2]
          refine ZV_if_ne (tgt := 211) dX7_does_206 (by decide) ⟨by omega, by omega⟩ (fun h206 => ?_) (fun h206 => ?_)
          · omega
          · refine ZV_iconst dX7_does_209 ?_
            refine ZV_zret dX7_does_210 rfl (by first | exact Or.inl rfl | exact Or.inr rfl | assumption | omega) ?_
            exact no (if_neg (fun q => c2 ⟨by have := q.2.1; omega, by have := q.2.2; omega⟩))
    · rw [if_neg c]
      refine ZV_if_eq (tgt := 209) dX7_does_184 (by decide) ⟨by omega, by omega⟩ (fun h184 => ?_) (fun h184 => ?_)
      · refine ZV_iconst dX7_does_209 ?_
        refine ZV_zret dX7_does_210 rfl (by first | exact Or.inl rfl | exact Or.inr rfl | assumption | omega) ?_
        exact no (if_neg (fun q => c q.1))
      · omega
  · refine ZV_tableIn (tgt := 231) dX7_does_50 ⟨by decide, by decide⟩ (by decide) (by decide) rfl (by decide) ?_
    have e : cmd1 A 5 r = if (0 ≤ r ∧ r < aN A) ∧ 0 < klet (keyOf A r.toNat) then some A else none := rfl
    rw [e] at no same
    refine ZV_iload_n dX7_does_231 rfl ?_
    refine ZV_if_ne (tgt := 261) dX7_does_232 (by decide) ⟨by omega, by omega⟩ (fun h232 => ?_) (fun h232 => ?_)
    · refine ZV_iconst dX7_does_261 ?_
      refine ZV_zret dX7_does_262 rfl (by first | exact Or.inl rfl | exact Or.inr rfl | assumption | omega) ?_
      exact no (if_neg (by omega))
    · refine ZV_aload_n dX7_does_235 rfl ?_
      refine ZV_getR fX7_does_19 dX7_does_236 (by assumption) rfl (by assumption) ?_
      refine ZV_iload dX7_does_239 rfl ?_
      refine cl_X7_has kX7_does_238 rfl dX7_does_241 (Nat.le_of_ble_eq_true rfl) ?_
      refine sp_X7_has j4 r0 h16 ⟨by omega, by omega⟩ ?_
      by_cases c : 0 ≤ r % 100 ∧ r % 100 < aN A
      · rw [if_pos c]
        obtain ⟨n, hn⟩ : ∃ n : Nat, r = n := ⟨r.toNat, by omega⟩
        rw [hn, Int.toNat_natCast] at no same
        have hn2 : n < aN A := by omega
        have v2 := (hLd n hn2).2.1
        rw [klet_key hG hn2] at no same
        have lr := letOf_rng hG.1 n
        refine ZV_if_eq (tgt := 261) dX7_does_244 (by decide) ⟨by omega, by omega⟩ (fun h244 => ?_) (fun h244 => ?_)
        · omega
        · refine ZV_aload_n dX7_does_247 rfl ?_
          refine ZV_getR fX7_does_35 dX7_does_248 (by assumption) rfl (by assumption) ?_
          refine ZV_iload dX7_does_251 rfl ?_
          refine ZV_iald (n) dX7_does_253 (by assumption) (by first | rfl | omega) (by omega) (by omega) ?_
          rw [v2]
          refine ZV_if_le (tgt := 261) dX7_does_254 (by decide) ⟨by omega, by omega⟩ (fun h254 => ?_) (fun h254 => ?_)
          · refine ZV_iconst dX7_does_261 ?_
            refine ZV_zret dX7_does_262 rfl (by first | exact Or.inl rfl | exact Or.inr rfl | assumption | omega) ?_
            exact no (if_neg (fun q => by have := q.2; omega))
          · refine ZV_iconst dX7_does_257 ?_
            refine ZV_goto (tgt := 262) dX7_does_258 (by decide) ?_
            refine ZV_zret dX7_does_262 rfl (by first | exact Or.inl rfl | exact Or.inr rfl | assumption | omega) ?_
            exact same (if_pos ⟨⟨by omega, by omega⟩, by omega⟩)
      · rw [if_neg c]
        refine ZV_if_eq (tgt := 261) dX7_does_244 (by decide) ⟨by omega, by omega⟩ (fun h244 => ?_) (fun h244 => ?_)
        · refine ZV_iconst dX7_does_261 ?_
          refine ZV_zret dX7_does_262 rfl (by first | exact Or.inl rfl | exact Or.inr rfl | assumption | omega) ?_
          exact no (if_neg (fun q => c ⟨by omega, by have := q.1; omega⟩))
        · omega
  · refine ZV_tableIn (tgt := 263) dX7_does_50 ⟨by decide, by decide⟩ (by decide) (by decide) rfl (by decide) ?_
    have e : cmd1 A 6 r = if r < 100 ∧ r ≤ letdN A then some A else none := rfl
    rw [e] at no same
    have hl := letdN_rng A
    refine ZV_iload_n dX7_does_263 rfl ?_
    refine ZV_if_ne (tgt := 289) dX7_does_264 (by decide) ⟨by omega, by omega⟩ (fun h264 => ?_) (fun h264 => ?_)
    · refine ZV_iconst dX7_does_289 ?_
      refine ZV_zret dX7_does_290 rfl (by first | exact Or.inl rfl | exact Or.inr rfl | assumption | omega) ?_
      exact no (if_neg (by omega))
    · refine ZV_aload_n dX7_does_267 rfl ?_
      refine ZV_getR fX7_does_35 dX7_does_268 (by assumption) rfl (by assumption) ?_
      refine ZV_aload_n dX7_does_271 rfl ?_
      refine ZV_getR fX7_does_19 dX7_does_272 (by assumption) rfl (by assumption) ?_
      refine ZV_iconst dX7_does_275 ?_
      refine ZV_iald (0) dX7_does_276 (by assumption) (by first | rfl | omega) (by omega) (by omega) ?_
      rw [r0]
      refine cl_X7_lettered kX7_does_170 rfl dX7_does_277 (Nat.le_of_ble_eq_true rfl) ?_
      refine sp_X7_lettered k2 h16 (fun i hi => by
        have := letOf_rng hG.1 i
        rw [(hLd i hi).2.1]; omega) ?_
      have el : zsum (fun i => if 0 < I1 (m + 9) i then 1 else 0) (aN A) = letdN A := zsum_congr _ fun i hi => by
        show (if 0 < I1 (m + 9) i then (1 : Int) else 0) = if 0 < klet (keyOf A i) then 1 else 0
        rw [klet_key hG hi, (hLd i hi).2.1]
      rw [el]
      refine ZV_iload dX7_does_280 rfl ?_
      refine ZV_icmp_lt (tgt := 289) dX7_does_282 (by decide) ⟨by omega, by omega⟩ ⟨by omega, by omega⟩ (fun h282 => ?_) (fun h282 => ?_)
      · refine ZV_iconst dX7_does_289 ?_
        refine ZV_zret dX7_does_290 rfl (by first | exact Or.inl rfl | exact Or.inr rfl | assumption | omega) ?_
        exact no (if_neg (by omega))
      · refine ZV_iconst dX7_does_285 ?_
        refine ZV_goto (tgt := 290) dX7_does_286 (by decide) ?_
        refine ZV_zret dX7_does_290 rfl (by first | exact Or.inl rfl | exact Or.inr rfl | assumption | omega) ?_
        exact same (if_pos ⟨by omega, by omega⟩)
  · refine ZV_tableIn (tgt := 291) dX7_does_50 ⟨by decide, by decide⟩ (by decide) (by decide) rfl (by decide) ?_
    have e : cmd1 A 7 r = if r = 0 then some (aPrint A (keyOf A)) else none := rfl
    rw [e] at no hx2
    refine ZV_iload_n dX7_does_291 rfl ?_
    refine ZV_sipush dX7_does_292 (by decide) ?_
    refine ZV_icmp_eq (tgt := 300) dX7_does_295 (by decide) ⟨by omega, by omega⟩ ⟨by omega, by omega⟩ (fun h295 => ?_) (fun h295 => ?_)
    · refine ZV_aload_n dX7_does_300 rfl ?_
      refine ZV_aload_n dX7_does_301 rfl ?_
      refine ZV_getR fX7_does_19 dX7_does_302 (by assumption) rfl (by assumption) ?_
      refine cl_X7_goPrint kX7_does_222 rfl dX7_does_305 (by assumption) (Nat.le_of_ble_eq_true rfl) ?_
      refine sp_X7_goPrint hL (Or.inr rfl) hR1 hG ?_
      intro I2 hI2 hR2
      refine ZV_iconst dX7_does_308 ?_
      refine ZV_zret dX7_does_309 rfl (by first | exact Or.inl rfl | exact Or.inr rfl | assumption | omega) ?_
      exact hx2 _ (if_pos (by omega)) hG.print I2 (fun q h1 h2 => (hI2 q h2 (by omega) (by omega) (by omega) (by omega) (by omega)).trans (fr q h1 h2)) hR2
    · refine ZV_iconst dX7_does_298 ?_
      refine ZV_zret dX7_does_299 rfl (by first | exact Or.inl rfl | exact Or.inr rfl | assumption | omega) ?_
      exact no (if_neg (by omega))
  · refine ZV_tableIn (tgt := 310) dX7_does_50 ⟨by decide, by decide⟩ (by decide) (by decide) rfl (by decide) ?_
    have e : cmd1 A 8 r = if r < 100 ∧ prF A 0 ≤ r then some A else none := rfl
    rw [e] at no hx1 hx2
    have hl := prF0_rng A
    have hp2 := hG.1.2.1
    refine ZV_iload_n dX7_does_310 rfl ?_
    refine ZV_if_ne (tgt := 332) dX7_does_311 (by decide) ⟨by omega, by omega⟩ (fun h311 => ?_) (fun h311 => ?_)
    · refine ZV_iconst dX7_does_332 ?_
      refine ZV_zret dX7_does_333 rfl (by first | exact Or.inl rfl | exact Or.inr rfl | assumption | omega) ?_
      exact no (if_neg (by omega))
    · refine ZV_aload_n dX7_does_314 rfl ?_
      refine ZV_aload_n dX7_does_315 rfl ?_
      refine ZV_getR fX7_does_19 dX7_does_316 (by assumption) rfl (by assumption) ?_
      refine ZV_iconst dX7_does_319 ?_
      refine cl_X7_printedOf kX7_does_192 rfl dX7_does_320 (by assumption) (Nat.le_of_ble_eq_true rfl) ?_
      refine sp_X7_printedOf hL (Or.inr rfl) hR1 hG ⟨by decide, by decide⟩ ?_
      intro I2 hF2 _
      have fr2 : ∀ q, (q < m + 8 ∨ m + 14 ≤ q) → q ≠ m + 4 → I2 q = I q := fun q hq h4 => (hF2 q (by omega) (by omega) (by omega) (by omega) (by omega)).trans (fr q hq h4)
      have hR2 : MR (I2 (m + 4)) A := by rw [hF2 _ (by omega) (by omega) (by omega) (by omega) (by omega)]; exact hR1
      rw [knd_prF hG ⟨by decide, by decide⟩]
      refine ZV_iload dX7_does_323 rfl ?_
      refine ZV_icmp_gt (tgt := 332) dX7_does_325 (by decide) ⟨by omega, by omega⟩ ⟨by omega, by omega⟩ (fun h325 => ?_) (fun h325 => ?_)
      · refine ZV_iconst dX7_does_332 ?_
        refine ZV_zret dX7_does_333 rfl (by first | exact Or.inl rfl | exact Or.inr rfl | assumption | omega) ?_
        exact hx1 (if_neg (by omega)) I2 fr2
      · refine ZV_iconst dX7_does_328 ?_
        refine ZV_goto (tgt := 333) dX7_does_329 (by decide) ?_
        refine ZV_zret dX7_does_333 rfl (by first | exact Or.inl rfl | exact Or.inr rfl | assumption | omega) ?_
        exact hx2 A (if_pos ⟨by omega, by omega⟩) hG I2 fr2 hR2
  · refine ZV_tableIn (tgt := 334) dX7_does_50 ⟨by decide, by decide⟩ (by decide) (by decide) rfl (by decide) ?_
    have e : cmd1 A 9 r = if (0 ≤ r / 10 ∧ r / 10 < aN A) ∧ klet (keyOf A (r / 10).toNat) = r % 10 then some A else none := rfl
    rw [e] at no same
    refine ZV_aload_n dX7_does_334 rfl ?_
    refine ZV_getR fX7_does_19 dX7_does_335 (by assumption) rfl (by assumption) ?_
    refine ZV_iload dX7_does_338 rfl ?_
    refine cl_X7_has kX7_does_238 rfl dX7_does_340 (Nat.le_of_ble_eq_true rfl) ?_
    refine sp_X7_has j4 r0 h16 ⟨by omega, by omega⟩ ?_
    by_cases c : 0 ≤ r / 10 ∧ r / 10 < aN A
    · rw [if_pos c]
      obtain ⟨n, hn⟩ : ∃ n : Nat, r / 10 = n := ⟨(r / 10).toNat, by omega⟩
      rw [hn, Int.toNat_natCast] at no same
      rw [hn]
      have hn2 : n < aN A := by omega
      have v2 := (hLd n hn2).2.1
      rw [klet_key hG hn2] at no same
      have lr := letOf_rng hG.1 n
      refine ZV_if_eq (tgt := 362) dX7_does_343 (by decide) ⟨by omega, by omega⟩ (fun h343 => ?_) (fun h343 => ?_)
      · omega
      · refine ZV_aload_n dX7_does_346 rfl ?_
        refine ZV_getR fX7_does_35 dX7_does_347 (by assumption) rfl (by assumption) ?_
        refine ZV_iload dX7_does_350 rfl ?_
        refine ZV_iald (n) dX7_does_352 (by assumption) (by first | rfl | omega) (by omega) (by omega) ?_
        rw [v2]
        refine ZV_iload dX7_does_353 rfl ?_
        refine ZV_icmp_ne (tgt := 362) dX7_does_355 (by decide) ⟨by omega, by omega⟩ ⟨by omega, by omega⟩ (fun h355 => ?_) (fun h355 => ?_)
        · refine ZV_iconst dX7_does_362 ?_
          refine ZV_zret dX7_does_363 rfl (by first | exact Or.inl rfl | exact Or.inr rfl | assumption | omega) ?_
          exact no (if_neg (fun q => by have := q.2; omega))
        · refine ZV_iconst dX7_does_358 ?_
          refine ZV_goto (tgt := 363) dX7_does_359 (by decide) ?_
          refine ZV_zret dX7_does_363 rfl (by first | exact Or.inl rfl | exact Or.inr rfl | assumption | omega) ?_
          exact same (if_pos ⟨by omega, by omega⟩)
    · rw [if_neg c]
      refine ZV_if_eq (tgt := 362) dX7_does_343 (by decide) ⟨by omega, by omega⟩ (fun h343 => ?_) (fun h343 => ?_)
      · refine ZV_iconst dX7_does_362 ?_
        refine ZV_zret dX7_does_363 rfl (by first | exact Or.inl rfl | exact Or.inr rfl | assumption | omega) ?_
        exact no (if_neg (fun q => c q.1))
      · omega
theorem sp_X7_runScript {m : Nat} {n s : Int} {Q : AC} (hM : MInv X g I m Q) (hn : r32 n) (hs : r64 s) (hx1 : ¬ (1 ≤ n ∧ n ≤ 4) → ∀ I', MP X g I I' m Q 1 → post (.inl (some (vi 0))) g I' J) (hx2 : (1 ≤ n ∧ n ≤ 4) → ¬ (0 ≤ s ∧ s < un n.toNat) → ∀ I', MP X g I I' m Q 1 → post (.inl (some (vi 0))) g I' J) (hx3 : (1 ≤ n ∧ n ≤ 4) → (0 ≤ s ∧ s < un n.toNat) → ∀ I', MP X g I I' m Q 0 → post (.inl (some (vi (scF Q.2.1 s n.toNat)))) g I' J) : ZV X E_X7_runScript 0 [some (.ref m), some (vi n), some (vl s), none, none, none] [] b g I J post := by
  have hL := hM.1
  have hG := hM.2.2.1.2
  have l0 := hL.1
  obtain ⟨n1, n2⟩ := hn
  obtain ⟨s1, s2⟩ := id hs
  have bad : ∀ o : Int, (∀ I', MP X g I I' m Q 1 → post (.inl (some (vi 0))) g I' J) → ZV X E_X7_runScript 46 [some (.ref m), some (vi n), some (vl s), none, some (vi o), none] [.ref m] b g I J post := by
    intro o hp
    refine ZV_iconst dX7_runScript_46 ?_
    refine cl_X7_refused kX7_runScript_125 rfl dX7_runScript_47 (by assumption) (Nat.le_of_ble_eq_true rfl) ?_
    refine sp_X7_refused hL ⟨by decide, by decide⟩ ?_
    rw [if_pos (by decide)]
    refine ZV_if_eq (tgt := 55) dX7_runScript_50 (by decide) ⟨by omega, by omega⟩ (fun h50 => ?_) (fun h50 => ?_)
    · omega
    · refine ZV_iconst dX7_runScript_53 ?_
      refine ZV_iret dX7_runScript_54 rfl ?_
      exact hp _ hM.mp
  refine ZV_iload_n dX7_runScript_0 rfl ?_
  refine ZV_i2l dX7_runScript_1 ⟨by omega, by omega⟩ ?_
  refine ZV_lconst (z := 1) dX7_runScript_2 (by decide) ?_
  refine ZV_ldc2 (z := 4) dX7_runScript_3 lX7_runScript_241 ?_
  refine cl_X7_in kX7_runScript_118 rfl dX7_runScript_6 (Nat.le_of_ble_eq_true rfl) ?_
  refine sp_X7_in ⟨by omega, by omega⟩ ⟨by decide, by decide⟩ ⟨by decide, by decide⟩ ?_
  by_cases c : 1 ≤ n ∧ n ≤ 4
  · rw [if_pos c]
    have hx2 := hx2 c
    have hx3 := hx3 c
    obtain ⟨N, rfl⟩ : ∃ N : Nat, n = N := ⟨n.toNat, by omega⟩
    rw [Int.toNat_natCast] at hx2 hx3
    have eu := un_10 N (by omega)
    have pr := p10_rng (4 * N) (by omega)
    rw [eu] at hx2 hx3
    refine ZV_istore4 dX7_runScript_9 rfl (by decide) ?_
    refine ZV_aload_n dX7_runScript_11 rfl ?_
    refine ZV_iload dX7_runScript_12 rfl ?_
    refine ZV_if_eq (tgt := 46) dX7_runScript_14 (by decide) ⟨by omega, by omega⟩ (fun h14 => ?_) (fun h14 => ?_)
    · omega
    · refine ZV_lload_n dX7_runScript_17 rfl ?_
      refine ZV_lconst (z := 0) dX7_runScript_18 (by decide) ?_
      refine ZV_iload dX7_runScript_19 rfl ?_
      refine ZV_if_eq (tgt := 30) dX7_runScript_21 (by decide) ⟨by omega, by omega⟩ (fun h21 => ?_) (fun h21 => ?_)
      · omega
      · refine ZV_iconst dX7_runScript_24 ?_
        refine ZV_iload_n dX7_runScript_25 rfl ?_
        refine ZV_imul dX7_runScript_26 ?_
        refine ZV_goto (tgt := 31) dX7_runScript_27 (by decide) ?_
        rw [show 4 * (N : Int) = ((4 * N : Nat) : Int) by omega]
        refine cl_X7_tenTo kX7_runScript_81 rfl dX7_runScript_31 (Nat.le_of_ble_eq_true rfl) ?_
        refine sp_X7_tenTo (by omega) ?_
        refine ZV_lconst (z := 1) dX7_runScript_34 (by decide) ?_
        refine ZV_lsub dX7_runScript_35 ?_
        refine cl_X7_in kX7_runScript_118 rfl dX7_runScript_36 (Nat.le_of_ble_eq_true rfl) ?_
        refine sp_X7_in ⟨by omega, by omega⟩ ⟨by decide, by decide⟩ ⟨by omega, by omega⟩ ?_
        by_cases c2 : 0 ≤ s ∧ s < (10 : Int) ^ (4 * N)
        · rw [if_pos ⟨c2.1, by omega⟩]
          have hx3 := hx3 c2
          refine ZV_if_eq (tgt := 46) dX7_runScript_39 (by decide) ⟨by omega, by omega⟩ (fun h39 => ?_) (fun h39 => ?_)
          · omega
          · refine ZV_iconst dX7_runScript_42 ?_
            refine ZV_goto (tgt := 47) dX7_runScript_43 (by decide) ?_
            refine cl_X7_refused kX7_runScript_125 rfl dX7_runScript_47 (by assumption) (Nat.le_of_ble_eq_true rfl) ?_
            refine sp_X7_refused hL ⟨by decide, by decide⟩ ?_
            rw [if_neg (by decide)]
            refine ZV_if_eq (tgt := 55) dX7_runScript_50 (by decide) ⟨by omega, by omega⟩ (fun h50 => ?_) (fun h50 => ?_)
            · refine ZV_aload_n dX7_runScript_55 rfl ?_
              refine cl_X7_begin kX7_runScript_225 rfl dX7_runScript_56 (by assumption) (Nat.le_of_ble_eq_true rfl) ?_
              refine sp_X7_begin hL (hM.ref (w := 0)).2.2.1.1 hG ?_
              intro I1 hI1 hR1
              have mp1 : MP X g I I1 m Q 0 := hM.mp.tr4 (fun q _ hq => hI1 q hq)
              refine ZV_iconst dX7_runScript_59 ?_
              refine ZV_istore5 dX7_runScript_60 rfl (by decide) ?_
              have loop : ∀ q : Nat, q ≤ N → ∀ (z : Int) (I' : Mm) (B : ASt), z = (q : Int) → scS Q.2.1 s N q = some B → zfst (fun q => if (scS Q.2.1 s N (q + 1)).isNone then 1 else 0) q = -9 → MP X g I I' m Q 0 → MR (I' (m + 4)) B → GoodSt B → ZV X E_X7_runScript 62 [some (.ref m), some (vi (N : Int)), some (vl s), none, some (vi 1), some (vi z)] [] b g I' J post := by
                refine loop_up N ?_ ?_
                · intro z I' B hz hB hf mp hR hGB
                  have hx := hx3 I' mp
                  unfold scF at hx
                  rw [hf] at hx
                  refine ZV_iload dX7_runScript_62 rfl ?_
                  refine ZV_iload_n dX7_runScript_64 rfl ?_
                  refine ZV_icmp_ge (tgt := 102) dX7_runScript_65 (by decide) ⟨by omega, by omega⟩ ⟨by omega, by omega⟩ (fun h65 => ?_) (fun h65 => ?_)
                  · refine ZV_bipush dX7_runScript_102 (by decide) ?_
                    refine ZV_iret dX7_runScript_104 rfl ?_
                    exact hx
                  · omega
                · intro q hq ih z I' B hz hB hf mp hR hGB
                  subst hz
                  have eS : scS Q.2.1 s N (q + 1) = cmdF B (sdiv s (N - 1 - q) % 10000) := by
                    show (match scS Q.2.1 s N q with | some B => cmdF B (sdiv s (N - 1 - q) % 10000) | none => none) = _
                    rw [hB]
                  have es := sdiv_10 s (N - 1 - q) (by omega)
                  have sr := sdiv_rng c2.1 (N - 1 - q)
                  have p2 := p10_rng (4 * (N - 1 - q)) (by omega)
                  rw [es] at sr eS
                  refine ZV_iload dX7_runScript_62 rfl ?_
                  refine ZV_iload_n dX7_runScript_64 rfl ?_
                  refine ZV_icmp_ge (tgt := 102) dX7_runScript_65 (by decide) ⟨by omega, by omega⟩ ⟨by omega, by omega⟩ (fun h65 => ?_) (fun h65 => ?_)
                  · omega
                  · refine ZV_aload_n dX7_runScript_68 rfl ?_
                    refine ZV_lload_n dX7_runScript_69 rfl ?_
                    refine ZV_iconst dX7_runScript_70 ?_
                    refine ZV_iload_n dX7_runScript_71 rfl ?_
                    refine ZV_iconst dX7_runScript_72 ?_
                    refine ZV_isub dX7_runScript_73 ?_
                    refine ZV_iload dX7_runScript_74 rfl ?_
                    refine ZV_isub dX7_runScript_76 ?_
                    refine ZV_imul dX7_runScript_77 ?_
                    rw [show 4 * ((N : Int) - 1 - (q : Int)) = ((4 * (N - 1 - q) : Nat) : Int) by omega]
                    refine cl_X7_tenTo kX7_runScript_81 rfl dX7_runScript_78 (Nat.le_of_ble_eq_true rfl) ?_
                    refine sp_X7_tenTo (by omega) ?_
                    refine ZV_ldiv dX7_runScript_81 ⟨by omega, by omega⟩ ⟨by omega, by omega⟩ (by omega) ?_
                    rw [Int.tdiv_eq_ediv_of_nonneg c2.1]
                    refine ZV_ldc2 (z := 10000) dX7_runScript_82 lX7_runScript_243 ?_
                    refine ZV_lrem dX7_runScript_85 ⟨by omega, by omega⟩ ⟨by omega, by omega⟩ (by omega) ?_
                    rw [Int.tmod_eq_emod_of_nonneg sr.1]
                    refine ZV_l2i dX7_runScript_86 ?_
                    refine cl_X7_does kX7_runScript_245 rfl dX7_runScript_87 (by assumption) (Nat.le_of_ble_eq_true rfl) ?_
                    refine sp_X7_does hL hR hGB ⟨by omega, by omega⟩ (fun e I2 hI2 => ?_) (fun A' e hGA I2 hI2 hR2 => ?_)
                    · have hx := hx3 I2 (mp.tr4 hI2)
                      unfold scF at hx
                      rw [zfst_hit hf (by rw [eS, e]; rfl) hq] at hx
                      refine ZV_if_ne (tgt := 96) dX7_runScript_90 (by decide) ⟨by omega, by omega⟩ (fun h90 => ?_) (fun h90 => ?_)
                      · omega
                      · refine ZV_iload dX7_runScript_93 rfl ?_
                        refine ZV_iret dX7_runScript_95 rfl ?_
                        exact hx
                    · refine ZV_if_ne (tgt := 96) dX7_runScript_90 (by decide) ⟨by omega, by omega⟩ (fun h90 => ?_) (fun h90 => ?_)
                      · refine ZV_jinc5 dX7_runScript_96 rfl (by decide) ?_
                        refine ZV_goto (tgt := 62) dX7_runScript_99 (by decide) ?_
                        exact ih _ I2 A' (by omega) (by rw [eS, e]) (zfst_miss hf (by rw [eS, e]; simp)) (mp.tr4 hI2) hR2 hGA
                      · omega
              exact loop 0 (by omega) _ _ Q.2.1 rfl rfl rfl mp1 hR1 hG
            · omega
        · rw [if_neg (fun q => c2 ⟨q.1, by omega⟩)]
          refine ZV_if_eq (tgt := 46) dX7_runScript_39 (by decide) ⟨by omega, by omega⟩ (fun h39 => ?_) (fun h39 => ?_)
          · exact bad _ (hx2 c2)
          · omega
  · rw [if_neg c]
    refine ZV_istore4 dX7_runScript_9 rfl (by decide) ?_
    refine ZV_aload_n dX7_runScript_11 rfl ?_
    refine ZV_iload dX7_runScript_12 rfl ?_
    refine ZV_if_eq (tgt := 46) dX7_runScript_14 (by decide) ⟨by omega, by omega⟩ (fun h14 => ?_) (fun h14 => ?_)
    · exact bad _ (hx1 c)
    · omega
theorem lt1_NmA {R : Nat → Int} {p : Nat} {d : Int} (hd : 1 ≤ d ∧ d ≤ 26) (h0 : R p = 1) (h1 : R (p + 1) = 96 + d) : NmA R p (lt1 d) := by
  have hw : nmW (lt1 d) 1 := nmW_add nmW_zero (by decide) hd
  have e := nmW_len hw
  have e1 : dg (lt1 d) 0 = d := dg_here nmW_zero (by decide) hd
  refine ⟨by rw [e]; exact h0, fun k hk => ?_⟩
  rw [e] at hk
  have : k = 0 := by omega
  subst this
  show R (p + 1) = 96 + dg (lt1 d) 0
  rw [e1]; exact h1
theorem sp_X7_round {m : Nat} {r : Int} {A : ASt} (hL : ML X g m) (hR : MR (I (m + 4)) A) (hG : GoodSt A) (hr : 0 ≤ r ∧ r < 2147483648) (h : ∀ I', (∀ q, q ≠ m + 4 → I' q = I q) → MR (I' (m + 4)) (rnd A r) → GoodSt (rnd A r) → post (.inl none) g I' J) : ZV X E_X7_round 0 [some (.ref m), some (vi r), none] [] b g I J post := by
  obtain ⟨l0, ⟨p1, p2, p3, p4, p5, p6, p7⟩, ⟨l1, l2, l3, l4, l5, l6⟩, ⟨j1, j2, j3, j4, j5, j6, j7⟩, ⟨k1, k2, k3, k4, k5, k6⟩⟩ := id hL
  have h16 := hG.1.1
  have t4 : r.tmod 4 = r % 4 := Int.tmod_eq_emod_of_nonneg (by omega)
  have q4 : r.tdiv 4 = r / 4 := Int.tdiv_eq_ediv_of_nonneg (by omega)
  have q16 : r.tdiv 16 = r / 16 := Int.tdiv_eq_ediv_of_nonneg (by omega)
  have q64 : r.tdiv 64 = r / 64 := Int.tdiv_eq_ediv_of_nonneg (by omega)
  have m1 : (r / 4).tmod 3 = r / 4 % 3 := Int.tmod_eq_emod_of_nonneg (by omega)
  have m2 : (r / 16).tmod 3 = r / 16 % 3 := Int.tmod_eq_emod_of_nonneg (by omega)
  have m3 : (r / 64).tmod 3 = r / 64 % 3 := Int.tmod_eq_emod_of_nonneg (by omega)
  have m4 : (r / 64).tmod 4 = r / 64 % 4 := Int.tmod_eq_emod_of_nonneg (by omega)
  have r0 := hR.1.1
  unfold rnd at h
  -- the third kind
  have third : ∀ o : Option Value, o = some (vi (aN A : Int)) → (r % 4 = 0 ∨ r % 4 = 1 → aN A = 0) → ZV X E_X7_round 70 [some (.ref m), some (vi r), o] [] b g I J post := by
    intro o ho hz
    subst ho
    refine ZV_iload_n dX7_round_70 rfl ?_
    refine ZV_iconst dX7_round_71 ?_
    refine ZV_irem dX7_round_72 ⟨by omega, by omega⟩ ⟨by omega, by omega⟩ (by omega) ?_
    rw [t4]
    refine ZV_iconst dX7_round_73 ?_
    refine ZV_icmp_le (tgt := 189) dX7_round_74 (by decide) ⟨by omega, by omega⟩ ⟨by omega, by omega⟩ (fun h74 => ?_) (fun h74 => ?_)
    · rw [if_neg (by omega), if_neg (by omega)] at h
      refine ZV_vret dX7_round_189 rfl ?_
      exact h I (fun _ _ => rfl) hR hG
    · rw [if_pos (by omega)] at h
      refine ZV_iload_n dX7_round_77 rfl ?_
      refine ZV_bipush dX7_round_78 (by decide) ?_
      refine ZV_icmp_ge (tgt := 189) dX7_round_80 (by decide) ⟨by omega, by omega⟩ ⟨by omega, by omega⟩ (fun h80 => ?_) (fun h80 => ?_)
      · rw [if_neg (by omega)] at h
        refine ZV_vret dX7_round_189 rfl ?_
        exact h I (fun _ _ => rfl) hR hG
      · rw [if_pos (by omega)] at h
        obtain ⟨n, hn⟩ : ∃ n, n = aN A := ⟨_, rfl⟩
        rw [← hn] at r0 h16 ⊢
        refine ZV_aload_n dX7_round_83 rfl ?_
        refine ZV_getR fX7_round_19 dX7_round_84 (by assumption) rfl (by assumption) ?_
        refine ZV_iload_n dX7_round_87 rfl ?_
        refine ZV_iconst dX7_round_88 ?_
        refine cl_X7_cell kX7_round_67 rfl dX7_round_89 (Nat.le_of_ble_eq_true rfl) ?_
        refine sp_X7_cell ?_
        refine ZV_sipush dX7_round_92 (by decide) ?_
        refine ZV_iload_n dX7_round_95 rfl ?_
        refine ZV_bipush dX7_round_96 (by decide) ?_
        refine ZV_idiv dX7_round_98 ⟨by omega, by omega⟩ ⟨by omega, by omega⟩ (by omega) ?_
        rw [q16]
        refine ZV_iconst dX7_round_99 ?_
        refine ZV_irem dX7_round_100 ⟨by omega, by omega⟩ ⟨by omega, by omega⟩ (by omega) ?_
        rw [m2]
        refine ZV_iadd dX7_round_101 ?_
        refine ZV_iast (4 + 47 * n + 0) dX7_round_102 (by assumption) (by first | rfl | omega) (by omega) (by omega) ?_
        refine ZV_aload_n dX7_round_103 rfl ?_
        refine ZV_getR fX7_round_19 dX7_round_104 (by assumption) rfl (by assumption) ?_
        refine ZV_iload_n dX7_round_107 rfl ?_
        refine ZV_iconst dX7_round_108 ?_
        refine cl_X7_cell kX7_round_67 rfl dX7_round_109 (Nat.le_of_ble_eq_true rfl) ?_
        refine sp_X7_cell ?_
        refine ZV_iconst dX7_round_112 ?_
        refine ZV_iast (4 + 47 * n + 1) dX7_round_113 (by assumption) (by first | rfl | omega) (by omega) (by omega) ?_
        refine ZV_aload_n dX7_round_114 rfl ?_
        refine ZV_getR fX7_round_19 dX7_round_115 (by assumption) rfl (by assumption) ?_
        refine ZV_iload_n dX7_round_118 rfl ?_
        refine ZV_iconst dX7_round_119 ?_
        refine cl_X7_author kX7_round_71 rfl dX7_round_120 (Nat.le_of_ble_eq_true rfl) ?_
        refine sp_X7_author ?_
        refine ZV_iconst dX7_round_123 ?_
        refine ZV_iast (4 + 47 * n + 2) dX7_round_124 (by assumption) (by first | rfl | omega) (by omega) (by omega) ?_
        refine ZV_aload_n dX7_round_125 rfl ?_
        refine ZV_getR fX7_round_19 dX7_round_126 (by assumption) rfl (by assumption) ?_
        refine ZV_iload_n dX7_round_129 rfl ?_
        refine ZV_iconst dX7_round_130 ?_
        refine cl_X7_author kX7_round_71 rfl dX7_round_131 (Nat.le_of_ble_eq_true rfl) ?_
        refine sp_X7_author ?_
        refine ZV_iconst dX7_round_134 ?_
        refine ZV_iadd dX7_round_135 ?_
        refine ZV_bipush dX7_round_136 (by decide) ?_
        refine ZV_iload_n dX7_round_138 rfl ?_
        refine ZV_iconst dX7_round_139 ?_
        refine ZV_idiv dX7_round_140 ⟨by omega, by omega⟩ ⟨by omega, by omega⟩ (by omega) ?_
        rw [q4]
        refine ZV_iconst dX7_round_141 ?_
        refine ZV_irem dX7_round_142 ⟨by omega, by omega⟩ ⟨by omega, by omega⟩ (by omega) ?_
        rw [m1]
        refine ZV_iadd dX7_round_143 ?_
        refine ZV_iast (4 + 47 * n + 2 + 1) dX7_round_144 (by assumption) (by first | rfl | omega) (by omega) (by omega) ?_
        refine ZV_aload_n dX7_round_145 rfl ?_
        refine ZV_getR fX7_round_19 dX7_round_146 (by assumption) rfl (by assumption) ?_
        refine ZV_iload_n dX7_round_149 rfl ?_
        refine ZV_bipush dX7_round_150 (by decide) ?_
        refine cl_X7_cell kX7_round_67 rfl dX7_round_152 (Nat.le_of_ble_eq_true rfl) ?_
        refine sp_X7_cell ?_
        refine ZV_iconst dX7_round_155 ?_
        refine ZV_iast (4 + 47 * n + 38) dX7_round_156 (by assumption) (by first | rfl | omega) (by omega) (by omega) ?_
        refine ZV_aload_n dX7_round_157 rfl ?_
        refine ZV_getR fX7_round_19 dX7_round_158 (by assumption) rfl (by assumption) ?_
        refine ZV_iload_n dX7_round_161 rfl ?_
        refine ZV_bipush dX7_round_162 (by decide) ?_
        refine cl_X7_cell kX7_round_67 rfl dX7_round_164 (Nat.le_of_ble_eq_true rfl) ?_
        refine sp_X7_cell ?_
        refine ZV_iconst dX7_round_167 ?_
        refine ZV_iadd dX7_round_168 ?_
        refine ZV_bipush dX7_round_169 (by decide) ?_
        refine ZV_iload_n dX7_round_171 rfl ?_
        refine ZV_bipush dX7_round_172 (by decide) ?_
        refine ZV_idiv dX7_round_174 ⟨by omega, by omega⟩ ⟨by omega, by omega⟩ (by omega) ?_
        rw [q64]
        refine ZV_iconst dX7_round_175 ?_
        refine ZV_irem dX7_round_176 ⟨by omega, by omega⟩ ⟨by omega, by omega⟩ (by omega) ?_
        rw [m3]
        refine ZV_iadd dX7_round_177 ?_
        refine ZV_iast (4 + 47 * n + 38 + 1) dX7_round_178 (by assumption) (by first | rfl | omega) (by omega) (by omega) ?_
        refine ZV_aload_n dX7_round_179 rfl ?_
        refine ZV_getR fX7_round_19 dX7_round_180 (by assumption) rfl (by assumption) ?_
        refine ZV_iconst dX7_round_183 ?_
        first | refine ZV_dup2 dX7_round_184 rfl rfl ?_ | refine ZV_dup2l dX7_round_184 rfl ?_
        refine ZV_iald (0) dX7_round_185 (by assumption) (by first | rfl | omega) (by omega) (by omega) ?_
        obtain ⟨I2, hI2⟩ : ∃ I2, I2 = up2 (up2 (up2 (up2 (up2 (up2 I (m + 4) (4 + 47 * n + 0) (1990 + r / 16 % 3)) (m + 4) (4 + 47 * n + 1) 1) (m + 4) (4 + 47 * n + 2) 1) (m + 4) (4 + 47 * n + 2 + 1) (97 + r / 4 % 3)) (m + 4) (4 + 47 * n + 38) 1) (m + 4) (4 + 47 * n + 38 + 1) (97 + r / 64 % 3) := ⟨_, rfl⟩
        rw [← hI2]
        have o2 : ∀ k, (k < 4 + 47 * n ∨ 4 + 47 * n + 47 ≤ k) → I2 (m + 4) k = I (m + 4) k := fun k hk => by rw [hI2, up2_k (by omega), up2_k (by omega), up2_k (by omega), up2_k (by omega), up2_k (by omega), up2_k (by omega)]
        have e0 : I2 (m + 4) 0 = (n : Int) := by rw [o2 0 (by omega)]; exact r0
        rw [e0]
        refine ZV_iconst dX7_round_186 ?_
        refine ZV_iadd dX7_round_187 ?_
        refine ZV_iast (0) dX7_round_188 (by assumption) (by first | rfl | omega) (by omega) (by omega) ?_
        refine ZV_vret dX7_round_189 rfl ?_
        have aw : AWF (rndW r) := wk1_AWF ⟨by omega, by omega⟩ ⟨by omega, by omega⟩ ⟨by omega, by omega⟩
        refine h _ (fun q hq => by rw [up2_row _ _ hq, hI2, up2_row _ _ hq, up2_row _ _ hq, up2_row _ _ hq, up2_row _ _ hq, up2_row _ _ hq, up2_row _ _ hq]) (MR.plc hR hG (by omega) (by rw [up2_same, hn]) (fun k e1 e2 e3 => by rw [up2_k e1]; exact o2 k (by omega)) ?_) (hG.place aw (by omega))
        rw [← hn]
        refine ⟨⟨?_, ?_⟩, fun a ha => ?_, ?_⟩
        · rw [up2_k (by omega), hI2, show 4 + 47 * n = 4 + 47 * n + 0 by omega, up2_k (by omega), up2_k (by omega), up2_k (by omega), up2_k (by omega), up2_k (by omega), up2_same]; rfl
        · rw [up2_k (by omega), hI2, up2_k (by omega), up2_k (by omega), up2_k (by omega), up2_k (by omega), up2_same]; rfl
        · have ha2 : (a : Int) < 1 := ha
          have a0 : a = 0 := by omega
          subst a0
          refine lt1_NmA (d := 1 + r / 4 % 3) ⟨by omega, by omega⟩ ?_ ?_
          · rw [up2_k (by omega), hI2, up2_k (by omega), up2_k (by omega), up2_k (by omega), show 4 + 47 * n + 2 + 9 * 0 = 4 + 47 * n + 2 by omega, up2_same]
          · rw [up2_k (by omega), hI2, up2_k (by omega), up2_k (by omega), show 4 + 47 * n + 2 + 9 * 0 + 1 = 4 + 47 * n + 2 + 1 by omega, up2_same]; omega
        · refine lt1_NmA (d := 1 + r / 64 % 3) ⟨by omega, by omega⟩ ?_ ?_
          · rw [up2_k (by omega), hI2, up2_k (by omega), up2_same]
          · rw [up2_k (by omega), hI2, up2_same]; omega
  have second : (r % 4 = 0 → aN A = 0) → ZV X E_X7_round 32 [some (.ref m), some (vi r), some (vi (aN A : Int))] [] b g I J post := by
    intro hz
    refine ZV_iload_n dX7_round_32 rfl ?_
    refine ZV_iconst dX7_round_33 ?_
    refine ZV_irem dX7_round_34 ⟨by omega, by omega⟩ ⟨by omega, by omega⟩ (by omega) ?_
    rw [t4]
    refine ZV_iconst dX7_round_35 ?_
    refine ZV_icmp_ne (tgt := 70) dX7_round_36 (by decide) ⟨by omega, by omega⟩ ⟨by omega, by omega⟩ (fun h36 => ?_) (fun h36 => ?_)
    · exact third _ rfl (by omega)
    · refine ZV_iload_n dX7_round_39 rfl ?_
      refine ZV_if_le (tgt := 70) dX7_round_40 (by decide) ⟨by omega, by omega⟩ (fun h40 => ?_) (fun h40 => ?_)
      · exact third _ rfl (by omega)
      · rw [if_neg (by omega), if_pos (by omega), if_neg (by omega)] at h
        obtain ⟨n, hn0⟩ : ∃ n : Nat, r / 4 % (aN A : Int) = n := ⟨(r / 4 % (aN A : Int)).toNat, by have := Int.emod_nonneg (r / 4) (b := (aN A : Int)) (by omega); omega⟩
        have hn : n < aN A := by have := Int.emod_lt_of_pos (r / 4) (b := (aN A : Int)) (by omega); omega
        rw [hn0, Int.toNat_natCast] at h
        refine ZV_aload_n dX7_round_43 rfl ?_
        refine ZV_getR fX7_round_19 dX7_round_44 (by assumption) rfl (by assumption) ?_
        refine ZV_iload_n dX7_round_47 rfl ?_
        refine ZV_iconst dX7_round_48 ?_
        refine ZV_idiv dX7_round_49 ⟨by omega, by omega⟩ ⟨by omega, by omega⟩ (by omega) ?_
        rw [q4]
        refine ZV_iload_n dX7_round_50 rfl ?_
        refine ZV_irem dX7_round_51 ⟨by omega, by omega⟩ ⟨by omega, by omega⟩ (by omega) ?_
        rw [Int.tmod_eq_emod_of_nonneg (by omega), hn0]
        refine ZV_iconst dX7_round_52 ?_
        refine cl_X7_cell kX7_round_67 rfl dX7_round_53 (Nat.le_of_ble_eq_true rfl) ?_
        refine sp_X7_cell ?_
        refine ZV_sipush dX7_round_56 (by decide) ?_
        refine ZV_iload_n dX7_round_59 rfl ?_
        refine ZV_bipush dX7_round_60 (by decide) ?_
        refine ZV_idiv dX7_round_62 ⟨by omega, by omega⟩ ⟨by omega, by omega⟩ (by omega) ?_
        rw [q64]
        refine ZV_iconst dX7_round_63 ?_
        refine ZV_irem dX7_round_64 ⟨by omega, by omega⟩ ⟨by omega, by omega⟩ (by omega) ?_
        rw [m4]
        refine ZV_iadd dX7_round_65 ?_
        refine ZV_iast (4 + 47 * n + 0) dX7_round_66 (by assumption) (by first | rfl | omega) (by omega) (by omega) ?_
        refine ZV_goto (tgt := 189) dX7_round_67 (by decide) ?_
        refine ZV_vret dX7_round_189 rfl ?_
        obtain ⟨⟨v1, v2⟩, v3, v4⟩ := hR.2.1 n hn
        refine h _ (fun q hq => up2_row _ _ hq) (MR.set hR hG hn (fun k e1 e2 => up2_k (by omega)) ?_) (hG.set ((hG.2.1 n hn).yr ⟨by omega, by omega⟩))
        exact ⟨⟨by rw [show 4 + 47 * n = 4 + 47 * n + 0 by omega, up2_same]; rfl, by rw [up2_k (by omega)]; exact v2⟩, fun a ha => (v3 a ha).move (fun k hk => up2_k (by omega)), v4.move (fun k hk => up2_k (by omega))⟩
  refine ZV_aload_n dX7_round_0 rfl ?_
  refine ZV_getR fX7_round_19 dX7_round_1 (by assumption) rfl (by assumption) ?_
  refine ZV_iconst dX7_round_4 ?_
  refine ZV_iald (0) dX7_round_5 (by assumption) (by first | rfl | omega) (by omega) (by omega) ?_
  rw [r0]
  refine ZV_istore2 dX7_round_6 rfl (by decide) ?_
  refine ZV_iload_n dX7_round_7 rfl ?_
  refine ZV_iconst dX7_round_8 ?_
  refine ZV_irem dX7_round_9 ⟨by omega, by omega⟩ ⟨by omega, by omega⟩ (by omega) ?_
  rw [t4]
  refine ZV_if_ne (tgt := 32) dX7_round_10 (by decide) ⟨by omega, by omega⟩ (fun h10 => ?_) (fun h10 => ?_)
  · exact second (fun e => absurd e (by omega))
  · refine ZV_iload_n dX7_round_13 rfl ?_
    refine ZV_if_le (tgt := 32) dX7_round_14 (by decide) ⟨by omega, by omega⟩ (fun h14 => ?_) (fun h14 => ?_)
    · exact second (fun _ => by omega)
    · rw [if_neg (by omega), if_pos (by omega), if_pos (by omega)] at h
      obtain ⟨n, hn0⟩ : ∃ n : Nat, r / 4 % (aN A : Int) = n := ⟨(r / 4 % (aN A : Int)).toNat, by have := Int.emod_nonneg (r / 4) (b := (aN A : Int)) (by omega); omega⟩
      have hn : n < aN A := by have := Int.emod_lt_of_pos (r / 4) (b := (aN A : Int)) (by omega); omega
      rw [hn0, Int.toNat_natCast] at h
      refine ZV_aload_n dX7_round_17 rfl ?_
      refine ZV_getR fX7_round_19 dX7_round_18 (by assumption) rfl (by assumption) ?_
      refine ZV_iload_n dX7_round_21 rfl ?_
      refine ZV_iconst dX7_round_22 ?_
      refine ZV_idiv dX7_round_23 ⟨by omega, by omega⟩ ⟨by omega, by omega⟩ (by omega) ?_
      rw [q4]
      refine ZV_iload_n dX7_round_24 rfl ?_
      refine ZV_irem dX7_round_25 ⟨by omega, by omega⟩ ⟨by omega, by omega⟩ (by omega) ?_
      rw [Int.tmod_eq_emod_of_nonneg (by omega), hn0]
      refine cl_X7_drop kX7_round_214 rfl dX7_round_26 (Nat.le_of_ble_eq_true rfl) ?_
      refine sp_X7_drop j4 hR hG hn ?_
      intro I2 hI2 hR2
      refine ZV_goto (tgt := 189) dX7_round_29 (by decide) ?_
      refine ZV_vret dX7_round_189 rfl ?_
      exact h I2 hI2 hR2 (hG.take hn)
theorem sp_X7_simulate {m : Nat} {s k : Int} {Q : AC} (hM : MInv X g I m Q) (hk : r32 k) (hx1 : ¬ (1 ≤ k ∧ k ≤ 99) → ∀ I', MP X g I I' m Q 1 → post (.inl (some (vi 0))) g I' J) (hx3 : (1 ≤ k ∧ k ≤ 99) → ∀ I', MP X g I I' m Q 0 → post (.inl (some (vi (100 * (aN (smS Q.2.1 s k.toNat) : Int) + letdN (smS Q.2.1 s k.toNat))))) g I' J) : ZV X E_X7_simulate 0 [some (.ref m), some (vl s), none, some (vi k), none, none, none] [] b g I J post := by
  have hL := hM.1
  have hG := hM.2.2.1.2
  obtain ⟨l0, ⟨p1, p2, p3, p4, p5, p6, p7⟩, ⟨l1, l2, l3, l4, l5, l6⟩, ⟨j1, j2, j3, j4, j5, j6, j7⟩, ⟨k1, k2, k3, k4, k5, k6⟩⟩ := id hL
  obtain ⟨n1, n2⟩ := hk
  refine ZV_aload_n dX7_simulate_0 rfl ?_
  refine ZV_iload_n dX7_simulate_1 rfl ?_
  refine ZV_i2l dX7_simulate_2 ⟨by omega, by omega⟩ ?_
  refine ZV_lconst (z := 1) dX7_simulate_3 (by decide) ?_
  refine ZV_ldc2 (z := 99) dX7_simulate_4 lX7_simulate_248 ?_
  refine cl_X7_in kX7_simulate_118 rfl dX7_simulate_7 (Nat.le_of_ble_eq_true rfl) ?_
  refine sp_X7_in ⟨by omega, by omega⟩ ⟨by decide, by decide⟩ ⟨by decide, by decide⟩ ?_
  by_cases c : 1 ≤ k ∧ k ≤ 99
  · rw [if_pos c]
    have hx3 := hx3 c
    obtain ⟨N, rfl⟩ : ∃ N : Nat, k = N := ⟨k.toNat, by omega⟩
    rw [Int.toNat_natCast] at hx3
    refine ZV_if_eq (tgt := 17) dX7_simulate_10 (by decide) ⟨by omega, by omega⟩ (fun h10 => ?_) (fun h10 => ?_)
    · omega
    · refine ZV_iconst dX7_simulate_13 ?_
      refine ZV_goto (tgt := 18) dX7_simulate_14 (by decide) ?_
      refine cl_X7_refused kX7_simulate_125 rfl dX7_simulate_18 (by assumption) (Nat.le_of_ble_eq_true rfl) ?_
      refine sp_X7_refused hL ⟨by decide, by decide⟩ ?_
      rw [if_neg (by decide)]
      refine ZV_if_eq (tgt := 26) dX7_simulate_21 (by decide) ⟨by omega, by omega⟩ (fun h21 => ?_) (fun h21 => ?_)
      · refine ZV_aload_n dX7_simulate_26 rfl ?_
        refine cl_X7_begin kX7_simulate_225 rfl dX7_simulate_27 (by assumption) (Nat.le_of_ble_eq_true rfl) ?_
        refine sp_X7_begin hL (hM.ref (w := 0)).2.2.1.1 hG ?_
        intro I1 hI1 hR1
        have mp1 : MP X g I I1 m Q 0 := hM.mp.tr4 (fun q _ hq => hI1 q hq)
        refine ZV_lload_n dX7_simulate_30 rfl ?_
        refine ZV_lstore4 dX7_simulate_31 rfl (by decide) ?_
        refine ZV_iconst dX7_simulate_33 ?_
        refine ZV_istore6 dX7_simulate_34 rfl (by decide) ?_
        have loop : ∀ q : Nat, q ≤ N → ∀ (z x : Int) (I' : Mm), z = (q : Int) → x = smX s q → MP X g I I' m Q 0 → MR (I' (m + 4)) (smS Q.2.1 s q) → GoodSt (smS Q.2.1 s q) → ZV X E_X7_simulate 36 [some (.ref m), some (vl s), none, some (vi (N : Int)), some (vl x), none, some (vi z)] [] b g I' J post := by
          refine loop_up N ?_ ?_
          · intro z x I' hz hx mp hR hGB
            have h16 := hGB.1.1
            have hl := letdN_rng (smS Q.2.1 s N)
            refine ZV_iload dX7_simulate_36 rfl ?_
            refine ZV_iload_n dX7_simulate_38 rfl ?_
            refine ZV_icmp_ge (tgt := 70) dX7_simulate_39 (by decide) ⟨by omega, by omega⟩ ⟨by omega, by omega⟩ (fun h39 => ?_) (fun h39 => ?_)
            · refine ZV_aload_n dX7_simulate_70 rfl ?_
              refine ZV_aload_n dX7_simulate_71 rfl ?_
              refine ZV_getR fX7_simulate_19 dX7_simulate_72 (by assumption) rfl (by assumption) ?_
              refine ZV_aload_n dX7_simulate_75 rfl ?_
              refine ZV_getR fX7_simulate_19 dX7_simulate_76 (by assumption) rfl (by assumption) ?_
              refine ZV_iconst dX7_simulate_79 ?_
              refine ZV_iald (1) dX7_simulate_80 (by assumption) (by first | rfl | omega) (by omega) (by omega) ?_
              rw [hR.1.2.1]
              refine cl_X7_lay kX7_simulate_108 rfl dX7_simulate_81 (by assumption) (Nat.le_of_ble_eq_true rfl) ?_
              refine sp_X7_lay hL (Or.inr rfl) hR hGB hGB.1.2.2.1 ?_
              intro I2 hF hLd0
              have hLd : Laid I2 m (smS Q.2.1 s N) := hLd0
              have r0 : I2 (m + 4) 0 = (aN (smS Q.2.1 s N) : Int) := by rw [hF _ (by omega) (by omega) (by omega) (by omega) (by omega)]; exact hR.1.1
              refine ZV_bipush dX7_simulate_84 (by decide) ?_
              refine ZV_aload_n dX7_simulate_86 rfl ?_
              refine ZV_getR fX7_simulate_19 dX7_simulate_87 (by assumption) rfl (by assumption) ?_
              refine ZV_iconst dX7_simulate_90 ?_
              refine ZV_iald (0) dX7_simulate_91 (by assumption) (by first | rfl | omega) (by omega) (by omega) ?_
              rw [r0]
              refine ZV_imul dX7_simulate_92 ?_
              refine ZV_aload_n dX7_simulate_93 rfl ?_
              refine ZV_getR fX7_simulate_35 dX7_simulate_94 (by assumption) rfl (by assumption) ?_
              refine ZV_aload_n dX7_simulate_97 rfl ?_
              refine ZV_getR fX7_simulate_19 dX7_simulate_98 (by assumption) rfl (by assumption) ?_
              refine ZV_iconst dX7_simulate_101 ?_
              refine ZV_iald (0) dX7_simulate_102 (by assumption) (by first | rfl | omega) (by omega) (by omega) ?_
              rw [r0]
              refine cl_X7_lettered kX7_simulate_170 rfl dX7_simulate_103 (Nat.le_of_ble_eq_true rfl) ?_
              refine sp_X7_lettered k2 h16 (fun i hi => by
                have := letOf_rng hGB.1 i
                rw [(hLd i hi).2.1]; omega) ?_
              have el : zsum (fun i => if 0 < I2 (m + 9) i then 1 else 0) (aN (smS Q.2.1 s N)) = letdN (smS Q.2.1 s N) := zsum_congr _ fun i hi => by
                show (if 0 < I2 (m + 9) i then (1 : Int) else 0) = if 0 < klet (keyOf (smS Q.2.1 s N) i) then 1 else 0
                rw [klet_key hGB hi, (hLd i hi).2.1]
              rw [el]
              refine ZV_iadd dX7_simulate_106 ?_
              refine ZV_iret dX7_simulate_107 rfl ?_
              exact hx3 I2 (mp.lay hF)
            · omega
          · intro q hq ih z x I' hz hx mp hR hGB
            have ex : smX s (q + 1) = x * 6364136223846793005 + 1442695040888963407 := by simp only [smX]; rw [hx]
            refine ZV_iload dX7_simulate_36 rfl ?_
            refine ZV_iload_n dX7_simulate_38 rfl ?_
            refine ZV_icmp_ge (tgt := 70) dX7_simulate_39 (by decide) ⟨by omega, by omega⟩ ⟨by omega, by omega⟩ (fun h39 => ?_) (fun h39 => ?_)
            · omega
            · refine ZV_lload dX7_simulate_42 rfl ?_
              refine ZV_ldc2 (z := 6364136223846793005) dX7_simulate_44 lX7_simulate_250 ?_
              refine ZV_lmul dX7_simulate_47 ?_
              refine ZV_ldc2 (z := 1442695040888963407) dX7_simulate_48 lX7_simulate_252 ?_
              refine ZV_ladd dX7_simulate_51 ?_
              refine ZV_lstore4 dX7_simulate_52 rfl (by decide) ?_
              refine ZV_aload_n dX7_simulate_54 rfl ?_
              refine ZV_lload dX7_simulate_55 rfl ?_
              refine ZV_bipush dX7_simulate_57 (by decide) ?_
              refine ZV_lushr33 dX7_simulate_59 ?_
              refine ZV_l2i dX7_simulate_60 ?_
              refine cl_X7_round kX7_simulate_254 rfl dX7_simulate_61 (by assumption) (Nat.le_of_ble_eq_true rfl) ?_
              refine sp_X7_round hL hR hGB ⟨by omega, by omega⟩ ?_
              intro I2 hI2 hR2 hG2
              have e3 : smS Q.2.1 s (q + 1) = rnd (smS Q.2.1 s q) ((x * 6364136223846793005 + 1442695040888963407) % 18446744073709551616 / 8589934592) := by
                show rnd (smS Q.2.1 s q) (smX s (q + 1) % 18446744073709551616 / 8589934592) = _
                rw [ex]
              refine ZV_jinc6 dX7_simulate_64 rfl (by decide) ?_
              refine ZV_goto (tgt := 36) dX7_simulate_67 (by decide) ?_
              exact ih _ _ I2 (by omega) ex.symm (mp.tr4 (fun a _ h2 => hI2 a h2)) (by rw [e3]; exact hR2) (by rw [e3]; exact hG2)
        exact loop 0 (by omega) _ _ _ rfl rfl mp1 hR1 hG
      · omega
  · rw [if_neg c]
    refine ZV_if_eq (tgt := 17) dX7_simulate_10 (by decide) ⟨by omega, by omega⟩ (fun h10 => ?_) (fun h10 => ?_)
    · refine ZV_iconst dX7_simulate_17 ?_
      refine cl_X7_refused kX7_simulate_125 rfl dX7_simulate_18 (by assumption) (Nat.le_of_ble_eq_true rfl) ?_
      refine sp_X7_refused hL ⟨by decide, by decide⟩ ?_
      rw [if_pos (by decide)]
      refine ZV_if_eq (tgt := 26) dX7_simulate_21 (by decide) ⟨by omega, by omega⟩ (fun h21 => ?_) (fun h21 => ?_)
      · omega
      · refine ZV_iconst dX7_simulate_24 ?_
        refine ZV_iret dX7_simulate_25 rfl ?_
        exact hx1 c _ hM.mp
    · omega
theorem sp_X7_save {m : Nat} {s : Int} {Q : AC} (hM : MInv X g I m Q) (hs : r32 s) (hx1 : ¬ (0 ≤ s ∧ s < 2) → ∀ I', MP X g I I' m Q 1 → post (.inl (some (vi 0))) g I' J) (hx2 : (0 ≤ s ∧ s < 2) → ∀ I', MP X g I I' m (Q.1, Q.2.1, Q.2.2.1, fun k => if k = s.toNat then some Q.2.1 else Q.2.2.2 k) 0 → post (.inl (some (vi (aN Q.2.1)))) g I' J) : ZV X E_X7_save 0 [some (.ref m), some (vi s)] [] b g I J post := by
  have hM' := hM
  obtain ⟨hL, hT, ⟨hR, hG⟩, ⟨a1, a2, a3⟩, hV⟩ := hM'
  obtain ⟨l0, ⟨p1, p2, p3, p4, p5, p6, p7⟩, ⟨l1, l2, l3, l4, l5, l6⟩, ⟨j1, j2, j3, j4, j5, j6, j7⟩, ⟨k1, k2, k3, k4, k5, k6⟩⟩ := id hL
  obtain ⟨s1, s2⟩ := hs
  refine ZV_aload_n dX7_save_0 rfl ?_
  refine ZV_iload_n dX7_save_1 rfl ?_
  refine ZV_i2l dX7_save_2 ⟨by omega, by omega⟩ ?_
  refine ZV_lconst (z := 0) dX7_save_3 (by decide) ?_
  refine ZV_lconst (z := 1) dX7_save_4 (by decide) ?_
  refine cl_X7_in kX7_save_118 rfl dX7_save_5 (Nat.le_of_ble_eq_true rfl) ?_
  refine sp_X7_in ⟨by omega, by omega⟩ ⟨by decide, by decide⟩ ⟨by decide, by decide⟩ ?_
  by_cases c : 0 ≤ s ∧ s < 2
  · rw [if_pos ⟨c.1, by omega⟩]
    have hx := hx2 c
    obtain ⟨n, rfl⟩ : ∃ n : Nat, s = n := ⟨s.toNat, by omega⟩
    rw [Int.toNat_natCast] at hx
    refine ZV_if_eq (tgt := 15) dX7_save_8 (by decide) ⟨by omega, by omega⟩ (fun h8 => ?_) (fun h8 => ?_)
    · omega
    · refine ZV_iconst dX7_save_11 ?_
      refine ZV_goto (tgt := 16) dX7_save_12 (by decide) ?_
      refine cl_X7_refused kX7_save_125 rfl dX7_save_16 (by assumption) (Nat.le_of_ble_eq_true rfl) ?_
      refine sp_X7_refused hL ⟨by decide, by decide⟩ ?_
      rw [if_neg (by decide)]
      refine ZV_if_eq (tgt := 24) dX7_save_19 (by decide) ⟨by omega, by omega⟩ (fun h19 => ?_) (fun h19 => ?_)
      · refine ZV_aload_n dX7_save_24 rfl ?_
        refine ZV_getR fX7_save_16 dX7_save_25 (by assumption) rfl (by assumption) ?_
        refine ZV_iconst dX7_save_28 ?_
        refine ZV_aload_n dX7_save_29 rfl ?_
        refine ZV_getR fX7_save_25 dX7_save_30 (by assumption) rfl (by assumption) ?_
        refine ZV_sipush dX7_save_33 (by decide) ?_
        refine ZV_iload_n dX7_save_36 rfl ?_
        refine ZV_imul dX7_save_37 ?_
        rw [show 980 * (n : Int) = ((980 * n : Nat) : Int) by omega]
        refine ZV_sipush dX7_save_38 (by decide) ?_
        refine cl_X7_copy kX7_save_63 rfl dX7_save_41 (Nat.le_of_ble_eq_true rfl) ?_
        refine sp_X7_copy (x := 0) (n := 980) j3 j6 (by omega) (by omega) (by omega) (by omega) (Or.inl (by omega)) ?_
        intro I2 hI2 hI2k
        have q2 : ∀ q, q ≠ m → q ≠ m + 6 → q ≠ m + 7 → up2 I2 (m + 7) n 1 q = I q := fun q h1 h2 h3 => by rw [up2_row _ _ h3, hI2 q h2, up2_row _ _ h1]
        have m2 : ∀ k, k ≠ 0 → up2 I2 (m + 7) n 1 m k = I m k := fun k hk => by rw [up2_a (by omega), hI2 m (by omega), up2_k hk]
        have r0 : up2 I2 (m + 7) n 1 (m + 3) 0 = (aN Q.2.1 : Int) := by rw [q2 _ (by omega) (by omega) (by omega)]; exact hR.1.1
        refine ZV_aload_n dX7_save_44 rfl ?_
        refine ZV_getR fX7_save_28 dX7_save_45 (by assumption) rfl (by assumption) ?_
        refine ZV_iload_n dX7_save_48 rfl ?_
        refine ZV_iconst dX7_save_49 ?_
        refine ZV_zast (n) dX7_save_50 (by assumption) (by first | rfl | omega) (by omega) (by omega) (by first | exact Or.inl rfl | exact Or.inr rfl | omega) ?_
        refine ZV_aload_n dX7_save_51 rfl ?_
        refine ZV_getR fX7_save_16 dX7_save_52 (by assumption) rfl (by assumption) ?_
        refine ZV_iconst dX7_save_55 ?_
        refine ZV_iald (0) dX7_save_56 (by assumption) (by first | rfl | omega) (by omega) (by omega) ?_
        rw [r0]
        refine ZV_iret dX7_save_57 rfl ?_
        refine hx _ ⟨fun q hq => q2 q (by omega) (by omega) (by omega), ⟨hL, ?_, ⟨by rw [q2 _ (by omega) (by omega) (by omega)]; exact hR, hG⟩, ⟨by rw [m2 9 (by decide)]; exact a1, a2, fun k hk => by rw [q2 _ (by omega) (by omega) (by omega)]; exact a3 k hk⟩, fun k hk => ?_⟩, ?_⟩
        · obtain ⟨t1, t2, t3⟩ := hT
          exact ⟨by rw [m2 2 (by decide)]; exact t1, t2, fun p hp => by rw [q2 _ (by omega) (by omega) (by omega)]; exact t3 p hp⟩
        · show ((if k = n then some Q.2.1 else Q.2.2.2 k) = none ∧ up2 I2 (m + 7) n 1 (m + 7) k = 0) ∨ ∃ B, (if k = n then some Q.2.1 else Q.2.2.2 k) = some B ∧ up2 I2 (m + 7) n 1 (m + 7) k = 1 ∧ MR (fun q => up2 I2 (m + 7) n 1 (m + 6) (980 * k + q)) B ∧ GoodSt B
          by_cases e : k = n
          · subst e
            rw [if_pos rfl]
            exact Or.inr ⟨_, rfl, up2_same _ _ _ _, hR.move hG (fun q hq => by rw [up2_a (by omega), hI2k, if_pos ⟨by omega, by omega⟩, up2_a (by omega), show 0 + (980 * k + q - 980 * k) = q by omega]), hG⟩
          · rw [if_neg e, up2_k e, hI2 _ (by omega), up2_a (by omega)]
            rcases hV k hk with ⟨h1, h2⟩ | ⟨B, h1, h2, h3, h4⟩
            · exact Or.inl ⟨h1, h2⟩
            · exact Or.inr ⟨B, h1, h2, h3.move h4 (fun q hq => by rw [up2_a (by omega), hI2k, if_neg (by omega), up2_a (by omega)]), h4⟩
        · rw [up2_a (by omega), hI2 m (by omega), up2_same]
      · omega
  · rw [if_neg (fun q => c ⟨q.1, by omega⟩)]
    refine ZV_if_eq (tgt := 15) dX7_save_8 (by decide) ⟨by omega, by omega⟩ (fun h8 => ?_) (fun h8 => ?_)
    · refine ZV_iconst dX7_save_15 ?_
      refine cl_X7_refused kX7_save_125 rfl dX7_save_16 (by assumption) (Nat.le_of_ble_eq_true rfl) ?_
      refine sp_X7_refused hL ⟨by decide, by decide⟩ ?_
      rw [if_pos (by decide)]
      refine ZV_if_eq (tgt := 24) dX7_save_19 (by decide) ⟨by omega, by omega⟩ (fun h19 => ?_) (fun h19 => ?_)
      · omega
      · refine ZV_iconst dX7_save_22 ?_
        refine ZV_iret dX7_save_23 rfl ?_
        exact hx1 c _ hM.mp
    · omega
theorem sp_X7_restore {m : Nat} {s : Int} {Q : AC} (hM : MInv X g I m Q) (hs : r32 s) (hx1 : ¬ (0 ≤ s ∧ s < 2) → ∀ I', MP X g I I' m Q 1 → post (.inl (some (vi 0))) g I' J) (hx2 : (0 ≤ s ∧ s < 2) → Q.2.2.2 s.toNat = none → ∀ I', MP X g I I' m Q 2 → post (.inl (some (vi 0))) g I' J) (hx3 : (0 ≤ s ∧ s < 2) → ∀ A, Q.2.2.2 s.toNat = some A → ∀ I', MP X g I I' m (Q.1, A, (0, Q.2.2.1.2), Q.2.2.2) 0 → post (.inl (some (vi (aN A)))) g I' J) : ZV X E_X7_restore 0 [some (.ref m), some (vi s)] [] b g I J post := by
  have hM' := hM
  obtain ⟨hL, hT, ⟨hR, hG⟩, ⟨a1, a2, a3⟩, hV⟩ := hM'
  obtain ⟨l0, ⟨p1, p2, p3, p4, p5, p6, p7⟩, ⟨l1, l2, l3, l4, l5, l6⟩, ⟨j1, j2, j3, j4, j5, j6, j7⟩, ⟨k1, k2, k3, k4, k5, k6⟩⟩ := id hL
  obtain ⟨s1, s2⟩ := hs
  have bad : ∀ w, (w = 1 ∨ w = 2) → (∀ I', MP X g I I' m Q w → post (.inl (some (vi 0))) g I' J) → ZV X E_X7_restore 29 [some (.ref m), some (vi s)] [vi w, .ref m] b g I J post := by
    intro w hw hp
    refine cl_X7_refused kX7_restore_125 rfl dX7_restore_29 (by assumption) (Nat.le_of_ble_eq_true rfl) ?_
    refine sp_X7_refused hL ⟨by omega, by omega⟩ ?_
    rw [if_pos (by omega)]
    refine ZV_if_eq (tgt := 37) dX7_restore_32 (by decide) ⟨by omega, by omega⟩ (fun h32 => ?_) (fun h32 => ?_)
    · omega
    · refine ZV_iconst dX7_restore_35 ?_
      refine ZV_iret dX7_restore_36 rfl ?_
      exact hp _ hM.mp
  refine ZV_aload_n dX7_restore_0 rfl ?_
  refine ZV_iload_n dX7_restore_1 rfl ?_
  refine ZV_i2l dX7_restore_2 ⟨by omega, by omega⟩ ?_
  refine ZV_lconst (z := 0) dX7_restore_3 (by decide) ?_
  refine ZV_lconst (z := 1) dX7_restore_4 (by decide) ?_
  refine cl_X7_in kX7_restore_118 rfl dX7_restore_5 (Nat.le_of_ble_eq_true rfl) ?_
  refine sp_X7_in ⟨by omega, by omega⟩ ⟨by decide, by decide⟩ ⟨by decide, by decide⟩ ?_
  by_cases c : 0 ≤ s ∧ s < 2
  · rw [if_pos ⟨c.1, by omega⟩]
    have hx2 := hx2 c
    have hx3 := hx3 c
    obtain ⟨n, rfl⟩ : ∃ n : Nat, s = n := ⟨s.toNat, by omega⟩
    rw [Int.toNat_natCast] at hx2 hx3
    refine ZV_if_ne (tgt := 15) dX7_restore_8 (by decide) ⟨by omega, by omega⟩ (fun h8 => ?_) (fun h8 => ?_)
    · rcases hV n (by omega) with ⟨h1, h2⟩ | ⟨B, h1, h2, h3, h4⟩
      · refine ZV_aload_n dX7_restore_15 rfl ?_
        refine ZV_getR fX7_restore_28 dX7_restore_16 (by assumption) rfl (by assumption) ?_
        refine ZV_iload_n dX7_restore_19 rfl ?_
        refine ZV_zald (n) dX7_restore_20 (by assumption) (by first | rfl | omega) (by omega) (by omega) ?_
        rw [h2]
        refine ZV_if_eq (tgt := 28) dX7_restore_21 (by decide) ⟨by omega, by omega⟩ (fun h21 => ?_) (fun h21 => ?_)
        · refine ZV_iconst dX7_restore_28 ?_
          exact bad 2 (Or.inr rfl) (hx2 h1)
        · omega
      · have hx := hx3 B h1
        refine ZV_aload_n dX7_restore_15 rfl ?_
        refine ZV_getR fX7_restore_28 dX7_restore_16 (by assumption) rfl (by assumption) ?_
        refine ZV_iload_n dX7_restore_19 rfl ?_
        refine ZV_zald (n) dX7_restore_20 (by assumption) (by first | rfl | omega) (by omega) (by omega) ?_
        rw [h2]
        refine ZV_if_eq (tgt := 28) dX7_restore_21 (by decide) ⟨by omega, by omega⟩ (fun h21 => ?_) (fun h21 => ?_)
        · omega
        · refine ZV_iconst dX7_restore_24 ?_
          refine ZV_goto (tgt := 29) dX7_restore_25 (by decide) ?_
          refine cl_X7_refused kX7_restore_125 rfl dX7_restore_29 (by assumption) (Nat.le_of_ble_eq_true rfl) ?_
          refine sp_X7_refused hL ⟨by decide, by decide⟩ ?_
          rw [if_neg (by decide)]
          refine ZV_if_eq (tgt := 37) dX7_restore_32 (by decide) ⟨by omega, by omega⟩ (fun h32 => ?_) (fun h32 => ?_)
          · refine ZV_aload_n dX7_restore_37 rfl ?_
            refine ZV_getR fX7_restore_25 dX7_restore_38 (by assumption) rfl (by assumption) ?_
            refine ZV_sipush dX7_restore_41 (by decide) ?_
            refine ZV_iload_n dX7_restore_44 rfl ?_
            refine ZV_imul dX7_restore_45 ?_
            rw [show 980 * (n : Int) = ((980 * n : Nat) : Int) by omega]
            refine ZV_aload_n dX7_restore_46 rfl ?_
            refine ZV_getR fX7_restore_16 dX7_restore_47 (by assumption) rfl (by assumption) ?_
            refine ZV_iconst dX7_restore_50 ?_
            refine ZV_sipush dX7_restore_51 (by decide) ?_
            refine cl_X7_copy kX7_restore_63 rfl dX7_restore_54 (Nat.le_of_ble_eq_true rfl) ?_
            refine sp_X7_copy (y := 0) (n := 980) j6 j3 (by omega) (by omega) (by omega) (by omega) (Or.inl (by omega)) ?_
            intro I2 hI2 hI2k
            have q2 : ∀ q, q ≠ m → q ≠ m + 3 → up2 I2 m 9 0 q = I q := fun q h1 h2 => by rw [up2_row _ _ h1, hI2 q h2, up2_row _ _ h1]
            have m2 : ∀ k, k ≠ 0 → k ≠ 9 → up2 I2 m 9 0 m k = I m k := fun k h1 h2 => by rw [up2_k h2, hI2 m (by omega), up2_k h1]
            have hR2 : MR (up2 I2 m 9 0 (m + 3)) B := h3.move h4 (fun q hq => by rw [up2_a (by omega), hI2k, if_pos ⟨by omega, by omega⟩, up2_a (by omega), show 980 * n + (q - 0) = 980 * n + q by omega])
            refine ZV_aload_n dX7_restore_57 rfl ?_
            refine ZV_iconst dX7_restore_58 ?_
            refine ZV_putI fX7_restore_60 dX7_restore_59 (by assumption) rfl ?_
            refine ZV_aload_n dX7_restore_62 rfl ?_
            refine ZV_getR fX7_restore_16 dX7_restore_63 (by assumption) rfl (by assumption) ?_
            refine ZV_iconst dX7_restore_66 ?_
            refine ZV_iald (0) dX7_restore_67 (by assumption) (by first | rfl | omega) (by omega) (by omega) ?_
            rw [hR2.1.1]
            refine ZV_iret dX7_restore_68 rfl ?_
            refine hx _ ⟨fun q hq => q2 q (by omega) (by omega), ⟨hL, ?_, ⟨hR2, h4⟩, ⟨up2_same _ _ _ _, Nat.zero_le _, fun k hk => absurd hk (Nat.not_lt_zero k)⟩, fun k hk => by rw [q2 (m + 7) (by omega) (by omega), q2 (m + 6) (by omega) (by omega)]; exact hV k hk⟩, ?_⟩
            · obtain ⟨t1, t2, t3⟩ := hT
              exact ⟨by rw [m2 2 (by decide) (by decide)]; exact t1, t2, fun p hp => by rw [q2 _ (by omega) (by omega)]; exact t3 p hp⟩
            · rw [up2_k (by decide), hI2 m (by omega), up2_same]
          · omega
    · omega
  · rw [if_neg (fun q => c ⟨q.1, by omega⟩)]
    refine ZV_if_ne (tgt := 15) dX7_restore_8 (by decide) ⟨by omega, by omega⟩ (fun h8 => ?_) (fun h8 => ?_)
    · omega
    · refine ZV_iconst dX7_restore_11 ?_
      refine ZV_goto (tgt := 29) dX7_restore_12 (by decide) ?_
      exact bad 1 (Or.inl rfl) (hx1 c)
end ZM16

