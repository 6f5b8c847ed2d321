/-! CitationKeys$State: what it is; its methods that only read -/
/-- a state: how many works, the works, style, order, how many printed keys, the keys, their owners -/
abbrev ASt : Type := Nat × (Nat → AWk) × Int × Int × Nat × (Nat → Int) × (Nat → Int)
abbrev aN (A : ASt) : Nat := A.1
abbrev aW (A : ASt) : Nat → AWk := A.2.1
abbrev aS (A : ASt) : Int := A.2.2.1
abbrev aO (A : ASt) : Int := A.2.2.2.1
abbrev aPn (A : ASt) : Nat := A.2.2.2.2.1
abbrev aPk (A : ASt) : Nat → Int := A.2.2.2.2.2.1
abbrev aPo (A : ASt) : Nat → Int := A.2.2.2.2.2.2
/-- the cells of a state from t on -/
def SL (X : Xt) (g : Geo) (t : Nat) : Prop :=
  (ksh X g t = some (.inl 1) ∧ g.2.1 t 0 = some (t + 1) ∧ g.2.1 t 4 = some (t + 34) ∧ g.2.1 t 5 = some (t + 35) ∧ g.2.1 t 6 = some (t + 36) ∧ g.2.1 t 7 = some (t + 37)) ∧
  (ksh X g (t + 1) = some (.inr (5, 16)) ∧ ksh X g (t + 34) = some (.inr (1, 16)) ∧ ksh X g (t + 35) = some (.inr (1, 16)) ∧ ksh X g (t + 36) = some (.inr (1, 16)) ∧ ksh X g (t + 37) = some (.inr (0, 16))) ∧
  (∀ i, i < 16 → ∃ k, k < 16 ∧ g.2.1 (t + 1) i = some (t + 2 + 2 * k)) ∧ (∀ i j, i < 16 → j < 16 → g.2.1 (t + 1) i = g.2.1 (t + 1) j → i = j) ∧ ∀ k, k < 16 → WG X g (t + 2 + 2 * k)
/-- the address of work i -/
def swk (g : Geo) (t i : Nat) : Nat := (g.2.1 (t + 1) i).getD 0
theorem SL_sw {X : Xt} {g : Geo} {t i : Nat} (h : SL X g t) (hi : i < 16) : g.2.1 (t + 1) i = some (swk g t i) ∧ WG X g (swk g t i) ∧ (t + 2 ≤ swk g t i ∧ swk g t i + 2 ≤ t + 34 ∧ (swk g t i - t) % 2 = 0) := by
  obtain ⟨-, -, h1, -, h3⟩ := h
  obtain ⟨k, hk, e⟩ := h1 i hi
  have es : swk g t i = t + 2 + 2 * k := by unfold swk; rw [e]; rfl
  rw [es]
  exact ⟨e, h3 k hk, by omega, by omega, by omega⟩
theorem SL_ne {X : Xt} {g : Geo} {t i j : Nat} (h : SL X g t) (hi : i < 16) (hj : j < 16) (hij : i ≠ j) : swk g t i + 2 ≤ swk g t j ∨ swk g t j + 2 ≤ swk g t i := by
  obtain ⟨e1, -, l1⟩ := SL_sw h hi
  obtain ⟨e2, -, l2⟩ := SL_sw h hj
  have hne : swk g t i ≠ swk g t j := fun q => hij (h.2.2.2.1 i j hi hj (by rw [e1, e2, q]))
  omega
/-- what a state holds, but for its caches -/
def StAt (g : Geo) (I J : Mm) (t : Nat) (A : ASt) : Prop := (I t 1 = (aN A : Int) ∧ I t 2 = aS A ∧ I t 3 = aO A ∧ I t 8 = (aPn A : Int)) ∧ (∀ i, i < aN A → WkAt I J (swk g t i) (aW A i)) ∧ ∀ p, p < aPn A → J (t + 36) p = aPk A p ∧ I (t + 37) p = aPo A p
/-- the caches: stems, keys -/
def SmAt (J : Mm) (t n : Nat) (S : Nat → Int) : Prop := ∀ i, i < n → J (t + 34) i = S i
def KyAt (J : Mm) (t n : Nat) (K : Nat → Int) : Prop := ∀ i, i < n → J (t + 35) i = K i
def StOK (A : ASt) : Prop := aN A ≤ 16 ∧ aPn A ≤ 16 ∧ (0 ≤ aS A ∧ aS A ≤ 3) ∧ (aO A = 0 ∨ aO A = 1) ∧ ∀ i, i < aN A → WkOK (aW A i)
theorem WkAt.fr {I I' J J' : Mm} {lo hi w : Nat} {A : AWk} (h : WkAt I J w A) (hF : FrO I I' J J' lo hi) (hd : w + 2 ≤ lo ∨ hi ≤ w) : WkAt I' J' w A := by
  obtain ⟨h1, h2, h3, h4⟩ := h
  obtain ⟨e1, e2⟩ := hF w (by omega)
  obtain ⟨e3, e4⟩ := hF (w + 1) (by omega)
  exact ⟨fun a ha => by rw [e4]; exact h1 a ha, by rw [e1]; exact h2, by rw [e1]; exact h3, by rw [e2]; exact h4⟩
theorem StAt.fr {X : Xt} {g : Geo} {I I' J J' : Mm} {lo hi t : Nat} {A : ASt} (hL : SL X g t) (hn : aN A ≤ 16) (h : StAt g I J t A) (hF : FrO I I' J J' lo hi) (hd : t + 38 ≤ lo ∨ hi ≤ t) : StAt g I' J' t A := by
  obtain ⟨⟨h1, h2, h3, h4⟩, h5, h6⟩ := h
  have e1 := (hF t (by omega)).1
  refine ⟨⟨by rw [e1]; exact h1, by rw [e1]; exact h2, by rw [e1]; exact h3, by rw [e1]; exact h4⟩, fun i hi => ?_, fun p hp => ?_⟩
  · have := (SL_sw hL (i := i) (by omega)).2.2
    exact (h5 i hi).fr hF (by omega)
  · rw [(hF (t + 36) (by omega)).2, (hF (t + 37) (by omega)).1]; exact h6 p hp
theorem SmAt.fr {I I' J J' : Mm} {lo hi t n : Nat} {S : Nat → Int} (h : SmAt J t n S) (hF : FrO I I' J J' lo hi) (hd : t + 38 ≤ lo ∨ hi ≤ t) : SmAt J' t n S := fun i hi => by rw [(hF (t + 34) (by omega)).2]; exact h i hi
theorem KyAt.fr {I I' J J' : Mm} {lo hi t n : Nat} {S : Nat → Int} (h : KyAt J t n S) (hF : FrO I I' J J' lo hi) (hd : t + 38 ≤ lo ∨ hi ≤ t) : KyAt J' t n S := fun i hi => by rw [(hF (t + 35) (by omega)).2]; exact h i hi
def neg1 (x : Int) : Int := if x < 0 then 1 else 0
def ch3 (f s t i j : Int) : Int := if f ≠ 0 then neg1 f else if s ≠ 0 then neg1 s else if t ≠ 0 then neg1 t else if i < j then 1 else 0
/-- whether the work P, number i, is before Q, number j -/
def bz (od : Int) (P Q : AWk) (i j : Int) : Int := if od = 0 then ch3 (acmp P.1 Q.1 4) (zcmp P.2.2.1 Q.2.2.1) (zcmp P.2.2.2 Q.2.2.2) i j else ch3 (zcmp P.2.2.1 Q.2.2.1) (acmp P.1 Q.1 4) (zcmp P.2.2.2 Q.2.2.2) i j
theorem bz_01 (od : Int) (P Q : AWk) (i j : Int) : bz od P Q i j = 0 ∨ bz od P Q i j = 1 := by
  unfold bz ch3 neg1
  repeat' split
  all_goals omega
theorem acmp_r (f f' : Nat → Int) (n : Nat) : -1 ≤ acmp f f' n ∧ acmp f f' n ≤ 1 := by
  induction n with
  | zero => simp [acmp]
  | succ n ih =>
    simp only [acmp]
    split
    · unfold zcmp; repeat' split
      all_goals omega
    · exact ih
theorem zcmp_b (x y : Int) : -1 ≤ zcmp x y ∧ zcmp x y ≤ 1 := by
  unfold zcmp; repeat' split
  all_goals omega
/-- sums of zeros and ones -/
theorem zsum_01 {f : Nat → Int} (n : Nat) (h : ∀ i, i < n → f i = 0 ∨ f i = 1) : 0 ≤ zsum f n ∧ zsum f n ≤ n := by
  induction n with
  | zero => simp [zsum]
  | succ n ih =>
    have h1 := ih (fun i hi => h i (by omega))
    have h2 := h n (by omega)
    simp only [zsum]
    omega
theorem zsum_congr {f f' : Nat → Int} (n : Nat) (h : ∀ i, i < n → f i = f' i) : zsum f n = zsum f' n := by
  induction n with
  | zero => rfl
  | succ n ih =>
    simp only [zsum]
    rw [ih (fun i hi => h i (by omega)), h n (by omega)]
def zmx (f : Nat → Int) : Nat → Int
  | 0 => 0
  | n + 1 => if zmx f n < f n then f n else zmx f n
/-- the first place where f is 1 -/
def zfst (f : Nat → Int) : Nat → Int
  | 0 => -9
  | n + 1 => if zfst f n = -9 then (if f n = 1 then (n : Int) else -9) else zfst f n
theorem zfst_stable {f : Nat → Int} {m : Nat} (h : zfst f m ≠ -9) : ∀ n, m ≤ n → zfst f n = zfst f m := by
  intro n
  induction n with
  | zero => intro q; rw [show m = 0 by omega]
  | succ n ih =>
    intro q
    by_cases e : m = n + 1
    · rw [e]
    · have := ih (by omega)
      simp only [zfst]
      rw [if_neg (by rw [this]; exact h), this]
theorem zfst_hit {f : Nat → Int} {i n : Nat} (h : zfst f i = -9) (hi : f i = 1) (hn : i < n) : zfst f n = (i : Int) := by
  have e : zfst f (i + 1) = (i : Int) := by simp only [zfst]; rw [if_pos h, if_pos hi]
  rw [zfst_stable (m := i + 1) (by rw [e]; omega) n (by omega), e]
theorem zfst_miss {f : Nat → Int} {i : Nat} (h : zfst f i = -9) (hi : f i ≠ 1) : zfst f (i + 1) = -9 := by simp only [zfst]; rw [if_pos h, if_neg hi]
section ZS
variable {X : Xt} {b : Nat × Nat} {g : Geo} {I J : Mm} {post : Out → Geo → Mm → Mm → Prop}
theorem sp_X3_has {t : Nat} {i : Int} (hk : ksh X g t = some (.inl 1)) (hi : r32 i) (hn : r32 (I t 1)) (h : post (.inl (some (vi (if 0 ≤ i ∧ i < I t 1 then 1 else 0)))) g I J) : ZV X E_X3_has 0 [some (.ref t), some (vi i)] [] b g I J post := by
  obtain ⟨hi1, hi2⟩ := hi
  obtain ⟨hn1, hn2⟩ := hn
  refine ZV_iload_n dX3_has_0 rfl ?_
  refine ZV_if_lt (tgt := 16) dX3_has_1 (by decide) ⟨by omega, by omega⟩ (fun h1 => ?_) (fun h1 => ?_)
  · refine ZV_iconst dX3_has_16 ?_
    refine ZV_zret dX3_has_17 rfl (by first | exact Or.inl rfl | exact Or.inr rfl | assumption | omega) ?_
    rw [if_neg (by omega)] at h
    exact h
  · refine ZV_iload_n dX3_has_4 rfl ?_
    refine ZV_aload_n dX3_has_5 rfl ?_
    refine ZV_getI fX3_has_32 dX3_has_6 (by assumption) rfl ?_
    refine ZV_icmp_ge (tgt := 16) dX3_has_9 (by decide) ⟨by omega, by omega⟩ ⟨by omega, by omega⟩ (fun h9 => ?_) (fun h9 => ?_)
    · refine ZV_iconst dX3_has_16 ?_
      refine ZV_zret dX3_has_17 rfl (by first | exact Or.inl rfl | exact Or.inr rfl | assumption | omega) ?_
      rw [if_neg (by omega)] at h
      exact h
    · refine ZV_iconst dX3_has_12 ?_
      refine ZV_goto (tgt := 17) dX3_has_13 (by decide) ?_
      refine ZV_zret dX3_has_17 rfl (by first | exact Or.inl rfl | exact Or.inr rfl | assumption | omega) ?_
      rw [if_pos ⟨by omega, by omega⟩] at h
      exact h
theorem sp_X3_isBefore {t : Nat} {A : ASt} {i j : Nat} {zi zj : Int} (hL : SL X g t) (hA : StAt g I J t A) (hO : StOK A) (hi : i < aN A) (hj : j < aN A) (ei : zi = (i : Int)) (ej : zj = (j : Int)) (h : post (.inl (some (vi (bz (aO A) (aW A i) (aW A j) zi zj)))) g I J) : ZV X E_X3_isBefore 0 [some (.ref t), some (vi zi), some (vi zj), none, none, none, none, none] [] b g I J post := by
  obtain ⟨hn, hpn, hst, hod, hwk⟩ := hO
  obtain ⟨wi1, ⟨wi2, wi3, wi4⟩, wi5⟩ := SL_sw hL (i := i) (by omega)
  obtain ⟨wj1, ⟨wj2, wj3, wj4⟩, wj5⟩ := SL_sw hL (i := j) (by omega)
  obtain ⟨⟨s1, s2, s3, s4, s5, s6⟩, ⟨s7, s8, s9, s10, s11⟩, -⟩ := hL
  obtain ⟨⟨a1, a2, a3, a4⟩, a5, a6⟩ := hA
  have pi := a5 i hi
  have pj := a5 j hj
  have oi := hwk i hi
  have oj := hwk j hj
  have yi := oi.2.2.1
  have yj := oj.2.2.1
  have ti := oi.2.2.2
  have tj := oj.2.2.2
  unfold nmOK at ti tj
  have c1 := acmp_r (aW A i).1 (aW A j).1 4
  have c2 := zcmp_b (aW A i).2.2.1 (aW A j).2.2.1
  have c3 := zcmp_b (aW A i).2.2.2 (aW A j).2.2.2
  unfold bz ch3 neg1 at h
  refine ZV_aload_n dX3_isBefore_0 rfl ?_
  refine ZV_getR fX3_isBefore_11 dX3_isBefore_1 (by assumption) rfl (by assumption) ?_
  refine ZV_iload_n dX3_isBefore_4 rfl ?_
  first | refine ZV_aaldW (i) dX3_isBefore_5 (by assumption) (by first | rfl | omega) (by omega) (by omega) (by assumption) ?_ | refine ZV_aaldS (i) dX3_isBefore_5 (by assumption) (by first | rfl | omega) (by omega) (by omega) (by assumption) ?_
  refine ZV_aload_n dX3_isBefore_6 rfl ?_
  refine ZV_getR fX3_isBefore_11 dX3_isBefore_7 (by assumption) rfl (by assumption) ?_
  refine ZV_iload_n dX3_isBefore_10 rfl ?_
  first | refine ZV_aaldW (j) dX3_isBefore_11 (by assumption) (by first | rfl | omega) (by omega) (by omega) (by assumption) ?_ | refine ZV_aaldS (j) dX3_isBefore_11 (by assumption) (by first | rfl | omega) (by omega) (by omega) (by assumption) ?_
  refine cl_X5_compareAuthors kX3_isBefore_72 rfl dX3_isBefore_12 (by assumption) (Nat.le_of_ble_eq_true rfl) ?_
  refine sp_X5_compareAuthors ⟨wi2, wi3, wi4⟩ ⟨wj2, wj3, wj4⟩ pi pj oi oj ?_
  refine ZV_istore3 dX3_isBefore_15 rfl (by decide) ?_
  refine ZV_aload_n dX3_isBefore_16 rfl ?_
  refine ZV_getR fX3_isBefore_11 dX3_isBefore_17 (by assumption) rfl (by assumption) ?_
  refine ZV_iload_n dX3_isBefore_20 rfl ?_
  first | refine ZV_aaldW (i) dX3_isBefore_21 (by assumption) (by first | rfl | omega) (by omega) (by omega) (by assumption) ?_ | refine ZV_aaldS (i) dX3_isBefore_21 (by assumption) (by first | rfl | omega) (by omega) (by omega) (by assumption) ?_
  refine ZV_getI fX3_isBefore_57 dX3_isBefore_22 (by assumption) rfl ?_
  refine ZV_aload_n dX3_isBefore_25 rfl ?_
  refine ZV_getR fX3_isBefore_11 dX3_isBefore_26 (by assumption) rfl (by assumption) ?_
  refine ZV_iload_n dX3_isBefore_29 rfl ?_
  first | refine ZV_aaldW (j) dX3_isBefore_30 (by assumption) (by first | rfl | omega) (by omega) (by omega) (by assumption) ?_ | refine ZV_aaldS (j) dX3_isBefore_30 (by assumption) (by first | rfl | omega) (by omega) (by omega) (by assumption) ?_
  refine ZV_getI fX3_isBefore_57 dX3_isBefore_31 (by assumption) rfl ?_
  refine cl_J6_compare_7cf53 kX3_isBefore_76 rfl dX3_isBefore_34 (Nat.le_of_ble_eq_true rfl) ?_
  rw [pi.2.2.1, pj.2.2.1]
  refine sp_J6_compare ⟨by omega, by omega⟩ ⟨by omega, by omega⟩ ?_
  obtain ⟨c, hc⟩ : ∃ c, c = acmp (aW A i).1 (aW A j).1 4 := ⟨_, rfl⟩
  obtain ⟨y, hy⟩ : ∃ y, y = zcmp (aW A i).2.2.1 (aW A j).2.2.1 := ⟨_, rfl⟩
  obtain ⟨t3, ht3⟩ : ∃ y, y = zcmp (aW A i).2.2.2 (aW A j).2.2.2 := ⟨_, rfl⟩
  rw [← hc, ← hy, ← ht3] at h
  rw [← hc] at c1
  rw [← hy] at c2
  rw [← ht3] at c3
  rw [← hc, ← hy]
  have tail : ∀ (f s : Int), (-1 ≤ f ∧ f ≤ 1) → (-1 ≤ s ∧ s ≤ 1) → post (.inl (some (vi (if f ≠ 0 then (if f < 0 then 1 else 0) else if s ≠ 0 then (if s < 0 then 1 else 0) else if t3 ≠ 0 then (if t3 < 0 then 1 else 0) else if zi < zj then 1 else 0)))) g I J → ZV X E_X3_isBefore 69 [some (.ref t), some (vi zi), some (vi zj), some (vi c), some (vi y), some (vi f), some (vi s), none] [] b g I J post := by
    intro f s hf hs h
    refine ZV_iload dX3_isBefore_69 rfl ?_
    refine ZV_if_eq (tgt := 85) dX3_isBefore_71 (by decide) ⟨by omega, by omega⟩ (fun h71 => ?_) (fun h71 => ?_)
    · rw [if_neg (by omega)] at h
      refine ZV_iload dX3_isBefore_85 rfl ?_
      refine ZV_if_eq (tgt := 101) dX3_isBefore_87 (by decide) ⟨by omega, by omega⟩ (fun h87 => ?_) (fun h87 => ?_)
      · rw [if_neg (by omega)] at h
        refine ZV_aload_n dX3_isBefore_101 rfl ?_
        refine ZV_getR fX3_isBefore_11 dX3_isBefore_102 (by assumption) rfl (by assumption) ?_
        refine ZV_iload_n dX3_isBefore_105 rfl ?_
        first | refine ZV_aaldW (i) dX3_isBefore_106 (by assumption) (by first | rfl | omega) (by omega) (by omega) (by assumption) ?_ | refine ZV_aaldS (i) dX3_isBefore_106 (by assumption) (by first | rfl | omega) (by omega) (by omega) (by assumption) ?_
        refine ZV_getJ fX3_isBefore_82 dX3_isBefore_107 (by assumption) rfl ?_
        refine ZV_aload_n dX3_isBefore_110 rfl ?_
        refine ZV_getR fX3_isBefore_11 dX3_isBefore_111 (by assumption) rfl (by assumption) ?_
        refine ZV_iload_n dX3_isBefore_114 rfl ?_
        first | refine ZV_aaldW (j) dX3_isBefore_115 (by assumption) (by first | rfl | omega) (by omega) (by omega) (by assumption) ?_ | refine ZV_aaldS (j) dX3_isBefore_115 (by assumption) (by first | rfl | omega) (by omega) (by omega) (by assumption) ?_
        refine ZV_getJ fX3_isBefore_82 dX3_isBefore_116 (by assumption) rfl ?_
        refine cl_J13_compare_74951 kX3_isBefore_86 rfl dX3_isBefore_119 (Nat.le_of_ble_eq_true rfl) ?_
        rw [pi.2.2.2, pj.2.2.2]
        refine sp_J13_compare ⟨by omega, by omega⟩ ⟨by omega, by omega⟩ ?_
        rw [← ht3]
        refine ZV_istore7 dX3_isBefore_122 rfl (by decide) ?_
        refine ZV_iload dX3_isBefore_124 rfl ?_
        refine ZV_if_eq (tgt := 142) dX3_isBefore_126 (by decide) ⟨by omega, by omega⟩ (fun h126 => ?_) (fun h126 => ?_)
        · rw [if_neg (by omega)] at h
          refine ZV_iload_n dX3_isBefore_142 rfl ?_
          refine ZV_iload_n dX3_isBefore_143 rfl ?_
          refine ZV_icmp_ge (tgt := 151) dX3_isBefore_144 (by decide) ⟨by omega, by omega⟩ ⟨by omega, by omega⟩ (fun h144 => ?_) (fun h144 => ?_)
          · rw [if_neg (by omega)] at h
            refine ZV_iconst dX3_isBefore_151 ?_
            refine ZV_zret dX3_isBefore_152 rfl (by first | exact Or.inl rfl | exact Or.inr rfl | assumption | omega) ?_
            exact h
          · rw [if_pos (by omega)] at h
            refine ZV_iconst dX3_isBefore_147 ?_
            refine ZV_goto (tgt := 152) dX3_isBefore_148 (by decide) ?_
            refine ZV_zret dX3_isBefore_152 rfl (by first | exact Or.inl rfl | exact Or.inr rfl | assumption | omega) ?_
            exact h
        · rw [if_pos (by omega)] at h
          refine ZV_iload dX3_isBefore_129 rfl ?_
          refine ZV_if_ge (tgt := 138) dX3_isBefore_131 (by decide) ⟨by omega, by omega⟩ (fun h131 => ?_) (fun h131 => ?_)
          · rw [if_neg (by omega)] at h
            refine ZV_iconst dX3_isBefore_138 ?_
            refine ZV_goto (tgt := 152) dX3_isBefore_139 (by decide) ?_
            refine ZV_zret dX3_isBefore_152 rfl (by first | exact Or.inl rfl | exact Or.inr rfl | assumption | omega) ?_
            exact h
          · rw [if_pos (by omega)] at h
            refine ZV_iconst dX3_isBefore_134 ?_
            refine ZV_goto (tgt := 152) dX3_isBefore_135 (by decide) ?_
            refine ZV_zret dX3_isBefore_152 rfl (by first | exact Or.inl rfl | exact Or.inr rfl | assumption | omega) ?_
            exact h
      · rw [if_pos (by omega)] at h
        refine ZV_iload dX3_isBefore_90 rfl ?_
        refine ZV_if_ge (tgt := 99) dX3_isBefore_92 (by decide) ⟨by omega, by omega⟩ (fun h92 => ?_) (fun h92 => ?_)
        · rw [if_neg (by omega)] at h
          refine ZV_iconst dX3_isBefore_99 ?_
          refine ZV_zret dX3_isBefore_100 rfl (by first | exact Or.inl rfl | exact Or.inr rfl | assumption | omega) ?_
          exact h
        · rw [if_pos (by omega)] at h
          refine ZV_iconst dX3_isBefore_95 ?_
          refine ZV_goto (tgt := 100) dX3_isBefore_96 (by decide) ?_
          refine ZV_zret dX3_isBefore_100 rfl (by first | exact Or.inl rfl | exact Or.inr rfl | assumption | omega) ?_
          exact h
    · rw [if_pos (by omega)] at h
      refine ZV_iload dX3_isBefore_74 rfl ?_
      refine ZV_if_ge (tgt := 83) dX3_isBefore_76 (by decide) ⟨by omega, by omega⟩ (fun h76 => ?_) (fun h76 => ?_)
      · rw [if_neg (by omega)] at h
        refine ZV_iconst dX3_isBefore_83 ?_
        refine ZV_zret dX3_isBefore_84 rfl (by first | exact Or.inl rfl | exact Or.inr rfl | assumption | omega) ?_
        exact h
      · rw [if_pos (by omega)] at h
        refine ZV_iconst dX3_isBefore_79 ?_
        refine ZV_goto (tgt := 84) dX3_isBefore_80 (by decide) ?_
        refine ZV_zret dX3_isBefore_84 rfl (by first | exact Or.inl rfl | exact Or.inr rfl | assumption | omega) ?_
        exact h
  refine ZV_istore4 dX3_isBefore_37 rfl (by decide) ?_
  refine ZV_aload_n dX3_isBefore_39 rfl ?_
  refine ZV_getI fX3_isBefore_39 dX3_isBefore_40 (by assumption) rfl ?_
  refine ZV_if_ne (tgt := 50) dX3_isBefore_43 (by decide) ⟨by omega, by omega⟩ (fun h43 => ?_) (fun h43 => ?_)
  · rw [if_neg (by omega)] at h
    refine ZV_iload dX3_isBefore_50 rfl ?_
    refine ZV_istore5 dX3_isBefore_52 rfl (by decide) ?_
    refine ZV_aload_n dX3_isBefore_54 rfl ?_
    refine ZV_getI fX3_isBefore_39 dX3_isBefore_55 (by assumption) rfl ?_
    refine ZV_if_ne (tgt := 66) dX3_isBefore_58 (by decide) ⟨by omega, by omega⟩ (fun h58 => ?_) (fun h58 => ?_)
    · refine ZV_iload_n dX3_isBefore_66 rfl ?_
      refine ZV_istore6 dX3_isBefore_67 rfl (by decide) ?_
      exact tail _ _ c2 c1 h
    · omega
  · rw [if_pos (by omega)] at h
    refine ZV_iload_n dX3_isBefore_46 rfl ?_
    refine ZV_goto (tgt := 52) dX3_isBefore_47 (by decide) ?_
    refine ZV_istore5 dX3_isBefore_52 rfl (by decide) ?_
    refine ZV_aload_n dX3_isBefore_54 rfl ?_
    refine ZV_getI fX3_isBefore_39 dX3_isBefore_55 (by assumption) rfl ?_
    refine ZV_if_ne (tgt := 66) dX3_isBefore_58 (by decide) ⟨by omega, by omega⟩ (fun h58 => ?_) (fun h58 => ?_)
    · omega
    · refine ZV_iload dX3_isBefore_61 rfl ?_
      refine ZV_goto (tgt := 67) dX3_isBefore_63 (by decide) ?_
      refine ZV_istore6 dX3_isBefore_67 rfl (by decide) ?_
      exact tail _ _ c1 c2 h
theorem sp_X3_placeOf {t : Nat} {A : ASt} {i : Nat} {zi : Int} (hL : SL X g t) (hA : StAt g I J t A) (hO : StOK A) (hi : i < aN A) (ei : zi = (i : Int)) (h : post (.inl (some (vi (zsum (fun j => bz (aO A) (aW A j) (aW A i) j i) (aN A))))) g I J) : ZV X E_X3_placeOf 0 [some (.ref t), some (vi zi), none, none] [] b g I J post := by
  have hL' := hL
  have hA' := hA
  obtain ⟨hn, -⟩ := id hO
  obtain ⟨⟨s1, s2, s3, s4, s5, s6⟩, -⟩ := hL
  obtain ⟨⟨a1, a2, a3, a4⟩, a5, a6⟩ := hA
  subst ei
  refine ZV_iconst dX3_placeOf_0 ?_
  refine ZV_istore2 dX3_placeOf_1 rfl (by decide) ?_
  refine ZV_iconst dX3_placeOf_2 ?_
  refine ZV_istore3 dX3_placeOf_3 rfl (by decide) ?_
  have key : ∀ q : Nat, q ≤ aN A → ∀ c z : Int, z = (q : Int) → c = zsum (fun j => bz (aO A) (aW A j) (aW A i) j i) q → ZV X E_X3_placeOf 4 [some (.ref t), some (vi (i : Int)), some (vi c), some (vi z)] [] b g I J post := by
    refine loop_up (aN A) ?_ ?_
    · intro c z hz hc
      refine ZV_iload_n dX3_placeOf_4 rfl ?_
      refine ZV_aload_n dX3_placeOf_5 rfl ?_
      refine ZV_getI fX3_placeOf_32 dX3_placeOf_6 (by assumption) rfl ?_
      refine ZV_icmp_ge (tgt := 30) dX3_placeOf_9 (by decide) ⟨by omega, by omega⟩ ⟨by omega, by omega⟩ (fun h9 => ?_) (fun h9 => ?_)
      · refine ZV_iload_n dX3_placeOf_30 rfl ?_
        refine ZV_iret dX3_placeOf_31 rfl ?_
        rw [hc]
        exact h
      · omega
    · intro q hq ih c z hz hc
      have h01 := bz_01 (aO A) (aW A q) (aW A i) z i
      have es : zsum (fun j => bz (aO A) (aW A j) (aW A i) j i) (q + 1) = c + bz (aO A) (aW A q) (aW A i) z i := by simp only [zsum]; rw [hc, hz]
      refine ZV_iload_n dX3_placeOf_4 rfl ?_
      refine ZV_aload_n dX3_placeOf_5 rfl ?_
      refine ZV_getI fX3_placeOf_32 dX3_placeOf_6 (by assumption) rfl ?_
      refine ZV_icmp_ge (tgt := 30) dX3_placeOf_9 (by decide) ⟨by omega, by omega⟩ ⟨by omega, by omega⟩ (fun h9 => ?_) (fun h9 => ?_)
      · omega
      · refine ZV_aload_n dX3_placeOf_12 rfl ?_
        refine ZV_iload_n dX3_placeOf_13 rfl ?_
        refine ZV_iload_n dX3_placeOf_14 rfl ?_
        refine cl_X3_isBefore kX3_placeOf_68 rfl dX3_placeOf_15 (by assumption) (Nat.le_of_ble_eq_true rfl) ?_
        refine sp_X3_isBefore hL' hA' hO hq hi hz rfl ?_
        refine ZV_if_eq (tgt := 24) dX3_placeOf_18 (by decide) ⟨by omega, by omega⟩ (fun h18 => ?_) (fun h18 => ?_)
        · refine ZV_jinc3 dX3_placeOf_24 rfl (by decide) ?_
          refine ZV_goto (tgt := 4) dX3_placeOf_27 (by decide) ?_
          exact ih _ _ (by omega) (by rw [es]; omega)
        · refine ZV_jinc2 dX3_placeOf_21 rfl (by decide) ?_
          refine ZV_jinc3 dX3_placeOf_24 rfl (by decide) ?_
          refine ZV_goto (tgt := 4) dX3_placeOf_27 (by decide) ?_
          exact ih _ _ (by omega) (by rw [es]; omega)
  exact key 0 (by omega) _ _ rfl rfl
theorem sp_X3_sharing {t : Nat} {A : ASt} {S : Nat → Int} {i : Nat} {zi : Int} (hL : SL X g t) (hA : StAt g I J t A) (hO : StOK A) (hS : SmAt J t (aN A) S) (hSr : ∀ j, j < aN A → r64 (S j)) (hi : i < aN A) (ei : zi = (i : Int)) (h : post (.inl (some (vi (zsum (fun j => if S j = S i then 1 else 0) (aN A))))) g I J) : ZV X E_X3_sharing 0 [some (.ref t), some (vi zi), none, none] [] b g I J post := by
  obtain ⟨hn, -⟩ := id hO
  obtain ⟨⟨s1, s2, s3, s4, s5, s6⟩, ⟨s7, s8, s9, s10, s11⟩, -⟩ := hL
  obtain ⟨⟨a1, a2, a3, a4⟩, a5, a6⟩ := hA
  subst ei
  have hri := hSr i hi
  obtain ⟨r1, r2⟩ := hri
  refine ZV_iconst dX3_sharing_0 ?_
  refine ZV_istore2 dX3_sharing_1 rfl (by decide) ?_
  refine ZV_iconst dX3_sharing_2 ?_
  refine ZV_istore3 dX3_sharing_3 rfl (by decide) ?_
  have key : ∀ q : Nat, q ≤ aN A → ∀ c z : Int, z = (q : Int) → c = zsum (fun j => if S j = S i then 1 else 0) q → ZV X E_X3_sharing 4 [some (.ref t), some (vi (i : Int)), some (vi c), some (vi z)] [] b g I J post := by
    refine loop_up (aN A) ?_ ?_
    · intro c z hz hc
      refine ZV_iload_n dX3_sharing_4 rfl ?_
      refine ZV_aload_n dX3_sharing_5 rfl ?_
      refine ZV_getI fX3_sharing_32 dX3_sharing_6 (by assumption) rfl ?_
      refine ZV_icmp_ge (tgt := 37) dX3_sharing_9 (by decide) ⟨by omega, by omega⟩ ⟨by omega, by omega⟩ (fun h9 => ?_) (fun h9 => ?_)
      · refine ZV_iload_n dX3_sharing_37 rfl ?_
        refine ZV_iret dX3_sharing_38 rfl ?_
        rw [hc]
        exact h
      · omega
    · intro q hq ih c z hz hc
      have hrq := hSr q hq
      obtain ⟨r3, r4⟩ := hrq
      refine ZV_iload_n dX3_sharing_4 rfl ?_
      refine ZV_aload_n dX3_sharing_5 rfl ?_
      refine ZV_getI fX3_sharing_32 dX3_sharing_6 (by assumption) rfl ?_
      refine ZV_icmp_ge (tgt := 37) dX3_sharing_9 (by decide) ⟨by omega, by omega⟩ ⟨by omega, by omega⟩ (fun h9 => ?_) (fun h9 => ?_)
      · omega
      · refine ZV_aload_n dX3_sharing_12 rfl ?_
        refine ZV_getR fX3_sharing_18 dX3_sharing_13 (by assumption) rfl (by assumption) ?_
        refine ZV_iload_n dX3_sharing_16 rfl ?_
        refine ZV_lald (q) dX3_sharing_17 (by assumption) (by first | rfl | omega) (by omega) (by omega) ?_
        refine ZV_aload_n dX3_sharing_18 rfl ?_
        refine ZV_getR fX3_sharing_18 dX3_sharing_19 (by assumption) rfl (by assumption) ?_
        refine ZV_iload_n dX3_sharing_22 rfl ?_
        refine ZV_lald (i) dX3_sharing_23 (by assumption) (by first | rfl | omega) (by omega) (by omega) ?_
        rw [hS q hq, hS i hi]
        refine ZV_lif_ne (tgt := 31) dX3_sharing_24 dX3_sharing_25 (by decide) ⟨by omega, by omega⟩ ⟨by omega, by omega⟩ (fun h24 => ?_) (fun h24 => ?_)
        · refine ZV_jinc3 dX3_sharing_31 rfl (by decide) ?_
          refine ZV_goto (tgt := 4) dX3_sharing_34 (by decide) ?_
          exact ih _ _ (by omega) (by simp only [zsum]; rw [if_neg h24]; omega)
        · refine ZV_jinc2 dX3_sharing_28 rfl (by decide) ?_
          refine ZV_jinc3 dX3_sharing_31 rfl (by decide) ?_
          refine ZV_goto (tgt := 4) dX3_sharing_34 (by decide) ?_
          exact ih _ _ (by omega) (by simp only [zsum]; rw [if_pos h24]; omega)
  exact key 0 (by omega) _ _ rfl rfl
theorem sp_X3_letterDue {t : Nat} {A : ASt} {S : Nat → Int} {i : Nat} {zi : Int} (hL : SL X g t) (hA : StAt g I J t A) (hO : StOK A) (hS : SmAt J t (aN A) S) (hSr : ∀ j, j < aN A → r64 (S j)) (hi : i < aN A) (ei : zi = (i : Int)) (h : post (.inl (some (vi (if 1 < zsum (fun j => if S j = S i then 1 else 0) (aN A) then zsum (fun j => if S j = S i then bz (aO A) (aW A j) (aW A i) j i else 0) (aN A) + 1 else 0)))) g I J) : ZV X E_X3_letterDue 0 [some (.ref t), some (vi zi), none, none, none] [] b g I J post := by
  have hL' := hL
  have hA' := hA
  obtain ⟨hn, -⟩ := id hO
  obtain ⟨⟨s1, s2, s3, s4, s5, s6⟩, ⟨s7, s8, s9, s10, s11⟩, -⟩ := hL
  obtain ⟨⟨a1, a2, a3, a4⟩, a5, a6⟩ := hA
  subst ei
  have hri := hSr i hi
  obtain ⟨r1, r2⟩ := hri
  have c1 := zsum_01 (f := fun j => if S j = S i then 1 else 0) (aN A) (fun j _ => by by_cases e : S j = S i <;> simp [e])
  have c2 := zsum_01 (f := fun j => if S j = S i then bz (aO A) (aW A j) (aW A i) j i else 0) (aN A) (fun j _ => by by_cases e : S j = S i; (simp only [if_pos e]; exact bz_01 ..); simp [e])
  refine ZV_iconst dX3_letterDue_0 ?_
  refine ZV_istore2 dX3_letterDue_1 rfl (by decide) ?_
  refine ZV_iconst dX3_letterDue_2 ?_
  refine ZV_istore3 dX3_letterDue_3 rfl (by decide) ?_
  refine ZV_iconst dX3_letterDue_4 ?_
  refine ZV_istore4 dX3_letterDue_5 rfl (by decide) ?_
  have key : ∀ q : Nat, q ≤ aN A → ∀ c d z : Int, z = (q : Int) → c = zsum (fun j => if S j = S i then 1 else 0) q → d = zsum (fun j => if S j = S i then bz (aO A) (aW A j) (aW A i) j i else 0) q → ZV X E_X3_letterDue 7 [some (.ref t), some (vi (i : Int)), some (vi c), some (vi d), some (vi z)] [] b g I J post := by
    refine loop_up (aN A) ?_ ?_
    · intro c d z hz hc hd
      rw [← hc] at h c1
      rw [← hd] at h c2
      refine ZV_iload dX3_letterDue_7 rfl ?_
      refine ZV_aload_n dX3_letterDue_9 rfl ?_
      refine ZV_getI fX3_letterDue_32 dX3_letterDue_10 (by assumption) rfl ?_
      refine ZV_icmp_ge (tgt := 55) dX3_letterDue_13 (by decide) ⟨by omega, by omega⟩ ⟨by omega, by omega⟩ (fun h13 => ?_) (fun h13 => ?_)
      · refine ZV_iload_n dX3_letterDue_55 rfl ?_
        refine ZV_iconst dX3_letterDue_56 ?_
        refine ZV_icmp_le (tgt := 66) dX3_letterDue_57 (by decide) ⟨by omega, by omega⟩ ⟨by omega, by omega⟩ (fun h57 => ?_) (fun h57 => ?_)
        · rw [if_neg (by omega)] at h
          refine ZV_iconst dX3_letterDue_66 ?_
          refine ZV_iret dX3_letterDue_67 rfl ?_
          exact h
        · rw [if_pos (by omega)] at h
          refine ZV_iload_n dX3_letterDue_60 rfl ?_
          refine ZV_iconst dX3_letterDue_61 ?_
          refine ZV_iadd dX3_letterDue_62 ?_
          refine ZV_goto (tgt := 67) dX3_letterDue_63 (by decide) ?_
          refine ZV_iret dX3_letterDue_67 rfl ?_
          exact h
      · omega
    · intro q hq ih c d z hz hc hd
      have hrq := hSr q hq
      obtain ⟨r3, r4⟩ := hrq
      have h01 := bz_01 (aO A) (aW A q) (aW A i) z i
      refine ZV_iload dX3_letterDue_7 rfl ?_
      refine ZV_aload_n dX3_letterDue_9 rfl ?_
      refine ZV_getI fX3_letterDue_32 dX3_letterDue_10 (by assumption) rfl ?_
      refine ZV_icmp_ge (tgt := 55) dX3_letterDue_13 (by decide) ⟨by omega, by omega⟩ ⟨by omega, by omega⟩ (fun h13 => ?_) (fun h13 => ?_)
      · omega
      · refine ZV_aload_n dX3_letterDue_16 rfl ?_
        refine ZV_getR fX3_letterDue_18 dX3_letterDue_17 (by assumption) rfl (by assumption) ?_
        refine ZV_iload dX3_letterDue_20 rfl ?_
        refine ZV_lald (q) dX3_letterDue_22 (by assumption) (by first | rfl | omega) (by omega) (by omega) ?_
        refine ZV_aload_n dX3_letterDue_23 rfl ?_
        refine ZV_getR fX3_letterDue_18 dX3_letterDue_24 (by assumption) rfl (by assumption) ?_
        refine ZV_iload_n dX3_letterDue_27 rfl ?_
        refine ZV_lald (i) dX3_letterDue_28 (by assumption) (by first | rfl | omega) (by omega) (by omega) ?_
        rw [hS q hq, hS i hi]
        refine ZV_lif_ne (tgt := 49) dX3_letterDue_29 dX3_letterDue_30 (by decide) ⟨by omega, by omega⟩ ⟨by omega, by omega⟩ (fun h29 => ?_) (fun h29 => ?_)
        · refine ZV_jinc4 dX3_letterDue_49 rfl (by decide) ?_
          refine ZV_goto (tgt := 7) dX3_letterDue_52 (by decide) ?_
          exact ih _ _ _ (by omega) (by simp only [zsum]; rw [if_neg h29]; omega) (by simp only [zsum]; rw [if_neg h29]; omega)
        · have e1 : zsum (fun j => if S j = S i then 1 else 0) (q + 1) = c + 1 := by simp only [zsum]; rw [if_pos h29, hc]
          have e2 : zsum (fun j => if S j = S i then bz (aO A) (aW A j) (aW A i) j i else 0) (q + 1) = d + bz (aO A) (aW A q) (aW A i) z i := by simp only [zsum]; rw [if_pos h29, hd, hz]
          refine ZV_jinc2 dX3_letterDue_33 rfl (by decide) ?_
          refine ZV_aload_n dX3_letterDue_36 rfl ?_
          refine ZV_iload dX3_letterDue_37 rfl ?_
          refine ZV_iload_n dX3_letterDue_39 rfl ?_
          refine cl_X3_isBefore kX3_letterDue_68 rfl dX3_letterDue_40 (by assumption) (Nat.le_of_ble_eq_true rfl) ?_
          refine sp_X3_isBefore hL' hA' hO hq hi hz rfl ?_
          refine ZV_if_eq (tgt := 49) dX3_letterDue_43 (by decide) ⟨by omega, by omega⟩ (fun h43 => ?_) (fun h43 => ?_)
          · refine ZV_jinc4 dX3_letterDue_49 rfl (by decide) ?_
            refine ZV_goto (tgt := 7) dX3_letterDue_52 (by decide) ?_
            exact ih _ _ _ (by omega) (by rw [e1]) (by rw [e2]; omega)
          · refine ZV_jinc3 dX3_letterDue_46 rfl (by decide) ?_
            refine ZV_jinc4 dX3_letterDue_49 rfl (by decide) ?_
            refine ZV_goto (tgt := 7) dX3_letterDue_52 (by decide) ?_
            exact ih _ _ _ (by omega) (by rw [e1]) (by rw [e2]; omega)
  exact key 0 (by omega) _ _ _ rfl rfl rfl
end ZS

