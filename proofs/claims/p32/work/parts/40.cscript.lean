/-! CitationKeys: scripts -/
def TIn (X : Xt) (g : Geo) (I J : Mm) (t : Nat) (A : ASt) : Prop := SL X g t ∧ StAt g I J t A ∧ GoodSt A ∧ ∃ K, KyAt J t (aN A) K ∧ ∀ i, i < aN A → r64 (K i)
def TFr (g g' : Geo) (I I' J J' : Mm) (t : Nat) : Prop := GeoFr g g' t ∧ FrO I I' J J' t (t + 38)
theorem GeoFr.tr {g g' g'' : Geo} {t : Nat} (h1 : GeoFr g g' t) (h2 : GeoFr g' g'' t) : GeoFr g g'' t := ⟨h2.1.trans h1.1, h2.2.1.trans h1.2.1, fun a ha => (h2.2.2 a ha).trans (h1.2.2 a ha)⟩
theorem TFr.tr {g g' g'' : Geo} {I I' I'' J J' J'' : Mm} {t : Nat} (h1 : TFr g g' I I' J J' t) (h2 : TFr g' g'' I' I'' J' J'' t) : TFr g g'' I I'' J J'' t := ⟨h1.1.tr h2.1, h1.2.tr h2.2⟩
theorem TFr.rf (g : Geo) (I J : Mm) (t : Nat) : TFr g g I I J J t := ⟨GeoFr.rf g t, FrO.rf I J _ _⟩
def cmd1 (A : ASt) (d r : Int) : Option ASt :=
  if d = 1 then (if 0 ≤ r ∧ r < aN A then some (aTake A r.toNat) else none)
  else if d = 2 then (if 0 ≤ r ∧ r < 4 then some (aSty A r) else none)
  else if d = 3 then (if 0 ≤ r ∧ r < 2 then some (aOrd A r) else none)
  else if d = 4 then (if (0 ≤ r / 10 ∧ r / 10 < aN A) ∧ (1000 ≤ (aW A (r / 10).toNat).2.2.1 + (r % 10 - 5) ∧ (aW A (r / 10).toNat).2.2.1 + (r % 10 - 5) ≤ 2999) then some (aSet A (r / 10).toNat (yrW (aW A (r / 10).toNat) ((aW A (r / 10).toNat).2.2.1 + (r % 10 - 5)))) else none)
  else if d = 5 then (if (0 ≤ r ∧ r < aN A) ∧ 0 < klet (keyOf A r.toNat) then some A else none)
  else if d = 6 then (if r < 100 ∧ r ≤ letdN A then some A else none)
  else if d = 7 then (if r = 0 then some (aPrint A (keyOf A)) else none)
  else if d = 8 then (if r < 100 ∧ prF A 0 ≤ r then some A else none)
  else if d = 9 then (if (0 ≤ r / 10 ∧ r / 10 < aN A) ∧ klet (keyOf A (r / 10).toNat) = r % 10 then some A else none)
  else none
section ZA7
variable {X : Xt} {g : Geo} {I J : Mm} {b : Nat × Nat} {post : Out → Geo → Mm → Mm → Prop}
theorem sp_X6_removes {t : Nat} {i : Int} {A : ASt} (hT : TIn X g I J t A) (hi : r32 i) (hx1 : ¬ (0 ≤ i ∧ i < aN A) → post (.inl (some (vi 0))) g I J) (hx2 : (0 ≤ i ∧ i < aN A) → ∀ g' I' J', TFr g g' I I' J J' t → TIn X g' I' J' t (aTake A i.toNat) → post (.inl (some (vi 1))) g' I' J') : ZV X E_X6_removes 0 [some (.ref t), some (vi i)] [] b g I J post := by
  obtain ⟨hL, hA, hG, K, hK, hKr⟩ := hT
  have lt := hL.1.1
  have h16 := hG.1.1
  have e1 := hA.1.1
  refine ZV_aload_n dX6_removes_0 rfl ?_
  refine ZV_iload_n dX6_removes_1 rfl ?_
  refine cl_X3_has kX6_removes_278 rfl dX6_removes_2 (by assumption) (Nat.le_of_ble_eq_true rfl) ?_
  refine sp_X3_has lt hi ⟨by omega, by omega⟩ ?_
  rw [e1]
  by_cases hi2 : 0 ≤ i ∧ i < aN A
  · rw [if_pos hi2]
    obtain ⟨n, rfl⟩ : ∃ n : Nat, i = n := ⟨i.toNat, by omega⟩
    rw [Int.toNat_natCast] at hx2
    refine ZV_if_ne (tgt := 10) dX6_removes_5 (by decide) ⟨by omega, by omega⟩ (fun h5 => ?_) (fun h5 => ?_)
    · refine ZV_aload_n dX6_removes_10 rfl ?_
      refine ZV_iload_n dX6_removes_11 rfl ?_
      refine cl_X3_takeOut kX6_removes_219 rfl dX6_removes_12 (by assumption) (Nat.le_of_ble_eq_true rfl) ?_
      refine sp_X3_takeOut hL hA hG.1 hK (fun p hp => (hG.pr p hp).2) (by omega) rfl ?_
      intro g2 I2 J2 hgf hS2 hA2 hK2 hF2
      refine ZV_iconst dX6_removes_15 ?_
      refine ZV_zret dX6_removes_16 rfl (by first | exact Or.inl rfl | exact Or.inr rfl | assumption | omega) ?_
      refine hx2 hi2 _ _ _ ⟨hgf, hF2⟩ ⟨hS2, hA2, hG.take (by omega), _, hK2, fun j hj => ?_⟩
      have hj2 : j < aN A - 1 := hj
      show r64 (if j < n then K j else K (j + 1))
      split
      · exact hKr j (by omega)
      · exact hKr (j + 1) (by omega)
    · omega
  · rw [if_neg hi2]
    refine ZV_if_ne (tgt := 10) dX6_removes_5 (by decide) ⟨by omega, by omega⟩ (fun h5 => ?_) (fun h5 => ?_)
    · omega
    · refine ZV_iconst dX6_removes_8 ?_
      refine ZV_zret dX6_removes_9 rfl (by first | exact Or.inl rfl | exact Or.inr rfl | assumption | omega) ?_
      exact hx1 hi2
theorem sp_X6_setsStyle {t : Nat} {s : Int} {A : ASt} (hT : TIn X g I J t A) (hs : r32 s) (hx1 : ¬ (0 ≤ s ∧ s < 4) → post (.inl (some (vi 0))) g I J) (hx2 : (0 ≤ s ∧ s < 4) → ∀ I' J', TFr g g I I' J J' t → TIn X g I' J' t (aSty A s) → post (.inl (some (vi 1))) g I' J') : ZV X E_X6_setsStyle 0 [some (.ref t), some (vi s)] [] b g I J post := by
  obtain ⟨hL, hA, hG, K, hK, hKr⟩ := hT
  have lt := hL.1.1
  have h16 := hG.1.1
  obtain ⟨⟨a1, a2, a3, a4⟩, a5, a6⟩ := id hA
  refine ZV_iload_n dX6_setsStyle_0 rfl ?_
  refine cl_X6_isStyle kX6_setsStyle_286 rfl dX6_setsStyle_1 (Nat.le_of_ble_eq_true rfl) ?_
  refine sp_X6_isStyle hs ?_
  by_cases hs2 : 0 ≤ s ∧ s < 4
  · rw [if_pos hs2]
    refine ZV_if_ne (tgt := 9) dX6_setsStyle_4 (by decide) ⟨by omega, by omega⟩ (fun h4 => ?_) (fun h4 => ?_)
    · refine ZV_aload_n dX6_setsStyle_9 rfl ?_
      refine ZV_iload_n dX6_setsStyle_10 rfl ?_
      refine ZV_putI fX6_setsStyle_97 dX6_setsStyle_11 (by assumption) rfl ?_
      refine ZV_iconst dX6_setsStyle_14 ?_
      refine ZV_zret dX6_setsStyle_15 rfl (by first | exact Or.inl rfl | exact Or.inr rfl | assumption | omega) ?_
      have hFs : FrO I (up2 I t 2 s) J J t (t + 1) := fun q hq => ⟨up2_row _ _ (by omega), rfl⟩
      refine hx2 hs2 _ _ ⟨GeoFr.rf g t, hFs.mono (by omega) (by omega)⟩ ⟨hL, ⟨⟨?_, ?_, ?_, ?_⟩, fun j hj => ?_, fun p hp => ?_⟩, hG.sty ⟨by omega, by omega⟩, K, hK, hKr⟩
      · rw [up2_k (by decide)]; exact a1
      · rw [up2_same]; rfl
      · rw [up2_k (by decide)]; exact a3
      · rw [up2_k (by decide)]; exact a4
      · have hj' : j < aN A := hj
        have := (SL_sw hL (i := j) (by omega)).2.2
        exact (a5 j hj').fr hFs (by omega)
      · rw [up2_a (by omega)]
        exact a6 p hp
    · omega
  · rw [if_neg hs2]
    refine ZV_if_ne (tgt := 9) dX6_setsStyle_4 (by decide) ⟨by omega, by omega⟩ (fun h4 => ?_) (fun h4 => ?_)
    · omega
    · refine ZV_iconst dX6_setsStyle_7 ?_
      refine ZV_zret dX6_setsStyle_8 rfl (by first | exact Or.inl rfl | exact Or.inr rfl | assumption | omega) ?_
      exact hx1 hs2
theorem sp_X6_setsOrder {t : Nat} {s : Int} {A : ASt} (hT : TIn X g I J t A) (hs : r32 s) (hx1 : ¬ (0 ≤ s ∧ s < 2) → post (.inl (some (vi 0))) g I J) (hx2 : (0 ≤ s ∧ s < 2) → ∀ I' J', TFr g g I I' J J' t → TIn X g I' J' t (aOrd A s) → post (.inl (some (vi 1))) g I' J') : ZV X E_X6_setsOrder 0 [some (.ref t), some (vi s)] [] b g I J post := by
  obtain ⟨hL, hA, hG, K, hK, hKr⟩ := hT
  have lt := hL.1.1
  have h16 := hG.1.1
  obtain ⟨⟨a1, a2, a3, a4⟩, a5, a6⟩ := id hA
  obtain ⟨s1, s2⟩ := hs
  refine ZV_iload_n dX6_setsOrder_0 rfl ?_
  refine ZV_if_lt (tgt := 9) dX6_setsOrder_1 (by decide) ⟨by omega, by omega⟩ (fun h1 => ?_) (fun h1 => ?_)
  · refine ZV_iconst dX6_setsOrder_9 ?_
    refine ZV_zret dX6_setsOrder_10 rfl (by first | exact Or.inl rfl | exact Or.inr rfl | assumption | omega) ?_
    exact hx1 (by omega)
  · refine ZV_iload_n dX6_setsOrder_4 rfl ?_
    refine ZV_iconst dX6_setsOrder_5 ?_
    refine ZV_icmp_lt (tgt := 11) dX6_setsOrder_6 (by decide) ⟨by omega, by omega⟩ ⟨by omega, by omega⟩ (fun h6 => ?_) (fun h6 => ?_)
    · refine ZV_aload_n dX6_setsOrder_11 rfl ?_
      refine ZV_iload_n dX6_setsOrder_12 rfl ?_
      refine ZV_putI fX6_setsOrder_100 dX6_setsOrder_13 (by assumption) rfl ?_
      refine ZV_iconst dX6_setsOrder_16 ?_
      refine ZV_zret dX6_setsOrder_17 rfl (by first | exact Or.inl rfl | exact Or.inr rfl | assumption | omega) ?_
      have hFs : FrO I (up2 I t 3 s) J J t (t + 1) := fun q hq => ⟨up2_row _ _ (by omega), rfl⟩
      refine hx2 ⟨by omega, by omega⟩ _ _ ⟨GeoFr.rf g t, hFs.mono (by omega) (by omega)⟩ ⟨hL, ⟨⟨?_, ?_, ?_, ?_⟩, fun j hj => ?_, fun p hp => ?_⟩, hG.ord (by omega), K, hK, hKr⟩
      · rw [up2_k (by decide)]; exact a1
      · rw [up2_k (by decide)]; exact a2
      · rw [up2_same]; rfl
      · rw [up2_k (by decide)]; exact a4
      · have hj' : j < aN A := hj
        have := (SL_sw hL (i := j) (by omega)).2.2
        exact (a5 j hj').fr hFs (by omega)
      · rw [up2_a (by omega)]
        exact a6 p hp
    · refine ZV_iconst dX6_setsOrder_9 ?_
      refine ZV_zret dX6_setsOrder_10 rfl (by first | exact Or.inl rfl | exact Or.inr rfl | assumption | omega) ?_
      exact hx1 (by omega)
theorem StAt.set {t n : Nat} {A : ASt} {P : AWk} {I' J' : Mm} (hL : SL X g t) (h16 : aN A ≤ 16) (hA : StAt g I J t A) (hn : n < aN A) (hF : FrO I I' J J' (swk g t n) (swk g t n + 2)) (hP : WkAt I' J' (swk g t n) P) : StAt g I' J' t (aSet A n P) := by
  obtain ⟨⟨a1, a2, a3, a4⟩, a5, a6⟩ := hA
  have hs := (SL_sw hL (i := n) (by omega)).2.2
  have f0 := (hF t (by omega)).1
  refine ⟨⟨by rw [f0]; exact a1, by rw [f0]; exact a2, by rw [f0]; exact a3, by rw [f0]; exact a4⟩, fun j hj => ?_, fun p hp => ?_⟩
  · have hj' : j < aN A := hj
    show WkAt I' J' (swk g t j) (if j = n then P else aW A j)
    by_cases e : j = n
    · rw [if_pos e, e]; exact hP
    · rw [if_neg e]
      have hne := SL_ne hL (i := j) (j := n) (by omega) (by omega) e
      exact (a5 j hj').fr hF (by omega)
  · rw [(hF (t + 36) (by omega)).2, (hF (t + 37) (by omega)).1]
    exact a6 p hp
theorem WkAt.yr {w : Nat} {W : AWk} {y : Int} (h : WkAt I J w W) : WkAt (up2 I w 2 y) J w (yrW W y) := ⟨h.1, by rw [up2_k (by decide)]; exact h.2.1, up2_same _ _ _ _, h.2.2.2⟩
theorem sp_X6_movesYear {t : Nat} {i d : Int} {A : ASt} (hT : TIn X g I J t A) (hi : r32 i) (hd : -5 ≤ d ∧ d ≤ 4) (hx1 : ¬ ((0 ≤ i ∧ i < aN A) ∧ (1000 ≤ (aW A i.toNat).2.2.1 + d ∧ (aW A i.toNat).2.2.1 + d ≤ 2999)) → post (.inl (some (vi 0))) g I J) (hx2 : ((0 ≤ i ∧ i < aN A) ∧ (1000 ≤ (aW A i.toNat).2.2.1 + d ∧ (aW A i.toNat).2.2.1 + d ≤ 2999)) → ∀ I' J', TFr g g I I' J J' t → TIn X g I' J' t (aSet A i.toNat (yrW (aW A i.toNat) ((aW A i.toNat).2.2.1 + d))) → post (.inl (some (vi 1))) g I' J') : ZV X E_X6_movesYear 0 [some (.ref t), some (vi i), some (vi d)] [] b g I J post := by
  obtain ⟨hL, hA, hG, K, hK, hKr⟩ := hT
  have lt := hL.1.1
  have h16 := hG.1.1
  have e1 := hA.1.1
  obtain ⟨⟨s1, s2, s3, s4, s5, s6⟩, ⟨s7, s8, s9, s10, s11⟩, -⟩ := id hL
  refine ZV_aload_n dX6_movesYear_0 rfl ?_
  refine ZV_iload_n dX6_movesYear_1 rfl ?_
  refine cl_X3_has kX6_movesYear_278 rfl dX6_movesYear_2 (by assumption) (Nat.le_of_ble_eq_true rfl) ?_
  refine sp_X3_has lt hi ⟨by omega, by omega⟩ ?_
  rw [e1]
  by_cases hi2 : 0 ≤ i ∧ i < aN A
  · rw [if_pos hi2]
    obtain ⟨n, rfl⟩ : ∃ n : Nat, i = n := ⟨i.toNat, by omega⟩
    have hn : n < aN A := by omega
    rw [Int.toNat_natCast] at hx1 hx2
    obtain ⟨w1, w2, w3⟩ := SL_sw hL (i := n) (by omega)
    have wk := w2.1
    have wn := hA.2.1 n hn
    have hyr := (hG.2.1 n hn).2.2.2.1
    obtain ⟨y, hy⟩ : ∃ y, y = (aW A n).2.2.1 := ⟨_, rfl⟩
    rw [← hy] at hyr hx1 hx2
    refine ZV_if_eq (tgt := 25) dX6_movesYear_5 (by decide) ⟨by omega, by omega⟩ (fun h5 => ?_) (fun h5 => ?_)
    · omega
    · refine ZV_aload_n dX6_movesYear_8 rfl ?_
      refine ZV_getR fX6_movesYear_124 dX6_movesYear_9 (by assumption) rfl (by assumption) ?_
      refine ZV_iload_n dX6_movesYear_12 rfl ?_
      first | refine ZV_aaldW (n) dX6_movesYear_13 (by assumption) (by first | rfl | omega) (by omega) (by omega) (by assumption) ?_ | refine ZV_aaldS (n) dX6_movesYear_13 (by assumption) (by first | rfl | omega) (by omega) (by omega) (by assumption) ?_
      refine ZV_getI fX6_movesYear_125 dX6_movesYear_14 (by assumption) rfl ?_
      rw [wn.2.2.1, ← hy]
      refine ZV_iload_n dX6_movesYear_17 rfl ?_
      refine ZV_iadd dX6_movesYear_18 ?_
      refine cl_X6_isYear kX6_movesYear_213 rfl dX6_movesYear_19 (Nat.le_of_ble_eq_true rfl) ?_
      refine sp_X6_isYear ⟨by omega, by omega⟩ ?_
      by_cases hy2 : 1000 ≤ y + d ∧ y + d ≤ 2999
      · rw [if_pos hy2]
        refine ZV_if_ne (tgt := 27) dX6_movesYear_22 (by decide) ⟨by omega, by omega⟩ (fun h22 => ?_) (fun h22 => ?_)
        · refine ZV_aload_n dX6_movesYear_27 rfl ?_
          refine ZV_getR fX6_movesYear_124 dX6_movesYear_28 (by assumption) rfl (by assumption) ?_
          refine ZV_iload_n dX6_movesYear_31 rfl ?_
          first | refine ZV_aaldW (n) dX6_movesYear_32 (by assumption) (by first | rfl | omega) (by omega) (by omega) (by assumption) ?_ | refine ZV_aaldS (n) dX6_movesYear_32 (by assumption) (by first | rfl | omega) (by omega) (by omega) (by assumption) ?_
          refine ZV_dup dX6_movesYear_33 rfl ?_
          refine ZV_getI fX6_movesYear_125 dX6_movesYear_34 (by assumption) rfl ?_
          rw [wn.2.2.1, ← hy]
          refine ZV_iload_n dX6_movesYear_37 rfl ?_
          refine ZV_iadd dX6_movesYear_38 ?_
          refine ZV_putI fX6_movesYear_125 dX6_movesYear_39 (by assumption) rfl ?_
          refine ZV_iconst dX6_movesYear_42 ?_
          refine ZV_zret dX6_movesYear_43 rfl (by first | exact Or.inl rfl | exact Or.inr rfl | assumption | omega) ?_
          have hFy : FrO I (up2 I (swk g t n) 2 (y + d)) J J (swk g t n) (swk g t n + 1) := fun q hq => ⟨up2_row _ _ (by omega), rfl⟩
          refine hx2 ⟨hi2, hy2⟩ _ _ ⟨GeoFr.rf g t, hFy.mono (by omega) (by omega)⟩ ⟨hL, StAt.set hL h16 hA hn (hFy.mono (by omega) (by omega)) wn.yr, hG.set ((hG.2.1 n hn).yr hy2), K, hK, hKr⟩
        · omega
      · rw [if_neg hy2]
        refine ZV_if_ne (tgt := 27) dX6_movesYear_22 (by decide) ⟨by omega, by omega⟩ (fun h22 => ?_) (fun h22 => ?_)
        · omega
        · refine ZV_iconst dX6_movesYear_25 ?_
          refine ZV_zret dX6_movesYear_26 rfl (by first | exact Or.inl rfl | exact Or.inr rfl | assumption | omega) ?_
          exact hx1 (fun e => hy2 e.2)
  · rw [if_neg hi2]
    refine ZV_if_eq (tgt := 25) dX6_movesYear_5 (by decide) ⟨by omega, by omega⟩ (fun h5 => ?_) (fun h5 => ?_)
    · refine ZV_iconst dX6_movesYear_25 ?_
      refine ZV_zret dX6_movesYear_26 rfl (by first | exact Or.inl rfl | exact Or.inr rfl | assumption | omega) ?_
      exact hx1 (fun e => hi2 e.1)
    · omega
theorem sp_X6_prints {t : Nat} {r : Int} {A : ASt} (hL : SL X g t) (hA : StAt g I J t A) (hG : GoodSt A) (hK : KyAt J t (aN A) (keyOf A)) (hr : r32 r) (hx1 : ¬ (r = 0) → post (.inl (some (vi 0))) g I J) (hx2 : r = 0 → ∀ I' J', TFr g g I I' J J' t → TIn X g I' J' t (aPrint A (keyOf A)) → post (.inl (some (vi 1))) g I' J') : ZV X E_X6_prints 0 [some (.ref t), some (vi r)] [] b g I J post := by
  obtain ⟨r1, r2⟩ := hr
  have lt := hL.1.1
  refine ZV_iload_n dX6_prints_0 rfl ?_
  refine ZV_if_eq (tgt := 6) dX6_prints_1 (by decide) ⟨by omega, by omega⟩ (fun h1 => ?_) (fun h1 => ?_)
  · refine ZV_aload_n dX6_prints_6 rfl ?_
    refine cl_X3_printKeys kX6_prints_227 rfl dX6_prints_7 (by assumption) (Nat.le_of_ble_eq_true rfl) ?_
    refine sp_X3_printKeys hL hA hG.1 hK ?_
    intro I2 J2 hA2 hI2 hJ2
    refine ZV_iconst dX6_prints_10 ?_
    refine ZV_zret dX6_prints_11 rfl (by first | exact Or.inl rfl | exact Or.inr rfl | assumption | omega) ?_
    refine hx2 h1 _ _ ⟨GeoFr.rf g t, fun q hq => ⟨hI2 q (by omega), hJ2 q (by omega)⟩⟩ ⟨hL, hA2, hG.print, keyOf A, fun i hi => ?_, fun i hi => (hG.ky i hi).2⟩
    rw [hJ2 _ (by omega)]
    exact hK i hi
  · refine ZV_iconst dX6_prints_4 ?_
    refine ZV_zret dX6_prints_5 rfl (by first | exact Or.inl rfl | exact Or.inr rfl | assumption | omega) ?_
    exact hx1 h1
end ZA7

