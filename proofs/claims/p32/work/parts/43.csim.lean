/-! CitationKeys: simulate -/
def lt1 (d : Int) : Int := 0 + d * 2 ^ (5 * (7 - 0))
def wk1 (nm y ti : Int) : AWk := (fun a => if a = 0 then nm else 0, 1, y, ti)
theorem lt1_wf {d : Int} (hd : 1 ≤ d ∧ d ≤ 26) : wfN (lt1 d) := ⟨1, by decide, nmW_add nmW_zero (by decide) hd⟩
theorem wk1_AWF {d e y : Int} (hd : 1 ≤ d ∧ d ≤ 26) (he : 1 ≤ e ∧ e ≤ 26) (hy : 1000 ≤ y ∧ y ≤ 2999) : AWF (wk1 (lt1 d) y (lt1 e)) := by
  refine ⟨⟨Int.le_refl 1, show (1 : Int) ≤ 4 by decide⟩, fun a ha => ?_, fun a ha => ?_, hy, lt1_wf he⟩
  · have ha' : (a : Int) < 1 := ha
    show wfN (if a = 0 then lt1 d else 0)
    rw [if_pos (by omega)]
    exact lt1_wf hd
  · have ha' : (1 : Int) ≤ a := ha
    show (if a = 0 then lt1 d else 0) = 0
    rw [if_neg (by omega)]
def rndW (r : Int) : AWk := wk1 (lt1 (1 + r / 4 % 3)) (1990 + r / 16 % 3) (lt1 (1 + r / 64 % 3))
def rnd (A : ASt) (r : Int) : ASt := if 1 < r % 4 then (if aN A < 16 then aPlace A (rndW r) else A) else if 0 < aN A then (if r % 4 = 0 then aTake A (r / 4 % aN A).toNat else aSet A (r / 4 % aN A).toNat (yrW (aW A (r / 4 % aN A).toNat) (1990 + r / 64 % 4))) else A
def smX (s : Int) : Nat → Int
  | 0 => s
  | n + 1 => smX s n * 6364136223846793005 + 1442695040888963407
def smS (A : ASt) (s : Int) : Nat → ASt
  | 0 => A
  | n + 1 => rnd (smS A s n) (smX s (n + 1) % 18446744073709551616 / 8589934592)
section ZA10
variable {X : Xt} {g : Geo} {I J : Mm} {b : Nat × Nat} {post : Out → Geo → Mm → Mm → Prop}
theorem sp_X3_placeFull {t w : Nat} {A : ASt} (hL : SL X g t) (hA : StAt g I J t A) (h16 : aN A = 16) (h : post (.inl none) g I J) : ZV X E_X3_place 0 [some (.ref t), some (.ref w)] [] b g I J post := by
  have lt := hL.1.1
  have e1 := hA.1.1
  refine ZV_aload_n dX3_place_0 rfl ?_
  refine ZV_getI fX3_place_32 dX3_place_1 (by assumption) rfl ?_
  rw [e1]
  refine ZV_bipush dX3_place_4 (by decide) ?_
  refine ZV_icmp_lt (tgt := 10) dX3_place_6 (by decide) ⟨by omega, by omega⟩ ⟨by omega, by omega⟩ (fun h6 => ?_) (fun h6 => ?_)
  · omega
  · refine ZV_vret dX3_place_9 rfl ?_
    exact h
theorem sp_X6_playRound {c : Nat} {r : Int} {A : ASt} (hL : CL X g c) (hT : TIn X g I J (c + 74) A) (hr : 0 ≤ r ∧ r < 2147483648) (h : ∀ g' I' J', GeoFr g g' (c + 74) → FrO I I' J J' (c + 74) (c + 114) → TIn X g' I' J' (c + 74) (rnd A r) → post (.inl none) g' I' J') : ZV X E_X6_playRound 0 [some (.ref c), some (.ref (c + 74)), some (vi r), none] [] b g I J post := by
  obtain ⟨⟨l0, l1, l2, l3, l4, l5, l6, l7⟩, lT, lN, lR, lD, -⟩ := id hL
  obtain ⟨d1, d2, d3⟩ := id lD
  have lr := lR.1.1
  obtain ⟨-, hA, hG, K, hK, hKr⟩ := id hT
  have h16 := hG.1.1
  have e1 := hA.1.1
  have t4 : r.tmod 4 = r % 4 := Int.tmod_eq_emod_of_nonneg (by omega)
  have q4 : r.tdiv 4 = r / 4 := Int.tdiv_eq_ediv_of_nonneg (by omega)
  have q16 : r.tdiv 16 = r / 16 := Int.tdiv_eq_ediv_of_nonneg (by omega)
  have q64 : r.tdiv 64 = r / 64 := Int.tdiv_eq_ediv_of_nonneg (by omega)
  have m1 : (r / 4).tmod 3 = r / 4 % 3 := Int.tmod_eq_emod_of_nonneg (by omega)
  have m2 : (r / 16).tmod 3 = r / 16 % 3 := Int.tmod_eq_emod_of_nonneg (by omega)
  have m3 : (r / 64).tmod 3 = r / 64 % 3 := Int.tmod_eq_emod_of_nonneg (by omega)
  have m4 : (r / 64).tmod 4 = r / 64 % 4 := Int.tmod_eq_emod_of_nonneg (by omega)
  unfold rnd at h
  refine ZV_iload_n dX6_playRound_0 rfl ?_
  refine ZV_iconst dX6_playRound_1 ?_
  refine ZV_irem dX6_playRound_2 ⟨by omega, by omega⟩ ⟨by omega, by omega⟩ (by omega) ?_
  rw [t4]
  refine ZV_iconst dX6_playRound_3 ?_
  refine ZV_icmp_le (tgt := 91) dX6_playRound_4 (by decide) ⟨by omega, by omega⟩ ⟨by omega, by omega⟩ (fun h4 => ?_) (fun h4 => ?_)
  · rw [if_neg (by omega)] at h
    refine ZV_aload_n dX6_playRound_91 rfl ?_
    refine ZV_getI fX6_playRound_94 dX6_playRound_92 (by assumption) rfl ?_
    rw [e1]
    refine ZV_if_le (tgt := 148) dX6_playRound_95 (by decide) ⟨by omega, by omega⟩ (fun h95 => ?_) (fun h95 => ?_)
    · rw [if_neg (by omega)] at h
      refine ZV_vret dX6_playRound_148 rfl ?_
      exact h _ _ _ (GeoFr.rf g _) (FrO.rf I J _ _) hT
    · rw [if_pos (by omega)] at h
      obtain ⟨n, hn0⟩ : ∃ n : Nat, r / 4 % (aN A : Int) = n := ⟨(r / 4 % (aN A : Int)).toNat, by have := Int.emod_nonneg (r / 4) (b := (aN A : Int)) (by omega); omega⟩
      have hn : n < aN A := by have := Int.emod_lt_of_pos (r / 4) (b := (aN A : Int)) (by omega); omega
      rw [hn0, Int.toNat_natCast] at h
      refine ZV_iload_n dX6_playRound_98 rfl ?_
      refine ZV_iconst dX6_playRound_99 ?_
      refine ZV_idiv dX6_playRound_100 ⟨by omega, by omega⟩ ⟨by omega, by omega⟩ (by omega) ?_
      rw [q4]
      refine ZV_aload_n dX6_playRound_101 rfl ?_
      refine ZV_getI fX6_playRound_94 dX6_playRound_102 (by assumption) rfl ?_
      rw [e1]
      refine ZV_irem dX6_playRound_105 ⟨by omega, by omega⟩ ⟨by omega, by omega⟩ (by omega) ?_
      rw [Int.tmod_eq_emod_of_nonneg (by omega), hn0]
      refine ZV_istore3 dX6_playRound_106 rfl (by decide) ?_
      refine ZV_iload_n dX6_playRound_107 rfl ?_
      refine ZV_iconst dX6_playRound_108 ?_
      refine ZV_irem dX6_playRound_109 ⟨by omega, by omega⟩ ⟨by omega, by omega⟩ (by omega) ?_
      rw [t4]
      refine ZV_if_ne (tgt := 121) dX6_playRound_110 (by decide) ⟨by omega, by omega⟩ (fun h110 => ?_) (fun h110 => ?_)
      · refine ZV_aload_n dX6_playRound_121 rfl ?_
        refine ZV_iload_n dX6_playRound_122 rfl ?_
        refine cl_X3_has kX6_playRound_278 rfl dX6_playRound_123 (by assumption) (Nat.le_of_ble_eq_true rfl) ?_
        refine sp_X3_has lr ⟨by omega, by omega⟩ ⟨by omega, by omega⟩ ?_
        rw [e1, if_pos ⟨by omega, by omega⟩]
        rw [if_neg (by omega)] at h
        obtain ⟨w1, w2, w3⟩ := SL_sw lR (i := n) (by omega)
        have wk := w2.1
        have s2 := lR.1.2.1
        have s7 := lR.2.1.1
        have wn := hA.2.1 n hn
        refine ZV_if_eq (tgt := 148) dX6_playRound_126 (by decide) ⟨by omega, by omega⟩ (fun h126 => ?_) (fun h126 => ?_)
        · omega
        · refine ZV_aload_n dX6_playRound_129 rfl ?_
          refine ZV_getR fX6_playRound_124 dX6_playRound_130 (by assumption) rfl (by assumption) ?_
          refine ZV_iload_n dX6_playRound_133 rfl ?_
          first | refine ZV_aaldW (n) dX6_playRound_134 (by assumption) (by first | rfl | omega) (by omega) (by omega) (by assumption) ?_ | refine ZV_aaldS (n) dX6_playRound_134 (by assumption) (by first | rfl | omega) (by omega) (by omega) (by assumption) ?_
          refine ZV_sipush dX6_playRound_135 (by decide) ?_
          refine ZV_iload_n dX6_playRound_138 rfl ?_
          refine ZV_bipush dX6_playRound_139 (by decide) ?_
          refine ZV_idiv dX6_playRound_141 ⟨by omega, by omega⟩ ⟨by omega, by omega⟩ (by omega) ?_
          rw [q64]
          refine ZV_iconst dX6_playRound_142 ?_
          refine ZV_irem dX6_playRound_143 ⟨by omega, by omega⟩ ⟨by omega, by omega⟩ (by omega) ?_
          rw [m4]
          refine ZV_iadd dX6_playRound_144 ?_
          refine ZV_putI fX6_playRound_125 dX6_playRound_145 (by assumption) rfl ?_
          refine ZV_vret dX6_playRound_148 rfl ?_
          have hFy : FrO I (up2 I (swk g (c + 74) n) 2 (1990 + r / 64 % 4)) J J (swk g (c + 74) n) (swk g (c + 74) n + 1) := fun q hq => ⟨up2_row _ _ (by omega), rfl⟩
          exact h _ _ _ (GeoFr.rf g _) (hFy.mono (by omega) (by omega)) ⟨lR, StAt.set lR h16 hA hn (hFy.mono (by omega) (by omega)) wn.yr, hG.set ((hG.2.1 n hn).yr ⟨by omega, by omega⟩), K, hK, hKr⟩
      · rw [if_pos (by omega)] at h
        refine ZV_aload_n dX6_playRound_113 rfl ?_
        refine ZV_iload_n dX6_playRound_114 rfl ?_
        refine cl_X3_takeOut kX6_playRound_219 rfl dX6_playRound_115 (by assumption) (Nat.le_of_ble_eq_true rfl) ?_
        refine sp_X3_takeOut lR hA hG.1 hK (fun p hp => (hG.pr p hp).2) hn rfl ?_
        intro g2 I2 J2 hgf hS2 hA2 hK2 hF2
        refine ZV_goto (tgt := 148) dX6_playRound_118 (by decide) ?_
        refine ZV_vret dX6_playRound_148 rfl ?_
        refine h _ _ _ hgf (hF2.mono (by omega) (by omega)) ⟨hS2, hA2, hG.take hn, _, hK2, fun j hj => ?_⟩
        have hj2 : j < aN A - 1 := hj
        show r64 (if j < n then K j else K (j + 1))
        split
        · exact hKr j (by omega)
        · exact hKr (j + 1) (by omega)
  · rw [if_pos (by omega)] at h
    refine ZV_aload_n dX6_playRound_7 rfl ?_
    refine ZV_getR fX6_playRound_29 dX6_playRound_8 (by assumption) rfl (by assumption) ?_
    refine cl_X5_empty kX6_playRound_309 rfl dX6_playRound_11 (by assumption) (Nat.le_of_ble_eq_true rfl) ?_
    refine sp_X5_empty lD ?_
    intro I1 J1 hW1 hF1
    refine ZV_aload_n dX6_playRound_14 rfl ?_
    refine ZV_getR fX6_playRound_29 dX6_playRound_15 (by assumption) rfl (by assumption) ?_
    refine ZV_iconst dX6_playRound_18 ?_
    refine ZV_putI fX6_playRound_128 dX6_playRound_19 (by assumption) rfl ?_
    refine ZV_aload_n dX6_playRound_22 rfl ?_
    refine ZV_getR fX6_playRound_29 dX6_playRound_23 (by assumption) rfl (by assumption) ?_
    refine ZV_getR fX6_playRound_310 dX6_playRound_26 (by assumption) rfl (by assumption) ?_
    refine ZV_iconst dX6_playRound_29 ?_
    refine ZV_lconst (z := 0) dX6_playRound_30 (by decide) ?_
    refine ZV_iconst dX6_playRound_31 ?_
    refine ZV_iconst dX6_playRound_32 ?_
    refine ZV_iload_n dX6_playRound_33 rfl ?_
    refine ZV_iconst dX6_playRound_34 ?_
    refine ZV_idiv dX6_playRound_35 ⟨by omega, by omega⟩ ⟨by omega, by omega⟩ (by omega) ?_
    rw [q4]
    refine ZV_iconst dX6_playRound_36 ?_
    refine ZV_irem dX6_playRound_37 ⟨by omega, by omega⟩ ⟨by omega, by omega⟩ (by omega) ?_
    rw [m1]
    refine ZV_iadd dX6_playRound_38 ?_
    refine cl_X2_with kX6_playRound_313 rfl dX6_playRound_39 (Nat.le_of_ble_eq_true rfl) ?_
    refine sp_X2_with (by decide) ⟨by decide, by decide⟩ ⟨by decide, by decide⟩ ⟨by omega, by omega⟩ (fun _ => by decide) ?_
    rw [if_pos ⟨by decide, by decide⟩]
    refine ZV_last (0) dX6_playRound_42 (by assumption) (by first | rfl | omega) (by omega) (by omega) ?_
    refine ZV_aload_n dX6_playRound_43 rfl ?_
    refine ZV_getR fX6_playRound_29 dX6_playRound_44 (by assumption) rfl (by assumption) ?_
    refine ZV_sipush dX6_playRound_47 (by decide) ?_
    refine ZV_iload_n dX6_playRound_50 rfl ?_
    refine ZV_bipush dX6_playRound_51 (by decide) ?_
    refine ZV_idiv dX6_playRound_53 ⟨by omega, by omega⟩ ⟨by omega, by omega⟩ (by omega) ?_
    rw [q16]
    refine ZV_iconst dX6_playRound_54 ?_
    refine ZV_irem dX6_playRound_55 ⟨by omega, by omega⟩ ⟨by omega, by omega⟩ (by omega) ?_
    rw [m2]
    refine ZV_iadd dX6_playRound_56 ?_
    refine ZV_putI fX6_playRound_125 dX6_playRound_57 (by assumption) rfl ?_
    refine ZV_aload_n dX6_playRound_60 rfl ?_
    refine ZV_getR fX6_playRound_29 dX6_playRound_61 (by assumption) rfl (by assumption) ?_
    refine ZV_lconst (z := 0) dX6_playRound_64 (by decide) ?_
    refine ZV_iconst dX6_playRound_65 ?_
    refine ZV_iconst dX6_playRound_66 ?_
    refine ZV_iload_n dX6_playRound_67 rfl ?_
    refine ZV_bipush dX6_playRound_68 (by decide) ?_
    refine ZV_idiv dX6_playRound_70 ⟨by omega, by omega⟩ ⟨by omega, by omega⟩ (by omega) ?_
    rw [q64]
    refine ZV_iconst dX6_playRound_71 ?_
    refine ZV_irem dX6_playRound_72 ⟨by omega, by omega⟩ ⟨by omega, by omega⟩ (by omega) ?_
    rw [m3]
    refine ZV_iadd dX6_playRound_73 ?_
    refine cl_X2_with kX6_playRound_313 rfl dX6_playRound_74 (Nat.le_of_ble_eq_true rfl) ?_
    refine sp_X2_with (by decide) ⟨by decide, by decide⟩ ⟨by decide, by decide⟩ ⟨by omega, by omega⟩ (fun _ => by decide) ?_
    rw [if_pos ⟨by decide, by decide⟩]
    refine ZV_putJ fX6_playRound_131 dX6_playRound_77 (by assumption) rfl ?_
    refine ZV_aload_n dX6_playRound_80 rfl ?_
    refine ZV_aload_n dX6_playRound_81 rfl ?_
    refine ZV_getR fX6_playRound_29 dX6_playRound_82 (by assumption) rfl (by assumption) ?_
    refine cl_X3_place kX6_playRound_84 rfl dX6_playRound_85 (by assumption) (Nat.le_of_ble_eq_true rfl) ?_
    obtain ⟨I2, hI2⟩ : ∃ I2, I2 = up2 (up2 I1 (c + 112) 1 1) (c + 112) 2 (1990 + r / 16 % 3) := ⟨_, rfl⟩
    obtain ⟨J2, hJ2⟩ : ∃ J2, J2 = up2 (up2 J1 (c + 112 + 1) 0 (lt1 (1 + r / 4 % 3))) (c + 112) 3 (lt1 (1 + r / 64 % 3)) := ⟨_, rfl⟩
    have hF2 : FrO I I2 J J2 (c + 112) (c + 114) := by
      rw [hI2, hJ2]
      exact ((((hF1.mono (by omega) (by omega)).upI (by omega) (by omega)).upI (by omega) (by omega)).upJ (by omega) (by omega)).upJ (by omega) (by omega)
    have hW2 : WkAt I2 J2 (c + 112) (rndW r) := by
      obtain ⟨v1, v2, v3, v4⟩ := hW1
      refine ⟨fun a ha => ?_, ?_, ?_, ?_⟩
      · rw [hJ2, up2_a (by omega)]
        show up2 J1 (c + 112 + 1) 0 (lt1 (1 + r / 4 % 3)) (c + 112 + 1) a = if a = 0 then lt1 (1 + r / 4 % 3) else 0
        by_cases e : a = 0
        · rw [if_pos e, e, up2_same]
        · rw [if_neg e, up2_k e]; exact v1 a ha
      · rw [hI2, up2_k (by decide), up2_same]; rfl
      · rw [hI2, up2_same]; rfl
      · rw [hJ2, up2_same]; rfl
    have hA2 : StAt g I2 J2 (c + 74) A := hA.fr lR h16 hF2 (by omega)
    have hK2 : KyAt J2 (c + 74) (aN A) K := hK.fr hF2 (by omega)
    show ZV X E_X3_place 0 _ _ _ g (up2 (up2 I1 (c + 112) 1 1) (c + 112) 2 (1990 + r / 16 % 3)) (up2 (up2 J1 (c + 112 + 1) 0 (lt1 (1 + r / 4 % 3))) (c + 112) 3 (lt1 (1 + r / 64 % 3))) _
    rw [← hI2, ← hJ2]
    by_cases hfull : aN A < 16
    · rw [if_pos hfull] at h
      refine sp_X3_place lR lD (by omega) hA2 hG.1 hK2 hW2 hfull ?_
      intro I3 J3 hA3 hK3 hF3
      refine ZV_goto (tgt := 148) dX6_playRound_88 (by decide) ?_
      refine ZV_vret dX6_playRound_148 rfl ?_
      refine h _ _ _ (GeoFr.rf g _) ((hF2.mono (by omega) (by omega)).tr (hF3.mono (by omega) (by omega))) ⟨lR, hA3, hG.place (wk1_AWF ⟨by omega, by omega⟩ ⟨by omega, by omega⟩ ⟨by omega, by omega⟩) hfull, _, hK3, fun j hj => ?_⟩
      have hj2 : j < aN A + 1 := hj
      show r64 (if j = aN A then 0 else K j)
      split
      · exact ⟨by decide, by decide⟩
      · exact hKr j (by omega)
    · rw [if_neg hfull] at h
      refine sp_X3_placeFull lR hA2 (by omega) ?_
      refine ZV_goto (tgt := 148) dX6_playRound_88 (by decide) ?_
      refine ZV_vret dX6_playRound_148 rfl ?_
      exact h _ _ _ (GeoFr.rf g _) (hF2.mono (by omega) (by omega)) ⟨lR, hA2, hG, K, hK2, hKr⟩
theorem sp_X6_simulate {c : Nat} {s m : Int} {Q : AC} (hC : CInv X g I J c Q) (hm : r32 m) (hb : 1 ≤ b.1 ∧ 6 ≤ b.2) (hx1 : ¬ (1 ≤ m ∧ m ≤ 99) → post (.inr zIAE) g I J) (hx3 : (1 ≤ m ∧ m ≤ 99) → ∀ g' I' J', CFr g g' I I' J J' c → CInv X g' I' J' c Q → post (.inl (some (vi (100 * (aN (smS Q.2.1 s m.toNat) : Int) + letdN (smS Q.2.1 s m.toNat))))) g' I' J') : ZV X E_X6_simulate 0 [some (.ref c), some (vl s), none, some (vi m), none, none, none] [] b g I J post := by
  obtain ⟨⟨l0, l1, l2, l3, l4, l5, l6, l7⟩, lT, lN, lR, -⟩ := id hC.1
  have lr := lR.1.1
  have hg := hC.2.1
  have hGd := hC.2.2.2.1.2
  have h16 := hGd.1.1
  obtain ⟨⟨hA, hK, hS⟩, -⟩ := hC.2.2.2.1
  obtain ⟨n1, n2⟩ := hm
  refine ZV_iload_n dX6_simulate_0 rfl ?_
  refine ZV_iconst dX6_simulate_1 ?_
  refine ZV_icmp_lt (tgt := 11) dX6_simulate_2 (by decide) ⟨by omega, by omega⟩ ⟨by omega, by omega⟩ (fun h2 => ?_) (fun h2 => ?_)
  · refine ZV_throwW tX6_simulate_11 rfl dX6_simulate_11 dX6_simulate_14 dX6_simulate_15 dX6_simulate_18 dX6_simulate_21 ⟨by decide, by decide⟩ ⟨by first | omega | (dsimp only; omega), by first | omega | (dsimp only; omega)⟩ (by assumption) ?_
    exact hx1 (by omega)
  · refine ZV_iload_n dX6_simulate_5 rfl ?_
    refine ZV_bipush dX6_simulate_6 (by decide) ?_
    refine ZV_icmp_le (tgt := 22) dX6_simulate_8 (by decide) ⟨by omega, by omega⟩ ⟨by omega, by omega⟩ (fun h8 => ?_) (fun h8 => ?_)
    · refine ZV_aload_n dX6_simulate_22 rfl ?_
      refine ZV_getR fX6_simulate_23 dX6_simulate_23 (by assumption) rfl (by assumption) ?_
      refine ZV_aload_n dX6_simulate_26 rfl ?_
      refine ZV_getR fX6_simulate_19 dX6_simulate_27 (by assumption) rfl (by assumption) ?_
      refine cl_X3_copyFrom kX6_simulate_254 rfl dX6_simulate_30 (by assumption) (Nat.le_of_ble_eq_true rfl) ?_
      obtain ⟨N, rfl⟩ : ∃ N : Nat, m = N := ⟨m.toNat, by omega⟩
      rw [Int.toNat_natCast] at hx3
      have hgood : 1 ≤ (N : Int) ∧ (N : Int) ≤ 99 := ⟨by omega, by omega⟩
      refine sp_X3_copyFrom lR lN (by omega) hA hGd.1 hK hS ?_
      intro I1 J1 hA1 hK1 hS1 hF1
      have hCd : ∀ {g' : Geo} {I' J' : Mm}, GeoFr g g' (c + 74) → SL X g' (c + 74) → FrO I I' J J' (c + 74) (c + 114) → CFr g g' I I' J J' c ∧ CInv X g' I' J' c Q := by
        intro g' I' J' hgf hSL hF
        refine ⟨hF.cfg hgf (by omega) (by omega) (by omega) (by omega), ?_⟩
        obtain ⟨hL, ht, hT, hN, hH, hV⟩ := hC
        exact ⟨hL.geo hgf (Or.inr rfl) hSL, hgf.2.1.trans ht, hT.rw' (fun q q1 q2 => (hF q (by omega)).1), hN.rw' hL.2.2.1 (hgf.2.2 _ (by omega)) (fun q q1 q2 => hF q (by omega)), hH.rw' hL (fun q q1 q2 => hgf.2.2 q (by omega)) (fun q q1 q2 => hF q (by omega)), hV.rw' hL (fun q q1 q2 => hgf.2.2 q (by omega)) (fun q q1 q2 => hF q (by omega))⟩
      have loop : ∀ q : Nat, q ≤ N → ∀ (z x : Int) (g' : Geo) (I' J' : Mm), z = (q : Int) → x = smX s q → GeoFr g g' (c + 74) → FrO I I' J J' (c + 74) (c + 114) → TIn X g' I' J' (c + 74) (smS Q.2.1 s q) → ZV X E_X6_simulate 39 [some (.ref c), some (vl s), none, some (vi (N : Int)), some (vl x), none, some (vi z)] [] b g' I' J' post := by
        refine loop_up N ?_ ?_
        · intro z x g' I' J' hz hx hgf hF hTI
          have hCg := (hCd hgf hTI.1 hF).2
          obtain ⟨⟨l0, l1, l2, l3, l4, l5, l6, l7⟩, lT, lN, lR, -⟩ := id hCg.1
          have lr := lR.1.1
          refine ZV_iload dX6_simulate_39 rfl ?_
          refine ZV_iload_n dX6_simulate_41 rfl ?_
          refine ZV_icmp_ge (tgt := 77) dX6_simulate_42 (by decide) ⟨by omega, by omega⟩ ⟨by omega, by omega⟩ (fun h42 => ?_) (fun h42 => ?_)
          · refine ZV_aload_n dX6_simulate_77 rfl ?_
            refine ZV_getR fX6_simulate_23 dX6_simulate_78 (by assumption) rfl (by assumption) ?_
            refine cl_X3_rekey kX6_simulate_88 rfl dX6_simulate_81 (by assumption) (Nat.le_of_ble_eq_true rfl) ?_
            refine hTI.rekey ?_
            intro J3 v hF3 hB3
            have hFF : FrO I I' J J3 (c + 74) (c + 114) := hF.tr (hF3.mono (by omega) (by omega))
            have hCe := hCd hgf hTI.1 hFF
            have ec := hB3.1.1.1.1
            have hl := letdN_rng (smS Q.2.1 s N)
            have h17 := hB3.2.1.1
            have el : zsum (fun i => if 0 < klet (keyOf (smS Q.2.1 s N) i) then 1 else 0) (aN (smS Q.2.1 s N)) = letdN (smS Q.2.1 s N) := rfl
            refine ZV_pop dX6_simulate_84 rfl ?_
            refine ZV_bipush dX6_simulate_85 (by decide) ?_
            refine ZV_aload_n dX6_simulate_87 rfl ?_
            refine ZV_getR fX6_simulate_23 dX6_simulate_88 (by assumption) rfl (by assumption) ?_
            refine ZV_getI fX6_simulate_94 dX6_simulate_91 (by assumption) rfl ?_
            rw [ec]
            refine ZV_imul dX6_simulate_94 ?_
            refine ZV_aload_n dX6_simulate_95 rfl ?_
            refine ZV_getR fX6_simulate_23 dX6_simulate_96 (by assumption) rfl (by assumption) ?_
            refine cl_X3_lettered kX6_simulate_103 rfl dX6_simulate_99 (by assumption) (Nat.le_of_ble_eq_true rfl) ?_
            refine sp_X3_lettered lR hB3.1.1 hB3.2.1 hB3.1.2.1 ?_
            rw [el]
            refine ZV_iadd dX6_simulate_102 ?_
            refine ZV_iret dX6_simulate_103 rfl ?_
            exact hx3 hgood _ _ _ hCe.1 hCe.2
          · omega
        · intro q hq ih z x g' I' J' hz hx hgf hF hTI
          have hCg := (hCd hgf hTI.1 hF).2
          obtain ⟨⟨l0, l1, l2, l3, l4, l5, l6, l7⟩, lT, lN, lR, -⟩ := id hCg.1
          have ex : smX s (q + 1) = x * 6364136223846793005 + 1442695040888963407 := by simp only [smX]; rw [hx]
          refine ZV_iload dX6_simulate_39 rfl ?_
          refine ZV_iload_n dX6_simulate_41 rfl ?_
          refine ZV_icmp_ge (tgt := 77) dX6_simulate_42 (by decide) ⟨by omega, by omega⟩ ⟨by omega, by omega⟩ (fun h42 => ?_) (fun h42 => ?_)
          · omega
          · refine ZV_lload dX6_simulate_45 rfl ?_
            refine ZV_ldc2 (z := 6364136223846793005) dX6_simulate_47 lX6_simulate_265 ?_
            refine ZV_lmul dX6_simulate_50 ?_
            refine ZV_ldc2 (z := 1442695040888963407) dX6_simulate_51 lX6_simulate_267 ?_
            refine ZV_ladd dX6_simulate_54 ?_
            refine ZV_lstore4 dX6_simulate_55 rfl (by decide) ?_
            refine ZV_aload_n dX6_simulate_57 rfl ?_
            refine ZV_aload_n dX6_simulate_58 rfl ?_
            refine ZV_getR fX6_simulate_23 dX6_simulate_59 (by assumption) rfl (by assumption) ?_
            refine ZV_lload dX6_simulate_62 rfl ?_
            refine ZV_bipush dX6_simulate_64 (by decide) ?_
            refine ZV_lushr33 dX6_simulate_66 ?_
            refine ZV_l2i dX6_simulate_67 ?_
            refine cl_X6_playRound kX6_simulate_269 rfl dX6_simulate_68 (by assumption) (Nat.le_of_ble_eq_true rfl) ?_
            refine sp_X6_playRound hCg.1 hTI ⟨by omega, by omega⟩ ?_
            intro g2 I2 J2 hgf2 hF2 hT2
            refine ZV_jinc6 dX6_simulate_71 rfl (by decide) ?_
            refine ZV_goto (tgt := 39) dX6_simulate_74 (by decide) ?_
            refine ih _ _ _ _ _ (by omega) ex.symm (hgf.tr hgf2) (hF.tr hF2) ?_
            show TIn X g2 I2 J2 (c + 74) (rnd (smS Q.2.1 s q) (smX s (q + 1) % 18446744073709551616 / 8589934592))
            rw [ex]
            exact hT2
      refine ZV_lload_n dX6_simulate_33 rfl ?_
      refine ZV_lstore4 dX6_simulate_34 rfl (by decide) ?_
      refine ZV_iconst dX6_simulate_36 ?_
      refine ZV_istore6 dX6_simulate_37 rfl (by decide) ?_
      exact loop 0 (by omega) _ _ _ _ _ rfl rfl (GeoFr.rf g _) (hF1.mono (by omega) (by omega)) ⟨lR, hA1, hGd, _, hK1, fun i hi => (hGd.ky i hi).2⟩
    · refine ZV_throwW tX6_simulate_11 rfl dX6_simulate_11 dX6_simulate_14 dX6_simulate_15 dX6_simulate_18 dX6_simulate_21 ⟨by decide, by decide⟩ ⟨by first | omega | (dsimp only; omega), by first | omega | (dsimp only; omega)⟩ (by assumption) ?_
      exact hx1 (by omega)
end ZA10

