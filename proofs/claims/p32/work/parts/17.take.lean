/-! CitationKeys$State: takeOut, rekey -/
/-- but for one array of references all stays where it is -/
def GeoFr (g g' : Geo) (t : Nat) : Prop := g'.1 = g.1 ∧ g'.2.2 = g.2.2 ∧ ∀ a, a ≠ t + 1 → g'.2.1 a = g.2.1 a
theorem GeoFr_ksh {X : Xt} {g g' : Geo} {t : Nat} (h : GeoFr g g' t) (a : Nat) : ksh X g' a = ksh X g a := by unfold ksh; rw [h.1]
theorem GeoFr_WG {X : Xt} {g g' : Geo} {t w : Nat} (h : GeoFr g g' t) (hw : WG X g w) (hne : w ≠ t + 1) : WG X g' w := by
  obtain ⟨h1, h2, h3⟩ := hw
  exact ⟨by rw [GeoFr_ksh h]; exact h1, by rw [h.2.2 w hne]; exact h2, by rw [GeoFr_ksh h]; exact h3⟩
theorem GeoFr_SL {X : Xt} {g g' : Geo} {t u : Nat} (h : GeoFr g g' t) (hL : SL X g u) (hd : t + 38 ≤ u ∨ u + 38 ≤ t) : SL X g' u := by
  obtain ⟨⟨s1, s2, s3, s4, s5, s6⟩, ⟨s7, s8, s9, s10, s11⟩, s12, s13, s14⟩ := hL
  have e0 := h.2.2 u (by omega)
  have e1 := h.2.2 (u + 1) (by omega)
  refine ⟨⟨?_, ?_, ?_, ?_, ?_, ?_⟩, ⟨?_, ?_, ?_, ?_, ?_⟩, ?_, ?_, ?_⟩
  · rw [GeoFr_ksh h]; exact s1
  · rw [e0]; exact s2
  · rw [e0]; exact s3
  · rw [e0]; exact s4
  · rw [e0]; exact s5
  · rw [e0]; exact s6
  · rw [GeoFr_ksh h]; exact s7
  · rw [GeoFr_ksh h]; exact s8
  · rw [GeoFr_ksh h]; exact s9
  · rw [GeoFr_ksh h]; exact s10
  · rw [GeoFr_ksh h]; exact s11
  · rw [e1]; exact s12
  · rw [e1]; exact s13
  · exact fun k hk => GeoFr_WG h (s14 k hk) (by omega)
theorem GeoFr_sw {g g' : Geo} {t u : Nat} (h : GeoFr g g' t) (hd : u ≠ t) (i : Nat) : swk g' u i = swk g u i := by
  unfold swk; rw [h.2.2 (u + 1) (by omega)]
theorem GeoFr_St {g g' : Geo} {I J : Mm} {t u : Nat} {A : ASt} (h : GeoFr g g' t) (hd : u ≠ t) (hA : StAt g I J u A) : StAt g' I J u A := ⟨hA.1, fun i hi => by rw [GeoFr_sw h hd]; exact hA.2.1 i hi, hA.2.2⟩
theorem up2_kR {f : Mr} {a k k' : Nat} {v : Option Nat} (h : k' ≠ k) : up2 f a k v a k' = f a k' := up2_ne f v (fun q => h q.2)
def sgm (i n q : Nat) : Nat := if q < i then q else if q + 1 < n then q + 1 else if q + 1 = n then i else q
def aTake (A : ASt) (i : Nat) : ASt := (aN A - 1, (fun j => if j < i then aW A j else aW A (j + 1)), aS A, aO A, aPn A, aPk A, fun p => disw i (aPo A p))
section ZT
variable {X : Xt} {b : Nat × Nat} {g : Geo} {I J : Mm} {post : Out → Geo → Mm → Mm → Prop}
theorem sp_X3_takeOut {t i : Nat} {A : ASt} {K : Nat → Int} {zi : Int} (hL : SL X g t) (hA : StAt g I J t A) (hO : StOK A) (hK : KyAt J t (aN A) K) (hpo : ∀ p, p < aPn A → r32 (aPo A p)) (hi : i < aN A) (ei : zi = (i : Int)) (h : ∀ g' I' J', GeoFr g g' t → SL X g' t → StAt g' I' J' t (aTake A i) → KyAt J' t (aN A - 1) (fun j => if j < i then K j else K (j + 1)) → FrO I I' J J' t (t + 38) → post (.inl none) g' I' J') : ZV X E_X3_takeOut 0 [some (.ref t), some (vi zi), none, none] [] b g I J post := by
  subst ei
  have hL' := hL
  obtain ⟨hn, hpn, -⟩ := id hO
  obtain ⟨⟨s1, s2, s3, s4, s5, s6⟩, ⟨s7, s8, s9, s10, s11⟩, s12, s13, s14⟩ := hL
  obtain ⟨⟨a1, a2, a3, a4⟩, a5, a6⟩ := hA
  obtain ⟨x1, x2, x3⟩ := SL_sw hL' (i := i) (by omega)
  refine ZV_aload_n dX3_takeOut_0 rfl ?_
  refine ZV_iload_n dX3_takeOut_1 rfl ?_
  refine cl_X3_has kX3_takeOut_49 rfl dX3_takeOut_2 (by assumption) (Nat.le_of_ble_eq_true rfl) ?_
  refine sp_X3_has s1 ⟨by omega, by omega⟩ ⟨by omega, by omega⟩ ?_
  rw [if_pos ⟨by omega, by omega⟩]
  refine ZV_if_ne (tgt := 9) dX3_takeOut_5 (by decide) ⟨by omega, by omega⟩ (fun h5 => ?_) (fun h5 => ?_)
  · refine ZV_aload_n dX3_takeOut_9 rfl ?_
    refine ZV_getR fX3_takeOut_11 dX3_takeOut_10 (by assumption) rfl (by assumption) ?_
    refine ZV_iload_n dX3_takeOut_13 rfl ?_
    first | refine ZV_aaldW (i) dX3_takeOut_14 (by assumption) (by first | rfl | omega) (by omega) (by omega) (by assumption) ?_ | refine ZV_aaldS (i) dX3_takeOut_14 (by assumption) (by first | rfl | omega) (by omega) (by omega) (by assumption) ?_
    refine ZV_astore2 dX3_takeOut_15 rfl (by decide) ?_
    refine ZV_iload_n dX3_takeOut_16 rfl ?_
    refine ZV_istore3 dX3_takeOut_17 rfl (by decide) ?_
    have key : ∀ q : Nat, q ≤ aN A - 1 → i ≤ q → ∀ (z : Int) (R' : Mr) (J' : Mm), z = (q : Int) → (∀ a, a ≠ t + 1 → R' a = g.2.1 a) → (∀ j, R' (t + 1) j = if i ≤ j ∧ j < q then g.2.1 (t + 1) (j + 1) else g.2.1 (t + 1) j) → (∀ a, a ≠ t + 35 → J' a = J a) → (∀ j, J' (t + 35) j = if i ≤ j ∧ j < q then J (t + 35) (j + 1) else J (t + 35) j) → ZV X E_X3_takeOut 18 [some (.ref t), some (vi (i : Int)), some (.ref (swk g t i)), some (vi z)] [] b (g.1, R', g.2.2) I J' post := by
      refine loop_up (aN A - 1) ?_ ?_
      · intro hiq z R' J' hz hR hR1 hJ hJ1
        have r1 : R' t 0 = some (t + 1) := by rw [hR t (by omega)]; exact s2
        have xk := x2.1
        refine ZV_iload_n dX3_takeOut_18 rfl ?_
        refine ZV_aload_n dX3_takeOut_19 rfl ?_
        refine ZV_getI fX3_takeOut_32 dX3_takeOut_20 (by assumption) rfl ?_
        refine ZV_iconst dX3_takeOut_23 ?_
        refine ZV_isub dX3_takeOut_24 ?_
        refine ZV_icmp_ge (tgt := 62) dX3_takeOut_25 (by decide) ⟨by omega, by omega⟩ ⟨by omega, by omega⟩ (fun h25 => ?_) (fun h25 => ?_)
        · refine ZV_aload_n dX3_takeOut_62 rfl ?_
          refine ZV_dup dX3_takeOut_63 rfl ?_
          refine ZV_getI fX3_takeOut_32 dX3_takeOut_64 (by assumption) rfl ?_
          refine ZV_iconst dX3_takeOut_67 ?_
          refine ZV_isub dX3_takeOut_68 ?_
          refine ZV_putI fX3_takeOut_32 dX3_takeOut_69 (by assumption) rfl ?_
          refine ZV_aload_n dX3_takeOut_72 rfl ?_
          refine ZV_getR fX3_takeOut_11 dX3_takeOut_73 (by assumption) rfl (by assumption) ?_
          refine ZV_aload_n dX3_takeOut_76 rfl ?_
          refine ZV_getI fX3_takeOut_32 dX3_takeOut_77 (by assumption) rfl ?_
          rw [a1, up2_same]
          refine ZV_aload_n dX3_takeOut_80 rfl ?_
          first | refine ZV_aastW (aN A - 1) dX3_takeOut_81 (by assumption) (by first | rfl | omega) (by omega) (by omega) (by assumption) ?_ | refine ZV_aastS (aN A - 1) dX3_takeOut_81 (by assumption) (by first | rfl | omega) (by omega) (by omega) (by assumption) ?_
          refine ZV_aload_n dX3_takeOut_82 rfl ?_
          refine ZV_iload_n dX3_takeOut_83 rfl ?_
          refine cl_X3_disown kX3_takeOut_53 rfl dX3_takeOut_84 (by assumption) (Nat.le_of_ble_eq_true rfl) ?_
          have hgf : GeoFr g (g.1, up2 R' (t + 1) (aN A - 1) (some (swk g t i)), g.2.2) t := ⟨rfl, rfl, fun a ha => (up2_row _ _ ha).trans (hR a ha)⟩
          have hsg : ∀ q, up2 R' (t + 1) (aN A - 1) (some (swk g t i)) (t + 1) q = g.2.1 (t + 1) (sgm i (aN A) q) := by
            intro q
            unfold sgm
            by_cases e : q = aN A - 1
            · rw [e, up2_same, if_neg (by omega), if_neg (by omega), if_pos (by omega), x1]
            · rw [up2_kR e, hR1 q]
              by_cases e1 : q < i
              · rw [if_neg (by omega), if_pos e1]
              · rw [if_neg e1]
                by_cases e2 : q + 1 < aN A
                · rw [if_pos e2, if_pos (by omega)]
                · rw [if_neg e2, if_neg (by omega), if_neg (by omega)]
          have hSL : SL X (g.1, up2 R' (t + 1) (aN A - 1) (some (swk g t i)), g.2.2) t := by
            refine ⟨⟨s1, ?_, ?_, ?_, ?_, ?_⟩, ⟨s7, s8, s9, s10, s11⟩, ?_, ?_, ?_⟩
            · rw [hgf.2.2 t (by omega)]; exact s2
            · rw [hgf.2.2 t (by omega)]; exact s3
            · rw [hgf.2.2 t (by omega)]; exact s4
            · rw [hgf.2.2 t (by omega)]; exact s5
            · rw [hgf.2.2 t (by omega)]; exact s6
            · intro q hq
              show ∃ k, k < 16 ∧ up2 R' (t + 1) (aN A - 1) (some (swk g t i)) (t + 1) q = some (t + 2 + 2 * k)
              rw [hsg q]
              exact s12 _ (by unfold sgm; repeat' split
                              all_goals omega)
            · intro p q hp hq hpq
              have hpq' : up2 R' (t + 1) (aN A - 1) (some (swk g t i)) (t + 1) p = up2 R' (t + 1) (aN A - 1) (some (swk g t i)) (t + 1) q := hpq
              rw [hsg p, hsg q] at hpq'
              have := s13 _ _ (by unfold sgm; repeat' split
                                  all_goals omega) (by unfold sgm; repeat' split
                                                       all_goals omega) hpq'
              unfold sgm at this
              repeat' split at this
              all_goals omega
            · exact fun k hk => GeoFr_WG hgf (s14 k hk) (by omega)
          refine sp_X3_disown (pn := aPn A) (po := aPo A) hSL hpn ⟨by omega, by omega⟩ (by rw [up2_k (by decide)]; exact a4) (fun p hp => ⟨by rw [up2_a (by omega)]; exact (a6 p hp).2, hpo p hp⟩) ?_
          intro I3 hI3 hI3r
          refine ZV_vret dX3_takeOut_87 rfl ?_
          have hF : FrO I I3 J J' t (t + 38) := fun q hq => ⟨by rw [hI3r q (by omega), up2_row _ _ (by omega)], hJ q (by omega)⟩
          refine h _ _ _ hgf hSL ⟨⟨?_, ?_, ?_, ?_⟩, fun j hj => ?_, fun p hp => ?_⟩ (fun j hj => ?_) hF
          · rw [hI3r t (by omega), up2_same]
            show (aN A : Int) - 1 = ((aN A - 1 : Nat) : Int)
            omega
          · rw [hI3r t (by omega), up2_k (by decide)]; exact a2
          · rw [hI3r t (by omega), up2_k (by decide)]; exact a3
          · rw [hI3r t (by omega), up2_k (by decide)]; exact a4
          · have hj' : j < aN A - 1 := hj
            have esw : swk (g.1, up2 R' (t + 1) (aN A - 1) (some (swk g t i)), g.2.2) t j = swk g t (sgm i (aN A) j) := by
              show (up2 R' (t + 1) (aN A - 1) (some (swk g t i)) (t + 1) j).getD 0 = _
              rw [hsg j]; rfl
            rw [esw]
            have tw : ∀ q, q < 16 → ∀ Q, WkAt I J (swk g t q) Q → WkAt I3 J' (swk g t q) Q := by
              intro q hq Q hQ
              have hs := (SL_sw hL' (i := q) hq).2.2
              obtain ⟨w1, w2, w3, w4⟩ := hQ
              refine ⟨fun a ha => ?_, ?_, ?_, ?_⟩
              · rw [hJ _ (by omega)]; exact w1 a ha
              · rw [hI3r _ (by omega), up2_a (by omega)]; exact w2
              · rw [hI3r _ (by omega), up2_a (by omega)]; exact w3
              · rw [hJ _ (by omega)]; exact w4
            show WkAt I3 J' (swk g t (sgm i (aN A) j)) (if j < i then aW A j else aW A (j + 1))
            by_cases e1 : j < i
            · rw [if_pos e1, show sgm i (aN A) j = j by unfold sgm; rw [if_pos e1]]
              exact tw j (by omega) _ (a5 j (by omega))
            · rw [if_neg e1, show sgm i (aN A) j = j + 1 by unfold sgm; rw [if_neg e1, if_pos (by omega)]]
              exact tw (j + 1) (by omega) _ (a5 (j + 1) (by omega))
          · have hp' : p < aPn A := hp
            rw [hJ _ (by omega)]
            exact ⟨(a6 p hp').1, hI3 p hp'⟩
          · show J' (t + 35) j = if j < i then K j else K (j + 1)
            rw [hJ1 j]
            by_cases e1 : j < i
            · rw [if_neg (by omega), if_pos e1]; exact hK j (by omega)
            · rw [if_pos (by omega), if_neg e1]; exact hK (j + 1) (by omega)
        · omega
      · intro q hq ih hiq z R' J' hz hR hR1 hJ hJ1
        have r1 : R' t 0 = some (t + 1) := by rw [hR t (by omega)]; exact s2
        have r2 : R' t 5 = some (t + 35) := by rw [hR t (by omega)]; exact s4
        obtain ⟨y1, y2, y3⟩ := SL_sw hL' (i := q + 1) (by omega)
        have yk := y2.1
        have r3 : R' (t + 1) (q + 1) = some (swk g t (q + 1)) := by rw [hR1, if_neg (by omega)]; exact y1
        have r4 : up2 R' (t + 1) q (some (swk g t (q + 1))) t 5 = some (t + 35) := by rw [up2_row _ _ (by omega)]; exact r2
        have j1 : J' (t + 35) (q + 1) = J (t + 35) (q + 1) := by rw [hJ1, if_neg (by omega)]
        refine ZV_iload_n dX3_takeOut_18 rfl ?_
        refine ZV_aload_n dX3_takeOut_19 rfl ?_
        refine ZV_getI fX3_takeOut_32 dX3_takeOut_20 (by assumption) rfl ?_
        refine ZV_iconst dX3_takeOut_23 ?_
        refine ZV_isub dX3_takeOut_24 ?_
        refine ZV_icmp_ge (tgt := 62) dX3_takeOut_25 (by decide) ⟨by omega, by omega⟩ ⟨by omega, by omega⟩ (fun h25 => ?_) (fun h25 => ?_)
        · omega
        · refine ZV_aload_n dX3_takeOut_28 rfl ?_
          refine ZV_getR fX3_takeOut_11 dX3_takeOut_29 (by assumption) rfl (by assumption) ?_
          refine ZV_iload_n dX3_takeOut_32 rfl ?_
          refine ZV_aload_n dX3_takeOut_33 rfl ?_
          refine ZV_getR fX3_takeOut_11 dX3_takeOut_34 (by assumption) rfl (by assumption) ?_
          refine ZV_iload_n dX3_takeOut_37 rfl ?_
          refine ZV_iconst dX3_takeOut_38 ?_
          refine ZV_iadd dX3_takeOut_39 ?_
          first | refine ZV_aaldW (q + 1) dX3_takeOut_40 (by assumption) (by first | rfl | omega) (by omega) (by omega) (by assumption) ?_ | refine ZV_aaldS (q + 1) dX3_takeOut_40 (by assumption) (by first | rfl | omega) (by omega) (by omega) (by assumption) ?_
          first | refine ZV_aastW (q) dX3_takeOut_41 (by assumption) (by first | rfl | omega) (by omega) (by omega) (by assumption) ?_ | refine ZV_aastS (q) dX3_takeOut_41 (by assumption) (by first | rfl | omega) (by omega) (by omega) (by assumption) ?_
          refine ZV_aload_n dX3_takeOut_42 rfl ?_
          refine ZV_getR fX3_takeOut_22 dX3_takeOut_43 (by assumption) rfl (by assumption) ?_
          refine ZV_iload_n dX3_takeOut_46 rfl ?_
          refine ZV_aload_n dX3_takeOut_47 rfl ?_
          refine ZV_getR fX3_takeOut_22 dX3_takeOut_48 (by assumption) rfl (by assumption) ?_
          refine ZV_iload_n dX3_takeOut_51 rfl ?_
          refine ZV_iconst dX3_takeOut_52 ?_
          refine ZV_iadd dX3_takeOut_53 ?_
          refine ZV_lald (q + 1) dX3_takeOut_54 (by assumption) (by first | rfl | omega) (by omega) (by omega) ?_
          refine ZV_last (q) dX3_takeOut_55 (by assumption) (by first | rfl | omega) (by omega) (by omega) ?_
          refine ZV_jinc3 dX3_takeOut_56 rfl (by decide) ?_
          refine ZV_goto (tgt := 18) dX3_takeOut_59 (by decide) ?_
          rw [j1]
          refine ih (by omega) _ _ _ (by omega) (fun a ha => (up2_row _ _ ha).trans (hR a ha)) (fun j => ?_) (fun a ha => (up2_row _ _ ha).trans (hJ a ha)) (fun j => ?_)
          · show up2 R' (t + 1) q (some (swk g t (q + 1))) (t + 1) j = _
            by_cases e : j = q
            · rw [e, up2_same, if_pos (by omega), y1]
            · rw [up2_kR e, hR1 j]
              by_cases e2 : i ≤ j ∧ j < q
              · rw [if_pos e2, if_pos (by omega)]
              · rw [if_neg e2, if_neg (by omega)]
          · by_cases e : j = q
            · rw [e, up2_same, if_pos (by omega)]
            · rw [up2_k e, hJ1 j]
              by_cases e2 : i ≤ j ∧ j < q
              · rw [if_pos e2, if_pos (by omega)]
              · rw [if_neg e2, if_neg (by omega)]
    exact key i (by omega) (Nat.le_refl i) _ _ _ rfl (fun _ _ => rfl) (fun j => by rw [if_neg (by omega)]) (fun _ _ => rfl) (fun j => by rw [if_neg (by omega)])
  · omega
theorem sp_X3_rekey {t : Nat} {A : ASt} {K : Nat → Int} (hL : SL X g t) (hA : StAt g I J t A) (hO : StOK A) (hK : KyAt J t (aN A) K) (hKr : ∀ i, i < aN A → r64 (K i)) (h : ∀ J', StAt g I J' t A → SmAt J' t (aN A) (stemOf A) → KyAt J' t (aN A) (keyOf A) → (∀ q, q ≠ t + 34 ∧ q ≠ t + 35 → J' q = J q) → post (.inl (some (vi (zsum (fun i => if keyOf A i = K i then 0 else 1) (aN A))))) g I J') : ZV X E_X3_rekey 0 [some (.ref t), none, none, none, none] [] b g I J post := by
  have hL' := hL
  have hA' := hA
  obtain ⟨hn, hpn, hst, hod, hwk⟩ := id hO
  obtain ⟨⟨s1, s2, s3, s4, s5, s6⟩, ⟨s7, s8, s9, s10, s11⟩, s12, s13, s14⟩ := hL
  obtain ⟨⟨a1, a2, a3, a4⟩, a5, a6⟩ := hA
  have keep : ∀ J', (∀ q, q ≠ t + 34 ∧ q ≠ t + 35 → J' q = J q) → StAt g I J' t A := by
    intro J' hJ
    refine ⟨⟨a1, a2, a3, a4⟩, fun i hi => ?_, fun p hp => ⟨by rw [hJ _ (by omega)]; exact (a6 p hp).1, (a6 p hp).2⟩⟩
    have hs := (SL_sw hL' (i := i) (by omega)).2.2
    obtain ⟨w1, w2, w3, w4⟩ := a5 i hi
    exact ⟨fun a ha => by rw [hJ _ (by omega)]; exact w1 a ha, w2, w3, by rw [hJ _ (by omega)]; exact w4⟩
  refine ZV_iconst dX3_rekey_0 ?_
  refine ZV_istore1 dX3_rekey_1 rfl (by decide) ?_
  have key2 : ∀ q : Nat, q ≤ aN A → ∀ (c z : Int) (o3 o4 : Option Value) (J' : Mm), z = (q : Int) → c = zsum (fun i => if keyOf A i = K i then 0 else 1) q → (∀ a, a ≠ t + 34 ∧ a ≠ t + 35 → J' a = J a) → SmAt J' t (aN A) (stemOf A) → (∀ i, i < aN A → J' (t + 35) i = if i < q then keyOf A i else K i) → ZV X E_X3_rekey 48 [some (.ref t), some (vi c), some (vi z), o3, o4] [] b g I J' post := by
    refine loop_up (aN A) ?_ ?_
    · intro c z o3 o4 J' hz hc hJ hS hK2
      refine ZV_iload_n dX3_rekey_48 rfl ?_
      refine ZV_aload_n dX3_rekey_49 rfl ?_
      refine ZV_getI fX3_rekey_32 dX3_rekey_50 (by assumption) rfl ?_
      refine ZV_icmp_ge (tgt := 97) dX3_rekey_53 (by decide) ⟨by omega, by omega⟩ ⟨by omega, by omega⟩ (fun h53 => ?_) (fun h53 => ?_)
      · refine ZV_iload_n dX3_rekey_97 rfl ?_
        refine ZV_iret dX3_rekey_98 rfl ?_
        rw [hc]
        exact h J' (keep J' hJ) hS (fun i hi => by rw [hK2 i hi, if_pos hi]) hJ
      · omega
    · intro q hq ih c z o3 o4 J' hz hc hJ hS hK2
      have hr1 := stemOf_rng hO hq
      have hr2 := letOf_rng hO q
      have hr3 := hKr q hq
      obtain ⟨k1, k2⟩ := hr3
      have kq : J' (t + 35) q = K q := by rw [hK2 q hq, if_neg (by omega)]
      have step : ∀ i, i < aN A → up2 J' (t + 35) q (stemOf A q + letOf A q) (t + 35) i = if i < q + 1 then keyOf A i else K i := by
        intro i hi
        by_cases e : i = q
        · rw [e, up2_same, if_pos (by omega)]; rfl
        · rw [up2_k e, hK2 i hi]
          by_cases e2 : i < q
          · rw [if_pos e2, if_pos (by omega)]
          · rw [if_neg e2, if_neg (by omega)]
      refine ZV_iload_n dX3_rekey_48 rfl ?_
      refine ZV_aload_n dX3_rekey_49 rfl ?_
      refine ZV_getI fX3_rekey_32 dX3_rekey_50 (by assumption) rfl ?_
      refine ZV_icmp_ge (tgt := 97) dX3_rekey_53 (by decide) ⟨by omega, by omega⟩ ⟨by omega, by omega⟩ (fun h53 => ?_) (fun h53 => ?_)
      · omega
      · refine ZV_aload_n dX3_rekey_56 rfl ?_
        refine ZV_getR fX3_rekey_18 dX3_rekey_57 (by assumption) rfl (by assumption) ?_
        refine ZV_iload_n dX3_rekey_60 rfl ?_
        refine ZV_lald (q) dX3_rekey_61 (by assumption) (by first | rfl | omega) (by omega) (by omega) ?_
        rw [hS q hq]
        refine ZV_aload_n dX3_rekey_62 rfl ?_
        refine ZV_iload_n dX3_rekey_63 rfl ?_
        refine cl_X3_letterDue kX3_rekey_64 rfl dX3_rekey_64 (by assumption) (Nat.le_of_ble_eq_true rfl) ?_
        refine sp_X3_letterDue hL' (keep J' hJ) hO hS (fun j hj => by have := stemOf_rng hO hj; exact ⟨by omega, by omega⟩) hq hz ?_
        rw [show (if 1 < zsum (fun j => if stemOf A j = stemOf A q then 1 else 0) (aN A) then zsum (fun j => if stemOf A j = stemOf A q then bz (aO A) (aW A j) (aW A q) j q else 0) (aN A) + 1 else 0) = letOf A q from rfl]
        refine ZV_i2l dX3_rekey_67 ⟨by omega, by omega⟩ ?_
        refine ZV_ladd dX3_rekey_68 ?_
        refine ZV_lstore3 dX3_rekey_69 rfl (by decide) ?_
        refine ZV_lload_n dX3_rekey_70 rfl ?_
        refine ZV_aload_n dX3_rekey_71 rfl ?_
        refine ZV_getR fX3_rekey_22 dX3_rekey_72 (by assumption) rfl (by assumption) ?_
        refine ZV_iload_n dX3_rekey_75 rfl ?_
        refine ZV_lald (q) dX3_rekey_76 (by assumption) (by first | rfl | omega) (by omega) (by omega) ?_
        rw [kq]
        refine ZV_lif_eq (tgt := 84) dX3_rekey_77 dX3_rekey_78 (by decide) ⟨by omega, by omega⟩ ⟨by omega, by omega⟩ (fun h77 => ?_) (fun h77 => ?_)
        · refine ZV_aload_n dX3_rekey_84 rfl ?_
          refine ZV_getR fX3_rekey_22 dX3_rekey_85 (by assumption) rfl (by assumption) ?_
          refine ZV_iload_n dX3_rekey_88 rfl ?_
          refine ZV_lload_n dX3_rekey_89 rfl ?_
          refine ZV_last (q) dX3_rekey_90 (by assumption) (by first | rfl | omega) (by omega) (by omega) ?_
          refine ZV_jinc2 dX3_rekey_91 rfl (by decide) ?_
          refine ZV_goto (tgt := 48) dX3_rekey_94 (by decide) ?_
          exact ih _ _ _ _ _ (by omega) (by simp only [zsum]; rw [if_pos (by unfold keyOf; omega)]; omega) (fun a ha => (up2_row _ _ ha.2).trans (hJ a ha)) (fun i hi => by rw [up2_a (by omega)]; exact hS i hi) step
        · refine ZV_jinc1 dX3_rekey_81 rfl (by decide) ?_
          refine ZV_aload_n dX3_rekey_84 rfl ?_
          refine ZV_getR fX3_rekey_22 dX3_rekey_85 (by assumption) rfl (by assumption) ?_
          refine ZV_iload_n dX3_rekey_88 rfl ?_
          refine ZV_lload_n dX3_rekey_89 rfl ?_
          refine ZV_last (q) dX3_rekey_90 (by assumption) (by first | rfl | omega) (by omega) (by omega) ?_
          refine ZV_jinc2 dX3_rekey_91 rfl (by decide) ?_
          refine ZV_goto (tgt := 48) dX3_rekey_94 (by decide) ?_
          exact ih _ _ _ _ _ (by omega) (by simp only [zsum]; rw [if_neg (by unfold keyOf; omega)]; omega) (fun a ha => (up2_row _ _ ha.2).trans (hJ a ha)) (fun i hi => by rw [up2_a (by omega)]; exact hS i hi) step
  have key1 : ∀ q : Nat, q ≤ aN A → ∀ (z : Int) (J' : Mm), z = (q : Int) → (∀ a, a ≠ t + 34 → J' a = J a) → (∀ i, i < q → J' (t + 34) i = stemOf A i) → ZV X E_X3_rekey 2 [some (.ref t), some (vi z), none, none, none] [] b g I J' post := by
    refine loop_up (aN A) ?_ ?_
    · intro z J' hz hJ hS
      refine ZV_iload_n dX3_rekey_2 rfl ?_
      refine ZV_aload_n dX3_rekey_3 rfl ?_
      refine ZV_getI fX3_rekey_32 dX3_rekey_4 (by assumption) rfl ?_
      refine ZV_icmp_ge (tgt := 44) dX3_rekey_7 (by decide) ⟨by omega, by omega⟩ ⟨by omega, by omega⟩ (fun h7 => ?_) (fun h7 => ?_)
      · refine ZV_iconst dX3_rekey_44 ?_
        refine ZV_istore1 dX3_rekey_45 rfl (by decide) ?_
        refine ZV_iconst dX3_rekey_46 ?_
        refine ZV_istore2 dX3_rekey_47 rfl (by decide) ?_
        exact key2 0 (by omega) _ _ _ _ _ rfl rfl (fun a ha => hJ a ha.1) hS (fun i hi => by rw [hJ _ (by omega), if_neg (by omega)]; exact hK i hi)
      · omega
    · intro q hq ih z J' hz hJ hS
      obtain ⟨x1, x2, x3⟩ := SL_sw hL' (i := q) (by omega)
      have xk := x2.1
      have wq := (keep J' (fun a ha => hJ a ha.1)).2.1 q hq
      have oq := hwk q hq
      refine ZV_iload_n dX3_rekey_2 rfl ?_
      refine ZV_aload_n dX3_rekey_3 rfl ?_
      refine ZV_getI fX3_rekey_32 dX3_rekey_4 (by assumption) rfl ?_
      refine ZV_icmp_ge (tgt := 44) dX3_rekey_7 (by decide) ⟨by omega, by omega⟩ ⟨by omega, by omega⟩ (fun h7 => ?_) (fun h7 => ?_)
      · omega
      · refine ZV_aload_n dX3_rekey_10 rfl ?_
        refine ZV_getR fX3_rekey_18 dX3_rekey_11 (by assumption) rfl (by assumption) ?_
        refine ZV_iload_n dX3_rekey_14 rfl ?_
        refine ZV_aload_n dX3_rekey_15 rfl ?_
        refine ZV_getR fX3_rekey_11 dX3_rekey_16 (by assumption) rfl (by assumption) ?_
        refine ZV_iload_n dX3_rekey_19 rfl ?_
        first | refine ZV_aaldW (q) dX3_rekey_20 (by assumption) (by first | rfl | omega) (by omega) (by omega) (by assumption) ?_ | refine ZV_aaldS (q) dX3_rekey_20 (by assumption) (by first | rfl | omega) (by omega) (by omega) (by assumption) ?_
        refine ZV_aload_n dX3_rekey_21 rfl ?_
        refine ZV_getI fX3_rekey_36 dX3_rekey_22 (by assumption) rfl ?_
        rw [a2]
        refine ZV_aload_n dX3_rekey_25 rfl ?_
        refine ZV_getR fX3_rekey_11 dX3_rekey_26 (by assumption) rfl (by assumption) ?_
        refine ZV_iload_n dX3_rekey_29 rfl ?_
        first | refine ZV_aaldW (q) dX3_rekey_30 (by assumption) (by first | rfl | omega) (by omega) (by omega) (by assumption) ?_ | refine ZV_aaldS (q) dX3_rekey_30 (by assumption) (by first | rfl | omega) (by omega) (by omega) (by assumption) ?_
        refine ZV_getI fX3_rekey_57 dX3_rekey_31 (by assumption) rfl ?_
        rw [wq.2.2.1]
        refine cl_X5_stem kX3_rekey_60 rfl dX3_rekey_34 (by assumption) (Nat.le_of_ble_eq_true rfl) ?_
        refine sp_X5_stem x2 wq oq ⟨by omega, by omega⟩ oq.2.2.1 ?_
        refine ZV_last (q) dX3_rekey_37 (by assumption) (by first | rfl | omega) (by omega) (by omega) ?_
        refine ZV_jinc1 dX3_rekey_38 rfl (by decide) ?_
        refine ZV_goto (tgt := 2) dX3_rekey_41 (by decide) ?_
        refine ih _ _ (by omega) (fun a ha => (up2_row _ _ ha).trans (hJ a ha)) (fun i hi => ?_)
        by_cases e : i = q
        · rw [e, up2_same]; rfl
        · rw [up2_k e]; exact hS i (by omega)
  exact key1 0 (by omega) _ _ rfl (fun _ _ => rfl) (fun i hi => absurd hi (Nat.not_lt_zero i))
end ZT

