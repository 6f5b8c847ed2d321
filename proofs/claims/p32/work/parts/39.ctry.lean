/-! CitationKeys: lettersWith, bestStyle -/
section ZA6
variable {X : Xt} {g : Geo} {I J : Mm} {b : Nat × Nat} {post : Out → Geo → Mm → Mm → Prop}
theorem sp_X6_tryStyle {c : Nat} {s : Int} {Q : AC} (hC : CInv X g I J c Q) (hs : 0 ≤ s ∧ s < 4) (h : ∀ I' J', CFr g g I I' J J' c → CInv X g I' J' c Q → StF g I' J' (c + 74) (aSty Q.2.1 s) → post (.inl none) g I' J') : ZV X E_X6_tryStyle 0 [some (.ref c), some (vi s)] [] b g I J post := by
  obtain ⟨⟨l0, l1, l2, l3, l4, l5, l6, l7⟩, lT, lN, lR, -⟩ := id hC.1
  have lr := lR.1.1
  have hGd := hC.2.2.2.1.2
  have h16 := hGd.1.1
  obtain ⟨⟨hA, hK, hS⟩, -⟩ := hC.2.2.2.1
  refine ZV_aload_n dX6_tryStyle_0 rfl ?_
  refine ZV_getR fX6_tryStyle_23 dX6_tryStyle_1 (by assumption) rfl (by assumption) ?_
  refine ZV_aload_n dX6_tryStyle_4 rfl ?_
  refine ZV_getR fX6_tryStyle_19 dX6_tryStyle_5 (by assumption) rfl (by assumption) ?_
  refine cl_X3_copyFrom kX6_tryStyle_254 rfl dX6_tryStyle_8 (by assumption) (Nat.le_of_ble_eq_true rfl) ?_
  refine sp_X3_copyFrom lR lN (by omega) hA hGd.1 hK hS ?_
  intro I1 J1 hA1 hK1 hS1 hF1
  refine ZV_aload_n dX6_tryStyle_11 rfl ?_
  refine ZV_getR fX6_tryStyle_23 dX6_tryStyle_12 (by assumption) rfl (by assumption) ?_
  refine ZV_iload_n dX6_tryStyle_15 rfl ?_
  refine ZV_putI fX6_tryStyle_97 dX6_tryStyle_16 (by assumption) rfl ?_
  refine ZV_aload_n dX6_tryStyle_19 rfl ?_
  refine ZV_getR fX6_tryStyle_23 dX6_tryStyle_20 (by assumption) rfl (by assumption) ?_
  refine cl_X3_rekey kX6_tryStyle_88 rfl dX6_tryStyle_23 (by assumption) (Nat.le_of_ble_eq_true rfl) ?_
  obtain ⟨⟨a1, a2, a3, a4⟩, a5, a6⟩ := id hA1
  have hFs : FrO I1 (up2 I1 (c + 74) 2 s) J1 J1 (c + 74) (c + 74 + 1) := fun q hq => ⟨up2_row _ _ (by omega), rfl⟩
  have hA2 : StAt g (up2 I1 (c + 74) 2 s) J1 (c + 74) (aSty Q.2.1 s) := by
    refine ⟨⟨?_, ?_, ?_, ?_⟩, fun j hj => ?_, fun p hp => ?_⟩
    · rw [up2_k (by decide)]; exact a1
    · rw [up2_same]; rfl
    · rw [up2_k (by decide)]; exact a3
    · rw [up2_k (by decide)]; exact a4
    · have hj' : j < aN Q.2.1 := hj
      have := (SL_sw lR (i := j) (by omega)).2.2
      exact (a5 j hj').fr hFs (by omega)
    · rw [up2_a (by omega)]
      exact a6 p hp
  have hG2 : GoodSt (aSty Q.2.1 s) := hGd.sty ⟨by omega, by omega⟩
  refine sp_X3_rekey lR hA2 hG2.1 hK1 (fun i hi => (hGd.ky i hi).2) ?_
  intro J3 b1 b2 b3 b4
  have hF3 : FrO (up2 I1 (c + 74) 2 s) (up2 I1 (c + 74) 2 s) J1 J3 (c + 74) (c + 112) := fun q hq => ⟨rfl, b4 q (by omega)⟩
  have hFF : FrO I (up2 I1 (c + 74) 2 s) J J3 (c + 74) (c + 112) := ((hF1.mono (by omega) (by omega)).tr (hFs.mono (by omega) (by omega))).tr hF3
  refine ZV_pop dX6_tryStyle_26 rfl ?_
  refine ZV_vret dX6_tryStyle_27 rfl ?_
  exact h _ _ (hFF.cf g (by omega) (by omega)) (hC.trial (GeoFr.rf g _) lR hFF) ⟨⟨b1, b3, b2⟩, hG2⟩
theorem sp_X6_lettersWith {c : Nat} {s : Int} {Q : AC} (hC : CInv X g I J c Q) (hs : r32 s) (hb : 1 ≤ b.1 ∧ 6 ≤ b.2) (hx1 : ¬ (0 ≤ s ∧ s < 4) → post (.inr zIAE) g I J) (hx2 : (0 ≤ s ∧ s < 4) → ∀ I' J', CFr g g I I' J J' c → CInv X g I' J' c Q → post (.inl (some (vi (letdN (aSty Q.2.1 s))))) g I' J') : ZV X E_X6_lettersWith 0 [some (.ref c), some (vi s)] [] b g I J post := by
  obtain ⟨⟨l0, l1, l2, l3, l4, l5, l6, l7⟩, lT, lN, lR, -⟩ := id hC.1
  have lr := lR.1.1
  have hg := hC.2.1
  refine ZV_iload_n dX6_lettersWith_0 rfl ?_
  refine cl_X6_needStyle kX6_lettersWith_222 rfl dX6_lettersWith_1 ⟨by first | omega | (dsimp only; omega), by first | omega | (dsimp only; omega)⟩ (Nat.le_of_ble_eq_true rfl) ?_
  refine sp_X6_needStyle hs hg ⟨by decide, by decide⟩ ?_
  by_cases hs2 : 0 ≤ s ∧ s < 4
  · refine Or.inl ⟨hs2.1, hs2.2, ?_⟩
    refine ZV_aload_n dX6_lettersWith_4 rfl ?_
    refine ZV_iload_n dX6_lettersWith_5 rfl ?_
    refine cl_X6_tryStyle kX6_lettersWith_245 rfl dX6_lettersWith_6 (by assumption) (Nat.le_of_ble_eq_true rfl) ?_
    refine sp_X6_tryStyle hC hs2 ?_
    intro I1 J1 hF1 hC1 hS1
    have hr := letdN_rng (aSty Q.2.1 s)
    have h16 := hS1.2.1.1
    refine ZV_aload_n dX6_lettersWith_9 rfl ?_
    refine ZV_getR fX6_lettersWith_23 dX6_lettersWith_10 (by assumption) rfl (by assumption) ?_
    refine cl_X3_lettered kX6_lettersWith_103 rfl dX6_lettersWith_13 (by assumption) (Nat.le_of_ble_eq_true rfl) ?_
    refine sp_X3_lettered lR hS1.1.1 hS1.2.1 hS1.1.2.1 ?_
    have e : zsum (fun i => if 0 < klet (keyOf (aSty Q.2.1 s) i) then 1 else 0) (aN (aSty Q.2.1 s)) = letdN (aSty Q.2.1 s) := rfl
    rw [e]
    refine ZV_iret dX6_lettersWith_16 rfl ?_
    exact hx2 hs2 _ _ hF1 hC1
  · exact Or.inr ⟨hs2, hx1 hs2⟩
theorem sp_X6_bestStyle {c : Nat} {Q : AC} (hC : CInv X g I J c Q) (h : ∀ I' J', CFr g g I I' J J' c → CInv X g I' J' c Q → post (.inl (some (vi (bsF Q.2.1 4).1))) g I' J') : ZV X E_X6_bestStyle 0 [some (.ref c), none, none, none, none, none, none] [] b g I J post := by
  have h16 := hC.2.2.2.1.2.1.1
  obtain ⟨⟨l0, l1, l2, l3, l4, l5, l6, l7⟩, lT, lN, lR, -⟩ := id hC.1
  have lr := lR.1.1
  refine ZV_iconst dX6_bestStyle_0 ?_
  refine ZV_istore1 dX6_bestStyle_1 rfl (by decide) ?_
  refine ZV_iconst dX6_bestStyle_2 ?_
  refine ZV_istore2 dX6_bestStyle_3 rfl (by decide) ?_
  refine ZV_iconst dX6_bestStyle_4 ?_
  refine ZV_istore3 dX6_bestStyle_5 rfl (by decide) ?_
  refine ZV_iconst dX6_bestStyle_6 ?_
  refine ZV_istore4 dX6_bestStyle_7 rfl (by decide) ?_
  have key : ∀ q : Nat, q ≤ 4 → ∀ (z f m s : Int) (o o' : Option Value) (I' J' : Mm), z = (q : Int) → (bsF Q.2.1 q) = (f, m, s) → CFr g g I I' J J' c → CInv X g I' J' c Q → ZV X E_X6_bestStyle 9 [some (.ref c), some (vi f), some (vi m), some (vi s), some (vi z), o, o'] [] b g I' J' post := by
    refine loop_up 4 ?_ ?_
    · intro z f m s o o' I' J' hz hfm hF hC'
      have h := h _ _ hF hC'
      have hr := bsF_rng Q.2.1 4
      rw [hfm] at h hr
      have hr1 : 0 ≤ f ∧ f ≤ ((4 : Nat) : Int) := hr.1
      refine ZV_iload dX6_bestStyle_9 rfl ?_
      refine ZV_iconst dX6_bestStyle_11 ?_
      refine ZV_icmp_ge (tgt := 77) dX6_bestStyle_12 (by decide) ⟨by omega, by omega⟩ ⟨by omega, by omega⟩ (fun h12 => ?_) (fun h12 => ?_)
      · refine ZV_iload_n dX6_bestStyle_77 rfl ?_
        refine ZV_iret dX6_bestStyle_78 rfl ?_
        exact h
      · omega
    · intro q hq ih z f m s o o' I' J' hz hfm hF hC'
      have hr := bsF_rng Q.2.1 q
      rw [hfm] at hr
      obtain ⟨⟨r1, r2⟩, ⟨r3, r4⟩, r5, r6⟩ : (0 ≤ f ∧ f ≤ (q : Int)) ∧ (0 ≤ m ∧ m ≤ aN Q.2.1) ∧ (0 ≤ s ∧ s ≤ 14) := hr
      subst hz
      refine ZV_iload dX6_bestStyle_9 rfl ?_
      refine ZV_iconst dX6_bestStyle_11 ?_
      refine ZV_icmp_ge (tgt := 77) dX6_bestStyle_12 (by decide) ⟨by omega, by omega⟩ ⟨by omega, by omega⟩ (fun h12 => ?_) (fun h12 => ?_)
      · omega
      · refine ZV_aload_n dX6_bestStyle_15 rfl ?_
        refine ZV_iload dX6_bestStyle_16 rfl ?_
        refine cl_X6_tryStyle kX6_bestStyle_245 rfl dX6_bestStyle_18 (by assumption) (Nat.le_of_ble_eq_true rfl) ?_
        refine sp_X6_tryStyle hC' ⟨by omega, by omega⟩ ?_
        intro I1 J1 hF1 hC1 hS1
        refine ZV_aload_n dX6_bestStyle_21 rfl ?_
        refine ZV_getR fX6_bestStyle_23 dX6_bestStyle_22 (by assumption) rfl (by assumption) ?_
        refine cl_X3_lettered kX6_bestStyle_103 rfl dX6_bestStyle_25 (by assumption) (Nat.le_of_ble_eq_true rfl) ?_
        refine sp_X3_lettered lR hS1.1.1 hS1.2.1 hS1.1.2.1 ?_
        refine ZV_istore5 dX6_bestStyle_28 rfl (by decide) ?_
        refine ZV_aload_n dX6_bestStyle_30 rfl ?_
        refine ZV_getR fX6_bestStyle_23 dX6_bestStyle_31 (by assumption) rfl (by assumption) ?_
        refine cl_X3_longestKey kX6_bestStyle_109 rfl dX6_bestStyle_34 (by assumption) (Nat.le_of_ble_eq_true rfl) ?_
        refine sp_X3_longestKey lR hS1.1.1 hS1.2.1 hS1.1.2.1 hS1.2.ky ?_
        have e1 : zsum (fun i => if 0 < klet (keyOf (aSty Q.2.1 (q : Int)) i) then 1 else 0) (aN (aSty Q.2.1 (q : Int))) = letdN (aSty Q.2.1 (q : Int)) := rfl
        have e2 : zmx (fun i => klen (keyOf (aSty Q.2.1 (q : Int)) i)) (aN (aSty Q.2.1 (q : Int))) = lgst (aSty Q.2.1 (q : Int)) := rfl
        rw [e1, e2]
        have k1 := letdN_rng (aSty Q.2.1 (q : Int))
        have k2 := lgst_rng (aSty Q.2.1 (q : Int))
        have k3 : ((aN (aSty Q.2.1 (q : Int)) : Nat) : Int) = aN Q.2.1 := rfl
        have yes : (q = 0 ∨ letdN (aSty Q.2.1 (q : Int)) < m ∨ (letdN (aSty Q.2.1 (q : Int)) = m ∧ lgst (aSty Q.2.1 (q : Int)) < s)) → bsF Q.2.1 (q + 1) = ((q : Int), letdN (aSty Q.2.1 (q : Int)), lgst (aSty Q.2.1 (q : Int))) := by
          intro e
          simp only [bsF]
          rw [hfm]
          exact if_pos e
        have no : ¬ (q = 0 ∨ letdN (aSty Q.2.1 (q : Int)) < m ∨ (letdN (aSty Q.2.1 (q : Int)) = m ∧ lgst (aSty Q.2.1 (q : Int)) < s)) → bsF Q.2.1 (q + 1) = (f, m, s) := by
          intro e
          simp only [bsF]
          rw [hfm]
          exact if_neg e
        have take : (q = 0 ∨ letdN (aSty Q.2.1 (q : Int)) < m ∨ (letdN (aSty Q.2.1 (q : Int)) = m ∧ lgst (aSty Q.2.1 (q : Int)) < s)) → ZV X E_X6_bestStyle 62 [some (.ref c), some (vi f), some (vi m), some (vi s), some (vi (q : Int)), some (vi (letdN (aSty Q.2.1 (q : Int)))), some (vi (lgst (aSty Q.2.1 (q : Int))))] [] b g I1 J1 post := by
          intro e
          refine ZV_iload dX6_bestStyle_62 rfl ?_
          refine ZV_istore1 dX6_bestStyle_64 rfl (by decide) ?_
          refine ZV_iload dX6_bestStyle_65 rfl ?_
          refine ZV_istore2 dX6_bestStyle_67 rfl (by decide) ?_
          refine ZV_iload dX6_bestStyle_68 rfl ?_
          refine ZV_istore3 dX6_bestStyle_70 rfl (by decide) ?_
          refine ZV_jinc4 dX6_bestStyle_71 rfl (by decide) ?_
          refine ZV_goto (tgt := 9) dX6_bestStyle_74 (by decide) ?_
          exact ih _ _ _ _ _ _ _ _ (by omega) (yes e) (hF.tr hF1) hC1
        have leave : ¬ (q = 0 ∨ letdN (aSty Q.2.1 (q : Int)) < m ∨ (letdN (aSty Q.2.1 (q : Int)) = m ∧ lgst (aSty Q.2.1 (q : Int)) < s)) → ZV X E_X6_bestStyle 71 [some (.ref c), some (vi f), some (vi m), some (vi s), some (vi (q : Int)), some (vi (letdN (aSty Q.2.1 (q : Int)))), some (vi (lgst (aSty Q.2.1 (q : Int))))] [] b g I1 J1 post := by
          intro e
          refine ZV_jinc4 dX6_bestStyle_71 rfl (by decide) ?_
          refine ZV_goto (tgt := 9) dX6_bestStyle_74 (by decide) ?_
          exact ih _ _ _ _ _ _ _ _ (by omega) (no e) (hF.tr hF1) hC1
        refine ZV_istore6 dX6_bestStyle_37 rfl (by decide) ?_
        refine ZV_iload dX6_bestStyle_39 rfl ?_
        refine ZV_if_eq (tgt := 62) dX6_bestStyle_41 (by decide) ⟨by omega, by omega⟩ (fun h41 => ?_) (fun h41 => ?_)
        · exact take (Or.inl (by omega))
        · refine ZV_iload dX6_bestStyle_44 rfl ?_
          refine ZV_iload_n dX6_bestStyle_46 rfl ?_
          refine ZV_icmp_lt (tgt := 62) dX6_bestStyle_47 (by decide) ⟨by omega, by omega⟩ ⟨by omega, by omega⟩ (fun h47 => ?_) (fun h47 => ?_)
          · exact take (Or.inr (Or.inl (by omega)))
          · refine ZV_iload dX6_bestStyle_50 rfl ?_
            refine ZV_iload_n dX6_bestStyle_52 rfl ?_
            refine ZV_icmp_ne (tgt := 71) dX6_bestStyle_53 (by decide) ⟨by omega, by omega⟩ ⟨by omega, by omega⟩ (fun h53 => ?_) (fun h53 => ?_)
            · exact leave (by omega)
            · refine ZV_iload dX6_bestStyle_56 rfl ?_
              refine ZV_iload_n dX6_bestStyle_58 rfl ?_
              refine ZV_icmp_ge (tgt := 71) dX6_bestStyle_59 (by decide) ⟨by omega, by omega⟩ ⟨by omega, by omega⟩ (fun h59 => ?_) (fun h59 => ?_)
              · exact leave (by omega)
              · exact take (Or.inr (Or.inr ⟨by omega, by omega⟩))
  exact key 0 (by omega) _ _ _ _ _ _ _ _ rfl rfl (CFr.rf g I J c) hC
end ZA6

