/-! CitationKeys: about, printed -/
def letdN (A : ASt) : Int := zsum (fun i => if 0 < klet (keyOf A i) then 1 else 0) (aN A)
def abF (A : ASt) (k : Int) : Int := if k = 0 then (aN A : Int) else if k = 1 then aS A else if k = 2 then aO A else if k = 3 then letdN A else if k = 4 then zsum (fun i => if klet (keyOf A i) ≤ 1 then 1 else 0) (aN A) else if k = 5 then zmx (fun i => klen (keyOf A i)) (aN A) else if k = 6 then (aPn A : Int) else zsum (fun p => if aPo A p = -2 then 1 else 0) (aPn A)
def prStill (A : ASt) : Int := zsum (fun p => if holdK (keyOf A) (aN A) (aPk A p) = aPo A p then 1 else 0) (aPn A)
def prNone (A : ASt) : Int := zsum (fun p => if holdK (keyOf A) (aN A) (aPk A p) = -9 then 1 else 0) (aPn A)
def prF (A : ASt) (k : Int) : Int := if k = 0 then (aPn A : Int) - prStill A - prNone A else if k = 1 then prNone A else prStill A
theorem AWF.ok {W : AWk} (h : AWF W) : WkOK W := by
  obtain ⟨h1, h2, h3, h4, n, hn, h5⟩ := h
  refine ⟨fun a ha => ?_, ⟨by omega, by omega⟩, ⟨by omega, by omega⟩, h5.2.1⟩
  by_cases e : (a : Int) < W.2.1
  · obtain ⟨m, hm, h6⟩ := h2 a e
    exact h6.2.1
  · rw [h3 a (by omega)]
    exact ⟨by decide, by decide⟩
theorem KWF.rng {κ : Int} (h : KWF κ) : 0 ≤ κ ∧ κ < 576460752303423488 := by
  obtain ⟨W, s, l, hW, hs, hl, rfl⟩ := h
  have h1 := stm_rng (style := s) hW.ok hW.ok.2.2.1
  omega
theorem GoodSt.pr {A : ASt} (h : GoodSt A) : ∀ p, p < aPn A → r64 (aPk A p) ∧ r32 (aPo A p) := fun p hp => by
  have h1 := h.2.2 p hp
  have h2 := h1.1.rng
  have h3 := h.1.1
  refine ⟨⟨by omega, by omega⟩, ?_⟩
  rcases h1.2 with e | e
  · exact ⟨by omega, by omega⟩
  · exact ⟨by omega, by omega⟩
theorem GoodSt.ky {A : ASt} (h : GoodSt A) : ∀ i, i < aN A → 0 ≤ keyOf A i ∧ r64 (keyOf A i) := fun i hi => by
  have h1 := keyOf_rng h.1 hi
  exact ⟨by omega, ⟨by omega, by omega⟩⟩
section ZC4
variable {X : Xt} {g : Geo} {I J : Mm} {b : Nat × Nat} {post : Out → Geo → Mm → Mm → Prop}
theorem sp_X6_about {c : Nat} {k : Int} {Q : AC} (hC : CInv X g I J c Q) (hk : r32 k) (hb : 1 ≤ b.1 ∧ 6 ≤ b.2) (hx1 : (0 ≤ k ∧ k ≤ 7) → post (.inl (some (vi (abF Q.2.1 k)))) g I J) (hx2 : ¬ (0 ≤ k ∧ k ≤ 7) → post (.inr zIAE) g I J) : ZV X E_X6_about 0 [some (.ref c), some (vi k)] [] b g I J post := by
  obtain ⟨⟨⟨l0, l1, l2, l3, l4, l5, l6, l7⟩, lT, lN, -⟩, hg, -, ⟨⟨hA, hK, hS⟩, hG⟩, -⟩ := hC
  have ln := lN.1.1
  have hO := hG.1
  obtain ⟨⟨e1, e2, e3, e4⟩, -⟩ := id hA
  obtain ⟨k1, k2⟩ := hk
  unfold abF at hx1
  have hc : k = 0 ∨ k = 1 ∨ k = 2 ∨ k = 3 ∨ k = 4 ∨ k = 5 ∨ k = 6 ∨ k = 7 ∨ ¬ (0 ≤ k ∧ k ≤ 7) := by omega
  refine ZV_iload_n dX6_about_0 rfl ?_
  rcases hc with rfl | rfl | rfl | rfl | rfl | rfl | rfl | rfl | hc
  · refine ZV_tableIn (tgt := 48) dX6_about_1 ⟨by decide, by decide⟩ (by decide) (by decide) rfl (by decide) ?_
    refine ZV_aload_n dX6_about_48 rfl ?_
    refine ZV_getR fX6_about_19 dX6_about_49 (by assumption) rfl (by assumption) ?_
    refine ZV_getI fX6_about_94 dX6_about_52 (by assumption) rfl ?_
    rw [e1]
    refine ZV_iret dX6_about_55 rfl ?_
    exact hx1 ⟨by decide, by decide⟩
  · refine ZV_tableIn (tgt := 56) dX6_about_1 ⟨by decide, by decide⟩ (by decide) (by decide) rfl (by decide) ?_
    refine ZV_aload_n dX6_about_56 rfl ?_
    refine ZV_getR fX6_about_19 dX6_about_57 (by assumption) rfl (by assumption) ?_
    refine ZV_getI fX6_about_97 dX6_about_60 (by assumption) rfl ?_
    rw [e2]
    refine ZV_iret dX6_about_63 rfl ?_
    exact hx1 ⟨by decide, by decide⟩
  · refine ZV_tableIn (tgt := 64) dX6_about_1 ⟨by decide, by decide⟩ (by decide) (by decide) rfl (by decide) ?_
    refine ZV_aload_n dX6_about_64 rfl ?_
    refine ZV_getR fX6_about_19 dX6_about_65 (by assumption) rfl (by assumption) ?_
    refine ZV_getI fX6_about_100 dX6_about_68 (by assumption) rfl ?_
    rw [e3]
    refine ZV_iret dX6_about_71 rfl ?_
    exact hx1 ⟨by decide, by decide⟩
  · refine ZV_tableIn (tgt := 72) dX6_about_1 ⟨by decide, by decide⟩ (by decide) (by decide) rfl (by decide) ?_
    refine ZV_aload_n dX6_about_72 rfl ?_
    refine ZV_getR fX6_about_19 dX6_about_73 (by assumption) rfl (by assumption) ?_
    refine cl_X3_lettered kX6_about_103 rfl dX6_about_76 (by assumption) (Nat.le_of_ble_eq_true rfl) ?_
    refine sp_X3_lettered lN hA hO hK ?_
    refine ZV_iret dX6_about_79 rfl ?_
    exact hx1 ⟨by decide, by decide⟩
  · refine ZV_tableIn (tgt := 80) dX6_about_1 ⟨by decide, by decide⟩ (by decide) (by decide) rfl (by decide) ?_
    refine ZV_aload_n dX6_about_80 rfl ?_
    refine ZV_getR fX6_about_19 dX6_about_81 (by assumption) rfl (by assumption) ?_
    refine cl_X3_differentStems kX6_about_106 rfl dX6_about_84 (by assumption) (Nat.le_of_ble_eq_true rfl) ?_
    refine sp_X3_differentStems lN hA hO hK ?_
    refine ZV_iret dX6_about_87 rfl ?_
    exact hx1 ⟨by decide, by decide⟩
  · refine ZV_tableIn (tgt := 88) dX6_about_1 ⟨by decide, by decide⟩ (by decide) (by decide) rfl (by decide) ?_
    refine ZV_aload_n dX6_about_88 rfl ?_
    refine ZV_getR fX6_about_19 dX6_about_89 (by assumption) rfl (by assumption) ?_
    refine cl_X3_longestKey kX6_about_109 rfl dX6_about_92 (by assumption) (Nat.le_of_ble_eq_true rfl) ?_
    refine sp_X3_longestKey lN hA hO hK hG.ky ?_
    refine ZV_iret dX6_about_95 rfl ?_
    exact hx1 ⟨by decide, by decide⟩
  · refine ZV_tableIn (tgt := 96) dX6_about_1 ⟨by decide, by decide⟩ (by decide) (by decide) rfl (by decide) ?_
    refine ZV_aload_n dX6_about_96 rfl ?_
    refine ZV_getR fX6_about_19 dX6_about_97 (by assumption) rfl (by assumption) ?_
    refine ZV_getI fX6_about_112 dX6_about_100 (by assumption) rfl ?_
    rw [e4]
    refine ZV_iret dX6_about_103 rfl ?_
    exact hx1 ⟨by decide, by decide⟩
  · refine ZV_tableIn (tgt := 104) dX6_about_1 ⟨by decide, by decide⟩ (by decide) (by decide) rfl (by decide) ?_
    refine ZV_aload_n dX6_about_104 rfl ?_
    refine ZV_getR fX6_about_19 dX6_about_105 (by assumption) rfl (by assumption) ?_
    refine cl_X3_printedOfNone kX6_about_115 rfl dX6_about_108 (by assumption) (Nat.le_of_ble_eq_true rfl) ?_
    refine sp_X3_printedOfNone lN hA hO (fun p hp => (hG.pr p hp).2) ?_
    refine ZV_iret dX6_about_111 rfl ?_
    exact hx1 ⟨by decide, by decide⟩
  · refine ZV_tableOut (tgt := 112) dX6_about_1 ⟨by omega, by omega⟩ (by omega) (by decide) ?_
    refine ZV_throw tX6_about_112 rfl dX6_about_112 dX6_about_115 dX6_about_116 dX6_about_118 dX6_about_121 ⟨by decide, by decide⟩ hb (by assumption) ?_
    exact hx2 hc
end ZC4

