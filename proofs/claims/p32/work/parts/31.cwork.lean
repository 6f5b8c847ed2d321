/-! CitationKeys: work -/
def wkF (A : ASt) (i : Nat) (k : Int) : Int := if k = 0 then (aW A i).2.2.1 else if k = 1 then (aW A i).2.1 else if k = 2 then nlen (aW A i).2.2.2 else if k = 3 then klen (keyOf A i) else if k = 4 then klet (keyOf A i) else if k = 5 then plN A i else zsum (fun j => if stemOf A j = stemOf A i then 1 else 0) (aN A)
section ZC7
variable {X : Xt} {g : Geo} {I J : Mm} {b : Nat × Nat} {post : Out → Geo → Mm → Mm → Prop}
theorem sp_X6_work {c : Nat} {zi k : Int} {Q : AC} (hC : CInv X g I J c Q) (hi : r32 zi) (hk : r32 k) (hb : 2 ≤ b.1 ∧ 12 ≤ b.2) (hx1 : ¬ (0 ≤ zi ∧ zi < aN Q.2.1) → post (.inr zIOB) g I J) (hx2 : (0 ≤ zi ∧ zi < aN Q.2.1) → ¬ (0 ≤ k ∧ k ≤ 6) → post (.inr zIAE) g I J) (hx3 : (0 ≤ zi ∧ zi < aN Q.2.1) → (0 ≤ k ∧ k ≤ 6) → post (.inl (some (vi (wkF Q.2.1 zi.toNat k)))) g I J) : ZV X E_X6_work 0 [some (.ref c), some (vi zi), some (vi k)] [] b g I J post := by
  have hC' := hC
  obtain ⟨⟨⟨l0, l1, l2, l3, l4, l5, l6, l7⟩, lT, lN, -⟩, hg, -, ⟨⟨hA, hK, hS⟩, hG⟩, -⟩ := hC
  obtain ⟨⟨s1, s2, s3, s4, s5, s6⟩, ⟨s7, s8, s9, s10, s11⟩, -⟩ := id lN
  have hO := hG.1
  have hn := hO.1
  have hk' := hk
  obtain ⟨k1, k2⟩ := hk
  refine ZV_aload_n dX6_work_0 rfl ?_
  refine ZV_iload_n dX6_work_1 rfl ?_
  refine cl_X6_needWork kX6_work_120 rfl dX6_work_2 (by assumption) ⟨by first | omega | (dsimp only; omega), by first | omega | (dsimp only; omega)⟩ (Nat.le_of_ble_eq_true rfl) ?_
  refine sp_X6_needWork hC' hi ⟨by decide, by decide⟩ ?_
  by_cases hq : 0 ≤ zi ∧ zi < aN Q.2.1
  · refine Or.inl ⟨hq.1, hq.2, ?_⟩
    obtain ⟨i, hi'⟩ : ∃ i : Nat, zi = (i : Int) := ⟨zi.toNat, by omega⟩
    have hin : i < aN Q.2.1 := by omega
    have et : zi.toNat = i := by omega
    rw [et] at hx3
    have kr := hG.ky i hin
    obtain ⟨x1, x2, x3⟩ := SL_sw lN (i := i) (by omega)
    have x4 := x2.1
    obtain ⟨w1, w2, w3, w4⟩ := hA.2.1 i hin
    have ht := (hO.2.2.2.2 i hin).2.2.2
    unfold nmOK at ht
    unfold wkF at hx3
    have hc : k = 0 ∨ k = 1 ∨ k = 2 ∨ k = 3 ∨ k = 4 ∨ k = 5 ∨ k = 6 ∨ ¬ (0 ≤ k ∧ k ≤ 6) := by omega
    refine ZV_iload_n dX6_work_5 rfl ?_
    rcases hc with rfl | rfl | rfl | rfl | rfl | rfl | rfl | hc
    · refine ZV_tableIn (tgt := 48) dX6_work_6 ⟨by decide, by decide⟩ (by decide) (by decide) rfl (by decide) ?_
      refine ZV_aload_n dX6_work_48 rfl ?_
      refine ZV_getR fX6_work_19 dX6_work_49 (by assumption) rfl (by assumption) ?_
      refine ZV_getR fX6_work_124 dX6_work_52 (by assumption) rfl (by assumption) ?_
      refine ZV_iload_n dX6_work_55 rfl ?_
      first | refine ZV_aaldW (i) dX6_work_56 (by assumption) (by first | rfl | omega) (by omega) (by omega) (by assumption) ?_ | refine ZV_aaldS (i) dX6_work_56 (by assumption) (by first | rfl | omega) (by omega) (by omega) (by assumption) ?_
      refine ZV_getI fX6_work_125 dX6_work_57 (by assumption) rfl ?_
      rw [w3]
      refine ZV_iret dX6_work_60 rfl ?_
      exact hx3 hq ⟨by decide, by decide⟩
    · refine ZV_tableIn (tgt := 61) dX6_work_6 ⟨by decide, by decide⟩ (by decide) (by decide) rfl (by decide) ?_
      refine ZV_aload_n dX6_work_61 rfl ?_
      refine ZV_getR fX6_work_19 dX6_work_62 (by assumption) rfl (by assumption) ?_
      refine ZV_getR fX6_work_124 dX6_work_65 (by assumption) rfl (by assumption) ?_
      refine ZV_iload_n dX6_work_68 rfl ?_
      first | refine ZV_aaldW (i) dX6_work_69 (by assumption) (by first | rfl | omega) (by omega) (by omega) (by assumption) ?_ | refine ZV_aaldS (i) dX6_work_69 (by assumption) (by first | rfl | omega) (by omega) (by omega) (by assumption) ?_
      refine ZV_getI fX6_work_128 dX6_work_70 (by assumption) rfl ?_
      rw [w2]
      refine ZV_iret dX6_work_73 rfl ?_
      exact hx3 hq ⟨by decide, by decide⟩
    · refine ZV_tableIn (tgt := 74) dX6_work_6 ⟨by decide, by decide⟩ (by decide) (by decide) rfl (by decide) ?_
      refine ZV_aload_n dX6_work_74 rfl ?_
      refine ZV_getR fX6_work_19 dX6_work_75 (by assumption) rfl (by assumption) ?_
      refine ZV_getR fX6_work_124 dX6_work_78 (by assumption) rfl (by assumption) ?_
      refine ZV_iload_n dX6_work_81 rfl ?_
      first | refine ZV_aaldW (i) dX6_work_82 (by assumption) (by first | rfl | omega) (by omega) (by omega) (by assumption) ?_ | refine ZV_aaldS (i) dX6_work_82 (by assumption) (by first | rfl | omega) (by omega) (by omega) (by assumption) ?_
      refine ZV_getJ fX6_work_131 dX6_work_83 (by assumption) rfl ?_
      rw [w4]
      refine cl_X2_length kX6_work_135 rfl dX6_work_86 (Nat.le_of_ble_eq_true rfl) ?_
      refine sp_X2_length ht.1 ⟨by omega, by omega⟩ ?_
      refine ZV_iret dX6_work_89 rfl ?_
      exact hx3 hq ⟨by decide, by decide⟩
    · refine ZV_tableIn (tgt := 90) dX6_work_6 ⟨by decide, by decide⟩ (by decide) (by decide) rfl (by decide) ?_
      refine ZV_aload_n dX6_work_90 rfl ?_
      refine ZV_getR fX6_work_19 dX6_work_91 (by assumption) rfl (by assumption) ?_
      refine ZV_getR fX6_work_140 dX6_work_94 (by assumption) rfl (by assumption) ?_
      refine ZV_iload_n dX6_work_97 rfl ?_
      refine ZV_lald (i) dX6_work_98 (by assumption) (by first | rfl | omega) (by omega) (by omega) ?_
      rw [hK i hin]
      refine cl_X1_length kX6_work_144 rfl dX6_work_99 (Nat.le_of_ble_eq_true rfl) ?_
      refine sp_X1_length kr.1 kr.2 ?_
      refine ZV_iret dX6_work_102 rfl ?_
      exact hx3 hq ⟨by decide, by decide⟩
    · refine ZV_tableIn (tgt := 103) dX6_work_6 ⟨by decide, by decide⟩ (by decide) (by decide) rfl (by decide) ?_
      refine ZV_aload_n dX6_work_103 rfl ?_
      refine ZV_getR fX6_work_19 dX6_work_104 (by assumption) rfl (by assumption) ?_
      refine ZV_getR fX6_work_140 dX6_work_107 (by assumption) rfl (by assumption) ?_
      refine ZV_iload_n dX6_work_110 rfl ?_
      refine ZV_lald (i) dX6_work_111 (by assumption) (by first | rfl | omega) (by omega) (by omega) ?_
      rw [hK i hin]
      refine cl_X1_letterOf kX6_work_147 rfl dX6_work_112 (Nat.le_of_ble_eq_true rfl) ?_
      refine sp_X1_letterOf ?_
      refine ZV_iret dX6_work_115 rfl ?_
      exact hx3 hq ⟨by decide, by decide⟩
    · refine ZV_tableIn (tgt := 116) dX6_work_6 ⟨by decide, by decide⟩ (by decide) (by decide) rfl (by decide) ?_
      refine ZV_aload_n dX6_work_116 rfl ?_
      refine ZV_getR fX6_work_19 dX6_work_117 (by assumption) rfl (by assumption) ?_
      refine ZV_iload_n dX6_work_120 rfl ?_
      refine cl_X3_placeOf kX6_work_150 rfl dX6_work_121 (by assumption) (Nat.le_of_ble_eq_true rfl) ?_
      refine sp_X3_placeOf lN hA hO hin hi' ?_
      refine ZV_iret dX6_work_124 rfl ?_
      exact hx3 hq ⟨by decide, by decide⟩
    · refine ZV_tableIn (tgt := 125) dX6_work_6 ⟨by decide, by decide⟩ (by decide) (by decide) rfl (by decide) ?_
      refine ZV_aload_n dX6_work_125 rfl ?_
      refine ZV_getR fX6_work_19 dX6_work_126 (by assumption) rfl (by assumption) ?_
      refine ZV_iload_n dX6_work_129 rfl ?_
      refine cl_X3_sharing kX6_work_154 rfl dX6_work_130 (by assumption) (Nat.le_of_ble_eq_true rfl) ?_
      refine sp_X3_sharing lN hA hO hS (fun j hj => by have := stemOf_rng hO hj; exact ⟨by omega, by omega⟩) hin hi' ?_
      refine ZV_iret dX6_work_133 rfl ?_
      exact hx3 hq ⟨by decide, by decide⟩
    · refine ZV_tableOut (tgt := 134) dX6_work_6 ⟨by omega, by omega⟩ (by omega) (by decide) ?_
      refine ZV_throw tX6_work_134 rfl dX6_work_134 dX6_work_137 dX6_work_138 dX6_work_140 dX6_work_143 ⟨by decide, by decide⟩ ⟨by first | omega | (dsimp only; omega), by first | omega | (dsimp only; omega)⟩ (by assumption) ?_
      exact hx2 hq hc
  · exact Or.inr ⟨hq, hx1 hq⟩
end ZC7

