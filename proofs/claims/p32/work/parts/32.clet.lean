/-! CitationKeys: letter -/
def nmAt (W : AWk) (a : Int) : Int := if 0 ≤ a ∧ a < W.2.1 ∧ a < 4 then W.1 a.toNat else W.2.2.2
section ZC8
variable {X : Xt} {g : Geo} {I J : Mm} {b : Nat × Nat} {post : Out → Geo → Mm → Mm → Prop}
theorem sp_X6_letter {c : Nat} {zi a k : Int} {Q : AC} (hC : CInv X g I J c Q) (hi : r32 zi) (ha : r32 a) (hk : r32 k) (hb : 2 ≤ b.1 ∧ 12 ≤ b.2) (hx1 : ¬ (0 ≤ zi ∧ zi < aN Q.2.1) → post (.inr zIOB) g I J) (hx2 : (0 ≤ zi ∧ zi < aN Q.2.1) → ¬ (0 ≤ a ∧ a ≤ (aW Q.2.1 zi.toNat).2.1 ∧ 0 ≤ k) → post (.inr zIAE) g I J) (hx3 : (0 ≤ zi ∧ zi < aN Q.2.1) → (0 ≤ a ∧ a ≤ (aW Q.2.1 zi.toNat).2.1 ∧ 0 ≤ k) → post (.inl (some (vi (codeAt (nmAt (aW Q.2.1 zi.toNat) a) k)))) g I J) : ZV X E_X6_letter 0 [some (.ref c), some (vi zi), some (vi a), some (vi k), none] [] b g I J post := by
  have hC' := hC
  obtain ⟨⟨⟨l0, l1, l2, l3, l4, l5, l6, l7⟩, lT, lN, -⟩, hg, -, ⟨⟨hA, hK, hS⟩, hG⟩, -⟩ := hC
  obtain ⟨⟨s1, s2, s3, s4, s5, s6⟩, ⟨s7, s8, s9, s10, s11⟩, -⟩ := id lN
  have hO := hG.1
  have hn := hO.1
  have hk' := hk
  obtain ⟨k1, k2⟩ := hk
  have ha' := ha
  obtain ⟨a1, a2⟩ := ha
  refine ZV_aload_n dX6_letter_0 rfl ?_
  refine ZV_iload_n dX6_letter_1 rfl ?_
  refine cl_X6_needWork kX6_letter_120 rfl dX6_letter_2 (by assumption) ⟨by first | omega | (dsimp only; omega), by first | omega | (dsimp only; omega)⟩ (Nat.le_of_ble_eq_true rfl) ?_
  refine sp_X6_needWork hC' hi ⟨by decide, by decide⟩ ?_
  by_cases hq : 0 ≤ zi ∧ zi < aN Q.2.1
  · refine Or.inl ⟨hq.1, hq.2, ?_⟩
    obtain ⟨i, hi'⟩ : ∃ i : Nat, zi = (i : Int) := ⟨zi.toNat, by omega⟩
    have hin : i < aN Q.2.1 := by omega
    have et : zi.toNat = i := by omega
    rw [et] at hx2 hx3
    obtain ⟨x1, x2, x3⟩ := SL_sw lN (i := i) (by omega)
    have x4 := x2.1
    obtain ⟨w1, w2, w3, w4⟩ := hA.2.1 i hin
    have hw := hO.2.2.2.2 i hin
    obtain ⟨v1, ⟨v2, v3⟩, v4, v5⟩ := id hw
    have hnm : nmOK (nmAt (aW Q.2.1 i) a) := by
      unfold nmAt
      by_cases e : 0 ≤ a ∧ a < (aW Q.2.1 i).2.1 ∧ a < 4
      · rw [if_pos e]; exact v1 _ (by omega)
      · rw [if_neg e]; exact v5
    unfold nmOK at hnm
    refine ZV_aload_n dX6_letter_5 rfl ?_
    refine ZV_getR fX6_letter_19 dX6_letter_6 (by assumption) rfl (by assumption) ?_
    refine ZV_getR fX6_letter_124 dX6_letter_9 (by assumption) rfl (by assumption) ?_
    refine ZV_iload_n dX6_letter_12 rfl ?_
    first | refine ZV_aaldW (i) dX6_letter_13 (by assumption) (by first | rfl | omega) (by omega) (by omega) (by assumption) ?_ | refine ZV_aaldS (i) dX6_letter_13 (by assumption) (by first | rfl | omega) (by omega) (by omega) (by assumption) ?_
    refine ZV_astore4 dX6_letter_14 rfl (by decide) ?_
    refine ZV_iload_n dX6_letter_16 rfl ?_
    refine ZV_if_lt (tgt := 29) dX6_letter_17 (by decide) ⟨by omega, by omega⟩ (fun h17 => ?_) (fun h17 => ?_)
    · refine ZV_throw tX6_letter_29 rfl dX6_letter_29 dX6_letter_32 dX6_letter_33 dX6_letter_35 dX6_letter_38 ⟨by decide, by decide⟩ ⟨by first | omega | (dsimp only; omega), by first | omega | (dsimp only; omega)⟩ (by assumption) ?_
      exact hx2 hq (by omega)
    · refine ZV_iload_n dX6_letter_20 rfl ?_
      refine ZV_aload dX6_letter_21 rfl ?_
      refine ZV_getI fX6_letter_128 dX6_letter_23 (by assumption) rfl ?_
      rw [w2]
      refine ZV_icmp_le (tgt := 39) dX6_letter_26 (by decide) ⟨by omega, by omega⟩ ⟨by omega, by omega⟩ (fun h26 => ?_) (fun h26 => ?_)
      · refine ZV_iload_n dX6_letter_39 rfl ?_
        refine ZV_if_ge (tgt := 53) dX6_letter_40 (by decide) ⟨by omega, by omega⟩ (fun h40 => ?_) (fun h40 => ?_)
        · refine ZV_aload dX6_letter_53 rfl ?_
          refine ZV_iload_n dX6_letter_55 rfl ?_
          refine cl_X5_nameAt kX6_letter_163 rfl dX6_letter_56 (by assumption) (Nat.le_of_ble_eq_true rfl) ?_
          refine sp_X5_nameAt x2 ha' (by rw [w2]; exact ⟨v2, v3⟩) ?_
          have en : (if 0 ≤ a ∧ a < I (swk g (c + 36) i) 1 ∧ a < 4 then J (swk g (c + 36) i + 1) a.toNat else J (swk g (c + 36) i) 3) = nmAt (aW Q.2.1 i) a := by
            unfold nmAt
            rw [w2, w4]
            by_cases e : 0 ≤ a ∧ a < (aW Q.2.1 i).2.1 ∧ a < 4
            · rw [if_pos e, if_pos e, w1 _ (by omega)]
            · rw [if_neg e, if_neg e]
          rw [en]
          refine ZV_iload_n dX6_letter_59 rfl ?_
          refine cl_X2_codeAt kX6_letter_167 rfl dX6_letter_60 (Nat.le_of_ble_eq_true rfl) ?_
          refine sp_X2_codeAt hnm.1 ⟨by omega, by omega⟩ hk' ?_
          refine ZV_iret dX6_letter_63 rfl ?_
          exact hx3 hq ⟨by omega, by omega, by omega⟩
        · refine ZV_throw tX6_letter_43 rfl dX6_letter_43 dX6_letter_46 dX6_letter_47 dX6_letter_49 dX6_letter_52 ⟨by decide, by decide⟩ ⟨by first | omega | (dsimp only; omega), by first | omega | (dsimp only; omega)⟩ (by assumption) ?_
          exact hx2 hq (by omega)
      · refine ZV_throw tX6_letter_29 rfl dX6_letter_29 dX6_letter_32 dX6_letter_33 dX6_letter_35 dX6_letter_38 ⟨by decide, by decide⟩ ⟨by first | omega | (dsimp only; omega), by first | omega | (dsimp only; omega)⟩ (by assumption) ?_
        exact hx2 hq (by omega)
  · exact Or.inr ⟨hq, hx1 hq⟩
end ZC8

