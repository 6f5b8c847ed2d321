/-! CitationKeys: key -/
section ZC6
variable {X : Xt} {g : Geo} {I J : Mm} {b : Nat × Nat} {post : Out → Geo → Mm → Mm → Prop}
theorem sp_X6_key {c : Nat} {zi k : Int} {Q : AC} (hC : CInv X g I J c Q) (hi : r32 zi) (hk : r32 k) (hb : 2 ≤ b.1 ∧ 12 ≤ b.2) (hx1 : ¬ (0 ≤ zi ∧ zi < aN Q.2.1) → post (.inr zIOB) g I J) (hx2 : (0 ≤ zi ∧ zi < aN Q.2.1) → k < 0 → post (.inr zIAE) g I J) (hx3 : (0 ≤ zi ∧ zi < aN Q.2.1) → 0 ≤ k → post (.inl (some (vi (kch (keyOf Q.2.1 zi.toNat) k)))) g I J) : ZV X E_X6_key 0 [some (.ref c), some (vi zi), some (vi k)] [] b g I J post := by
  have hC' := hC
  obtain ⟨⟨⟨l0, l1, l2, l3, l4, l5, l6, l7⟩, lT, lN, -⟩, hg, -, ⟨⟨hA, hK, hS⟩, hG⟩, -⟩ := hC
  obtain ⟨⟨s1, s2, s3, s4, s5, s6⟩, ⟨s7, s8, s9, s10, s11⟩, -⟩ := id lN
  have hO := hG.1
  have hn := hO.1
  have hk' := hk
  obtain ⟨k1, k2⟩ := hk
  refine ZV_aload_n dX6_key_0 rfl ?_
  refine ZV_iload_n dX6_key_1 rfl ?_
  refine cl_X6_needWork kX6_key_120 rfl dX6_key_2 (by assumption) ⟨by first | omega | (dsimp only; omega), by first | omega | (dsimp only; omega)⟩ (Nat.le_of_ble_eq_true rfl) ?_
  refine sp_X6_needWork hC' hi ⟨by decide, by decide⟩ ?_
  by_cases hq : 0 ≤ zi ∧ zi < aN Q.2.1
  · refine Or.inl ⟨hq.1, hq.2, ?_⟩
    obtain ⟨i, hi'⟩ : ∃ i : Nat, zi = (i : Int) := ⟨zi.toNat, by omega⟩
    have hin : i < aN Q.2.1 := by omega
    have et : zi.toNat = i := by omega
    rw [et] at hx3
    have kr := hG.ky i hin
    refine ZV_iload_n dX6_key_5 rfl ?_
    refine ZV_if_ge (tgt := 19) dX6_key_6 (by decide) ⟨by omega, by omega⟩ (fun h6 => ?_) (fun h6 => ?_)
    · refine ZV_aload_n dX6_key_19 rfl ?_
      refine ZV_getR fX6_key_19 dX6_key_20 (by assumption) rfl (by assumption) ?_
      refine ZV_getR fX6_key_140 dX6_key_23 (by assumption) rfl (by assumption) ?_
      refine ZV_iload_n dX6_key_26 rfl ?_
      refine ZV_lald (i) dX6_key_27 (by assumption) (by first | rfl | omega) (by omega) (by omega) ?_
      rw [hK i hin]
      refine ZV_iload_n dX6_key_28 rfl ?_
      refine cl_X1_codeAt kX6_key_173 rfl dX6_key_29 (Nat.le_of_ble_eq_true rfl) ?_
      refine sp_X1_codeAt kr.1 kr.2 hk' ?_
      refine ZV_iret dX6_key_32 rfl ?_
      exact hx3 hq (by omega)
    · refine ZV_throw tX6_key_9 rfl dX6_key_9 dX6_key_12 dX6_key_13 dX6_key_15 dX6_key_18 ⟨by decide, by decide⟩ ⟨by first | omega | (dsimp only; omega), by first | omega | (dsimp only; omega)⟩ (by assumption) ?_
      exact hx2 hq (by omega)
  · exact Or.inr ⟨hq, hx1 hq⟩
end ZC6

