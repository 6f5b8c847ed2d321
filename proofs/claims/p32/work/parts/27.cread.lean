/-! CitationKeys: reading its text; numbers of what there is -/
theorem zfst_congr {f f' : Nat → Int} : ∀ n, (∀ i, i < n → f i = f' i) → zfst f n = zfst f' n := by
  intro n
  induction n with
  | zero => intro _; rfl
  | succ n ih =>
    intro h
    simp only [zfst]
    rw [ih (fun i hi => h i (by omega)), h n (by omega)]
theorem rdv_eq {I : Mm} {c : Nat} {T : Nat × (Nat → Int)} (h : CTx I c T) : rdv (I (c + 2)) T.1 = rdv T.2 T.1 := by
  have e1 : zfst (badAt (I (c + 2))) T.1 = zfst (badAt T.2) T.1 := zfst_congr _ fun i hi => by
    unfold badAt
    rw [CTx_rdv h (i + 1) (by omega)]
  unfold rdv
  rw [e1, CTx_rdv h T.1 (Nat.le_refl _)]
/-- the text tells one work -/
def oneW (T : Nat × (Nat → Int)) : Prop := rdv T.2 T.1 = -9 ∧ ∃ s, rn T.2 T.1 = some s ∧ s.1 = 1
section ZC3
variable {X : Xt} {g : Geo} {I J : Mm} {b : Nat × Nat} {post : Out → Geo → Mm → Mm → Prop}
theorem CInv_read {c : Nat} {Q : AC} (hC : CInv X g I J c Q) (h : ∀ I' J', CFr g g I I' J J' c → CInv X g I' J' c Q → (rdv Q.1.2 Q.1.1 = -9 → ∃ s, rn Q.1.2 Q.1.1 = some s ∧ s.2.1 = 2 ∧ 0 < s.2.2.1 ∧ TxAt I' J' (c + 1) s ∧ SIn s) → post (.inl (some (vi (rdv Q.1.2 Q.1.1)))) g I' J') : ZV X E_X4_read 0 [some (.ref (c + 1)), none] [] b g I J post := by
  have hC' := hC
  obtain ⟨hL, hg, hT, -⟩ := hC
  have hT' := hT
  obtain ⟨t1, t2, t3⟩ := hT
  refine sp_X4_read hL.2.1 t1 t2 (fun p hp => by have := t3 p hp; rw [this.1]; exact this.2) ?_
  intro I' J' hF hl hw
  have e1 : rdv (I (c + 1 + 1)) Q.1.1 = rdv Q.1.2 Q.1.1 := rdv_eq hT'
  have e2 : rn (I (c + 1 + 1)) Q.1.1 = rn Q.1.2 Q.1.1 := CTx_rdv hT' _ (Nat.le_refl _)
  rw [e1] at hw ⊢
  rw [e2] at hw
  have hR := CInv.read hC' hF hl
  exact h I' J' hR.1 hR.2 hw
theorem rdv_rng (T : Nat × (Nat → Int)) : -9 ≤ rdv T.2 T.1 ∧ rdv T.2 T.1 ≤ T.1 := by
  have h := zfst_rng (badAt T.2) T.1
  unfold rdv
  repeat' split
  all_goals omega
theorem sp_X6_errorPosition {c : Nat} {Q : AC} (hC : CInv X g I J c Q) (h : ∀ I' J', CFr g g I I' J J' c → CInv X g I' J' c Q → post (.inl (some (vi (rdv Q.1.2 Q.1.1)))) g I' J') : ZV X E_X6_errorPosition 0 [some (.ref c)] [] b g I J post := by
  obtain ⟨⟨l0, l1, l2, l3, l4, l5, l6, l7⟩, lT, -⟩ := id hC.1
  have lt := lT.1.1
  refine ZV_aload_n dX6_errorPosition_0 rfl ?_
  refine ZV_getR fX6_errorPosition_10 dX6_errorPosition_1 (by assumption) rfl (by assumption) ?_
  refine cl_X4_read kX6_errorPosition_68 rfl dX6_errorPosition_4 (by assumption) (Nat.le_of_ble_eq_true rfl) ?_
  refine CInv_read hC ?_
  intro I' J' h8 h9 h10
  refine ZV_iret dX6_errorPosition_7 rfl ?_
  exact h I' J' h8 h9
theorem sp_X6_tellsOneWork {c : Nat} {Q : AC} (hC : CInv X g I J c Q) (h : ∀ I' J' r, CFr g g I I' J J' c → CInv X g I' J' c Q → ((r = 1 ∧ rdv Q.1.2 Q.1.1 = -9 ∧ ∃ s, rn Q.1.2 Q.1.1 = some s ∧ s.1 = 1 ∧ s.2.1 = 2 ∧ 0 < s.2.2.1 ∧ TxAt I' J' (c + 1) s ∧ SIn s) ∨ (r = 0 ∧ ¬ oneW Q.1)) → post (.inl (some (vi r))) g I' J') : ZV X E_X6_tellsOneWork 0 [some (.ref c)] [] b g I J post := by
  obtain ⟨⟨l0, l1, l2, l3, l4, l5, l6, l7⟩, lT, -⟩ := id hC.1
  have lt := lT.1.1
  have hR := rdv_rng Q.1
  have hlen := hC.2.2.1.2.1
  refine ZV_aload_n dX6_tellsOneWork_0 rfl ?_
  refine ZV_getR fX6_tellsOneWork_10 dX6_tellsOneWork_1 (by assumption) rfl (by assumption) ?_
  refine cl_X4_read kX6_tellsOneWork_68 rfl dX6_tellsOneWork_4 (by assumption) (Nat.le_of_ble_eq_true rfl) ?_
  refine CInv_read hC ?_
  intro I' J' hF hI hw
  refine ZV_bipush dX6_tellsOneWork_7 (by decide) ?_
  refine ZV_icmp_ne (tgt := 27) dX6_tellsOneWork_9 (by decide) ⟨by omega, by omega⟩ ⟨by omega, by omega⟩ (fun h9 => ?_) (fun h9 => ?_)
  · refine ZV_iconst dX6_tellsOneWork_27 ?_
    refine ZV_zret dX6_tellsOneWork_28 rfl (by first | exact Or.inl rfl | exact Or.inr rfl | assumption | omega) ?_
    exact h I' J' 0 hF hI (Or.inr ⟨rfl, fun q => by have := q.1; omega⟩)
  · obtain ⟨s, w1, w2, w3, w4, w5⟩ := hw (by omega)
    have hs1 := w5.1
    refine ZV_aload_n dX6_tellsOneWork_12 rfl ?_
    refine ZV_getR fX6_tellsOneWork_10 dX6_tellsOneWork_13 (by assumption) rfl (by assumption) ?_
    refine ZV_getI fX6_tellsOneWork_77 dX6_tellsOneWork_16 (by assumption) rfl ?_
    rw [w4.1]
    refine ZV_iconst dX6_tellsOneWork_19 ?_
    refine ZV_icmp_ne (tgt := 27) dX6_tellsOneWork_20 (by decide) ⟨by omega, by omega⟩ ⟨by omega, by omega⟩ (fun h20 => ?_) (fun h20 => ?_)
    · refine ZV_iconst dX6_tellsOneWork_27 ?_
      refine ZV_zret dX6_tellsOneWork_28 rfl (by first | exact Or.inl rfl | exact Or.inr rfl | assumption | omega) ?_
      refine h I' J' 0 hF hI (Or.inr ⟨rfl, fun q => ?_⟩)
      obtain ⟨-, s', q1, q2⟩ := q
      rw [w1] at q1
      injection q1 with q1
      subst q1
      omega
    · refine ZV_iconst dX6_tellsOneWork_23 ?_
      refine ZV_goto (tgt := 28) dX6_tellsOneWork_24 (by decide) ?_
      refine ZV_zret dX6_tellsOneWork_28 rfl (by first | exact Or.inl rfl | exact Or.inr rfl | assumption | omega) ?_
      exact h I' J' 1 hF hI (Or.inl ⟨rfl, by omega, s, w1, by omega, w2, w3, w4, w5⟩)
end ZC3

