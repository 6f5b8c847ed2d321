/-! CitationKeys: meaning -/
def spl (T : Nat × (Nat → Int)) (κ : Int) : Prop := (T.1 : Int) = klen κ ∧ ∀ p : Nat, p < T.1 → T.2 p = kch κ p
noncomputable def meanF (T : Nat × (Nat → Int)) (A : ASt) : Int := zfst (fun i => @ite Int (spl T (keyOf A i)) (Classical.propDecidable _) 1 0) (aN A)
section ZC9
variable {X : Xt} {g : Geo} {I J : Mm} {b : Nat × Nat} {post : Out → Geo → Mm → Mm → Prop}
theorem spells_C {c : Nat} {T : Nat × (Nat → Int)} {κ : Int} (hL : TL X g (c + 1)) (hT : CTx I c T) (h0 : 0 ≤ κ) (hr : r64 κ) (h : ∀ r, ((r = 1 ∧ spl T κ) ∨ (r = 0 ∧ ¬ spl T κ)) → post (.inl (some (vi r))) g I J) : ZV X E_X4_spells 0 [some (.ref (c + 1)), some (vl κ), none, none] [] b g I J post := by
  obtain ⟨t1, t2, t3⟩ := hT
  refine sp_X4_spells hL t1 t2 (fun p hp => by have := t3 p hp; rw [this.1]; exact this.2) h0 hr ?_
  intro r hr9
  refine h r ?_
  rcases hr9 with ⟨e, q1, q2⟩ | ⟨e, q⟩
  · exact Or.inl ⟨e, q1, fun p hp => by rw [← (t3 p hp).1]; exact q2 p hp⟩
  · exact Or.inr ⟨e, fun w => q ⟨w.1, fun p hp => by rw [(t3 p hp).1]; exact w.2 p hp⟩⟩
theorem sp_X6_meaning {c : Nat} {Q : AC} (hC : CInv X g I J c Q) (h : post (.inl (some (vi (meanF Q.1 Q.2.1)))) g I J) : ZV X E_X6_meaning 0 [some (.ref c), none] [] b g I J post := by
  obtain ⟨⟨⟨l0, l1, l2, l3, l4, l5, l6, l7⟩, lT, lN, -⟩, hg, hT, ⟨⟨hA, hK, hS⟩, hG⟩, -⟩ := hC
  obtain ⟨⟨s1, s2, s3, s4, s5, s6⟩, ⟨s7, s8, s9, s10, s11⟩, -⟩ := id lN
  have lt := lT.1.1
  have hO := hG.1
  have hn := hO.1
  obtain ⟨⟨e1, e2, e3, e4⟩, -⟩ := id hA
  unfold meanF at h
  refine ZV_iconst dX6_meaning_0 ?_
  refine ZV_istore1 dX6_meaning_1 rfl (by decide) ?_
  have key : ∀ q : Nat, q ≤ aN Q.2.1 → ∀ z : Int, z = (q : Int) → zfst (fun i => @ite _ (spl Q.1 (keyOf Q.2.1 i)) (Classical.propDecidable _) 1 0) q = -9 → ZV X E_X6_meaning 2 [some (.ref c), some (vi z)] [] b g I J post := by
    refine loop_up (aN Q.2.1) ?_ ?_
    · intro z hz hf
      rw [hf] at h
      refine ZV_iload_n dX6_meaning_2 rfl ?_
      refine ZV_aload_n dX6_meaning_3 rfl ?_
      refine ZV_getR fX6_meaning_19 dX6_meaning_4 (by assumption) rfl (by assumption) ?_
      refine ZV_getI fX6_meaning_94 dX6_meaning_7 (by assumption) rfl ?_
      rw [e1]
      refine ZV_icmp_ge (tgt := 40) dX6_meaning_10 (by decide) ⟨by omega, by omega⟩ ⟨by omega, by omega⟩ (fun h10 => ?_) (fun h10 => ?_)
      · refine ZV_bipush dX6_meaning_40 (by decide) ?_
        refine ZV_iret dX6_meaning_42 rfl ?_
        exact h
      · omega
    · intro q hq ih z hz hf
      have kr := hG.ky q hq
      refine ZV_iload_n dX6_meaning_2 rfl ?_
      refine ZV_aload_n dX6_meaning_3 rfl ?_
      refine ZV_getR fX6_meaning_19 dX6_meaning_4 (by assumption) rfl (by assumption) ?_
      refine ZV_getI fX6_meaning_94 dX6_meaning_7 (by assumption) rfl ?_
      rw [e1]
      refine ZV_icmp_ge (tgt := 40) dX6_meaning_10 (by decide) ⟨by omega, by omega⟩ ⟨by omega, by omega⟩ (fun h10 => ?_) (fun h10 => ?_)
      · omega
      · refine ZV_aload_n dX6_meaning_13 rfl ?_
        refine ZV_getR fX6_meaning_10 dX6_meaning_14 (by assumption) rfl (by assumption) ?_
        refine ZV_aload_n dX6_meaning_17 rfl ?_
        refine ZV_getR fX6_meaning_19 dX6_meaning_18 (by assumption) rfl (by assumption) ?_
        refine ZV_getR fX6_meaning_140 dX6_meaning_21 (by assumption) rfl (by assumption) ?_
        refine ZV_iload_n dX6_meaning_24 rfl ?_
        refine ZV_lald (q) dX6_meaning_25 (by assumption) (by first | rfl | omega) (by omega) (by omega) ?_
        rw [hK q hq]
        refine cl_X4_spells kX6_meaning_176 rfl dX6_meaning_26 (by assumption) (Nat.le_of_ble_eq_true rfl) ?_
        refine spells_C lT hT kr.1 kr.2 ?_
        intro r hr
        have hr2 : r = 0 ∨ r = 1 := by rcases hr with ⟨e, -⟩ | ⟨e, -⟩ <;> omega
        rcases hr with ⟨e, hr⟩ | ⟨e, hr⟩
        · subst e
          rw [zfst_hit hf (by rw [if_pos hr]) hq, ← hz] at h
          refine ZV_if_eq (tgt := 34) dX6_meaning_29 (by decide) ⟨by omega, by omega⟩ (fun h29 => ?_) (fun h29 => ?_)
          · omega
          · refine ZV_iload_n dX6_meaning_32 rfl ?_
            refine ZV_iret dX6_meaning_33 rfl ?_
            exact h
        · subst e
          refine ZV_if_eq (tgt := 34) dX6_meaning_29 (by decide) ⟨by omega, by omega⟩ (fun h29 => ?_) (fun h29 => ?_)
          · refine ZV_jinc1 dX6_meaning_34 rfl (by decide) ?_
            refine ZV_goto (tgt := 2) dX6_meaning_37 (by decide) ?_
            exact ih _ (by omega) (zfst_miss hf (by rw [if_neg hr]; decide))
          · omega
  exact key 0 (by omega) _ rfl rfl
end ZC9

