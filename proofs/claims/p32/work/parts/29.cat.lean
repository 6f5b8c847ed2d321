/-! CitationKeys: printed, at -/
def plN (A : ASt) (i : Nat) : Int := zsum (fun j => bz (aO A) (aW A j) (aW A i) j i) (aN A)
section ZC5
variable {X : Xt} {g : Geo} {I J : Mm} {b : Nat × Nat} {post : Out → Geo → Mm → Mm → Prop}
theorem sp_X6_printed {c : Nat} {k : Int} {Q : AC} (hC : CInv X g I J c Q) (hk : r32 k) (hb : 1 ≤ b.1 ∧ 6 ≤ b.2) (hx1 : (0 ≤ k ∧ k ≤ 2) → post (.inl (some (vi (prF Q.2.1 k)))) g I J) (hx2 : ¬ (0 ≤ k ∧ k ≤ 2) → post (.inr zIAE) g I J) : ZV X E_X6_printed 0 [some (.ref c), some (vi k)] [] b g I J post := by
  obtain ⟨⟨⟨l0, l1, l2, l3, l4, l5, l6, l7⟩, lT, lN, -⟩, hg, -, ⟨⟨hA, hK, hS⟩, hG⟩, -⟩ := hC
  have ln := lN.1.1
  have hO := hG.1
  have hkr : ∀ i, i < aN Q.2.1 → r64 (keyOf Q.2.1 i) := fun i hi => (hG.ky i hi).2
  obtain ⟨k1, k2⟩ := hk
  unfold prF at hx1
  have hc : k = 0 ∨ k = 1 ∨ k = 2 ∨ ¬ (0 ≤ k ∧ k ≤ 2) := by omega
  refine ZV_iload_n dX6_printed_0 rfl ?_
  rcases hc with rfl | rfl | rfl | hc
  · refine ZV_tableIn (tgt := 28) dX6_printed_1 ⟨by decide, by decide⟩ (by decide) (by decide) rfl (by decide) ?_
    refine ZV_aload_n dX6_printed_28 rfl ?_
    refine ZV_getR fX6_printed_19 dX6_printed_29 (by assumption) rfl (by assumption) ?_
    refine cl_X3_printedOfAnother kX6_printed_187 rfl dX6_printed_32 (by assumption) (Nat.le_of_ble_eq_true rfl) ?_
    refine sp_X3_printedOfAnother lN hA hO hK hkr hG.pr ?_
    refine ZV_iret dX6_printed_35 rfl ?_
    exact hx1 ⟨by decide, by decide⟩
  · refine ZV_tableIn (tgt := 36) dX6_printed_1 ⟨by decide, by decide⟩ (by decide) (by decide) rfl (by decide) ?_
    refine ZV_aload_n dX6_printed_36 rfl ?_
    refine ZV_getR fX6_printed_19 dX6_printed_37 (by assumption) rfl (by assumption) ?_
    refine cl_X3_printedWithoutMeaning kX6_printed_190 rfl dX6_printed_40 (by assumption) (Nat.le_of_ble_eq_true rfl) ?_
    refine sp_X3_printedWithoutMeaning lN hA hO hK hkr (fun p hp => (hG.pr p hp).1) ?_
    refine ZV_iret dX6_printed_43 rfl ?_
    exact hx1 ⟨by decide, by decide⟩
  · refine ZV_tableIn (tgt := 44) dX6_printed_1 ⟨by decide, by decide⟩ (by decide) (by decide) rfl (by decide) ?_
    refine ZV_aload_n dX6_printed_44 rfl ?_
    refine ZV_getR fX6_printed_19 dX6_printed_45 (by assumption) rfl (by assumption) ?_
    refine cl_X3_printedStillRight kX6_printed_193 rfl dX6_printed_48 (by assumption) (Nat.le_of_ble_eq_true rfl) ?_
    refine sp_X3_printedStillRight lN hA hO hK hkr hG.pr ?_
    refine ZV_iret dX6_printed_51 rfl ?_
    exact hx1 ⟨by decide, by decide⟩
  · refine ZV_tableOut (tgt := 52) dX6_printed_1 ⟨by omega, by omega⟩ (by omega) (by decide) ?_
    refine ZV_throw tX6_printed_52 rfl dX6_printed_52 dX6_printed_55 dX6_printed_56 dX6_printed_58 dX6_printed_61 ⟨by decide, by decide⟩ hb (by assumption) ?_
    exact hx2 hc
theorem sp_X6_at {c : Nat} {k : Int} {Q : AC} (hC : CInv X g I J c Q) (hk : r32 k) (hb : 1 ≤ b.1 ∧ 6 ≤ b.2) (hx1 : 0 ≤ k → post (.inl (some (vi (zfst (fun i => if plN Q.2.1 i = k then 1 else 0) (aN Q.2.1))))) g I J) (hx2 : k < 0 → post (.inr zIAE) g I J) : ZV X E_X6_at 0 [some (.ref c), some (vi k), none] [] b g I J post := by
  obtain ⟨⟨⟨l0, l1, l2, l3, l4, l5, l6, l7⟩, lT, lN, -⟩, hg, -, ⟨⟨hA, hK, hS⟩, hG⟩, -⟩ := hC
  have ln := lN.1.1
  have hO := hG.1
  have hn := hO.1
  obtain ⟨⟨e1, e2, e3, e4⟩, -⟩ := id hA
  obtain ⟨k1, k2⟩ := hk
  refine ZV_iload_n dX6_at_0 rfl ?_
  refine ZV_if_ge (tgt := 14) dX6_at_1 (by decide) ⟨by omega, by omega⟩ (fun h1 => ?_) (fun h1 => ?_)
  · refine ZV_iconst dX6_at_14 ?_
    refine ZV_istore2 dX6_at_15 rfl (by decide) ?_
    have key : ∀ q : Nat, q ≤ aN Q.2.1 → ∀ z : Int, z = (q : Int) → zfst (fun i => if plN Q.2.1 i = k then 1 else 0) q = -9 → ZV X E_X6_at 16 [some (.ref c), some (vi k), some (vi z)] [] b g I J post := by
      refine loop_up (aN Q.2.1) ?_ ?_
      · intro z hz hf
        have hx := hx1 h1
        rw [hf] at hx
        refine ZV_iload_n dX6_at_16 rfl ?_
        refine ZV_aload_n dX6_at_17 rfl ?_
        refine ZV_getR fX6_at_19 dX6_at_18 (by assumption) rfl (by assumption) ?_
        refine ZV_getI fX6_at_94 dX6_at_21 (by assumption) rfl ?_
        rw [e1]
        refine ZV_icmp_ge (tgt := 47) dX6_at_24 (by decide) ⟨by omega, by omega⟩ ⟨by omega, by omega⟩ (fun h24 => ?_) (fun h24 => ?_)
        · refine ZV_bipush dX6_at_47 (by decide) ?_
          refine ZV_iret dX6_at_49 rfl ?_
          exact hx
        · omega
      · intro q hq ih z hz hf
        have h01 := zsum_01 (f := fun j => bz (aO Q.2.1) (aW Q.2.1 j) (aW Q.2.1 q) j q) (aN Q.2.1) (fun j _ => bz_01 ..)
        refine ZV_iload_n dX6_at_16 rfl ?_
        refine ZV_aload_n dX6_at_17 rfl ?_
        refine ZV_getR fX6_at_19 dX6_at_18 (by assumption) rfl (by assumption) ?_
        refine ZV_getI fX6_at_94 dX6_at_21 (by assumption) rfl ?_
        rw [e1]
        refine ZV_icmp_ge (tgt := 47) dX6_at_24 (by decide) ⟨by omega, by omega⟩ ⟨by omega, by omega⟩ (fun h24 => ?_) (fun h24 => ?_)
        · omega
        · refine ZV_aload_n dX6_at_27 rfl ?_
          refine ZV_getR fX6_at_19 dX6_at_28 (by assumption) rfl (by assumption) ?_
          refine ZV_iload_n dX6_at_31 rfl ?_
          refine cl_X3_placeOf kX6_at_150 rfl dX6_at_32 (by assumption) (Nat.le_of_ble_eq_true rfl) ?_
          refine sp_X3_placeOf lN hA hO hq hz ?_
          rw [show zsum (fun j => bz (aO Q.2.1) (aW Q.2.1 j) (aW Q.2.1 q) j q) (aN Q.2.1) = plN Q.2.1 q from rfl] at h01 ⊢
          refine ZV_iload_n dX6_at_35 rfl ?_
          refine ZV_icmp_ne (tgt := 41) dX6_at_36 (by decide) ⟨by omega, by omega⟩ ⟨by omega, by omega⟩ (fun h36 => ?_) (fun h36 => ?_)
          · refine ZV_jinc2 dX6_at_41 rfl (by decide) ?_
            refine ZV_goto (tgt := 16) dX6_at_44 (by decide) ?_
            exact ih _ (by omega) (zfst_miss hf (by rw [if_neg h36]; decide))
          · refine ZV_iload_n dX6_at_39 rfl ?_
            refine ZV_iret dX6_at_40 rfl ?_
            have hx := hx1 h1
            rw [zfst_hit hf (by rw [if_pos h36]) hq, ← hz] at hx
            exact hx
    exact key 0 (by omega) _ rfl rfl
  · refine ZV_throw tX6_at_4 rfl dX6_at_4 dX6_at_7 dX6_at_8 dX6_at_10 dX6_at_13 ⟨by decide, by decide⟩ hb (by assumption) ?_
    exact hx2 (by omega)
end ZC5

