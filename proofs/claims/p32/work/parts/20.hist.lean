/-! CitationKeys$History -/
def HG (X : Xt) (g : Geo) (H : Nat) : Prop := (ksh X g H = some (.inl 0) ∧ g.2.1 H 0 = some (H + 1) ∧ ksh X g (H + 1) = some (.inr (4, 14))) ∧ ∀ k, k < 14 → g.2.1 (H + 1) k = some (H + 2 + 38 * k) ∧ SL X g (H + 2 + 38 * k)
/-- a state with its caches -/
def StK (g : Geo) (I J : Mm) (t : Nat) (A : ASt) (K S : Nat → Int) : Prop := StAt g I J t A ∧ KyAt J t (aN A) K ∧ SmAt J t (aN A) S
theorem StK.fr {X : Xt} {g : Geo} {I I' J J' : Mm} {lo hi t : Nat} {A : ASt} {K S : Nat → Int} (hL : SL X g t) (hn : aN A ≤ 16) (h : StK g I J t A K S) (hF : FrO I I' J J' lo hi) (hd : t + 38 ≤ lo ∨ hi ≤ t) : StK g I' J' t A K S := ⟨h.1.fr hL hn hF hd, h.2.1.fr hF hd, h.2.2.fr hF hd⟩
section ZHi
variable {X : Xt} {b : Nat × Nat} {g : Geo} {I J : Mm} {post : Out → Geo → Mm → Mm → Prop}
theorem sp_X0_forget {H : Nat} (hL : HG X g H) (h : post (.inl none) g (up2 I H 2 0) J) : ZV X E_X0_forget 0 [some (.ref H)] [] b g I J post := by
  obtain ⟨⟨l1, l2, l3⟩, l4⟩ := hL
  refine ZV_aload_n dX0_forget_0 rfl ?_
  refine ZV_iconst dX0_forget_1 ?_
  refine ZV_putI fX0_forget_18 dX0_forget_2 (by assumption) rfl ?_
  refine ZV_vret dX0_forget_5 rfl ?_
  exact h
theorem sp_X0_remember {H t : Nat} {o k : Nat} {A : ASt} {K S : Nat → Int} (hL : HG X g H) (hM : SL X g t) (hd : t + 38 ≤ H) (ho : I H 1 = (o : Int)) (ho2 : o < 14) (hk : I H 2 = (k : Int)) (hk2 : k ≤ 14) (hA : StK g I J t A K S) (hO : StOK A) (h : ∀ I' J' (o' k' : Nat), ((k = 14 ∧ o' = (o + 1) % 14 ∧ k' = 13) ∨ (k < 14 ∧ o' = o ∧ k' = k)) → I' H 1 = (o' : Int) → I' H 2 = ((k' + 1 : Nat) : Int) → StK g I' J' (H + 2 + 38 * ((o' + k') % 14)) A K S → (∀ q, q ≠ H ∧ (q < H + 2 + 38 * ((o' + k') % 14) ∨ H + 2 + 38 * ((o' + k') % 14) + 38 ≤ q) → I' q = I q ∧ J' q = J q) → J' H = J H → post (.inl none) g I' J') : ZV X E_X0_remember 0 [some (.ref H), some (.ref t)] [] b g I J post := by
  obtain ⟨⟨l1, l2, l3⟩, l4⟩ := hL
  have key : ∀ (I0 : Mm) (o' k' : Nat), ((k = 14 ∧ o' = (o + 1) % 14 ∧ k' = 13) ∨ (k < 14 ∧ o' = o ∧ k' = k)) → I0 H 1 = (o' : Int) → I0 H 2 = (k' : Int) → (∀ q, q ≠ H → I0 q = I q) → ZV X E_X0_remember 32 [some (.ref H), some (.ref t)] [] b g I0 J post := by
    intro I0 o' k' hc e1 e2 hI0
    have hb : o' < 14 ∧ k' < 14 := by omega
    obtain ⟨j, hj⟩ : ∃ j, j = (o' + k') % 14 := ⟨_, rfl⟩
    have hj2 : j < 14 := by omega
    obtain ⟨m1, m2⟩ := l4 j hj2
    have m3 := m2.1.1
    have hF0 : FrO I I0 J J H (H + 1) := fun q hq => ⟨hI0 q (by omega), rfl⟩
    have hA0 := hA.fr hM hO.1 hF0 (by omega)
    have et : ((o' : Int) + (k' : Int)).tmod 14 = (j : Int) := by rw [Int.tmod_eq_emod_of_nonneg (by omega)]; omega
    refine ZV_aload_n dX0_remember_32 rfl ?_
    refine ZV_getR fX0_remember_11 dX0_remember_33 (by assumption) rfl (by assumption) ?_
    refine ZV_aload_n dX0_remember_36 rfl ?_
    refine ZV_getI fX0_remember_22 dX0_remember_37 (by assumption) rfl ?_
    rw [e1]
    refine ZV_aload_n dX0_remember_40 rfl ?_
    refine ZV_getI fX0_remember_18 dX0_remember_41 (by assumption) rfl ?_
    rw [e2]
    refine ZV_iadd dX0_remember_44 ?_
    refine ZV_bipush dX0_remember_45 (by decide) ?_
    refine ZV_irem dX0_remember_47 ⟨by omega, by omega⟩ ⟨by omega, by omega⟩ (by omega) ?_
    rw [et]
    first | refine ZV_aaldW (j) dX0_remember_48 (by assumption) (by first | rfl | omega) (by omega) (by omega) (by assumption) ?_ | refine ZV_aaldS (j) dX0_remember_48 (by assumption) (by first | rfl | omega) (by omega) (by omega) (by assumption) ?_
    refine ZV_aload_n dX0_remember_49 rfl ?_
    refine cl_X3_copyFrom kX0_remember_25 rfl dX0_remember_50 (by assumption) (Nat.le_of_ble_eq_true rfl) ?_
    refine sp_X3_copyFrom m2 hM (by omega) hA0.1 hO hA0.2.1 hA0.2.2 ?_
    intro I1 J1 s1 s2 s3 hF
    have f2 : I1 H 2 = (k' : Int) := by rw [(hF H (by omega)).1]; exact e2
    refine ZV_aload_n dX0_remember_53 rfl ?_
    refine ZV_dup dX0_remember_54 rfl ?_
    refine ZV_getI fX0_remember_18 dX0_remember_55 (by assumption) rfl ?_
    rw [f2]
    refine ZV_iconst dX0_remember_58 ?_
    refine ZV_iadd dX0_remember_59 ?_
    refine ZV_putI fX0_remember_18 dX0_remember_60 (by assumption) rfl ?_
    refine ZV_vret dX0_remember_63 rfl ?_
    have hF2 : FrO I1 (up2 I1 H 2 ((k' : Int) + 1)) J1 J1 H (H + 1) := fun q hq => ⟨up2_row _ _ (by omega), rfl⟩
    refine h _ _ o' k' hc ?_ ?_ ?_ (fun q hq => ?_) ?_
    · rw [up2_k (by decide), (hF H (by omega)).1]; exact e1
    · rw [up2_same]; rfl
    · rw [← hj]
      exact StK.fr m2 hO.1 ⟨s1, s2, s3⟩ hF2 (by omega)
    · rw [← hj] at hq
      exact ⟨(up2_row _ _ hq.1).trans ((hF q hq.2).1.trans (hI0 q hq.1)), (hF q hq.2).2⟩
    · exact (hF H (by omega)).2
  refine ZV_aload_n dX0_remember_0 rfl ?_
  refine ZV_getI fX0_remember_18 dX0_remember_1 (by assumption) rfl ?_
  rw [hk]
  refine ZV_bipush dX0_remember_4 (by decide) ?_
  refine ZV_icmp_ne (tgt := 32) dX0_remember_6 (by decide) ⟨by omega, by omega⟩ ⟨by omega, by omega⟩ (fun h6 => ?_) (fun h6 => ?_)
  · exact key I o k (Or.inr ⟨by omega, rfl, rfl⟩) ho hk (fun _ _ => rfl)
  · have et : ((o : Int) + 1).tmod 14 = (((o + 1) % 14 : Nat) : Int) := by rw [Int.tmod_eq_emod_of_nonneg (by omega)]; omega
    refine ZV_aload_n dX0_remember_9 rfl ?_
    refine ZV_aload_n dX0_remember_10 rfl ?_
    refine ZV_getI fX0_remember_22 dX0_remember_11 (by assumption) rfl ?_
    rw [ho]
    refine ZV_iconst dX0_remember_14 ?_
    refine ZV_iadd dX0_remember_15 ?_
    refine ZV_bipush dX0_remember_16 (by decide) ?_
    refine ZV_irem dX0_remember_18 ⟨by omega, by omega⟩ ⟨by omega, by omega⟩ (by omega) ?_
    rw [et]
    refine ZV_putI fX0_remember_22 dX0_remember_19 (by assumption) rfl ?_
    refine ZV_aload_n dX0_remember_22 rfl ?_
    refine ZV_dup dX0_remember_23 rfl ?_
    refine ZV_getI fX0_remember_18 dX0_remember_24 (by assumption) rfl ?_
    rw [up2_k (by decide), hk]
    refine ZV_iconst dX0_remember_27 ?_
    refine ZV_isub dX0_remember_28 ?_
    refine ZV_putI fX0_remember_18 dX0_remember_29 (by assumption) rfl ?_
    exact key _ ((o + 1) % 14) 13 (Or.inl ⟨by omega, rfl, rfl⟩) (by rw [up2_k (by decide), up2_same]) (by rw [up2_same]; omega) (fun q hq => by rw [up2_row _ _ hq, up2_row _ _ hq])
theorem sp_X0_takeBack {H t : Nat} {o k : Nat} {A : ASt} {K S : Nat → Int} (hL : HG X g H) (hM : SL X g t) (hd : t + 38 ≤ H) (ho : I H 1 = (o : Int)) (ho2 : o < 14) (hk : I H 2 = ((k + 1 : Nat) : Int)) (hk2 : k < 14) (hA : StK g I J (H + 2 + 38 * ((o + k) % 14)) A K S) (hO : StOK A) (h : ∀ I' J', I' H 1 = (o : Int) → I' H 2 = (k : Int) → StK g I' J' t A K S → (∀ q, q ≠ H ∧ (q < t ∨ t + 38 ≤ q) → I' q = I q ∧ J' q = J q) → J' H = J H → post (.inl none) g I' J') : ZV X E_X0_takeBack 0 [some (.ref H), some (.ref t)] [] b g I J post := by
  obtain ⟨⟨l1, l2, l3⟩, l4⟩ := hL
  obtain ⟨j, hj⟩ : ∃ j, j = (o + k) % 14 := ⟨_, rfl⟩
  have hj2 : j < 14 := by omega
  rw [← hj] at hA
  obtain ⟨m1, m2⟩ := l4 j hj2
  have m3 := m2.1.1
  have m4 := hM.1.1
  have et : ((o : Int) + (k : Int)).tmod 14 = (j : Int) := by rw [Int.tmod_eq_emod_of_nonneg (by omega)]; omega
  have hF0 : FrO I (up2 I H 2 (k : Int)) J J H (H + 1) := fun q hq => ⟨up2_row _ _ (by omega), rfl⟩
  have hA0 := hA.fr m2 hO.1 hF0 (by omega)
  refine ZV_aload_n dX0_takeBack_0 rfl ?_
  refine ZV_getI fX0_takeBack_18 dX0_takeBack_1 (by assumption) rfl ?_
  rw [hk]
  refine ZV_if_le (tgt := 38) dX0_takeBack_4 (by decide) ⟨by omega, by omega⟩ (fun h4 => ?_) (fun h4 => ?_)
  · omega
  · refine ZV_aload_n dX0_takeBack_7 rfl ?_
    refine ZV_dup dX0_takeBack_8 rfl ?_
    refine ZV_getI fX0_takeBack_18 dX0_takeBack_9 (by assumption) rfl ?_
    rw [hk, show (((k + 1 : Nat) : Int)) = (k : Int) + 1 from rfl]
    refine ZV_iconst dX0_takeBack_12 ?_
    refine ZV_isub dX0_takeBack_13 ?_
    refine ZV_putI fX0_takeBack_18 dX0_takeBack_14 (by assumption) rfl ?_
    rw [show (k : Int) + 1 - 1 = (k : Int) by omega]
    refine ZV_aload_n dX0_takeBack_17 rfl ?_
    refine ZV_aload_n dX0_takeBack_18 rfl ?_
    refine ZV_getR fX0_takeBack_11 dX0_takeBack_19 (by assumption) rfl (by assumption) ?_
    refine ZV_aload_n dX0_takeBack_22 rfl ?_
    refine ZV_getI fX0_takeBack_22 dX0_takeBack_23 (by assumption) rfl ?_
    rw [up2_k (by decide), ho]
    refine ZV_aload_n dX0_takeBack_26 rfl ?_
    refine ZV_getI fX0_takeBack_18 dX0_takeBack_27 (by assumption) rfl ?_
    rw [up2_same]
    refine ZV_iadd dX0_takeBack_30 ?_
    refine ZV_bipush dX0_takeBack_31 (by decide) ?_
    refine ZV_irem dX0_takeBack_33 ⟨by omega, by omega⟩ ⟨by omega, by omega⟩ (by omega) ?_
    rw [et]
    first | refine ZV_aaldW (j) dX0_takeBack_34 (by assumption) (by first | rfl | omega) (by omega) (by omega) (by assumption) ?_ | refine ZV_aaldS (j) dX0_takeBack_34 (by assumption) (by first | rfl | omega) (by omega) (by omega) (by assumption) ?_
    refine cl_X3_copyFrom kX0_takeBack_25 rfl dX0_takeBack_35 (by assumption) (Nat.le_of_ble_eq_true rfl) ?_
    refine sp_X3_copyFrom hM m2 (by omega) hA0.1 hO hA0.2.1 hA0.2.2 ?_
    intro I1 J1 s1 s2 s3 hF
    refine ZV_vret dX0_takeBack_38 rfl ?_
    refine h _ _ ?_ ?_ ⟨s1, s2, s3⟩ (fun q hq => ⟨(hF q hq.2).1.trans (up2_row _ _ hq.1), (hF q hq.2).2⟩) ?_
    · rw [(hF H (by omega)).1, up2_k (by decide)]; exact ho
    · rw [(hF H (by omega)).1, up2_same]
    · exact (hF H (by omega)).2
end ZHi

