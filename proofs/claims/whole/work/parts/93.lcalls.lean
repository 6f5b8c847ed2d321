/-! the law's helpers -/
theorem vi_rep (v : Int) : ∃ w, r32 w ∧ vi v = vi w := by
  refine ⟨(i32 v).toInt, ⟨Int32.le_toInt _, by have := Int32.toInt_lt (i32 v); omega⟩, ?_⟩
  show Value.int (i32 v) = Value.int (i32 (i32 v).toInt)
  unfold i32
  rw [Int32.ofInt_toInt]
theorem i32r (a : Int32) : r32 a.toInt := ⟨Int32.le_toInt _, by have := Int32.toInt_lt a; omega⟩
theorem i32_inj {x y : Int} (h1 : -2147483648 ≤ x) (h2 : x ≤ 2147483647) (h3 : -2147483648 ≤ y) (h4 : y ≤ 2147483647) (e : i32 x = i32 y) : x = y := by
  have e1 := congrArg Int32.toInt e
  unfold i32 at e1
  rwa [Int32.toInt_ofInt_of_le h1 (by omega), Int32.toInt_ofInt_of_le h3 (by omega)] at e1
theorem lg_rng {a : Int} (h : r32 a) (d : Int) : r64 (a * 2 ^ 32 + d % 2 ^ 32) := by
  obtain ⟨h1, h2⟩ := h
  exact ⟨by omega, by omega⟩
theorem zH_thr {X : Xt} {E : Me} {pc0 pc hpc : Nat} {L : List (Option Value)} {S : List Value} {b : Nat × Nat} {g : Geo} {I J : Mm} {post : Out → Geo → Mm → Mm → Prop} {Ex : String} (h : CK E pc0 Ex hpc) (k : ∀ q, ZV X E hpc L [.ref q] b g I J post) : zH X E pc0 pc L S b post (.inr Ex) g I J := ⟨hpc, h, k⟩
theorem CInv.out {X : Xt} {g : Geo} {I I' J J' : Mm} {c : Nat} {Q : AC} (h : CInv X g I J c Q) (hr : ∀ q, c ≤ q → q < c + 726 → I' q = I q ∧ J' q = J q) : CInv X g I' J' c Q := by
  obtain ⟨hL, hg, hT, hN, hH, hV⟩ := h
  exact ⟨hL, hg, hT.rw' (fun q q1 q2 => (hr q (by omega) (by omega)).1), hN.rw' hL.2.2.1 rfl (fun q q1 q2 => hr q (by omega) (by omega)), hH.rw' hL (fun _ _ _ => rfl) (fun q q1 q2 => hr q (by omega) (by omega)), hV.rw' hL (fun _ _ _ => rfl) (fun q q1 q2 => hr q (by omega) (by omega))⟩
theorem ksh_g {X : Xt} {g g' : Geo} {a : Nat} {k : Kd} (h : ksh X g a = some k) (e : g'.1 = g.1) : ksh X g' a = some k := by unfold ksh at h ⊢; rw [e]; exact h
/-- what the law's helpers leave outside -/
def LFo (g g' : Geo) (I I' J J' : Mm) (c o : Nat) : Prop := g'.1 = g.1 ∧ ∀ q, q < c ∨ c + 726 ≤ q → g'.2.1 q = g.2.1 q ∧ I' q = I q
theorem CFr.lf {g g' : Geo} {I I' J J' : Mm} {c : Nat} (h : CFr g g' I I' J J' c) (o : Nat) (J2 : Mm) : LFo g g' I I' J J2 c o := ⟨h.1, fun q hq => ⟨(h.2 q hq).1, (h.2 q hq).2.1⟩⟩
section ZL1
variable {X : Xt} {g : Geo} {I J : Mm} {b : Nat × Nat} {post : Out → Geo → Mm → Mm → Prop}
theorem sp_L_append {c o : Nat} {z : Int} {Q : AC} (hC : CInv X g I J c Q) (ho : ksh X g o = some (.inr (1, 1))) (hoc : c + 726 ≤ o) (hr_z : r32 z) (hb : 1 ≤ b.1 ∧ 6 ≤ b.2) (hx0 : ¬ (0 ≤ z ∧ z ≤ 255) → ∀ (g' : Geo) (I' J' : Mm), LFo g g' I I' J J' c o → CInv X g' I' J' c Q → post (.inl (some (vi 1))) g' I' J') (hx1 : (0 ≤ z ∧ z ≤ 255) → 100 ≤ Q.1.1 → ∀ (g' : Geo) (I' J' : Mm), LFo g g' I I' J J' c o → CInv X g' I' J' c Q → post (.inl (some (vi 2))) g' I' J') (hx2 : (0 ≤ z ∧ z ≤ 255) → Q.1.1 < 100 → ∀ (g' : Geo) (I' J' : Mm), LFo g g' I I' J J' c o → CInv X g' I' J' c (txAdd Q.1 z, Q.2) → ∀ v, r32 v → vi ((Q.1.1 : Int) + 1) = vi v → J' o 0 = v → post (.inl (some (vi 0))) g' I' J') : ZV X E_L_append 0 [some (.ref c), some (vi z), some (.ref o), none] [] b g I J post := by
  have kc := hC.1.1.1
  refine ZV_aload_n dL_append_0 rfl ?_
  refine ZV_iconst dL_append_1 ?_
  refine ZV_aload_n dL_append_2 rfl ?_
  refine ZV_iload_n dL_append_3 rfl ?_
  refine clh_X6_append kL_append_7 dL_append_4 (by assumption) ⟨by omega, by omega⟩ (Nat.le_of_ble_eq_true rfl) ?_
  refine sp_X6_append hC hr_z ⟨by decide, by decide⟩ ?_ ?_ ?_
  · intro e0
    refine zH_thr hL_append_zIAE (fun q => ?_)
    refine ZV_astore3 dL_append_12 rfl (by decide) ?_
    refine ZV_iconst dL_append_13 ?_
    refine ZV_iret dL_append_14 rfl ?_
    exact hx0 e0 g I J ((CFr.rf g I J c).lf o J) hC
  · intro e0 e1
    refine zH_thr hL_append_zISE (fun q => ?_)
    refine ZV_astore3 dL_append_15 rfl (by decide) ?_
    refine ZV_iconst dL_append_16 ?_
    refine ZV_iret dL_append_17 rfl ?_
    exact hx1 e0 e1 g I J ((CFr.rf g I J c).lf o J) hC
  · intro e0 e1 I1 J1 hF1 hC1
    obtain ⟨v, hv1, hv2⟩ := vi_rep ((Q.1.1 : Int) + 1)
    show ZV X E_L_append _ _ (vi ((Q.1.1 : Int) + 1) :: _) _ _ _ _ _
    rw [hv2]
    obtain ⟨hv3, hv4⟩ := hv1
    refine ZV_i2l dL_append_7 ⟨by omega, by omega⟩ ?_
    refine ZV_last (0) dL_append_8 (by assumption) (by first | rfl | omega) (by omega) (by omega) ?_
    refine ZV_goto (tgt := 18) dL_append_9 (by decide) ?_
    refine ZV_iconst dL_append_18 ?_
    refine ZV_iret dL_append_19 rfl ?_
    exact hx2 e0 e1 g I1 _ (hF1.lf o _) (hC1.out (fun q q1 q2 => ⟨rfl, up2_row _ _ (by omega)⟩)) v ⟨hv3, hv4⟩ hv2 (up2_same _ _ _ _)
theorem sp_L_load {c o : Nat} {Q : AC} (hC : CInv X g I J c Q) (ho : ksh X g o = some (.inr (1, 1))) (hoc : c + 726 ≤ o)  (hb : 1 ≤ b.1 ∧ 6 ≤ b.2) (hx0 : rdv Q.1.2 Q.1.1 ≠ -9 → ∀ (g' : Geo) (I' J' : Mm), LFo g g' I I' J J' c o → CInv X g' I' J' c Q → post (.inl (some (vi 1))) g' I' J') (hx1 : ∀ s : PSt, rdv Q.1.2 Q.1.1 = -9 → rn Q.1.2 Q.1.1 = some s → (∀ k, k < s.1 → AWF (s.2.2.2 k)) → s.1 ≤ 16 → ∀ (g' : Geo) (I' J' : Mm), LFo g g' I I' J J' c o → CInv X g' I' J' c (Q.1, aList Q.2.1 s.2.2.2 s.1, (0, Q.2.2.1.2), fun _ => none) → ∀ v, r32 v → vi (s.1 : Int) = vi v → J' o 0 = v → post (.inl (some (vi 0))) g' I' J') : ZV X E_L_load 0 [some (.ref c), some (.ref o), none] [] b g I J post := by
  have kc := hC.1.1.1
  refine ZV_aload_n dL_load_0 rfl ?_
  refine ZV_iconst dL_load_1 ?_
  refine ZV_aload_n dL_load_2 rfl ?_
  refine clh_X6_load kL_load_17 dL_load_3 (by assumption) ⟨by omega, by omega⟩ (Nat.le_of_ble_eq_true rfl) ?_
  refine sp_X6_load hC  ⟨by decide, by decide⟩ ?_ ?_
  · intro e0 I1 J1 hF1 hC1
    refine zH_thr hL_load_zISE (fun q => ?_)
    refine ZV_astore2 dL_load_11 rfl (by decide) ?_
    refine ZV_iconst dL_load_12 ?_
    refine ZV_iret dL_load_13 rfl ?_
    exact hx0 e0 g I1 J1 (hF1.lf o J1) hC1
  · intro s e1 e2 e3 e4 I1 J1 hF1 hC1
    obtain ⟨v, hv1, hv2⟩ := vi_rep (s.1 : Int)
    show ZV X E_L_load _ _ (vi (s.1 : Int) :: _) _ _ _ _ _
    rw [hv2]
    obtain ⟨hv3, hv4⟩ := hv1
    refine ZV_i2l dL_load_6 ⟨by omega, by omega⟩ ?_
    refine ZV_last (0) dL_load_7 (by assumption) (by first | rfl | omega) (by omega) (by omega) ?_
    refine ZV_goto (tgt := 14) dL_load_8 (by decide) ?_
    refine ZV_iconst dL_load_14 ?_
    refine ZV_iret dL_load_15 rfl ?_
    exact hx1 s e1 e2 e3 e4 g I1 _ (hF1.lf o _) (hC1.out (fun q q1 q2 => ⟨rfl, up2_row _ _ (by omega)⟩)) v ⟨hv3, hv4⟩ hv2 (up2_same _ _ _ _)
theorem sp_L_about {c o : Nat} {k : Int} {Q : AC} (hC : CInv X g I J c Q) (ho : ksh X g o = some (.inr (1, 1))) (hoc : c + 726 ≤ o) (hr_k : r32 k) (hb : 1 ≤ b.1 ∧ 6 ≤ b.2) (hx0 : (0 ≤ k ∧ k ≤ 7) → ∀ (g' : Geo) (I' J' : Mm), LFo g g' I I' J J' c o → CInv X g' I' J' c Q → ∀ v, r32 v → vi (abF Q.2.1 k) = vi v → J' o 0 = v → post (.inl (some (vi 0))) g' I' J') (hx1 : ¬ (0 ≤ k ∧ k ≤ 7) → ∀ (g' : Geo) (I' J' : Mm), LFo g g' I I' J J' c o → CInv X g' I' J' c Q → post (.inl (some (vi 1))) g' I' J') : ZV X E_L_about 0 [some (.ref c), some (vi k), some (.ref o), none] [] b g I J post := by
  have kc := hC.1.1.1
  refine ZV_aload_n dL_about_0 rfl ?_
  refine ZV_iconst dL_about_1 ?_
  refine ZV_aload_n dL_about_2 rfl ?_
  refine ZV_iload_n dL_about_3 rfl ?_
  refine clh_X6_about kL_about_21 dL_about_4 (by assumption) ⟨by omega, by omega⟩ (Nat.le_of_ble_eq_true rfl) ?_
  refine sp_X6_about hC hr_k ⟨by decide, by decide⟩ ?_ ?_
  · intro e0
    obtain ⟨v, hv1, hv2⟩ := vi_rep (abF Q.2.1 k)
    show ZV X E_L_about _ _ (vi (abF Q.2.1 k) :: _) _ _ _ _ _
    rw [hv2]
    obtain ⟨hv3, hv4⟩ := hv1
    refine ZV_i2l dL_about_7 ⟨by omega, by omega⟩ ?_
    refine ZV_last (0) dL_about_8 (by assumption) (by first | rfl | omega) (by omega) (by omega) ?_
    refine ZV_goto (tgt := 15) dL_about_9 (by decide) ?_
    refine ZV_iconst dL_about_15 ?_
    refine ZV_iret dL_about_16 rfl ?_
    exact hx0 e0 g I _ ((CFr.rf g I J c).lf o _) (hC.out (fun q q1 q2 => ⟨rfl, up2_row _ _ (by omega)⟩)) v ⟨hv3, hv4⟩ hv2 (up2_same _ _ _ _)
  · intro e0
    refine zH_thr hL_about_zIAE (fun q => ?_)
    refine ZV_astore3 dL_about_12 rfl (by decide) ?_
    refine ZV_iconst dL_about_13 ?_
    refine ZV_iret dL_about_14 rfl ?_
    exact hx1 e0 g I J ((CFr.rf g I J c).lf o J) hC
theorem sp_L_work {c o : Nat} {i k : Int} {Q : AC} (hC : CInv X g I J c Q) (ho : ksh X g o = some (.inr (1, 1))) (hoc : c + 726 ≤ o) (hr_i : r32 i) (hr_k : r32 k) (hb : 2 ≤ b.1 ∧ 12 ≤ b.2) (hx0 : ¬ (0 ≤ i ∧ i < aN Q.2.1) → ∀ (g' : Geo) (I' J' : Mm), LFo g g' I I' J J' c o → CInv X g' I' J' c Q → post (.inl (some (vi 1))) g' I' J') (hx1 : (0 ≤ i ∧ i < aN Q.2.1) → ¬ (0 ≤ k ∧ k ≤ 6) → ∀ (g' : Geo) (I' J' : Mm), LFo g g' I I' J J' c o → CInv X g' I' J' c Q → post (.inl (some (vi 2))) g' I' J') (hx2 : (0 ≤ i ∧ i < aN Q.2.1) → (0 ≤ k ∧ k ≤ 6) → ∀ (g' : Geo) (I' J' : Mm), LFo g g' I I' J J' c o → CInv X g' I' J' c Q → ∀ v, r32 v → vi (wkF Q.2.1 i.toNat k) = vi v → J' o 0 = v → post (.inl (some (vi 0))) g' I' J') : ZV X E_L_work 0 [some (.ref c), some (vi i), some (vi k), some (.ref o), none] [] b g I J post := by
  have kc := hC.1.1.1
  refine ZV_aload_n dL_work_0 rfl ?_
  refine ZV_iconst dL_work_1 ?_
  refine ZV_aload_n dL_work_2 rfl ?_
  refine ZV_iload_n dL_work_3 rfl ?_
  refine ZV_iload_n dL_work_4 rfl ?_
  refine clh_X6_work kL_work_24 dL_work_5 (by assumption) ⟨by omega, by omega⟩ (Nat.le_of_ble_eq_true rfl) ?_
  refine sp_X6_work hC hr_i hr_k ⟨by decide, by decide⟩ ?_ ?_ ?_
  · intro e0
    refine zH_thr hL_work_zIOB (fun q => ?_)
    refine ZV_astore4 dL_work_13 rfl (by decide) ?_
    refine ZV_iconst dL_work_15 ?_
    refine ZV_iret dL_work_16 rfl ?_
    exact hx0 e0 g I J ((CFr.rf g I J c).lf o J) hC
  · intro e0 e1
    refine zH_thr hL_work_zIAE (fun q => ?_)
    refine ZV_astore4 dL_work_17 rfl (by decide) ?_
    refine ZV_iconst dL_work_19 ?_
    refine ZV_iret dL_work_20 rfl ?_
    exact hx1 e0 e1 g I J ((CFr.rf g I J c).lf o J) hC
  · intro e0 e1
    obtain ⟨v, hv1, hv2⟩ := vi_rep (wkF Q.2.1 i.toNat k)
    show ZV X E_L_work _ _ (vi (wkF Q.2.1 i.toNat k) :: _) _ _ _ _ _
    rw [hv2]
    obtain ⟨hv3, hv4⟩ := hv1
    refine ZV_i2l dL_work_8 ⟨by omega, by omega⟩ ?_
    refine ZV_last (0) dL_work_9 (by assumption) (by first | rfl | omega) (by omega) (by omega) ?_
    refine ZV_goto (tgt := 21) dL_work_10 (by decide) ?_
    refine ZV_iconst dL_work_21 ?_
    refine ZV_iret dL_work_22 rfl ?_
    exact hx2 e0 e1 g I _ ((CFr.rf g I J c).lf o _) (hC.out (fun q q1 q2 => ⟨rfl, up2_row _ _ (by omega)⟩)) v ⟨hv3, hv4⟩ hv2 (up2_same _ _ _ _)
theorem sp_L_letter {c o : Nat} {i a k : Int} {Q : AC} (hC : CInv X g I J c Q) (ho : ksh X g o = some (.inr (1, 1))) (hoc : c + 726 ≤ o) (hr_i : r32 i) (hr_a : r32 a) (hr_k : r32 k) (hb : 2 ≤ b.1 ∧ 12 ≤ b.2) (hx0 : ¬ (0 ≤ i ∧ i < aN Q.2.1) → ∀ (g' : Geo) (I' J' : Mm), LFo g g' I I' J J' c o → CInv X g' I' J' c Q → post (.inl (some (vi 1))) g' I' J') (hx1 : (0 ≤ i ∧ i < aN Q.2.1) → ¬ (0 ≤ a ∧ a ≤ (aW Q.2.1 i.toNat).2.1 ∧ 0 ≤ k) → ∀ (g' : Geo) (I' J' : Mm), LFo g g' I I' J J' c o → CInv X g' I' J' c Q → post (.inl (some (vi 2))) g' I' J') (hx2 : (0 ≤ i ∧ i < aN Q.2.1) → (0 ≤ a ∧ a ≤ (aW Q.2.1 i.toNat).2.1 ∧ 0 ≤ k) → ∀ (g' : Geo) (I' J' : Mm), LFo g g' I I' J J' c o → CInv X g' I' J' c Q → ∀ v, r32 v → vi (codeAt (nmAt (aW Q.2.1 i.toNat) a) k) = vi v → J' o 0 = v → post (.inl (some (vi 0))) g' I' J') : ZV X E_L_letter 0 [some (.ref c), some (vi i), some (vi a), some (vi k), some (.ref o), none] [] b g I J post := by
  have kc := hC.1.1.1
  refine ZV_aload dL_letter_0 rfl ?_
  refine ZV_iconst dL_letter_2 ?_
  refine ZV_aload_n dL_letter_3 rfl ?_
  refine ZV_iload_n dL_letter_4 rfl ?_
  refine ZV_iload_n dL_letter_5 rfl ?_
  refine ZV_iload_n dL_letter_6 rfl ?_
  refine clh_X6_letter kL_letter_30 dL_letter_7 (by assumption) ⟨by omega, by omega⟩ (Nat.le_of_ble_eq_true rfl) ?_
  refine sp_X6_letter hC hr_i hr_a hr_k ⟨by decide, by decide⟩ ?_ ?_ ?_
  · intro e0
    refine zH_thr hL_letter_zIOB (fun q => ?_)
    refine ZV_astore5 dL_letter_15 rfl (by decide) ?_
    refine ZV_iconst dL_letter_17 ?_
    refine ZV_iret dL_letter_18 rfl ?_
    exact hx0 e0 g I J ((CFr.rf g I J c).lf o J) hC
  · intro e0 e1
    refine zH_thr hL_letter_zIAE (fun q => ?_)
    refine ZV_astore5 dL_letter_19 rfl (by decide) ?_
    refine ZV_iconst dL_letter_21 ?_
    refine ZV_iret dL_letter_22 rfl ?_
    exact hx1 e0 e1 g I J ((CFr.rf g I J c).lf o J) hC
  · intro e0 e1
    obtain ⟨v, hv1, hv2⟩ := vi_rep (codeAt (nmAt (aW Q.2.1 i.toNat) a) k)
    show ZV X E_L_letter _ _ (vi (codeAt (nmAt (aW Q.2.1 i.toNat) a) k) :: _) _ _ _ _ _
    rw [hv2]
    obtain ⟨hv3, hv4⟩ := hv1
    refine ZV_i2l dL_letter_10 ⟨by omega, by omega⟩ ?_
    refine ZV_last (0) dL_letter_11 (by assumption) (by first | rfl | omega) (by omega) (by omega) ?_
    refine ZV_goto (tgt := 23) dL_letter_12 (by decide) ?_
    refine ZV_iconst dL_letter_23 ?_
    refine ZV_iret dL_letter_24 rfl ?_
    exact hx2 e0 e1 g I _ ((CFr.rf g I J c).lf o _) (hC.out (fun q q1 q2 => ⟨rfl, up2_row _ _ (by omega)⟩)) v ⟨hv3, hv4⟩ hv2 (up2_same _ _ _ _)
theorem sp_L_key {c o : Nat} {i k : Int} {Q : AC} (hC : CInv X g I J c Q) (ho : ksh X g o = some (.inr (1, 1))) (hoc : c + 726 ≤ o) (hr_i : r32 i) (hr_k : r32 k) (hb : 2 ≤ b.1 ∧ 12 ≤ b.2) (hx0 : ¬ (0 ≤ i ∧ i < aN Q.2.1) → ∀ (g' : Geo) (I' J' : Mm), LFo g g' I I' J J' c o → CInv X g' I' J' c Q → post (.inl (some (vi 1))) g' I' J') (hx1 : (0 ≤ i ∧ i < aN Q.2.1) → k < 0 → ∀ (g' : Geo) (I' J' : Mm), LFo g g' I I' J J' c o → CInv X g' I' J' c Q → post (.inl (some (vi 2))) g' I' J') (hx2 : (0 ≤ i ∧ i < aN Q.2.1) → 0 ≤ k → ∀ (g' : Geo) (I' J' : Mm), LFo g g' I I' J J' c o → CInv X g' I' J' c Q → ∀ v, r32 v → vi (kch (keyOf Q.2.1 i.toNat) k) = vi v → J' o 0 = v → post (.inl (some (vi 0))) g' I' J') : ZV X E_L_key 0 [some (.ref c), some (vi i), some (vi k), some (.ref o), none] [] b g I J post := by
  have kc := hC.1.1.1
  refine ZV_aload_n dL_key_0 rfl ?_
  refine ZV_iconst dL_key_1 ?_
  refine ZV_aload_n dL_key_2 rfl ?_
  refine ZV_iload_n dL_key_3 rfl ?_
  refine ZV_iload_n dL_key_4 rfl ?_
  refine clh_X6_key kL_key_34 dL_key_5 (by assumption) ⟨by omega, by omega⟩ (Nat.le_of_ble_eq_true rfl) ?_
  refine sp_X6_key hC hr_i hr_k ⟨by decide, by decide⟩ ?_ ?_ ?_
  · intro e0
    refine zH_thr hL_key_zIOB (fun q => ?_)
    refine ZV_astore4 dL_key_13 rfl (by decide) ?_
    refine ZV_iconst dL_key_15 ?_
    refine ZV_iret dL_key_16 rfl ?_
    exact hx0 e0 g I J ((CFr.rf g I J c).lf o J) hC
  · intro e0 e1
    refine zH_thr hL_key_zIAE (fun q => ?_)
    refine ZV_astore4 dL_key_17 rfl (by decide) ?_
    refine ZV_iconst dL_key_19 ?_
    refine ZV_iret dL_key_20 rfl ?_
    exact hx1 e0 e1 g I J ((CFr.rf g I J c).lf o J) hC
  · intro e0 e1
    obtain ⟨v, hv1, hv2⟩ := vi_rep (kch (keyOf Q.2.1 i.toNat) k)
    show ZV X E_L_key _ _ (vi (kch (keyOf Q.2.1 i.toNat) k) :: _) _ _ _ _ _
    rw [hv2]
    obtain ⟨hv3, hv4⟩ := hv1
    refine ZV_i2l dL_key_8 ⟨by omega, by omega⟩ ?_
    refine ZV_last (0) dL_key_9 (by assumption) (by first | rfl | omega) (by omega) (by omega) ?_
    refine ZV_goto (tgt := 21) dL_key_10 (by decide) ?_
    refine ZV_iconst dL_key_21 ?_
    refine ZV_iret dL_key_22 rfl ?_
    exact hx2 e0 e1 g I _ ((CFr.rf g I J c).lf o _) (hC.out (fun q q1 q2 => ⟨rfl, up2_row _ _ (by omega)⟩)) v ⟨hv3, hv4⟩ hv2 (up2_same _ _ _ _)
theorem sp_L_at {c o : Nat} {k : Int} {Q : AC} (hC : CInv X g I J c Q) (ho : ksh X g o = some (.inr (1, 1))) (hoc : c + 726 ≤ o) (hr_k : r32 k) (hb : 1 ≤ b.1 ∧ 6 ≤ b.2) (hx0 : 0 ≤ k → ∀ (g' : Geo) (I' J' : Mm), LFo g g' I I' J J' c o → CInv X g' I' J' c Q → ∀ v, r32 v → vi (zfst (fun i => if plN Q.2.1 i = k then 1 else 0) (aN Q.2.1)) = vi v → J' o 0 = v → post (.inl (some (vi 0))) g' I' J') (hx1 : k < 0 → ∀ (g' : Geo) (I' J' : Mm), LFo g g' I I' J J' c o → CInv X g' I' J' c Q → post (.inl (some (vi 1))) g' I' J') : ZV X E_L_at 0 [some (.ref c), some (vi k), some (.ref o), none] [] b g I J post := by
  have kc := hC.1.1.1
  refine ZV_aload_n dL_at_0 rfl ?_
  refine ZV_iconst dL_at_1 ?_
  refine ZV_aload_n dL_at_2 rfl ?_
  refine ZV_iload_n dL_at_3 rfl ?_
  refine clh_X6_at kL_at_37 dL_at_4 (by assumption) ⟨by omega, by omega⟩ (Nat.le_of_ble_eq_true rfl) ?_
  refine sp_X6_at hC hr_k ⟨by decide, by decide⟩ ?_ ?_
  · intro e0
    obtain ⟨v, hv1, hv2⟩ := vi_rep (zfst (fun i => if plN Q.2.1 i = k then 1 else 0) (aN Q.2.1))
    show ZV X E_L_at _ _ (vi (zfst (fun i => if plN Q.2.1 i = k then 1 else 0) (aN Q.2.1)) :: _) _ _ _ _ _
    rw [hv2]
    obtain ⟨hv3, hv4⟩ := hv1
    refine ZV_i2l dL_at_7 ⟨by omega, by omega⟩ ?_
    refine ZV_last (0) dL_at_8 (by assumption) (by first | rfl | omega) (by omega) (by omega) ?_
    refine ZV_goto (tgt := 15) dL_at_9 (by decide) ?_
    refine ZV_iconst dL_at_15 ?_
    refine ZV_iret dL_at_16 rfl ?_
    exact hx0 e0 g I _ ((CFr.rf g I J c).lf o _) (hC.out (fun q q1 q2 => ⟨rfl, up2_row _ _ (by omega)⟩)) v ⟨hv3, hv4⟩ hv2 (up2_same _ _ _ _)
  · intro e0
    refine zH_thr hL_at_zIAE (fun q => ?_)
    refine ZV_astore3 dL_at_12 rfl (by decide) ?_
    refine ZV_iconst dL_at_13 ?_
    refine ZV_iret dL_at_14 rfl ?_
    exact hx1 e0 g I J ((CFr.rf g I J c).lf o J) hC
theorem sp_L_printed {c o : Nat} {k : Int} {Q : AC} (hC : CInv X g I J c Q) (ho : ksh X g o = some (.inr (1, 1))) (hoc : c + 726 ≤ o) (hr_k : r32 k) (hb : 1 ≤ b.1 ∧ 6 ≤ b.2) (hx0 : (0 ≤ k ∧ k ≤ 2) → ∀ (g' : Geo) (I' J' : Mm), LFo g g' I I' J J' c o → CInv X g' I' J' c Q → ∀ v, r32 v → vi (prF Q.2.1 k) = vi v → J' o 0 = v → post (.inl (some (vi 0))) g' I' J') (hx1 : ¬ (0 ≤ k ∧ k ≤ 2) → ∀ (g' : Geo) (I' J' : Mm), LFo g g' I I' J J' c o → CInv X g' I' J' c Q → post (.inl (some (vi 1))) g' I' J') : ZV X E_L_printed 0 [some (.ref c), some (vi k), some (.ref o), none] [] b g I J post := by
  have kc := hC.1.1.1
  refine ZV_aload_n dL_printed_0 rfl ?_
  refine ZV_iconst dL_printed_1 ?_
  refine ZV_aload_n dL_printed_2 rfl ?_
  refine ZV_iload_n dL_printed_3 rfl ?_
  refine clh_X6_printed kL_printed_40 dL_printed_4 (by assumption) ⟨by omega, by omega⟩ (Nat.le_of_ble_eq_true rfl) ?_
  refine sp_X6_printed hC hr_k ⟨by decide, by decide⟩ ?_ ?_
  · intro e0
    obtain ⟨v, hv1, hv2⟩ := vi_rep (prF Q.2.1 k)
    show ZV X E_L_printed _ _ (vi (prF Q.2.1 k) :: _) _ _ _ _ _
    rw [hv2]
    obtain ⟨hv3, hv4⟩ := hv1
    refine ZV_i2l dL_printed_7 ⟨by omega, by omega⟩ ?_
    refine ZV_last (0) dL_printed_8 (by assumption) (by first | rfl | omega) (by omega) (by omega) ?_
    refine ZV_goto (tgt := 15) dL_printed_9 (by decide) ?_
    refine ZV_iconst dL_printed_15 ?_
    refine ZV_iret dL_printed_16 rfl ?_
    exact hx0 e0 g I _ ((CFr.rf g I J c).lf o _) (hC.out (fun q q1 q2 => ⟨rfl, up2_row _ _ (by omega)⟩)) v ⟨hv3, hv4⟩ hv2 (up2_same _ _ _ _)
  · intro e0
    refine zH_thr hL_printed_zIAE (fun q => ?_)
    refine ZV_astore3 dL_printed_12 rfl (by decide) ?_
    refine ZV_iconst dL_printed_13 ?_
    refine ZV_iret dL_printed_14 rfl ?_
    exact hx1 e0 g I J ((CFr.rf g I J c).lf o J) hC
theorem sp_L_add {c o : Nat} {Q : AC} (hC : CInv X g I J c Q) (ho : ksh X g o = some (.inr (1, 1))) (hoc : c + 726 ≤ o)  (hb : 1 ≤ b.1 ∧ 6 ≤ b.2) (hx0 : ¬ oneW Q.1 → ∀ (g' : Geo) (I' J' : Mm), LFo g g' I I' J J' c o → CInv X g' I' J' c Q → post (.inl (some (vi 1))) g' I' J') (hx1 : ∀ s : PSt, rdv Q.1.2 Q.1.1 = -9 → rn Q.1.2 Q.1.1 = some s → s.1 = 1 → 16 ≤ aN Q.2.1 → ∀ (g' : Geo) (I' J' : Mm), LFo g g' I I' J J' c o → CInv X g' I' J' c Q → post (.inl (some (vi 1))) g' I' J') (hx2 : ∀ s : PSt, rdv Q.1.2 Q.1.1 = -9 → rn Q.1.2 Q.1.1 = some s → s.1 = 1 → AWF (s.2.2.2 0) → aN Q.2.1 < 16 → ∀ (g' : Geo) (I' J' : Mm), LFo g g' I I' J J' c o → CInv X g' I' J' c (Q.1, aPlace Q.2.1 (s.2.2.2 0), hpush Q.2.2.1 Q.2.1, Q.2.2.2) → ∀ v, r32 v → vi (aN Q.2.1 : Int) = vi v → J' o 0 = v → post (.inl (some (vi 0))) g' I' J') : ZV X E_L_add 0 [some (.ref c), some (.ref o), none] [] b g I J post := by
  have kc := hC.1.1.1
  refine ZV_aload_n dL_add_0 rfl ?_
  refine ZV_iconst dL_add_1 ?_
  refine ZV_aload_n dL_add_2 rfl ?_
  refine clh_X6_add kL_add_43 dL_add_3 (by assumption) ⟨by omega, by omega⟩ (Nat.le_of_ble_eq_true rfl) ?_
  refine sp_X6_add hC  ⟨by decide, by decide⟩ ?_ ?_ ?_
  · intro e0 I1 J1 hF1 hC1
    refine zH_thr hL_add_zISE (fun q => ?_)
    refine ZV_astore2 dL_add_11 rfl (by decide) ?_
    refine ZV_iconst dL_add_12 ?_
    refine ZV_iret dL_add_13 rfl ?_
    exact hx0 e0 g I1 J1 (hF1.lf o J1) hC1
  · intro s e1 e2 e3 e4 I1 J1 hF1 hC1
    refine zH_thr hL_add_zISE (fun q => ?_)
    refine ZV_astore2 dL_add_11 rfl (by decide) ?_
    refine ZV_iconst dL_add_12 ?_
    refine ZV_iret dL_add_13 rfl ?_
    exact hx1 s e1 e2 e3 e4 g I1 J1 (hF1.lf o J1) hC1
  · intro s e1 e2 e3 e4 e5 I1 J1 hF1 hC1
    obtain ⟨v, hv1, hv2⟩ := vi_rep (aN Q.2.1 : Int)
    show ZV X E_L_add _ _ (vi (aN Q.2.1 : Int) :: _) _ _ _ _ _
    rw [hv2]
    obtain ⟨hv3, hv4⟩ := hv1
    refine ZV_i2l dL_add_6 ⟨by omega, by omega⟩ ?_
    refine ZV_last (0) dL_add_7 (by assumption) (by first | rfl | omega) (by omega) (by omega) ?_
    refine ZV_goto (tgt := 14) dL_add_8 (by decide) ?_
    refine ZV_iconst dL_add_14 ?_
    refine ZV_iret dL_add_15 rfl ?_
    exact hx2 s e1 e2 e3 e4 e5 g I1 _ (hF1.lf o _) (hC1.out (fun q q1 q2 => ⟨rfl, up2_row _ _ (by omega)⟩)) v ⟨hv3, hv4⟩ hv2 (up2_same _ _ _ _)
theorem sp_L_change {c o : Nat} {i : Int} {Q : AC} (hC : CInv X g I J c Q) (ho : ksh X g o = some (.inr (1, 1))) (hoc : c + 726 ≤ o) (hr_i : r32 i) (hb : 2 ≤ b.1 ∧ 12 ≤ b.2) (hx0 : ¬ (0 ≤ i ∧ i < aN Q.2.1) → ∀ (g' : Geo) (I' J' : Mm), LFo g g' I I' J J' c o → CInv X g' I' J' c Q → post (.inl (some (vi 1))) g' I' J') (hx1 : (0 ≤ i ∧ i < aN Q.2.1) → ¬ oneW Q.1 → ∀ (g' : Geo) (I' J' : Mm), LFo g g' I I' J J' c o → CInv X g' I' J' c Q → post (.inl (some (vi 2))) g' I' J') (hx2 : (0 ≤ i ∧ i < aN Q.2.1) → ∀ s : PSt, rdv Q.1.2 Q.1.1 = -9 → rn Q.1.2 Q.1.1 = some s → s.1 = 1 → AWF (s.2.2.2 0) → ∀ (g' : Geo) (I' J' : Mm), LFo g g' I I' J J' c o → CInv X g' I' J' c (Q.1, aSet Q.2.1 i.toNat (s.2.2.2 0), hpush Q.2.2.1 Q.2.1, Q.2.2.2) → ∀ v, r32 v → vi (chgN (aSet Q.2.1 i.toNat (s.2.2.2 0)) (keyOf Q.2.1)) = vi v → J' o 0 = v → post (.inl (some (vi 0))) g' I' J') : ZV X E_L_change 0 [some (.ref c), some (vi i), some (.ref o), none] [] b g I J post := by
  have kc := hC.1.1.1
  refine ZV_aload_n dL_change_0 rfl ?_
  refine ZV_iconst dL_change_1 ?_
  refine ZV_aload_n dL_change_2 rfl ?_
  refine ZV_iload_n dL_change_3 rfl ?_
  refine clh_X6_change kL_change_46 dL_change_4 (by assumption) ⟨by omega, by omega⟩ (Nat.le_of_ble_eq_true rfl) ?_
  refine sp_X6_change hC hr_i ⟨by decide, by decide⟩ ?_ ?_ ?_
  · intro e0
    refine zH_thr hL_change_zIOB (fun q => ?_)
    refine ZV_astore3 dL_change_12 rfl (by decide) ?_
    refine ZV_iconst dL_change_13 ?_
    refine ZV_iret dL_change_14 rfl ?_
    exact hx0 e0 g I J ((CFr.rf g I J c).lf o J) hC
  · intro e0 e1 I1 J1 hF1 hC1
    refine zH_thr hL_change_zISE (fun q => ?_)
    refine ZV_astore3 dL_change_15 rfl (by decide) ?_
    refine ZV_iconst dL_change_16 ?_
    refine ZV_iret dL_change_17 rfl ?_
    exact hx1 e0 e1 g I1 J1 (hF1.lf o J1) hC1
  · intro e0 s e2 e3 e4 e5 I1 J1 hF1 hC1
    obtain ⟨v, hv1, hv2⟩ := vi_rep (chgN (aSet Q.2.1 i.toNat (s.2.2.2 0)) (keyOf Q.2.1))
    show ZV X E_L_change _ _ (vi (chgN (aSet Q.2.1 i.toNat (s.2.2.2 0)) (keyOf Q.2.1)) :: _) _ _ _ _ _
    rw [hv2]
    obtain ⟨hv3, hv4⟩ := hv1
    refine ZV_i2l dL_change_7 ⟨by omega, by omega⟩ ?_
    refine ZV_last (0) dL_change_8 (by assumption) (by first | rfl | omega) (by omega) (by omega) ?_
    refine ZV_goto (tgt := 18) dL_change_9 (by decide) ?_
    refine ZV_iconst dL_change_18 ?_
    refine ZV_iret dL_change_19 rfl ?_
    exact hx2 e0 s e2 e3 e4 e5 g I1 _ (hF1.lf o _) (hC1.out (fun q q1 q2 => ⟨rfl, up2_row _ _ (by omega)⟩)) v ⟨hv3, hv4⟩ hv2 (up2_same _ _ _ _)
theorem sp_L_setYear {c o : Nat} {i y : Int} {Q : AC} (hC : CInv X g I J c Q) (ho : ksh X g o = some (.inr (1, 1))) (hoc : c + 726 ≤ o) (hr_i : r32 i) (hr_y : r32 y) (hb : 2 ≤ b.1 ∧ 12 ≤ b.2) (hx0 : ¬ (0 ≤ i ∧ i < aN Q.2.1) → ∀ (g' : Geo) (I' J' : Mm), LFo g g' I I' J J' c o → CInv X g' I' J' c Q → post (.inl (some (vi 1))) g' I' J') (hx1 : (0 ≤ i ∧ i < aN Q.2.1) → ¬ (1000 ≤ y ∧ y ≤ 2999) → ∀ (g' : Geo) (I' J' : Mm), LFo g g' I I' J J' c o → CInv X g' I' J' c Q → post (.inl (some (vi 2))) g' I' J') (hx2 : (0 ≤ i ∧ i < aN Q.2.1) → (1000 ≤ y ∧ y ≤ 2999) → ∀ (g' : Geo) (I' J' : Mm), LFo g g' I I' J J' c o → CInv X g' I' J' c (Q.1, aSet Q.2.1 i.toNat (yrW (aW Q.2.1 i.toNat) y), hpush Q.2.2.1 Q.2.1, Q.2.2.2) → ∀ v, r32 v → vi (chgN (aSet Q.2.1 i.toNat (yrW (aW Q.2.1 i.toNat) y)) (keyOf Q.2.1)) = vi v → J' o 0 = v → post (.inl (some (vi 0))) g' I' J') : ZV X E_L_setYear 0 [some (.ref c), some (vi i), some (vi y), some (.ref o), none] [] b g I J post := by
  have kc := hC.1.1.1
  refine ZV_aload_n dL_setYear_0 rfl ?_
  refine ZV_iconst dL_setYear_1 ?_
  refine ZV_aload_n dL_setYear_2 rfl ?_
  refine ZV_iload_n dL_setYear_3 rfl ?_
  refine ZV_iload_n dL_setYear_4 rfl ?_
  refine clh_X6_setYear kL_setYear_49 dL_setYear_5 (by assumption) ⟨by omega, by omega⟩ (Nat.le_of_ble_eq_true rfl) ?_
  refine sp_X6_setYear hC hr_i hr_y ⟨by decide, by decide⟩ ?_ ?_ ?_
  · intro e0
    refine zH_thr hL_setYear_zIOB (fun q => ?_)
    refine ZV_astore4 dL_setYear_13 rfl (by decide) ?_
    refine ZV_iconst dL_setYear_15 ?_
    refine ZV_iret dL_setYear_16 rfl ?_
    exact hx0 e0 g I J ((CFr.rf g I J c).lf o J) hC
  · intro e0 e1
    refine zH_thr hL_setYear_zIAE (fun q => ?_)
    refine ZV_astore4 dL_setYear_17 rfl (by decide) ?_
    refine ZV_iconst dL_setYear_19 ?_
    refine ZV_iret dL_setYear_20 rfl ?_
    exact hx1 e0 e1 g I J ((CFr.rf g I J c).lf o J) hC
  · intro e0 e1 I1 J1 hF1 hC1
    obtain ⟨v, hv1, hv2⟩ := vi_rep (chgN (aSet Q.2.1 i.toNat (yrW (aW Q.2.1 i.toNat) y)) (keyOf Q.2.1))
    show ZV X E_L_setYear _ _ (vi (chgN (aSet Q.2.1 i.toNat (yrW (aW Q.2.1 i.toNat) y)) (keyOf Q.2.1)) :: _) _ _ _ _ _
    rw [hv2]
    obtain ⟨hv3, hv4⟩ := hv1
    refine ZV_i2l dL_setYear_8 ⟨by omega, by omega⟩ ?_
    refine ZV_last (0) dL_setYear_9 (by assumption) (by first | rfl | omega) (by omega) (by omega) ?_
    refine ZV_goto (tgt := 21) dL_setYear_10 (by decide) ?_
    refine ZV_iconst dL_setYear_21 ?_
    refine ZV_iret dL_setYear_22 rfl ?_
    exact hx2 e0 e1 g I1 _ (hF1.lf o _) (hC1.out (fun q q1 q2 => ⟨rfl, up2_row _ _ (by omega)⟩)) v ⟨hv3, hv4⟩ hv2 (up2_same _ _ _ _)
theorem sp_L_remove {c o : Nat} {i : Int} {Q : AC} (hC : CInv X g I J c Q) (ho : ksh X g o = some (.inr (1, 1))) (hoc : c + 726 ≤ o) (hr_i : r32 i) (hb : 1 ≤ b.1 ∧ 6 ≤ b.2) (hx0 : ¬ (0 ≤ i ∧ i < aN Q.2.1) → ∀ (g' : Geo) (I' J' : Mm), LFo g g' I I' J J' c o → CInv X g' I' J' c Q → post (.inl (some (vi 1))) g' I' J') (hx1 : (0 ≤ i ∧ i < aN Q.2.1) → ∀ (g' : Geo) (I' J' : Mm), LFo g g' I I' J J' c o → CInv X g' I' J' c (Q.1, aTake Q.2.1 i.toNat, hpush Q.2.2.1 Q.2.1, Q.2.2.2) → ∀ v, r32 v → vi (chgN (aTake Q.2.1 i.toNat) (fun j => if j < i.toNat then keyOf Q.2.1 j else keyOf Q.2.1 (j + 1))) = vi v → J' o 0 = v → post (.inl (some (vi 0))) g' I' J') : ZV X E_L_remove 0 [some (.ref c), some (vi i), some (.ref o), none] [] b g I J post := by
  have kc := hC.1.1.1
  refine ZV_aload_n dL_remove_0 rfl ?_
  refine ZV_iconst dL_remove_1 ?_
  refine ZV_aload_n dL_remove_2 rfl ?_
  refine ZV_iload_n dL_remove_3 rfl ?_
  refine clh_X6_remove kL_remove_52 dL_remove_4 (by assumption) ⟨by omega, by omega⟩ (Nat.le_of_ble_eq_true rfl) ?_
  refine sp_X6_remove hC hr_i ⟨by decide, by decide⟩ ?_ ?_
  · intro e0
    refine zH_thr hL_remove_zIOB (fun q => ?_)
    refine ZV_astore3 dL_remove_12 rfl (by decide) ?_
    refine ZV_iconst dL_remove_13 ?_
    refine ZV_iret dL_remove_14 rfl ?_
    exact hx0 e0 g I J ((CFr.rf g I J c).lf o J) hC
  · intro e0 g1 I1 J1 hF1 hC1
    obtain ⟨v, hv1, hv2⟩ := vi_rep (chgN (aTake Q.2.1 i.toNat) (fun j => if j < i.toNat then keyOf Q.2.1 j else keyOf Q.2.1 (j + 1)))
    have ho : ksh X g1 o = some (.inr (1, 1)) := ksh_g ho hF1.1
    show ZV X E_L_remove _ _ (vi (chgN (aTake Q.2.1 i.toNat) (fun j => if j < i.toNat then keyOf Q.2.1 j else keyOf Q.2.1 (j + 1))) :: _) _ _ _ _ _
    rw [hv2]
    obtain ⟨hv3, hv4⟩ := hv1
    refine ZV_i2l dL_remove_7 ⟨by omega, by omega⟩ ?_
    refine ZV_last (0) dL_remove_8 (by assumption) (by first | rfl | omega) (by omega) (by omega) ?_
    refine ZV_goto (tgt := 15) dL_remove_9 (by decide) ?_
    refine ZV_iconst dL_remove_15 ?_
    refine ZV_iret dL_remove_16 rfl ?_
    exact hx1 e0 g1 I1 _ (hF1.lf o _) (hC1.out (fun q q1 q2 => ⟨rfl, up2_row _ _ (by omega)⟩)) v ⟨hv3, hv4⟩ hv2 (up2_same _ _ _ _)
theorem sp_L_setStyle {c o : Nat} {s : Int} {Q : AC} (hC : CInv X g I J c Q) (ho : ksh X g o = some (.inr (1, 1))) (hoc : c + 726 ≤ o) (hr_s : r32 s) (hb : 1 ≤ b.1 ∧ 6 ≤ b.2) (hx0 : ¬ (0 ≤ s ∧ s < 4) → ∀ (g' : Geo) (I' J' : Mm), LFo g g' I I' J J' c o → CInv X g' I' J' c Q → post (.inl (some (vi 1))) g' I' J') (hx1 : (0 ≤ s ∧ s < 4) → ∀ (g' : Geo) (I' J' : Mm), LFo g g' I I' J J' c o → CInv X g' I' J' c (Q.1, aSty Q.2.1 s, hpush Q.2.2.1 Q.2.1, Q.2.2.2) → ∀ v, r32 v → vi (aS Q.2.1) = vi v → J' o 0 = v → post (.inl (some (vi 0))) g' I' J') : ZV X E_L_setStyle 0 [some (.ref c), some (vi s), some (.ref o), none] [] b g I J post := by
  have kc := hC.1.1.1
  refine ZV_aload_n dL_setStyle_0 rfl ?_
  refine ZV_iconst dL_setStyle_1 ?_
  refine ZV_aload_n dL_setStyle_2 rfl ?_
  refine ZV_iload_n dL_setStyle_3 rfl ?_
  refine clh_X6_setStyle kL_setStyle_55 dL_setStyle_4 (by assumption) ⟨by omega, by omega⟩ (Nat.le_of_ble_eq_true rfl) ?_
  refine sp_X6_setStyle hC hr_s ⟨by decide, by decide⟩ ?_ ?_
  · intro e0
    refine zH_thr hL_setStyle_zIAE (fun q => ?_)
    refine ZV_astore3 dL_setStyle_12 rfl (by decide) ?_
    refine ZV_iconst dL_setStyle_13 ?_
    refine ZV_iret dL_setStyle_14 rfl ?_
    exact hx0 e0 g I J ((CFr.rf g I J c).lf o J) hC
  · intro e0 I1 J1 hF1 hC1
    obtain ⟨v, hv1, hv2⟩ := vi_rep (aS Q.2.1)
    show ZV X E_L_setStyle _ _ (vi (aS Q.2.1) :: _) _ _ _ _ _
    rw [hv2]
    obtain ⟨hv3, hv4⟩ := hv1
    refine ZV_i2l dL_setStyle_7 ⟨by omega, by omega⟩ ?_
    refine ZV_last (0) dL_setStyle_8 (by assumption) (by first | rfl | omega) (by omega) (by omega) ?_
    refine ZV_goto (tgt := 15) dL_setStyle_9 (by decide) ?_
    refine ZV_iconst dL_setStyle_15 ?_
    refine ZV_iret dL_setStyle_16 rfl ?_
    exact hx1 e0 g I1 _ (hF1.lf o _) (hC1.out (fun q q1 q2 => ⟨rfl, up2_row _ _ (by omega)⟩)) v ⟨hv3, hv4⟩ hv2 (up2_same _ _ _ _)
theorem sp_L_setOrder {c o : Nat} {s : Int} {Q : AC} (hC : CInv X g I J c Q) (ho : ksh X g o = some (.inr (1, 1))) (hoc : c + 726 ≤ o) (hr_s : r32 s) (hb : 1 ≤ b.1 ∧ 6 ≤ b.2) (hx0 : ¬ (0 ≤ s ∧ s < 2) → ∀ (g' : Geo) (I' J' : Mm), LFo g g' I I' J J' c o → CInv X g' I' J' c Q → post (.inl (some (vi 1))) g' I' J') (hx1 : (0 ≤ s ∧ s < 2) → ∀ (g' : Geo) (I' J' : Mm), LFo g g' I I' J J' c o → CInv X g' I' J' c (Q.1, aOrd Q.2.1 s, hpush Q.2.2.1 Q.2.1, Q.2.2.2) → ∀ v, r32 v → vi (chgN (aOrd Q.2.1 s) (keyOf Q.2.1)) = vi v → J' o 0 = v → post (.inl (some (vi 0))) g' I' J') : ZV X E_L_setOrder 0 [some (.ref c), some (vi s), some (.ref o), none] [] b g I J post := by
  have kc := hC.1.1.1
  refine ZV_aload_n dL_setOrder_0 rfl ?_
  refine ZV_iconst dL_setOrder_1 ?_
  refine ZV_aload_n dL_setOrder_2 rfl ?_
  refine ZV_iload_n dL_setOrder_3 rfl ?_
  refine clh_X6_setOrder kL_setOrder_58 dL_setOrder_4 (by assumption) ⟨by omega, by omega⟩ (Nat.le_of_ble_eq_true rfl) ?_
  refine sp_X6_setOrder hC hr_s ⟨by decide, by decide⟩ ?_ ?_
  · intro e0
    refine zH_thr hL_setOrder_zIAE (fun q => ?_)
    refine ZV_astore3 dL_setOrder_12 rfl (by decide) ?_
    refine ZV_iconst dL_setOrder_13 ?_
    refine ZV_iret dL_setOrder_14 rfl ?_
    exact hx0 e0 g I J ((CFr.rf g I J c).lf o J) hC
  · intro e0 I1 J1 hF1 hC1
    obtain ⟨v, hv1, hv2⟩ := vi_rep (chgN (aOrd Q.2.1 s) (keyOf Q.2.1))
    show ZV X E_L_setOrder _ _ (vi (chgN (aOrd Q.2.1 s) (keyOf Q.2.1)) :: _) _ _ _ _ _
    rw [hv2]
    obtain ⟨hv3, hv4⟩ := hv1
    refine ZV_i2l dL_setOrder_7 ⟨by omega, by omega⟩ ?_
    refine ZV_last (0) dL_setOrder_8 (by assumption) (by first | rfl | omega) (by omega) (by omega) ?_
    refine ZV_goto (tgt := 15) dL_setOrder_9 (by decide) ?_
    refine ZV_iconst dL_setOrder_15 ?_
    refine ZV_iret dL_setOrder_16 rfl ?_
    exact hx1 e0 g I1 _ (hF1.lf o _) (hC1.out (fun q q1 q2 => ⟨rfl, up2_row _ _ (by omega)⟩)) v ⟨hv3, hv4⟩ hv2 (up2_same _ _ _ _)
theorem sp_L_undo {c o : Nat} {Q : AC} (hC : CInv X g I J c Q) (ho : ksh X g o = some (.inr (1, 1))) (hoc : c + 726 ≤ o)  (hb : 1 ≤ b.1 ∧ 6 ≤ b.2) (hx0 : Q.2.2.1.1 = 0 → ∀ (g' : Geo) (I' J' : Mm), LFo g g' I I' J J' c o → CInv X g' I' J' c Q → post (.inl (some (vi 1))) g' I' J') (hx1 : ∀ k : Nat, Q.2.2.1.1 = k + 1 → ∀ (g' : Geo) (I' J' : Mm), LFo g g' I I' J J' c o → CInv X g' I' J' c (Q.1, Q.2.2.1.2 k, (k, Q.2.2.1.2), Q.2.2.2) → ∀ v, r32 v → vi (k : Int) = vi v → J' o 0 = v → post (.inl (some (vi 0))) g' I' J') : ZV X E_L_undo 0 [some (.ref c), some (.ref o), none] [] b g I J post := by
  have kc := hC.1.1.1
  refine ZV_aload_n dL_undo_0 rfl ?_
  refine ZV_iconst dL_undo_1 ?_
  refine ZV_aload_n dL_undo_2 rfl ?_
  refine clh_X6_undo kL_undo_61 dL_undo_3 (by assumption) ⟨by omega, by omega⟩ (Nat.le_of_ble_eq_true rfl) ?_
  refine sp_X6_undo hC  ⟨by decide, by decide⟩ ?_ ?_
  · intro e0
    refine zH_thr hL_undo_zISE (fun q => ?_)
    refine ZV_astore2 dL_undo_11 rfl (by decide) ?_
    refine ZV_iconst dL_undo_12 ?_
    refine ZV_iret dL_undo_13 rfl ?_
    exact hx0 e0 g I J ((CFr.rf g I J c).lf o J) hC
  · intro k e1 I1 J1 hF1 hC1
    obtain ⟨v, hv1, hv2⟩ := vi_rep (k : Int)
    show ZV X E_L_undo _ _ (vi (k : Int) :: _) _ _ _ _ _
    rw [hv2]
    obtain ⟨hv3, hv4⟩ := hv1
    refine ZV_i2l dL_undo_6 ⟨by omega, by omega⟩ ?_
    refine ZV_last (0) dL_undo_7 (by assumption) (by first | rfl | omega) (by omega) (by omega) ?_
    refine ZV_goto (tgt := 14) dL_undo_8 (by decide) ?_
    refine ZV_iconst dL_undo_14 ?_
    refine ZV_iret dL_undo_15 rfl ?_
    exact hx1 k e1 g I1 _ (hF1.lf o _) (hC1.out (fun q q1 q2 => ⟨rfl, up2_row _ _ (by omega)⟩)) v ⟨hv3, hv4⟩ hv2 (up2_same _ _ _ _)
theorem sp_L_ifRemoved {c o : Nat} {i : Int} {Q : AC} (hC : CInv X g I J c Q) (ho : ksh X g o = some (.inr (1, 1))) (hoc : c + 726 ≤ o) (hr_i : r32 i) (hb : 1 ≤ b.1 ∧ 6 ≤ b.2) (hx0 : ¬ (0 ≤ i ∧ i < aN Q.2.1) → ∀ (g' : Geo) (I' J' : Mm), LFo g g' I I' J J' c o → CInv X g' I' J' c Q → post (.inl (some (vi 1))) g' I' J') (hx1 : (0 ≤ i ∧ i < aN Q.2.1) → ∀ (g' : Geo) (I' J' : Mm), LFo g g' I I' J J' c o → CInv X g' I' J' c Q → ∀ v, r32 v → vi (hangN Q.2.1 i.toNat) = vi v → J' o 0 = v → post (.inl (some (vi 0))) g' I' J') : ZV X E_L_ifRemoved 0 [some (.ref c), some (vi i), some (.ref o), none] [] b g I J post := by
  have kc := hC.1.1.1
  refine ZV_aload_n dL_ifRemoved_0 rfl ?_
  refine ZV_iconst dL_ifRemoved_1 ?_
  refine ZV_aload_n dL_ifRemoved_2 rfl ?_
  refine ZV_iload_n dL_ifRemoved_3 rfl ?_
  refine clh_X6_ifRemoved kL_ifRemoved_64 dL_ifRemoved_4 (by assumption) ⟨by omega, by omega⟩ (Nat.le_of_ble_eq_true rfl) ?_
  refine sp_X6_ifRemoved hC hr_i ⟨by decide, by decide⟩ ?_ ?_
  · intro e0
    refine zH_thr hL_ifRemoved_zIOB (fun q => ?_)
    refine ZV_astore3 dL_ifRemoved_12 rfl (by decide) ?_
    refine ZV_iconst dL_ifRemoved_13 ?_
    refine ZV_iret dL_ifRemoved_14 rfl ?_
    exact hx0 e0 g I J ((CFr.rf g I J c).lf o J) hC
  · intro e0 g1 I1 J1 hF1 hC1
    obtain ⟨v, hv1, hv2⟩ := vi_rep (hangN Q.2.1 i.toNat)
    have ho : ksh X g1 o = some (.inr (1, 1)) := ksh_g ho hF1.1
    show ZV X E_L_ifRemoved _ _ (vi (hangN Q.2.1 i.toNat) :: _) _ _ _ _ _
    rw [hv2]
    obtain ⟨hv3, hv4⟩ := hv1
    refine ZV_i2l dL_ifRemoved_7 ⟨by omega, by omega⟩ ?_
    refine ZV_last (0) dL_ifRemoved_8 (by assumption) (by first | rfl | omega) (by omega) (by omega) ?_
    refine ZV_goto (tgt := 15) dL_ifRemoved_9 (by decide) ?_
    refine ZV_iconst dL_ifRemoved_15 ?_
    refine ZV_iret dL_ifRemoved_16 rfl ?_
    exact hx1 e0 g1 I1 _ (hF1.lf o _) (hC1.out (fun q q1 q2 => ⟨rfl, up2_row _ _ (by omega)⟩)) v ⟨hv3, hv4⟩ hv2 (up2_same _ _ _ _)
theorem sp_L_freeYear {c o : Nat} {i : Int} {Q : AC} (hC : CInv X g I J c Q) (ho : ksh X g o = some (.inr (1, 1))) (hoc : c + 726 ≤ o) (hr_i : r32 i) (hb : 1 ≤ b.1 ∧ 6 ≤ b.2) (hx0 : ¬ (0 ≤ i ∧ i < aN Q.2.1) → ∀ (g' : Geo) (I' J' : Mm), LFo g g' I I' J J' c o → CInv X g' I' J' c Q → post (.inl (some (vi 1))) g' I' J') (hx1 : (0 ≤ i ∧ i < aN Q.2.1) → ∀ (g' : Geo) (I' J' : Mm), LFo g g' I I' J J' c o → CInv X g' I' J' c Q → ∀ v, r32 v → vi (fyF Q.2.1 i.toNat 2000) = vi v → J' o 0 = v → post (.inl (some (vi 0))) g' I' J') : ZV X E_L_freeYear 0 [some (.ref c), some (vi i), some (.ref o), none] [] b g I J post := by
  have kc := hC.1.1.1
  refine ZV_aload_n dL_freeYear_0 rfl ?_
  refine ZV_iconst dL_freeYear_1 ?_
  refine ZV_aload_n dL_freeYear_2 rfl ?_
  refine ZV_iload_n dL_freeYear_3 rfl ?_
  refine clh_X6_freeYear kL_freeYear_67 dL_freeYear_4 (by assumption) ⟨by omega, by omega⟩ (Nat.le_of_ble_eq_true rfl) ?_
  refine sp_X6_freeYear hC hr_i ⟨by decide, by decide⟩ ?_ ?_
  · intro e0
    refine zH_thr hL_freeYear_zIOB (fun q => ?_)
    refine ZV_astore3 dL_freeYear_12 rfl (by decide) ?_
    refine ZV_iconst dL_freeYear_13 ?_
    refine ZV_iret dL_freeYear_14 rfl ?_
    exact hx0 e0 g I J ((CFr.rf g I J c).lf o J) hC
  · intro e0
    obtain ⟨v, hv1, hv2⟩ := vi_rep (fyF Q.2.1 i.toNat 2000)
    show ZV X E_L_freeYear _ _ (vi (fyF Q.2.1 i.toNat 2000) :: _) _ _ _ _ _
    rw [hv2]
    obtain ⟨hv3, hv4⟩ := hv1
    refine ZV_i2l dL_freeYear_7 ⟨by omega, by omega⟩ ?_
    refine ZV_last (0) dL_freeYear_8 (by assumption) (by first | rfl | omega) (by omega) (by omega) ?_
    refine ZV_goto (tgt := 15) dL_freeYear_9 (by decide) ?_
    refine ZV_iconst dL_freeYear_15 ?_
    refine ZV_iret dL_freeYear_16 rfl ?_
    exact hx1 e0 g I _ ((CFr.rf g I J c).lf o _) (hC.out (fun q q1 q2 => ⟨rfl, up2_row _ _ (by omega)⟩)) v ⟨hv3, hv4⟩ hv2 (up2_same _ _ _ _)
theorem sp_L_lettersWith {c o : Nat} {s : Int} {Q : AC} (hC : CInv X g I J c Q) (ho : ksh X g o = some (.inr (1, 1))) (hoc : c + 726 ≤ o) (hr_s : r32 s) (hb : 1 ≤ b.1 ∧ 6 ≤ b.2) (hx0 : ¬ (0 ≤ s ∧ s < 4) → ∀ (g' : Geo) (I' J' : Mm), LFo g g' I I' J J' c o → CInv X g' I' J' c Q → post (.inl (some (vi 1))) g' I' J') (hx1 : (0 ≤ s ∧ s < 4) → ∀ (g' : Geo) (I' J' : Mm), LFo g g' I I' J J' c o → CInv X g' I' J' c Q → ∀ v, r32 v → vi (letdN (aSty Q.2.1 s)) = vi v → J' o 0 = v → post (.inl (some (vi 0))) g' I' J') : ZV X E_L_lettersWith 0 [some (.ref c), some (vi s), some (.ref o), none] [] b g I J post := by
  have kc := hC.1.1.1
  refine ZV_aload_n dL_lettersWith_0 rfl ?_
  refine ZV_iconst dL_lettersWith_1 ?_
  refine ZV_aload_n dL_lettersWith_2 rfl ?_
  refine ZV_iload_n dL_lettersWith_3 rfl ?_
  refine clh_X6_lettersWith kL_lettersWith_70 dL_lettersWith_4 (by assumption) ⟨by omega, by omega⟩ (Nat.le_of_ble_eq_true rfl) ?_
  refine sp_X6_lettersWith hC hr_s ⟨by decide, by decide⟩ ?_ ?_
  · intro e0
    refine zH_thr hL_lettersWith_zIAE (fun q => ?_)
    refine ZV_astore3 dL_lettersWith_12 rfl (by decide) ?_
    refine ZV_iconst dL_lettersWith_13 ?_
    refine ZV_iret dL_lettersWith_14 rfl ?_
    exact hx0 e0 g I J ((CFr.rf g I J c).lf o J) hC
  · intro e0 I1 J1 hF1 hC1
    obtain ⟨v, hv1, hv2⟩ := vi_rep (letdN (aSty Q.2.1 s))
    show ZV X E_L_lettersWith _ _ (vi (letdN (aSty Q.2.1 s)) :: _) _ _ _ _ _
    rw [hv2]
    obtain ⟨hv3, hv4⟩ := hv1
    refine ZV_i2l dL_lettersWith_7 ⟨by omega, by omega⟩ ?_
    refine ZV_last (0) dL_lettersWith_8 (by assumption) (by first | rfl | omega) (by omega) (by omega) ?_
    refine ZV_goto (tgt := 15) dL_lettersWith_9 (by decide) ?_
    refine ZV_iconst dL_lettersWith_15 ?_
    refine ZV_iret dL_lettersWith_16 rfl ?_
    exact hx1 e0 g I1 _ (hF1.lf o _) (hC1.out (fun q q1 q2 => ⟨rfl, up2_row _ _ (by omega)⟩)) v ⟨hv3, hv4⟩ hv2 (up2_same _ _ _ _)
theorem sp_L_runScript {c o : Nat} {n s : Int} {Q : AC} (hC : CInv X g I J c Q) (ho : ksh X g o = some (.inr (1, 1))) (hoc : c + 726 ≤ o) (hr_n : r32 n) (hr_s : r64 s) (hb : 1 ≤ b.1 ∧ 6 ≤ b.2) (hx0 : ¬ (1 ≤ n ∧ n ≤ 4) → ∀ (g' : Geo) (I' J' : Mm), LFo g g' I I' J J' c o → CInv X g' I' J' c Q → post (.inl (some (vi 1))) g' I' J') (hx1 : (1 ≤ n ∧ n ≤ 4) → ¬ (0 ≤ s ∧ s < un n.toNat) → ∀ (g' : Geo) (I' J' : Mm), LFo g g' I I' J J' c o → CInv X g' I' J' c Q → post (.inl (some (vi 1))) g' I' J') (hx2 : (1 ≤ n ∧ n ≤ 4) → (0 ≤ s ∧ s < un n.toNat) → ∀ (g' : Geo) (I' J' : Mm), LFo g g' I I' J J' c o → CInv X g' I' J' c Q → ∀ v, r32 v → vi (scF Q.2.1 s n.toNat) = vi v → J' o 0 = v → post (.inl (some (vi 0))) g' I' J') : ZV X E_L_runScript 0 [some (.ref c), some (vi n), some (vl s), none, some (.ref o), none] [] b g I J post := by
  have kc := hC.1.1.1
  refine ZV_aload dL_runScript_0 rfl ?_
  refine ZV_iconst dL_runScript_2 ?_
  refine ZV_aload_n dL_runScript_3 rfl ?_
  refine ZV_iload_n dL_runScript_4 rfl ?_
  refine ZV_lload_n dL_runScript_5 rfl ?_
  refine clh_X6_runScript kL_runScript_73 dL_runScript_6 (by assumption) ⟨by omega, by omega⟩ (Nat.le_of_ble_eq_true rfl) ?_
  refine sp_X6_runScript hC hr_n hr_s ⟨by decide, by decide⟩ ?_ ?_ ?_
  · intro e0
    refine zH_thr hL_runScript_zIAE (fun q => ?_)
    refine ZV_astore5 dL_runScript_14 rfl (by decide) ?_
    refine ZV_iconst dL_runScript_16 ?_
    refine ZV_iret dL_runScript_17 rfl ?_
    exact hx0 e0 g I J ((CFr.rf g I J c).lf o J) hC
  · intro e0 e1
    refine zH_thr hL_runScript_zIAE (fun q => ?_)
    refine ZV_astore5 dL_runScript_14 rfl (by decide) ?_
    refine ZV_iconst dL_runScript_16 ?_
    refine ZV_iret dL_runScript_17 rfl ?_
    exact hx1 e0 e1 g I J ((CFr.rf g I J c).lf o J) hC
  · intro e0 e1 g1 I1 J1 hF1 hC1
    obtain ⟨v, hv1, hv2⟩ := vi_rep (scF Q.2.1 s n.toNat)
    have ho : ksh X g1 o = some (.inr (1, 1)) := ksh_g ho hF1.1
    show ZV X E_L_runScript _ _ (vi (scF Q.2.1 s n.toNat) :: _) _ _ _ _ _
    rw [hv2]
    obtain ⟨hv3, hv4⟩ := hv1
    refine ZV_i2l dL_runScript_9 ⟨by omega, by omega⟩ ?_
    refine ZV_last (0) dL_runScript_10 (by assumption) (by first | rfl | omega) (by omega) (by omega) ?_
    refine ZV_goto (tgt := 18) dL_runScript_11 (by decide) ?_
    refine ZV_iconst dL_runScript_18 ?_
    refine ZV_iret dL_runScript_19 rfl ?_
    exact hx2 e0 e1 g1 I1 _ (hF1.lf o _) (hC1.out (fun q q1 q2 => ⟨rfl, up2_row _ _ (by omega)⟩)) v ⟨hv3, hv4⟩ hv2 (up2_same _ _ _ _)
theorem sp_L_simulate {c o : Nat} {s n : Int} {Q : AC} (hC : CInv X g I J c Q) (ho : ksh X g o = some (.inr (1, 1))) (hoc : c + 726 ≤ o) (hr_s : r64 s) (hr_n : r32 n) (hb : 1 ≤ b.1 ∧ 6 ≤ b.2) (hx0 : ¬ (1 ≤ n ∧ n ≤ 99) → ∀ (g' : Geo) (I' J' : Mm), LFo g g' I I' J J' c o → CInv X g' I' J' c Q → post (.inl (some (vi 1))) g' I' J') (hx1 : (1 ≤ n ∧ n ≤ 99) → ∀ (g' : Geo) (I' J' : Mm), LFo g g' I I' J J' c o → CInv X g' I' J' c Q → ∀ v, r32 v → vi (100 * (aN (smS Q.2.1 s n.toNat) : Int) + letdN (smS Q.2.1 s n.toNat)) = vi v → J' o 0 = v → post (.inl (some (vi 0))) g' I' J') : ZV X E_L_simulate 0 [some (.ref c), some (vl s), none, some (vi n), some (.ref o), none] [] b g I J post := by
  have kc := hC.1.1.1
  refine ZV_aload dL_simulate_0 rfl ?_
  refine ZV_iconst dL_simulate_2 ?_
  refine ZV_aload_n dL_simulate_3 rfl ?_
  refine ZV_lload_n dL_simulate_4 rfl ?_
  refine ZV_iload_n dL_simulate_5 rfl ?_
  refine clh_X6_simulate kL_simulate_77 dL_simulate_6 (by assumption) ⟨by omega, by omega⟩ (Nat.le_of_ble_eq_true rfl) ?_
  refine sp_X6_simulate hC hr_n ⟨by decide, by decide⟩ ?_ ?_
  · intro e0
    refine zH_thr hL_simulate_zIAE (fun q => ?_)
    refine ZV_astore5 dL_simulate_14 rfl (by decide) ?_
    refine ZV_iconst dL_simulate_16 ?_
    refine ZV_iret dL_simulate_17 rfl ?_
    exact hx0 e0 g I J ((CFr.rf g I J c).lf o J) hC
  · intro e0 g1 I1 J1 hF1 hC1
    obtain ⟨v, hv1, hv2⟩ := vi_rep (100 * (aN (smS Q.2.1 s n.toNat) : Int) + letdN (smS Q.2.1 s n.toNat))
    have ho : ksh X g1 o = some (.inr (1, 1)) := ksh_g ho hF1.1
    show ZV X E_L_simulate _ _ (vi (100 * (aN (smS Q.2.1 s n.toNat) : Int) + letdN (smS Q.2.1 s n.toNat)) :: _) _ _ _ _ _
    rw [hv2]
    obtain ⟨hv3, hv4⟩ := hv1
    refine ZV_i2l dL_simulate_9 ⟨by omega, by omega⟩ ?_
    refine ZV_last (0) dL_simulate_10 (by assumption) (by first | rfl | omega) (by omega) (by omega) ?_
    refine ZV_goto (tgt := 18) dL_simulate_11 (by decide) ?_
    refine ZV_iconst dL_simulate_18 ?_
    refine ZV_iret dL_simulate_19 rfl ?_
    exact hx1 e0 g1 I1 _ (hF1.lf o _) (hC1.out (fun q q1 q2 => ⟨rfl, up2_row _ _ (by omega)⟩)) v ⟨hv3, hv4⟩ hv2 (up2_same _ _ _ _)
theorem sp_L_save {c o : Nat} {s : Int} {Q : AC} (hC : CInv X g I J c Q) (ho : ksh X g o = some (.inr (1, 1))) (hoc : c + 726 ≤ o) (hr_s : r32 s) (hb : 1 ≤ b.1 ∧ 6 ≤ b.2) (hx0 : ¬ (0 ≤ s ∧ s < 2) → ∀ (g' : Geo) (I' J' : Mm), LFo g g' I I' J J' c o → CInv X g' I' J' c Q → post (.inl (some (vi 1))) g' I' J') (hx1 : (0 ≤ s ∧ s < 2) → ∀ (g' : Geo) (I' J' : Mm), LFo g g' I I' J J' c o → CInv X g' I' J' c (Q.1, Q.2.1, Q.2.2.1, fun k => if k = s.toNat then some Q.2.1 else Q.2.2.2 k) → ∀ v, r32 v → vi (aN Q.2.1 : Int) = vi v → J' o 0 = v → post (.inl (some (vi 0))) g' I' J') : ZV X E_L_save 0 [some (.ref c), some (vi s), some (.ref o), none] [] b g I J post := by
  have kc := hC.1.1.1
  refine ZV_aload_n dL_save_0 rfl ?_
  refine ZV_iconst dL_save_1 ?_
  refine ZV_aload_n dL_save_2 rfl ?_
  refine ZV_iload_n dL_save_3 rfl ?_
  refine clh_X6_save kL_save_81 dL_save_4 (by assumption) ⟨by omega, by omega⟩ (Nat.le_of_ble_eq_true rfl) ?_
  refine sp_X6_save hC hr_s ⟨by decide, by decide⟩ ?_ ?_
  · intro e0
    refine zH_thr hL_save_zIOB (fun q => ?_)
    refine ZV_astore3 dL_save_12 rfl (by decide) ?_
    refine ZV_iconst dL_save_13 ?_
    refine ZV_iret dL_save_14 rfl ?_
    exact hx0 e0 g I J ((CFr.rf g I J c).lf o J) hC
  · intro e0 I1 J1 hF1 hC1
    obtain ⟨v, hv1, hv2⟩ := vi_rep (aN Q.2.1 : Int)
    show ZV X E_L_save _ _ (vi (aN Q.2.1 : Int) :: _) _ _ _ _ _
    rw [hv2]
    obtain ⟨hv3, hv4⟩ := hv1
    refine ZV_i2l dL_save_7 ⟨by omega, by omega⟩ ?_
    refine ZV_last (0) dL_save_8 (by assumption) (by first | rfl | omega) (by omega) (by omega) ?_
    refine ZV_goto (tgt := 15) dL_save_9 (by decide) ?_
    refine ZV_iconst dL_save_15 ?_
    refine ZV_iret dL_save_16 rfl ?_
    exact hx1 e0 g I1 _ (hF1.lf o _) (hC1.out (fun q q1 q2 => ⟨rfl, up2_row _ _ (by omega)⟩)) v ⟨hv3, hv4⟩ hv2 (up2_same _ _ _ _)
theorem sp_L_restore {c o : Nat} {s : Int} {Q : AC} (hC : CInv X g I J c Q) (ho : ksh X g o = some (.inr (1, 1))) (hoc : c + 726 ≤ o) (hr_s : r32 s) (hb : 2 ≤ b.1 ∧ 12 ≤ b.2) (hx0 : ¬ (0 ≤ s ∧ s < 2) → ∀ (g' : Geo) (I' J' : Mm), LFo g g' I I' J J' c o → CInv X g' I' J' c Q → post (.inl (some (vi 1))) g' I' J') (hx1 : (0 ≤ s ∧ s < 2) → Q.2.2.2 s.toNat = none → ∀ (g' : Geo) (I' J' : Mm), LFo g g' I I' J J' c o → CInv X g' I' J' c Q → post (.inl (some (vi 2))) g' I' J') (hx2 : (0 ≤ s ∧ s < 2) → ∀ B : ASt, Q.2.2.2 s.toNat = some B → ∀ (g' : Geo) (I' J' : Mm), LFo g g' I I' J J' c o → CInv X g' I' J' c (Q.1, B, (0, Q.2.2.1.2), Q.2.2.2) → ∀ v, r32 v → vi (aN B : Int) = vi v → J' o 0 = v → post (.inl (some (vi 0))) g' I' J') : ZV X E_L_restore 0 [some (.ref c), some (vi s), some (.ref o), none] [] b g I J post := by
  have kc := hC.1.1.1
  refine ZV_aload_n dL_restore_0 rfl ?_
  refine ZV_iconst dL_restore_1 ?_
  refine ZV_aload_n dL_restore_2 rfl ?_
  refine ZV_iload_n dL_restore_3 rfl ?_
  refine clh_X6_restore kL_restore_84 dL_restore_4 (by assumption) ⟨by omega, by omega⟩ (Nat.le_of_ble_eq_true rfl) ?_
  refine sp_X6_restore hC hr_s ⟨by decide, by decide⟩ ?_ ?_ ?_
  · intro e0
    refine zH_thr hL_restore_zIOB (fun q => ?_)
    refine ZV_astore3 dL_restore_12 rfl (by decide) ?_
    refine ZV_iconst dL_restore_13 ?_
    refine ZV_iret dL_restore_14 rfl ?_
    exact hx0 e0 g I J ((CFr.rf g I J c).lf o J) hC
  · intro e0 e1
    refine zH_thr hL_restore_zISE (fun q => ?_)
    refine ZV_astore3 dL_restore_15 rfl (by decide) ?_
    refine ZV_iconst dL_restore_16 ?_
    refine ZV_iret dL_restore_17 rfl ?_
    exact hx1 e0 e1 g I J ((CFr.rf g I J c).lf o J) hC
  · intro e0 B e2 I1 J1 hF1 hC1
    obtain ⟨v, hv1, hv2⟩ := vi_rep (aN B : Int)
    show ZV X E_L_restore _ _ (vi (aN B : Int) :: _) _ _ _ _ _
    rw [hv2]
    obtain ⟨hv3, hv4⟩ := hv1
    refine ZV_i2l dL_restore_7 ⟨by omega, by omega⟩ ?_
    refine ZV_last (0) dL_restore_8 (by assumption) (by first | rfl | omega) (by omega) (by omega) ?_
    refine ZV_goto (tgt := 18) dL_restore_9 (by decide) ?_
    refine ZV_iconst dL_restore_18 ?_
    refine ZV_iret dL_restore_19 rfl ?_
    exact hx2 e0 B e2 g I1 _ (hF1.lf o _) (hC1.out (fun q q1 q2 => ⟨rfl, up2_row _ _ (by omega)⟩)) v ⟨hv3, hv4⟩ hv2 (up2_same _ _ _ _)
end ZL1

