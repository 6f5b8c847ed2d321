/-! the law's wrappers of the class's calls -/
theorem CInv.good {X : Xt} {g : Geo} {I J : Mm} {c : Nat} {Q : AC} (h : CInv X g I J c Q) : GoodSt Q.2.1 := h.2.2.2.1.2
theorem CInv.hist {X : Xt} {g : Geo} {I J : Mm} {c : Nat} {Q : AC} (h : CInv X g I J c Q) : Q.2.2.1.1 ≤ 14 := by
  obtain ⟨-, -, -, -, ⟨o, -, -, -, h4, -⟩, -⟩ := h
  exact h4
theorem CInv.slot {X : Xt} {g : Geo} {I J : Mm} {c : Nat} {Q : AC} (h : CInv X g I J c Q) {s : Nat} (hs : s < 2) {B : ASt} (e : Q.2.2.2 s = some B) : GoodSt B := by
  obtain ⟨-, -, -, -, -, hV⟩ := h
  rcases hV s hs with ⟨e2, -⟩ | ⟨A, e2, -, hA⟩
  · rw [e] at e2; cases e2
  · rw [e] at e2; cases e2; exact hA.2
section ZL1
variable {X : Xt} {g : Geo} {I J : Mm} {b : Nat × Nat} {post : Out → Geo → Mm → Mm → Prop}
theorem sp_L_append {c : Nat} {z : Int} {Q : AC} (hC : CInv X g I J c Q) (hr_z : r32 z) (hb : 1 ≤ b.1 ∧ 6 ≤ b.2) (h : ∀ g' I' J', CFr g g' I I' J J' c → CInv X g' I' J' c ((apL Q.1 z).2, Q.2) → post (.inl (some (vl (apL Q.1 z).1))) g' I' J') : ZV X E_L_append 0 [some (.ref c), some (vi z), none] [] b g I J post := by
  have kc := hC.1.1.1
  have hG := hC.good
  have h16 := hG.1.1
  refine ZV_aload_n dL_append_0 rfl ?_
  refine ZV_iload_n dL_append_1 rfl ?_
  refine clh_X6_append kL_append_9 dL_append_2 (by assumption) ⟨by omega, by omega⟩ (Nat.le_of_ble_eq_true rfl) ?_
  refine sp_X6_append hC hr_z ⟨by decide, by decide⟩ ?_ ?_ ?_
  · intro e0
    have eq : apL Q.1 z = (-9000000000000000002, Q.1) := if_neg e0
    rw [eq] at h
    refine zH_thr hL_append_zIAE (fun q => ?_)
    refine ZV_astore2 dL_append_7 rfl (by decide) ?_
    refine ZV_ldc2 (z := -9000000000000000002) dL_append_8 lL_append_17 ?_
    refine ZV_lret dL_append_11 rfl ?_
    exact h g I J (CFr.rf g I J c) hC
  · intro e0 e1
    have eq : apL Q.1 z = (-9000000000000000003, Q.1) := (if_pos e0).trans (if_neg (by omega))
    rw [eq] at h
    refine zH_thr hL_append_zISE (fun q => ?_)
    refine ZV_astore2 dL_append_12 rfl (by decide) ?_
    refine ZV_ldc2 (z := -9000000000000000003) dL_append_13 lL_append_21 ?_
    refine ZV_lret dL_append_16 rfl ?_
    exact h g I J (CFr.rf g I J c) hC
  · intro e0 e1 I1 J1 hF1 hC1
    have eq : apL Q.1 z = ((Q.1.1 : Int) + 1, txAdd Q.1 z) := (if_pos e0).trans (if_pos e1)
    rw [eq] at h
    show ZV X E_L_append _ _ (vi ((Q.1.1 : Int) + 1) :: _) _ _ _ _ _
    refine ZV_i2l dL_append_5 ⟨by omega, by omega⟩ ?_
    refine ZV_lret dL_append_6 rfl ?_
    exact h g I1 J1 hF1 hC1
theorem sp_L_load {c : Nat} {Q : AC} (hC : CInv X g I J c Q) (hb : 1 ≤ b.1 ∧ 6 ≤ b.2) (h : ∀ g' I' J', CFr g g' I I' J J' c → CInv X g' I' J' c (Q.1, (ldL Q.1 Q.2).2) → post (.inl (some (vl (ldL Q.1 Q.2).1))) g' I' J') : ZV X E_L_load 0 [some (.ref c), none] [] b g I J post := by
  have kc := hC.1.1.1
  have hG := hC.good
  have h16 := hG.1.1
  refine ZV_aload_n dL_load_0 rfl ?_
  refine clh_X6_load kL_load_23 dL_load_1 (by assumption) ⟨by omega, by omega⟩ (Nat.le_of_ble_eq_true rfl) ?_
  refine sp_X6_load hC  ⟨by decide, by decide⟩ ?_ ?_
  · intro e0 I1 J1 hF1 hC1
    have eq : ldL Q.1 Q.2 = (-9000000000000000003, Q.2) := if_neg e0
    rw [eq] at h
    refine zH_thr hL_load_zISE (fun q => ?_)
    refine ZV_astore1 dL_load_6 rfl (by decide) ?_
    refine ZV_ldc2 (z := -9000000000000000003) dL_load_7 lL_load_21 ?_
    refine ZV_lret dL_load_10 rfl ?_
    exact h g I1 J1 hF1 hC1
  · intro s e1 e2 e3 e4 I1 J1 hF1 hC1
    have eq : ldL Q.1 Q.2 = ((s.1 : Int), (aList Q.2.1 s.2.2.2 s.1, (0, Q.2.2.1.2), fun _ => none)) := by unfold ldL; rw [if_pos e1, e2] <;> rfl
    rw [eq] at h
    show ZV X E_L_load _ _ (vi ((s.1 : Int)) :: _) _ _ _ _ _
    refine ZV_i2l dL_load_4 ⟨by omega, by omega⟩ ?_
    refine ZV_lret dL_load_5 rfl ?_
    exact h g I1 J1 hF1 hC1
theorem sp_L_about {c : Nat} {k : Int} {Q : AC} (hC : CInv X g I J c Q) (hr_k : r32 k) (hb : 1 ≤ b.1 ∧ 6 ≤ b.2) (h : post (.inl (some (vl (abL Q.2.1 k)))) g I J) : ZV X E_L_about 0 [some (.ref c), some (vi k), none] [] b g I J post := by
  have kc := hC.1.1.1
  have hG := hC.good
  have h16 := hG.1.1
  refine ZV_aload_n dL_about_0 rfl ?_
  refine ZV_iload_n dL_about_1 rfl ?_
  refine clh_X6_about kL_about_27 dL_about_2 (by assumption) ⟨by omega, by omega⟩ (Nat.le_of_ble_eq_true rfl) ?_
  refine sp_X6_about hC hr_k ⟨by decide, by decide⟩ ?_ ?_
  · intro e0
    have eq : abL Q.2.1 k = abF Q.2.1 k := if_pos e0
    rw [eq] at h
    have hv := abF_rng hG k
    show ZV X E_L_about _ _ (vi (abF Q.2.1 k) :: _) _ _ _ _ _
    refine ZV_i2l dL_about_5 ⟨by omega, by omega⟩ ?_
    refine ZV_lret dL_about_6 rfl ?_
    exact h
  · intro e0
    have eq : abL Q.2.1 k = -9000000000000000002 := if_neg e0
    rw [eq] at h
    refine zH_thr hL_about_zIAE (fun q => ?_)
    refine ZV_astore2 dL_about_7 rfl (by decide) ?_
    refine ZV_ldc2 (z := -9000000000000000002) dL_about_8 lL_about_17 ?_
    refine ZV_lret dL_about_11 rfl ?_
    exact h
theorem sp_L_work {c : Nat} {i : Int} {k : Int} {Q : AC} (hC : CInv X g I J c Q) (hr_i : r32 i) (hr_k : r32 k) (hb : 2 ≤ b.1 ∧ 12 ≤ b.2) (h : post (.inl (some (vl (wkL Q.2.1 i k)))) g I J) : ZV X E_L_work 0 [some (.ref c), some (vi i), some (vi k), none] [] b g I J post := by
  have kc := hC.1.1.1
  have hG := hC.good
  have h16 := hG.1.1
  refine ZV_aload_n dL_work_0 rfl ?_
  refine ZV_iload_n dL_work_1 rfl ?_
  refine ZV_iload_n dL_work_2 rfl ?_
  refine clh_X6_work kL_work_30 dL_work_3 (by assumption) ⟨by omega, by omega⟩ (Nat.le_of_ble_eq_true rfl) ?_
  refine sp_X6_work hC hr_i hr_k ⟨by decide, by decide⟩ ?_ ?_ ?_
  · intro e0
    have eq : wkL Q.2.1 i k = -9000000000000000001 := if_neg e0
    rw [eq] at h
    refine zH_thr hL_work_zIOB (fun q => ?_)
    refine ZV_astore3 dL_work_8 rfl (by decide) ?_
    refine ZV_ldc2 (z := -9000000000000000001) dL_work_9 lL_work_36 ?_
    refine ZV_lret dL_work_12 rfl ?_
    exact h
  · intro e0 e1
    have eq : wkL Q.2.1 i k = -9000000000000000002 := (if_pos e0).trans (if_neg e1)
    rw [eq] at h
    refine zH_thr hL_work_zIAE (fun q => ?_)
    refine ZV_astore3 dL_work_13 rfl (by decide) ?_
    refine ZV_ldc2 (z := -9000000000000000002) dL_work_14 lL_work_17 ?_
    refine ZV_lret dL_work_17 rfl ?_
    exact h
  · intro e0 e1
    have eq : wkL Q.2.1 i k = wkF Q.2.1 i.toNat k := (if_pos e0).trans (if_pos e1)
    rw [eq] at h
    have hv := wkF_rng hG (i := i.toNat) (by omega) k
    show ZV X E_L_work _ _ (vi (wkF Q.2.1 i.toNat k) :: _) _ _ _ _ _
    refine ZV_i2l dL_work_6 ⟨by omega, by omega⟩ ?_
    refine ZV_lret dL_work_7 rfl ?_
    exact h
theorem sp_L_letter {c : Nat} {i : Int} {a : Int} {k : Int} {Q : AC} (hC : CInv X g I J c Q) (hr_i : r32 i) (hr_a : r32 a) (hr_k : r32 k) (hb : 2 ≤ b.1 ∧ 12 ≤ b.2) (h : post (.inl (some (vl (ltL Q.2.1 i a k)))) g I J) : ZV X E_L_letter 0 [some (.ref c), some (vi i), some (vi a), some (vi k), none] [] b g I J post := by
  have kc := hC.1.1.1
  have hG := hC.good
  have h16 := hG.1.1
  refine ZV_aload_n dL_letter_0 rfl ?_
  refine ZV_iload_n dL_letter_1 rfl ?_
  refine ZV_iload_n dL_letter_2 rfl ?_
  refine ZV_iload_n dL_letter_3 rfl ?_
  refine clh_X6_letter kL_letter_38 dL_letter_4 (by assumption) ⟨by omega, by omega⟩ (Nat.le_of_ble_eq_true rfl) ?_
  refine sp_X6_letter hC hr_i hr_a hr_k ⟨by decide, by decide⟩ ?_ ?_ ?_
  · intro e0
    have eq : ltL Q.2.1 i a k = -9000000000000000001 := if_neg e0
    rw [eq] at h
    refine zH_thr hL_letter_zIOB (fun q => ?_)
    refine ZV_astore4 dL_letter_9 rfl (by decide) ?_
    refine ZV_ldc2 (z := -9000000000000000001) dL_letter_11 lL_letter_36 ?_
    refine ZV_lret dL_letter_14 rfl ?_
    exact h
  · intro e0 e1
    have eq : ltL Q.2.1 i a k = -9000000000000000002 := (if_pos e0).trans (if_neg e1)
    rw [eq] at h
    refine zH_thr hL_letter_zIAE (fun q => ?_)
    refine ZV_astore4 dL_letter_15 rfl (by decide) ?_
    refine ZV_ldc2 (z := -9000000000000000002) dL_letter_17 lL_letter_17 ?_
    refine ZV_lret dL_letter_20 rfl ?_
    exact h
  · intro e0 e1
    have eq : ltL Q.2.1 i a k = codeAt (nmAt (aW Q.2.1 i.toNat) a) k := (if_pos e0).trans (if_pos e1)
    rw [eq] at h
    have hv := codeAt_rng (nmAt (aW Q.2.1 i.toNat) a) k
    show ZV X E_L_letter _ _ (vi (codeAt (nmAt (aW Q.2.1 i.toNat) a) k) :: _) _ _ _ _ _
    refine ZV_i2l dL_letter_7 ⟨by omega, by omega⟩ ?_
    refine ZV_lret dL_letter_8 rfl ?_
    exact h
theorem sp_L_key {c : Nat} {i : Int} {k : Int} {Q : AC} (hC : CInv X g I J c Q) (hr_i : r32 i) (hr_k : r32 k) (hb : 2 ≤ b.1 ∧ 12 ≤ b.2) (h : post (.inl (some (vl (kyL Q.2.1 i k)))) g I J) : ZV X E_L_key 0 [some (.ref c), some (vi i), some (vi k), none] [] b g I J post := by
  have kc := hC.1.1.1
  have hG := hC.good
  have h16 := hG.1.1
  refine ZV_aload_n dL_key_0 rfl ?_
  refine ZV_iload_n dL_key_1 rfl ?_
  refine ZV_iload_n dL_key_2 rfl ?_
  refine clh_X6_key kL_key_42 dL_key_3 (by assumption) ⟨by omega, by omega⟩ (Nat.le_of_ble_eq_true rfl) ?_
  refine sp_X6_key hC hr_i hr_k ⟨by decide, by decide⟩ ?_ ?_ ?_
  · intro e0
    have eq : kyL Q.2.1 i k = -9000000000000000001 := if_neg e0
    rw [eq] at h
    refine zH_thr hL_key_zIOB (fun q => ?_)
    refine ZV_astore3 dL_key_8 rfl (by decide) ?_
    refine ZV_ldc2 (z := -9000000000000000001) dL_key_9 lL_key_36 ?_
    refine ZV_lret dL_key_12 rfl ?_
    exact h
  · intro e0 e1
    have eq : kyL Q.2.1 i k = -9000000000000000002 := (if_pos e0).trans (if_pos e1)
    rw [eq] at h
    refine zH_thr hL_key_zIAE (fun q => ?_)
    refine ZV_astore3 dL_key_13 rfl (by decide) ?_
    refine ZV_ldc2 (z := -9000000000000000002) dL_key_14 lL_key_17 ?_
    refine ZV_lret dL_key_17 rfl ?_
    exact h
  · intro e0 e1
    have eq : kyL Q.2.1 i k = kch (keyOf Q.2.1 i.toNat) k := (if_pos e0).trans (if_neg (by omega))
    rw [eq] at h
    have hv := kch_rng (keyOf Q.2.1 i.toNat) k
    show ZV X E_L_key _ _ (vi (kch (keyOf Q.2.1 i.toNat) k) :: _) _ _ _ _ _
    refine ZV_i2l dL_key_6 ⟨by omega, by omega⟩ ?_
    refine ZV_lret dL_key_7 rfl ?_
    exact h
theorem sp_L_at {c : Nat} {k : Int} {Q : AC} (hC : CInv X g I J c Q) (hr_k : r32 k) (hb : 1 ≤ b.1 ∧ 6 ≤ b.2) (h : post (.inl (some (vl (atL Q.2.1 k)))) g I J) : ZV X E_L_at 0 [some (.ref c), some (vi k), none] [] b g I J post := by
  have kc := hC.1.1.1
  have hG := hC.good
  have h16 := hG.1.1
  refine ZV_aload_n dL_at_0 rfl ?_
  refine ZV_iload_n dL_at_1 rfl ?_
  refine clh_X6_at kL_at_45 dL_at_2 (by assumption) ⟨by omega, by omega⟩ (Nat.le_of_ble_eq_true rfl) ?_
  refine sp_X6_at hC hr_k ⟨by decide, by decide⟩ ?_ ?_
  · intro e0
    have eq : atL Q.2.1 k = atN Q.2.1 k := if_pos e0
    rw [eq] at h
    have hv := atN_rng hG k
    show ZV X E_L_at _ _ (vi (atN Q.2.1 k) :: _) _ _ _ _ _
    refine ZV_i2l dL_at_5 ⟨by omega, by omega⟩ ?_
    refine ZV_lret dL_at_6 rfl ?_
    exact h
  · intro e0
    have eq : atL Q.2.1 k = -9000000000000000002 := if_neg (by omega)
    rw [eq] at h
    refine zH_thr hL_at_zIAE (fun q => ?_)
    refine ZV_astore2 dL_at_7 rfl (by decide) ?_
    refine ZV_ldc2 (z := -9000000000000000002) dL_at_8 lL_at_17 ?_
    refine ZV_lret dL_at_11 rfl ?_
    exact h
theorem sp_L_printed {c : Nat} {k : Int} {Q : AC} (hC : CInv X g I J c Q) (hr_k : r32 k) (hb : 1 ≤ b.1 ∧ 6 ≤ b.2) (h : post (.inl (some (vl (prL Q.2.1 k)))) g I J) : ZV X E_L_printed 0 [some (.ref c), some (vi k), none] [] b g I J post := by
  have kc := hC.1.1.1
  have hG := hC.good
  have h16 := hG.1.1
  refine ZV_aload_n dL_printed_0 rfl ?_
  refine ZV_iload_n dL_printed_1 rfl ?_
  refine clh_X6_printed kL_printed_48 dL_printed_2 (by assumption) ⟨by omega, by omega⟩ (Nat.le_of_ble_eq_true rfl) ?_
  refine sp_X6_printed hC hr_k ⟨by decide, by decide⟩ ?_ ?_
  · intro e0
    have eq : prL Q.2.1 k = prF Q.2.1 k := if_pos e0
    rw [eq] at h
    have hv := prF_rng hG k
    show ZV X E_L_printed _ _ (vi (prF Q.2.1 k) :: _) _ _ _ _ _
    refine ZV_i2l dL_printed_5 ⟨by omega, by omega⟩ ?_
    refine ZV_lret dL_printed_6 rfl ?_
    exact h
  · intro e0
    have eq : prL Q.2.1 k = -9000000000000000002 := if_neg e0
    rw [eq] at h
    refine zH_thr hL_printed_zIAE (fun q => ?_)
    refine ZV_astore2 dL_printed_7 rfl (by decide) ?_
    refine ZV_ldc2 (z := -9000000000000000002) dL_printed_8 lL_printed_17 ?_
    refine ZV_lret dL_printed_11 rfl ?_
    exact h
theorem sp_L_add {c : Nat} {Q : AC} (hC : CInv X g I J c Q) (hb : 1 ≤ b.1 ∧ 6 ≤ b.2) (h : ∀ g' I' J', CFr g g' I I' J J' c → CInv X g' I' J' c (Q.1, (adL Q.1 Q.2).2) → post (.inl (some (vl (adL Q.1 Q.2).1))) g' I' J') : ZV X E_L_add 0 [some (.ref c), none] [] b g I J post := by
  have kc := hC.1.1.1
  have hG := hC.good
  have h16 := hG.1.1
  refine ZV_aload_n dL_add_0 rfl ?_
  refine clh_X6_add kL_add_51 dL_add_1 (by assumption) ⟨by omega, by omega⟩ (Nat.le_of_ble_eq_true rfl) ?_
  refine sp_X6_add hC  ⟨by decide, by decide⟩ ?_ ?_ ?_
  · intro e0 I1 J1 hF1 hC1
    have eq : adL Q.1 Q.2 = (-9000000000000000003, Q.2) := by unfold adL; rw [oneP_no e0]
    rw [eq] at h
    refine zH_thr hL_add_zISE (fun q => ?_)
    refine ZV_astore1 dL_add_6 rfl (by decide) ?_
    refine ZV_ldc2 (z := -9000000000000000003) dL_add_7 lL_add_21 ?_
    refine ZV_lret dL_add_10 rfl ?_
    exact h g I1 J1 hF1 hC1
  · intro s e1 e2 e3 e4 I1 J1 hF1 hC1
    have eq : adL Q.1 Q.2 = (-9000000000000000003, Q.2) := by unfold adL; rw [oneP_of e1 e2 e3]; exact if_neg (by omega)
    rw [eq] at h
    refine zH_thr hL_add_zISE (fun q => ?_)
    refine ZV_astore1 dL_add_6 rfl (by decide) ?_
    refine ZV_ldc2 (z := -9000000000000000003) dL_add_7 lL_add_21 ?_
    refine ZV_lret dL_add_10 rfl ?_
    exact h g I1 J1 hF1 hC1
  · intro s e1 e2 e3 e4 e5 I1 J1 hF1 hC1
    have eq : adL Q.1 Q.2 = ((aN Q.2.1 : Int), (aPlace Q.2.1 (s.2.2.2 0), hpush Q.2.2.1 Q.2.1, Q.2.2.2)) := by unfold adL; rw [oneP_of e1 e2 e3]; exact if_pos e5
    rw [eq] at h
    show ZV X E_L_add _ _ (vi ((aN Q.2.1 : Int)) :: _) _ _ _ _ _
    refine ZV_i2l dL_add_4 ⟨by omega, by omega⟩ ?_
    refine ZV_lret dL_add_5 rfl ?_
    exact h g I1 J1 hF1 hC1
theorem sp_L_change {c : Nat} {i : Int} {Q : AC} (hC : CInv X g I J c Q) (hr_i : r32 i) (hb : 2 ≤ b.1 ∧ 12 ≤ b.2) (h : ∀ g' I' J', CFr g g' I I' J J' c → CInv X g' I' J' c (Q.1, (chL Q.1 Q.2 i).2) → post (.inl (some (vl (chL Q.1 Q.2 i).1))) g' I' J') : ZV X E_L_change 0 [some (.ref c), some (vi i), none] [] b g I J post := by
  have kc := hC.1.1.1
  have hG := hC.good
  have h16 := hG.1.1
  refine ZV_aload_n dL_change_0 rfl ?_
  refine ZV_iload_n dL_change_1 rfl ?_
  refine clh_X6_change kL_change_54 dL_change_2 (by assumption) ⟨by omega, by omega⟩ (Nat.le_of_ble_eq_true rfl) ?_
  refine sp_X6_change hC hr_i ⟨by decide, by decide⟩ ?_ ?_ ?_
  · intro e0
    have eq : chL Q.1 Q.2 i = (-9000000000000000001, Q.2) := if_neg e0
    rw [eq] at h
    refine zH_thr hL_change_zIOB (fun q => ?_)
    refine ZV_astore2 dL_change_7 rfl (by decide) ?_
    refine ZV_ldc2 (z := -9000000000000000001) dL_change_8 lL_change_36 ?_
    refine ZV_lret dL_change_11 rfl ?_
    exact h g I J (CFr.rf g I J c) hC
  · intro e0 e1 I1 J1 hF1 hC1
    have eq : chL Q.1 Q.2 i = (-9000000000000000003, Q.2) := by unfold chL; rw [oneP_no e1]; exact if_pos e0
    rw [eq] at h
    refine zH_thr hL_change_zISE (fun q => ?_)
    refine ZV_astore2 dL_change_12 rfl (by decide) ?_
    refine ZV_ldc2 (z := -9000000000000000003) dL_change_13 lL_change_21 ?_
    refine ZV_lret dL_change_16 rfl ?_
    exact h g I1 J1 hF1 hC1
  · intro e0 s e1 e2 e3 e4 I1 J1 hF1 hC1
    have eq : chL Q.1 Q.2 i = (chgN (aSet Q.2.1 i.toNat (s.2.2.2 0)) (keyOf Q.2.1), (aSet Q.2.1 i.toNat (s.2.2.2 0), hpush Q.2.2.1 Q.2.1, Q.2.2.2)) := by unfold chL; rw [oneP_of e1 e2 e3]; exact if_pos e0
    rw [eq] at h
    have hv := chgN_rng2 (A := aSet Q.2.1 i.toNat (s.2.2.2 0)) hC1.good (keyOf Q.2.1)
    show ZV X E_L_change _ _ (vi (chgN (aSet Q.2.1 i.toNat (s.2.2.2 0)) (keyOf Q.2.1)) :: _) _ _ _ _ _
    refine ZV_i2l dL_change_5 ⟨by omega, by omega⟩ ?_
    refine ZV_lret dL_change_6 rfl ?_
    exact h g I1 J1 hF1 hC1
theorem sp_L_setYear {c : Nat} {i : Int} {y : Int} {Q : AC} (hC : CInv X g I J c Q) (hr_i : r32 i) (hr_y : r32 y) (hb : 2 ≤ b.1 ∧ 12 ≤ b.2) (h : ∀ g' I' J', CFr g g' I I' J J' c → CInv X g' I' J' c (Q.1, (syL Q.2 i y).2) → post (.inl (some (vl (syL Q.2 i y).1))) g' I' J') : ZV X E_L_setYear 0 [some (.ref c), some (vi i), some (vi y), none] [] b g I J post := by
  have kc := hC.1.1.1
  have hG := hC.good
  have h16 := hG.1.1
  refine ZV_aload_n dL_setYear_0 rfl ?_
  refine ZV_iload_n dL_setYear_1 rfl ?_
  refine ZV_iload_n dL_setYear_2 rfl ?_
  refine clh_X6_setYear kL_setYear_57 dL_setYear_3 (by assumption) ⟨by omega, by omega⟩ (Nat.le_of_ble_eq_true rfl) ?_
  refine sp_X6_setYear hC hr_i hr_y ⟨by decide, by decide⟩ ?_ ?_ ?_
  · intro e0
    have eq : syL Q.2 i y = (-9000000000000000001, Q.2) := if_neg e0
    rw [eq] at h
    refine zH_thr hL_setYear_zIOB (fun q => ?_)
    refine ZV_astore3 dL_setYear_8 rfl (by decide) ?_
    refine ZV_ldc2 (z := -9000000000000000001) dL_setYear_9 lL_setYear_36 ?_
    refine ZV_lret dL_setYear_12 rfl ?_
    exact h g I J (CFr.rf g I J c) hC
  · intro e0 e1
    have eq : syL Q.2 i y = (-9000000000000000002, Q.2) := (if_pos e0).trans (if_neg e1)
    rw [eq] at h
    refine zH_thr hL_setYear_zIAE (fun q => ?_)
    refine ZV_astore3 dL_setYear_13 rfl (by decide) ?_
    refine ZV_ldc2 (z := -9000000000000000002) dL_setYear_14 lL_setYear_17 ?_
    refine ZV_lret dL_setYear_17 rfl ?_
    exact h g I J (CFr.rf g I J c) hC
  · intro e0 e1 I1 J1 hF1 hC1
    have eq : syL Q.2 i y = (chgN (aSet Q.2.1 i.toNat (yrW (aW Q.2.1 i.toNat) y)) (keyOf Q.2.1), (aSet Q.2.1 i.toNat (yrW (aW Q.2.1 i.toNat) y), hpush Q.2.2.1 Q.2.1, Q.2.2.2)) := (if_pos e0).trans (if_pos e1)
    rw [eq] at h
    have hv := chgN_rng2 (A := aSet Q.2.1 i.toNat (yrW (aW Q.2.1 i.toNat) y)) hC1.good (keyOf Q.2.1)
    show ZV X E_L_setYear _ _ (vi (chgN (aSet Q.2.1 i.toNat (yrW (aW Q.2.1 i.toNat) y)) (keyOf Q.2.1)) :: _) _ _ _ _ _
    refine ZV_i2l dL_setYear_6 ⟨by omega, by omega⟩ ?_
    refine ZV_lret dL_setYear_7 rfl ?_
    exact h g I1 J1 hF1 hC1
theorem sp_L_remove {c : Nat} {i : Int} {Q : AC} (hC : CInv X g I J c Q) (hr_i : r32 i) (hb : 1 ≤ b.1 ∧ 6 ≤ b.2) (h : ∀ g' I' J', CFr g g' I I' J J' c → CInv X g' I' J' c (Q.1, (rmL Q.2 i).2) → post (.inl (some (vl (rmL Q.2 i).1))) g' I' J') : ZV X E_L_remove 0 [some (.ref c), some (vi i), none] [] b g I J post := by
  have kc := hC.1.1.1
  have hG := hC.good
  have h16 := hG.1.1
  refine ZV_aload_n dL_remove_0 rfl ?_
  refine ZV_iload_n dL_remove_1 rfl ?_
  refine clh_X6_remove kL_remove_60 dL_remove_2 (by assumption) ⟨by omega, by omega⟩ (Nat.le_of_ble_eq_true rfl) ?_
  refine sp_X6_remove hC hr_i ⟨by decide, by decide⟩ ?_ ?_
  · intro e0
    have eq : rmL Q.2 i = (-9000000000000000001, Q.2) := if_neg e0
    rw [eq] at h
    refine zH_thr hL_remove_zIOB (fun q => ?_)
    refine ZV_astore2 dL_remove_7 rfl (by decide) ?_
    refine ZV_ldc2 (z := -9000000000000000001) dL_remove_8 lL_remove_36 ?_
    refine ZV_lret dL_remove_11 rfl ?_
    exact h g I J (CFr.rf g I J c) hC
  · intro e0 g1 I1 J1 hF1 hC1
    have eq : rmL Q.2 i = (hangN Q.2.1 i.toNat, (aTake Q.2.1 i.toNat, hpush Q.2.2.1 Q.2.1, Q.2.2.2)) := if_pos e0
    rw [eq] at h
    have hv := hang_0 Q.2.1 i.toNat
    show ZV X E_L_remove _ _ (vi (hangN Q.2.1 i.toNat) :: _) _ _ _ _ _
    refine ZV_i2l dL_remove_5 ⟨by omega, by omega⟩ ?_
    refine ZV_lret dL_remove_6 rfl ?_
    exact h g1 I1 J1 hF1 hC1
theorem sp_L_setStyle {c : Nat} {s : Int} {Q : AC} (hC : CInv X g I J c Q) (hr_s : r32 s) (hb : 1 ≤ b.1 ∧ 6 ≤ b.2) (h : ∀ g' I' J', CFr g g' I I' J J' c → CInv X g' I' J' c (Q.1, (ssL Q.2 s).2) → post (.inl (some (vl (ssL Q.2 s).1))) g' I' J') : ZV X E_L_setStyle 0 [some (.ref c), some (vi s), none] [] b g I J post := by
  have kc := hC.1.1.1
  have hG := hC.good
  have h16 := hG.1.1
  refine ZV_aload_n dL_setStyle_0 rfl ?_
  refine ZV_iload_n dL_setStyle_1 rfl ?_
  refine clh_X6_setStyle kL_setStyle_63 dL_setStyle_2 (by assumption) ⟨by omega, by omega⟩ (Nat.le_of_ble_eq_true rfl) ?_
  refine sp_X6_setStyle hC hr_s ⟨by decide, by decide⟩ ?_ ?_
  · intro e0
    have eq : ssL Q.2 s = (-9000000000000000002, Q.2) := if_neg e0
    rw [eq] at h
    refine zH_thr hL_setStyle_zIAE (fun q => ?_)
    refine ZV_astore2 dL_setStyle_7 rfl (by decide) ?_
    refine ZV_ldc2 (z := -9000000000000000002) dL_setStyle_8 lL_setStyle_17 ?_
    refine ZV_lret dL_setStyle_11 rfl ?_
    exact h g I J (CFr.rf g I J c) hC
  · intro e0 I1 J1 hF1 hC1
    have eq : ssL Q.2 s = (aS Q.2.1, (aSty Q.2.1 s, hpush Q.2.2.1 Q.2.1, Q.2.2.2)) := if_pos e0
    rw [eq] at h
    have hv := hG.1.2.2.1
    show ZV X E_L_setStyle _ _ (vi (aS Q.2.1) :: _) _ _ _ _ _
    refine ZV_i2l dL_setStyle_5 ⟨by omega, by omega⟩ ?_
    refine ZV_lret dL_setStyle_6 rfl ?_
    exact h g I1 J1 hF1 hC1
theorem sp_L_setOrder {c : Nat} {s : Int} {Q : AC} (hC : CInv X g I J c Q) (hr_s : r32 s) (hb : 1 ≤ b.1 ∧ 6 ≤ b.2) (h : ∀ g' I' J', CFr g g' I I' J J' c → CInv X g' I' J' c (Q.1, (soL Q.2 s).2) → post (.inl (some (vl (soL Q.2 s).1))) g' I' J') : ZV X E_L_setOrder 0 [some (.ref c), some (vi s), none] [] b g I J post := by
  have kc := hC.1.1.1
  have hG := hC.good
  have h16 := hG.1.1
  refine ZV_aload_n dL_setOrder_0 rfl ?_
  refine ZV_iload_n dL_setOrder_1 rfl ?_
  refine clh_X6_setOrder kL_setOrder_66 dL_setOrder_2 (by assumption) ⟨by omega, by omega⟩ (Nat.le_of_ble_eq_true rfl) ?_
  refine sp_X6_setOrder hC hr_s ⟨by decide, by decide⟩ ?_ ?_
  · intro e0
    have eq : soL Q.2 s = (-9000000000000000002, Q.2) := if_neg e0
    rw [eq] at h
    refine zH_thr hL_setOrder_zIAE (fun q => ?_)
    refine ZV_astore2 dL_setOrder_7 rfl (by decide) ?_
    refine ZV_ldc2 (z := -9000000000000000002) dL_setOrder_8 lL_setOrder_17 ?_
    refine ZV_lret dL_setOrder_11 rfl ?_
    exact h g I J (CFr.rf g I J c) hC
  · intro e0 I1 J1 hF1 hC1
    have eq : soL Q.2 s = (chgN (aOrd Q.2.1 s) (keyOf Q.2.1), (aOrd Q.2.1 s, hpush Q.2.2.1 Q.2.1, Q.2.2.2)) := if_pos e0
    rw [eq] at h
    have hv := chgN_rng2 (A := aOrd Q.2.1 s) hC1.good (keyOf Q.2.1)
    show ZV X E_L_setOrder _ _ (vi (chgN (aOrd Q.2.1 s) (keyOf Q.2.1)) :: _) _ _ _ _ _
    refine ZV_i2l dL_setOrder_5 ⟨by omega, by omega⟩ ?_
    refine ZV_lret dL_setOrder_6 rfl ?_
    exact h g I1 J1 hF1 hC1
theorem sp_L_undo {c : Nat} {Q : AC} (hC : CInv X g I J c Q) (hb : 1 ≤ b.1 ∧ 6 ≤ b.2) (h : ∀ g' I' J', CFr g g' I I' J J' c → CInv X g' I' J' c (Q.1, (unL Q.2).2) → post (.inl (some (vl (unL Q.2).1))) g' I' J') : ZV X E_L_undo 0 [some (.ref c), none] [] b g I J post := by
  have kc := hC.1.1.1
  have hG := hC.good
  have h16 := hG.1.1
  refine ZV_aload_n dL_undo_0 rfl ?_
  refine clh_X6_undo kL_undo_69 dL_undo_1 (by assumption) ⟨by omega, by omega⟩ (Nat.le_of_ble_eq_true rfl) ?_
  refine sp_X6_undo hC  ⟨by decide, by decide⟩ ?_ ?_
  · intro e0
    have eq : unL Q.2 = (-9000000000000000003, Q.2) := if_pos e0
    rw [eq] at h
    refine zH_thr hL_undo_zISE (fun q => ?_)
    refine ZV_astore1 dL_undo_6 rfl (by decide) ?_
    refine ZV_ldc2 (z := -9000000000000000003) dL_undo_7 lL_undo_21 ?_
    refine ZV_lret dL_undo_10 rfl ?_
    exact h g I J (CFr.rf g I J c) hC
  · intro k e0 I1 J1 hF1 hC1
    have e1 : Q.2.2.1.1 - 1 = k := by omega
    have hh := hC.hist
    have eq : unL Q.2 = ((k : Int), (Q.2.2.1.2 k, (k, Q.2.2.1.2), Q.2.2.2)) := by unfold unL; rw [if_neg (by omega), e1]
    rw [eq] at h
    show ZV X E_L_undo _ _ (vi ((k : Int)) :: _) _ _ _ _ _
    refine ZV_i2l dL_undo_4 ⟨by omega, by omega⟩ ?_
    refine ZV_lret dL_undo_5 rfl ?_
    exact h g I1 J1 hF1 hC1
theorem sp_L_ifRemoved {c : Nat} {i : Int} {Q : AC} (hC : CInv X g I J c Q) (hr_i : r32 i) (hb : 1 ≤ b.1 ∧ 6 ≤ b.2) (h : ∀ g' I' J', CFr g g' I I' J J' c → CInv X g' I' J' c Q → post (.inl (some (vl (ifL Q.2.1 i)))) g' I' J') : ZV X E_L_ifRemoved 0 [some (.ref c), some (vi i), none] [] b g I J post := by
  have kc := hC.1.1.1
  have hG := hC.good
  have h16 := hG.1.1
  refine ZV_aload_n dL_ifRemoved_0 rfl ?_
  refine ZV_iload_n dL_ifRemoved_1 rfl ?_
  refine clh_X6_ifRemoved kL_ifRemoved_72 dL_ifRemoved_2 (by assumption) ⟨by omega, by omega⟩ (Nat.le_of_ble_eq_true rfl) ?_
  refine sp_X6_ifRemoved hC hr_i ⟨by decide, by decide⟩ ?_ ?_
  · intro e0
    have eq : ifL Q.2.1 i = -9000000000000000001 := if_neg e0
    rw [eq] at h
    refine zH_thr hL_ifRemoved_zIOB (fun q => ?_)
    refine ZV_astore2 dL_ifRemoved_7 rfl (by decide) ?_
    refine ZV_ldc2 (z := -9000000000000000001) dL_ifRemoved_8 lL_ifRemoved_36 ?_
    refine ZV_lret dL_ifRemoved_11 rfl ?_
    exact h g I J (CFr.rf g I J c) hC
  · intro e0 g1 I1 J1 hF1 hC1
    have eq : ifL Q.2.1 i = hangN Q.2.1 i.toNat := if_pos e0
    rw [eq] at h
    have hv := hang_0 Q.2.1 i.toNat
    show ZV X E_L_ifRemoved _ _ (vi (hangN Q.2.1 i.toNat) :: _) _ _ _ _ _
    refine ZV_i2l dL_ifRemoved_5 ⟨by omega, by omega⟩ ?_
    refine ZV_lret dL_ifRemoved_6 rfl ?_
    exact h g1 I1 J1 hF1 hC1
theorem sp_L_freeYear {c : Nat} {i : Int} {Q : AC} (hC : CInv X g I J c Q) (hr_i : r32 i) (hb : 1 ≤ b.1 ∧ 6 ≤ b.2) (h : post (.inl (some (vl (frL Q.2.1 i)))) g I J) : ZV X E_L_freeYear 0 [some (.ref c), some (vi i), none] [] b g I J post := by
  have kc := hC.1.1.1
  have hG := hC.good
  have h16 := hG.1.1
  refine ZV_aload_n dL_freeYear_0 rfl ?_
  refine ZV_iload_n dL_freeYear_1 rfl ?_
  refine clh_X6_freeYear kL_freeYear_75 dL_freeYear_2 (by assumption) ⟨by omega, by omega⟩ (Nat.le_of_ble_eq_true rfl) ?_
  refine sp_X6_freeYear hC hr_i ⟨by decide, by decide⟩ ?_ ?_
  · intro e0
    have eq : frL Q.2.1 i = -9000000000000000001 := if_neg e0
    rw [eq] at h
    refine zH_thr hL_freeYear_zIOB (fun q => ?_)
    refine ZV_astore2 dL_freeYear_7 rfl (by decide) ?_
    refine ZV_ldc2 (z := -9000000000000000001) dL_freeYear_8 lL_freeYear_36 ?_
    refine ZV_lret dL_freeYear_11 rfl ?_
    exact h
  · intro e0
    have eq : frL Q.2.1 i = fyF Q.2.1 i.toNat 2000 := if_pos e0
    rw [eq] at h
    obtain ⟨-, -, hv, -⟩ := fy_facts hG (i := i.toNat) (by omega)
    show ZV X E_L_freeYear _ _ (vi (fyF Q.2.1 i.toNat 2000) :: _) _ _ _ _ _
    refine ZV_i2l dL_freeYear_5 ⟨by omega, by omega⟩ ?_
    refine ZV_lret dL_freeYear_6 rfl ?_
    exact h
theorem sp_L_lettersWith {c : Nat} {s : Int} {Q : AC} (hC : CInv X g I J c Q) (hr_s : r32 s) (hb : 1 ≤ b.1 ∧ 6 ≤ b.2) (h : ∀ g' I' J', CFr g g' I I' J J' c → CInv X g' I' J' c Q → post (.inl (some (vl (lwL Q.2.1 s)))) g' I' J') : ZV X E_L_lettersWith 0 [some (.ref c), some (vi s), none] [] b g I J post := by
  have kc := hC.1.1.1
  have hG := hC.good
  have h16 := hG.1.1
  refine ZV_aload_n dL_lettersWith_0 rfl ?_
  refine ZV_iload_n dL_lettersWith_1 rfl ?_
  refine clh_X6_lettersWith kL_lettersWith_78 dL_lettersWith_2 (by assumption) ⟨by omega, by omega⟩ (Nat.le_of_ble_eq_true rfl) ?_
  refine sp_X6_lettersWith hC hr_s ⟨by decide, by decide⟩ ?_ ?_
  · intro e0
    have eq : lwL Q.2.1 s = -9000000000000000002 := if_neg e0
    rw [eq] at h
    refine zH_thr hL_lettersWith_zIAE (fun q => ?_)
    refine ZV_astore2 dL_lettersWith_7 rfl (by decide) ?_
    refine ZV_ldc2 (z := -9000000000000000002) dL_lettersWith_8 lL_lettersWith_17 ?_
    refine ZV_lret dL_lettersWith_11 rfl ?_
    exact h g I J (CFr.rf g I J c) hC
  · intro e0 I1 J1 hF1 hC1
    have eq : lwL Q.2.1 s = letdN (aSty Q.2.1 s) := if_pos e0
    rw [eq] at h
    have hv := letdN_rng (aSty Q.2.1 s)
    have hv2 : (aN (aSty Q.2.1 s) : Int) = aN Q.2.1 := rfl
    show ZV X E_L_lettersWith _ _ (vi (letdN (aSty Q.2.1 s)) :: _) _ _ _ _ _
    refine ZV_i2l dL_lettersWith_5 ⟨by omega, by omega⟩ ?_
    refine ZV_lret dL_lettersWith_6 rfl ?_
    exact h g I1 J1 hF1 hC1
theorem sp_L_script {c : Nat} {n : Int} {s : Int} {Q : AC} (hC : CInv X g I J c Q) (hr_n : r32 n) (hr_s : r64 s) (hb : 1 ≤ b.1 ∧ 6 ≤ b.2) (h : ∀ g' I' J', CFr g g' I I' J J' c → CInv X g' I' J' c Q → post (.inl (some (vl (scL Q.2.1 n s)))) g' I' J') : ZV X E_L_script 0 [some (.ref c), some (vi n), some (vl s), none, none] [] b g I J post := by
  have kc := hC.1.1.1
  have hG := hC.good
  have h16 := hG.1.1
  refine ZV_aload_n dL_script_0 rfl ?_
  refine ZV_iload_n dL_script_1 rfl ?_
  refine ZV_lload_n dL_script_2 rfl ?_
  refine clh_X6_runScript kL_script_81 dL_script_3 (by assumption) ⟨by omega, by omega⟩ (Nat.le_of_ble_eq_true rfl) ?_
  refine sp_X6_runScript hC hr_n hr_s ⟨by decide, by decide⟩ ?_ ?_ ?_
  · intro e0
    have eq : scL Q.2.1 n s = -9000000000000000002 := if_neg (fun q => e0 q.1)
    rw [eq] at h
    refine zH_thr hL_script_zIAE (fun q => ?_)
    refine ZV_astore4 dL_script_8 rfl (by decide) ?_
    refine ZV_ldc2 (z := -9000000000000000002) dL_script_10 lL_script_17 ?_
    refine ZV_lret dL_script_13 rfl ?_
    exact h g I J (CFr.rf g I J c) hC
  · intro e0 e1
    have eq : scL Q.2.1 n s = -9000000000000000002 := if_neg (fun q => e1 q.2)
    rw [eq] at h
    refine zH_thr hL_script_zIAE (fun q => ?_)
    refine ZV_astore4 dL_script_8 rfl (by decide) ?_
    refine ZV_ldc2 (z := -9000000000000000002) dL_script_10 lL_script_17 ?_
    refine ZV_lret dL_script_13 rfl ?_
    exact h g I J (CFr.rf g I J c) hC
  · intro e0 e1 g1 I1 J1 hF1 hC1
    have eq : scL Q.2.1 n s = scF Q.2.1 s n.toNat := if_pos ⟨e0, e1⟩
    rw [eq] at h
    have hv : -9 ≤ scF Q.2.1 s n.toNat ∧ scF Q.2.1 s n.toNat < n.toNat := zfst_rng _ _
    show ZV X E_L_script _ _ (vi (scF Q.2.1 s n.toNat) :: _) _ _ _ _ _
    refine ZV_i2l dL_script_6 ⟨by omega, by omega⟩ ?_
    refine ZV_lret dL_script_7 rfl ?_
    exact h g1 I1 J1 hF1 hC1
theorem sp_L_simulate {c : Nat} {s : Int} {n : Int} {Q : AC} (hC : CInv X g I J c Q) (hr_s : r64 s) (hr_n : r32 n) (hb : 1 ≤ b.1 ∧ 6 ≤ b.2) (h : ∀ g' I' J', CFr g g' I I' J J' c → CInv X g' I' J' c Q → post (.inl (some (vl (smL Q.2.1 s n)))) g' I' J') : ZV X E_L_simulate 0 [some (.ref c), some (vl s), none, some (vi n), none] [] b g I J post := by
  have kc := hC.1.1.1
  have hG := hC.good
  have h16 := hG.1.1
  refine ZV_aload_n dL_simulate_0 rfl ?_
  refine ZV_lload_n dL_simulate_1 rfl ?_
  refine ZV_iload_n dL_simulate_2 rfl ?_
  refine clh_X6_simulate kL_simulate_85 dL_simulate_3 (by assumption) ⟨by omega, by omega⟩ (Nat.le_of_ble_eq_true rfl) ?_
  refine sp_X6_simulate hC hr_n ⟨by decide, by decide⟩ ?_ ?_
  · intro e0
    have eq : smL Q.2.1 s n = -9000000000000000002 := if_neg e0
    rw [eq] at h
    refine zH_thr hL_simulate_zIAE (fun q => ?_)
    refine ZV_astore4 dL_simulate_8 rfl (by decide) ?_
    refine ZV_ldc2 (z := -9000000000000000002) dL_simulate_10 lL_simulate_17 ?_
    refine ZV_lret dL_simulate_13 rfl ?_
    exact h g I J (CFr.rf g I J c) hC
  · intro e0 g1 I1 J1 hF1 hC1
    have eq : smL Q.2.1 s n = (i32 (100 * (aN (smS Q.2.1 s n.toNat) : Int) + letdN (smS Q.2.1 s n.toNat))).toInt := if_pos e0
    rw [eq] at h
    have hv := r32_of (i32 (100 * (aN (smS Q.2.1 s n.toNat) : Int) + letdN (smS Q.2.1 s n.toNat)))
    obtain ⟨hv1, hv2⟩ := hv
    show ZV X E_L_simulate _ _ (vi (100 * (aN (smS Q.2.1 s n.toNat) : Int) + letdN (smS Q.2.1 s n.toNat)) :: _) _ _ _ _ _
    rw [show vi (100 * (aN (smS Q.2.1 s n.toNat) : Int) + letdN (smS Q.2.1 s n.toNat)) = vi (i32 (100 * (aN (smS Q.2.1 s n.toNat) : Int) + letdN (smS Q.2.1 s n.toNat))).toInt from congrArg Value.int (i32_of (i32 (100 * (aN (smS Q.2.1 s n.toNat) : Int) + letdN (smS Q.2.1 s n.toNat)))).symm]
    refine ZV_i2l dL_simulate_6 ⟨by omega, by omega⟩ ?_
    refine ZV_lret dL_simulate_7 rfl ?_
    exact h g1 I1 J1 hF1 hC1
theorem sp_L_save {c : Nat} {s : Int} {Q : AC} (hC : CInv X g I J c Q) (hr_s : r32 s) (hb : 1 ≤ b.1 ∧ 6 ≤ b.2) (h : ∀ g' I' J', CFr g g' I I' J J' c → CInv X g' I' J' c (Q.1, (svL Q.2 s).2) → post (.inl (some (vl (svL Q.2 s).1))) g' I' J') : ZV X E_L_save 0 [some (.ref c), some (vi s), none] [] b g I J post := by
  have kc := hC.1.1.1
  have hG := hC.good
  have h16 := hG.1.1
  refine ZV_aload_n dL_save_0 rfl ?_
  refine ZV_iload_n dL_save_1 rfl ?_
  refine clh_X6_save kL_save_89 dL_save_2 (by assumption) ⟨by omega, by omega⟩ (Nat.le_of_ble_eq_true rfl) ?_
  refine sp_X6_save hC hr_s ⟨by decide, by decide⟩ ?_ ?_
  · intro e0
    have eq : svL Q.2 s = (-9000000000000000001, Q.2) := if_neg e0
    rw [eq] at h
    refine zH_thr hL_save_zIOB (fun q => ?_)
    refine ZV_astore2 dL_save_7 rfl (by decide) ?_
    refine ZV_ldc2 (z := -9000000000000000001) dL_save_8 lL_save_36 ?_
    refine ZV_lret dL_save_11 rfl ?_
    exact h g I J (CFr.rf g I J c) hC
  · intro e0 I1 J1 hF1 hC1
    have eq : svL Q.2 s = ((aN Q.2.1 : Int), (Q.2.1, Q.2.2.1, fun k => if k = s.toNat then some Q.2.1 else Q.2.2.2 k)) := if_pos e0
    rw [eq] at h
    show ZV X E_L_save _ _ (vi ((aN Q.2.1 : Int)) :: _) _ _ _ _ _
    refine ZV_i2l dL_save_5 ⟨by omega, by omega⟩ ?_
    refine ZV_lret dL_save_6 rfl ?_
    exact h g I1 J1 hF1 hC1
theorem sp_L_restore {c : Nat} {s : Int} {Q : AC} (hC : CInv X g I J c Q) (hr_s : r32 s) (hb : 2 ≤ b.1 ∧ 12 ≤ b.2) (h : ∀ g' I' J', CFr g g' I I' J J' c → CInv X g' I' J' c (Q.1, (rsL Q.2 s).2) → post (.inl (some (vl (rsL Q.2 s).1))) g' I' J') : ZV X E_L_restore 0 [some (.ref c), some (vi s), none] [] b g I J post := by
  have kc := hC.1.1.1
  have hG := hC.good
  have h16 := hG.1.1
  refine ZV_aload_n dL_restore_0 rfl ?_
  refine ZV_iload_n dL_restore_1 rfl ?_
  refine clh_X6_restore kL_restore_92 dL_restore_2 (by assumption) ⟨by omega, by omega⟩ (Nat.le_of_ble_eq_true rfl) ?_
  refine sp_X6_restore hC hr_s ⟨by decide, by decide⟩ ?_ ?_ ?_
  · intro e0
    have eq : rsL Q.2 s = (-9000000000000000001, Q.2) := if_neg e0
    rw [eq] at h
    refine zH_thr hL_restore_zIOB (fun q => ?_)
    refine ZV_astore2 dL_restore_7 rfl (by decide) ?_
    refine ZV_ldc2 (z := -9000000000000000001) dL_restore_8 lL_restore_36 ?_
    refine ZV_lret dL_restore_11 rfl ?_
    exact h g I J (CFr.rf g I J c) hC
  · intro e0 e1
    have eq : rsL Q.2 s = (-9000000000000000003, Q.2) := by unfold rsL; rw [if_pos e0, e1]
    rw [eq] at h
    refine zH_thr hL_restore_zISE (fun q => ?_)
    refine ZV_astore2 dL_restore_12 rfl (by decide) ?_
    refine ZV_ldc2 (z := -9000000000000000003) dL_restore_13 lL_restore_21 ?_
    refine ZV_lret dL_restore_16 rfl ?_
    exact h g I J (CFr.rf g I J c) hC
  · intro e0 B e1 I1 J1 hF1 hC1
    have eq : rsL Q.2 s = ((aN B : Int), (B, (0, Q.2.2.1.2), Q.2.2.2)) := by unfold rsL; rw [if_pos e0, e1]
    rw [eq] at h
    have hv := (hC.slot (s := s.toNat) (by omega) e1).1.1
    show ZV X E_L_restore _ _ (vi ((aN B : Int)) :: _) _ _ _ _ _
    refine ZV_i2l dL_restore_5 ⟨by omega, by omega⟩ ?_
    refine ZV_lret dL_restore_6 rfl ?_
    exact h g I1 J1 hF1 hC1
end ZL1

