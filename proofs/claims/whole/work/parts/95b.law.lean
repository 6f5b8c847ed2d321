/-! the law: its loop, its start -/
section ZLP
variable {X : Xt}
theorem lw_loop {c : Nat} (hl : X.2.2.2.2.2.1 ≤ 2048) : ∀ q : Nat, q ≤ X.2.2.2.2.2.1 / 4 → ∀ (z : Int) (g : Geo) (I J : Mm) (Q : AC) (o5 o6 : Option Value) (b : Nat × Nat), z = 4 * (q : Int) → 2 * (512 - q) ≤ b.1 → 12 * (512 - q) ≤ b.2 → LI X g I J c Q → ZV X E_L_law 23 [some (.ref X.2.2.2.2.1), some (.ref c), some (.ref (c + 726)), some (.ref (c + 740)), some (vi z), o5, o6] [] b g I J okv := by
  refine loop_up (X.2.2.2.2.2.1 / 4) ?_ ?_
  · intro z g I J Q o5 o6 b hz hb1 hb2 hI
    refine ZV_iload dL_law_23 rfl ?_
    refine ZV_aload_n dL_law_25 rfl ?_
    refine ZV_slen rfl dL_law_26 ?_
    refine ZV_iconst dL_law_27 ?_
    refine ZV_isub dL_law_28 ?_
    refine ZV_icmp_gt (tgt := 1609) dL_law_29 (by decide) ⟨by omega, by omega⟩ ⟨by omega, by omega⟩ (fun h29 => ?_) (fun h29 => ?_)
    · refine ZV_iconst dL_law_1609 ?_
      refine ZV_zret dL_law_1610 rfl (by first | exact Or.inl rfl | exact Or.inr rfl | assumption | omega) ?_
      exact rfl
    · omega
  · intro q hq ih z g I J Q o5 o6 b hz hb1 hb2 hI
    have next : LNx X c b z := by
      intro g2 I2 J2 Q2 p5 p6 b2 h1 h2 hI2
      refine ZV_jinc4 dL_law_1603 rfl (by decide) ?_
      refine ZV_goto (tgt := 23) dL_law_1606 (by decide) ?_
      exact ih _ g2 I2 J2 Q2 p5 p6 b2 (by omega) (by omega) (by omega) hI2
    obtain ⟨a, ha⟩ : ∃ a, a = (X.2.2.2.2.2.2 (4 * q)).toInt := ⟨_, rfl⟩
    refine ZV_iload dL_law_23 rfl ?_
    refine ZV_aload_n dL_law_25 rfl ?_
    refine ZV_slen rfl dL_law_26 ?_
    refine ZV_iconst dL_law_27 ?_
    refine ZV_isub dL_law_28 ?_
    refine ZV_icmp_gt (tgt := 1609) dL_law_29 (by decide) ⟨by omega, by omega⟩ ⟨by omega, by omega⟩ (fun h29 => ?_) (fun h29 => ?_)
    · omega
    · refine ZV_aload_n dL_law_32 rfl ?_
      refine ZV_iload dL_law_33 rfl ?_
      refine ZV_sld (4 * q) rfl dL_law_35 (by omega) (by omega) (by omega) ?_
      rw [← ha]
      refine ZV_bipush dL_law_36 (by decide) ?_
      refine ZV_iand dL_law_38 5 (by decide) (by decide) ?_
      obtain ⟨v, hv⟩ : ∃ v, v = a % 2 ^ 5 := ⟨_, rfl⟩
      rw [← hv]
      have hv2 : 0 ≤ v ∧ v < 32 := by omega
      clear hv
      have hvc : v = 0 ∨ v = 1 ∨ v = 2 ∨ v = 3 ∨ v = 4 ∨ v = 5 ∨ v = 6 ∨ v = 7 ∨ v = 8 ∨ v = 9 ∨ v = 10 ∨ v = 11 ∨ v = 12 ∨ v = 13 ∨ v = 14 ∨ v = 15 ∨ v = 16 ∨ v = 17 ∨ v = 18 ∨ v = 19 ∨ v = 20 ∨ v = 21 ∨ v = 22 ∨ v = 23 ∨ v = 24 ∨ v = 25 ∨ v = 26 ∨ v = 27 ∨ v = 28 ∨ 29 ≤ v := by omega
      rcases hvc with rfl | rfl | rfl | rfl | rfl | rfl | rfl | rfl | rfl | rfl | rfl | rfl | rfl | rfl | rfl | rfl | rfl | rfl | rfl | rfl | rfl | rfl | rfl | rfl | rfl | rfl | rfl | rfl | rfl | hv3
      · refine ZV_tableIn (tgt := 168) dL_law_39 ⟨by decide, by decide⟩ (by decide) (by decide) rfl (by decide) ?_
        exact lw_c0 (n := 4 * q) hI next ⟨by omega, by omega⟩ (by omega) (by omega) (by omega)
      · refine ZV_tableIn (tgt := 224) dL_law_39 ⟨by decide, by decide⟩ (by decide) (by decide) rfl (by decide) ?_
        exact lw_c1 hI next
      · refine ZV_tableIn (tgt := 237) dL_law_39 ⟨by decide, by decide⟩ (by decide) (by decide) rfl (by decide) ?_
        exact lw_c2 hI next
      · refine ZV_tableIn (tgt := 250) dL_law_39 ⟨by decide, by decide⟩ (by decide) (by decide) rfl (by decide) ?_
        exact lw_c3 (n := 4 * q) hI next ⟨by omega, by omega⟩ (by omega) (by omega) (by omega)
      · refine ZV_tableIn (tgt := 294) dL_law_39 ⟨by decide, by decide⟩ (by decide) (by decide) rfl (by decide) ?_
        exact lw_c4 (n := 4 * q) hI next ⟨by omega, by omega⟩ (by omega) (by omega) (by omega)
      · refine ZV_tableIn (tgt := 350) dL_law_39 ⟨by decide, by decide⟩ (by decide) (by decide) rfl (by decide) ?_
        exact lw_c5 (n := 4 * q) hI next ⟨by omega, by omega⟩ (by omega) (by omega) (by omega)
      · refine ZV_tableIn (tgt := 418) dL_law_39 ⟨by decide, by decide⟩ (by decide) (by decide) rfl (by decide) ?_
        exact lw_c6 (n := 4 * q) hI next ⟨by omega, by omega⟩ (by omega) (by omega) (by omega)
      · refine ZV_tableIn (tgt := 498) dL_law_39 ⟨by decide, by decide⟩ (by decide) (by decide) rfl (by decide) ?_
        exact lw_c7 (n := 4 * q) hI next ⟨by omega, by omega⟩ (by omega) (by omega) (by omega)
      · refine ZV_tableIn (tgt := 566) dL_law_39 ⟨by decide, by decide⟩ (by decide) (by decide) rfl (by decide) ?_
        exact lw_c8 (n := 4 * q) hI next ⟨by omega, by omega⟩ (by omega) (by omega) (by omega)
      · refine ZV_tableIn (tgt := 622) dL_law_39 ⟨by decide, by decide⟩ (by decide) (by decide) rfl (by decide) ?_
        exact lw_c9 hI next
      · refine ZV_tableIn (tgt := 635) dL_law_39 ⟨by decide, by decide⟩ (by decide) (by decide) rfl (by decide) ?_
        exact lw_c10 hI next
      · refine ZV_tableIn (tgt := 648) dL_law_39 ⟨by decide, by decide⟩ (by decide) (by decide) rfl (by decide) ?_
        exact lw_c11 (n := 4 * q) hI next ⟨by omega, by omega⟩ (by omega) (by omega) (by omega)
      · refine ZV_tableIn (tgt := 704) dL_law_39 ⟨by decide, by decide⟩ (by decide) (by decide) rfl (by decide) ?_
        exact lw_c12 (n := 4 * q) hI next ⟨by omega, by omega⟩ (by omega) (by omega) (by omega)
      · refine ZV_tableIn (tgt := 748) dL_law_39 ⟨by decide, by decide⟩ (by decide) (by decide) rfl (by decide) ?_
        exact lw_c13 (n := 4 * q) hI next ⟨by omega, by omega⟩ (by omega) (by omega) (by omega)
      · refine ZV_tableIn (tgt := 804) dL_law_39 ⟨by decide, by decide⟩ (by decide) (by decide) rfl (by decide) ?_
        exact lw_c14 (n := 4 * q) hI next ⟨by omega, by omega⟩ (by omega) (by omega) (by omega)
      · refine ZV_tableIn (tgt := 872) dL_law_39 ⟨by decide, by decide⟩ (by decide) (by decide) rfl (by decide) ?_
        exact lw_c15 (n := 4 * q) hI next ⟨by omega, by omega⟩ (by omega) (by omega) (by omega)
      · refine ZV_tableIn (tgt := 928) dL_law_39 ⟨by decide, by decide⟩ (by decide) (by decide) rfl (by decide) ?_
        exact lw_c16 (n := 4 * q) hI next ⟨by omega, by omega⟩ (by omega) (by omega) (by omega)
      · refine ZV_tableIn (tgt := 984) dL_law_39 ⟨by decide, by decide⟩ (by decide) (by decide) rfl (by decide) ?_
        exact lw_c17 (n := 4 * q) hI next ⟨by omega, by omega⟩ (by omega) (by omega) (by omega)
      · refine ZV_tableIn (tgt := 1040) dL_law_39 ⟨by decide, by decide⟩ (by decide) (by decide) rfl (by decide) ?_
        exact lw_c18 hI next
      · refine ZV_tableIn (tgt := 1053) dL_law_39 ⟨by decide, by decide⟩ (by decide) (by decide) rfl (by decide) ?_
        exact lw_c19 (n := 4 * q) hI next ⟨by omega, by omega⟩ (by omega) (by omega) (by omega)
      · refine ZV_tableIn (tgt := 1097) dL_law_39 ⟨by decide, by decide⟩ (by decide) (by decide) rfl (by decide) ?_
        exact lw_c20 (n := 4 * q) hI next ⟨by omega, by omega⟩ (by omega) (by omega) (by omega)
      · refine ZV_tableIn (tgt := 1153) dL_law_39 ⟨by decide, by decide⟩ (by decide) (by decide) rfl (by decide) ?_
        exact lw_c21 (n := 4 * q) hI next ⟨by omega, by omega⟩ (by omega) (by omega) (by omega)
      · refine ZV_tableIn (tgt := 1209) dL_law_39 ⟨by decide, by decide⟩ (by decide) (by decide) rfl (by decide) ?_
        exact lw_c22 (n := 4 * q) hI next ⟨by omega, by omega⟩ (by omega) (by omega) (by omega)
      · refine ZV_tableIn (tgt := 1265) dL_law_39 ⟨by decide, by decide⟩ (by decide) (by decide) rfl (by decide) ?_
        exact lw_c23 hI next
      · refine ZV_tableIn (tgt := 1278) dL_law_39 ⟨by decide, by decide⟩ (by decide) (by decide) rfl (by decide) ?_
        exact lw_c24 hI next
      · refine ZV_tableIn (tgt := 1291) dL_law_39 ⟨by decide, by decide⟩ (by decide) (by decide) rfl (by decide) ?_
        exact lw_c25 (n := 4 * q) hI next ⟨by omega, by omega⟩ (by omega) (by omega) (by omega)
      · refine ZV_tableIn (tgt := 1391) dL_law_39 ⟨by decide, by decide⟩ (by decide) (by decide) rfl (by decide) ?_
        exact lw_c26 (n := 4 * q) hI next ⟨by omega, by omega⟩ (by omega) (by omega) (by omega)
      · refine ZV_tableIn (tgt := 1491) dL_law_39 ⟨by decide, by decide⟩ (by decide) (by decide) rfl (by decide) ?_
        exact lw_c27 (n := 4 * q) hI next ⟨by omega, by omega⟩ (by omega) (by omega) (by omega)
      · refine ZV_tableIn (tgt := 1547) dL_law_39 ⟨by decide, by decide⟩ (by decide) (by decide) rfl (by decide) ?_
        exact lw_c28 (n := 4 * q) hI next ⟨by omega, by omega⟩ (by omega) (by omega) (by omega)
      · refine ZV_tableOut (tgt := 1603) dL_law_39 ⟨by omega, by omega⟩ (by omega) (by decide) ?_
        exact next g I J Q _ _ b (by omega) (by omega) hI
theorem law_start (hl : X.2.2.2.2.2.1 ≤ 2048) (I J : Mm) : ZV X E_L_law 0 [some (.ref X.2.2.2.2.1), none, none, none, none, none, none] [] (601024, 7293034) ([], fun _ _ => none, true) I J okv := by
  have t0 : (([], fun _ _ => none, true) : Geo).2.2 = true := rfl
  obtain ⟨c, hc⟩ : ∃ c, c = xB X + ([] : List Kd).length := ⟨_, rfl⟩
  refine ZV_new nL_law_8 dL_law_0 (by assumption) ⟨by decide, by decide⟩ ?_
  refine ZV_dup dL_law_3 rfl ?_
  have k1 := ksh_new X ([], fun _ _ => none, true) (.inl 4)
  have G1 := push_Gr (X := X) (lo := c) (g := ([], fun _ _ => none, true)) (.inl 4) I J hc (Nat.le_refl c)
  have l1 : (geoPush X ([], fun _ _ => none, true) (.inl 4)).1.length = 1 := rfl
  have t1 : (geoPush X ([], fun _ _ => none, true) (.inl 4)).2.2 = true := rfl
  rw [← hc] at k1
  show ZV X E_L_law _ _ (.ref (xB X + ([] : List Kd).length) :: .ref (xB X + ([] : List Kd).length) :: _) _ _ (rowZ I (xB X + ([] : List Kd).length)) (rowZ J (xB X + ([] : List Kd).length)) _
  rw [← hc]
  generalize geoPush X ([], fun _ _ => none, true) (.inl 4) = g1 at k1 G1 l1 t1 ⊢
  have hc0 : c = xB X := by rw [hc]; rfl
  refine cl_X6_init kL_law_87 rfl dL_law_4 ⟨by decide, by decide⟩ (Nat.le_of_ble_eq_true rfl) ?_
  refine sp_X6_init k1 (by omega) t1 ?_
  intro g2 I2 J2 G2 l2 hL2
  have t2 : g2.2.2 = true := by rw [G2.1.2]; exact t1
  refine ZV_astore1 dL_law_7 rfl (by decide) ?_
  refine ZV_new nL_law_88 dL_law_8 (by assumption) ⟨by decide, by decide⟩ ?_
  refine ZV_dup dL_law_11 rfl ?_
  have top2 : c + 726 = xB X + g2.1.length := by omega
  rw [← top2]
  have k3 := ksh_new X g2 (.inl 5)
  have G3 := push_Gr (X := X) (lo := c + 726) (.inl 5) I2 J2 top2 (Nat.le_refl _)
  have l3 := push_len X g2 (.inl 5)
  rw [← top2] at k3
  have t3 : (geoPush X g2 (.inl 5)).2.2 = true := t2
  generalize geoPush X g2 (.inl 5) = g3 at k3 G3 l3 t3 ⊢
  refine cl_X7_init kL_law_90 rfl dL_law_12 ⟨by decide, by decide⟩ (Nat.le_of_ble_eq_true rfl) ?_
  refine sp_X7_init k3 (by omega) t3 ?_
  intro g4 I4 J4 I5 G4 l4 hL4 h5 h5z
  have t4 : g4.2.2 = true := by rw [G4.1.2]; exact t3
  have top4 : c + 740 = xB X + g4.1.length := by omega
  refine ZV_astore2 dL_law_15 rfl (by decide) ?_
  refine ZV_iconst dL_law_16 ?_
  refine ZV_newaJ (n := 1) aL_law_long dL_law_17 (by first | rfl | omega) (by decide) (by assumption) ⟨by decide, by decide⟩ ?_
  rw [← top4]
  have k5 := ksh_new X g4 (.inr (1, 1))
  have G5 := push_Gr (X := X) (lo := c + 740) (.inr (1, 1)) I5 J4 top4 (Nat.le_refl _)
  rw [← top4] at k5
  generalize geoPush X g4 (.inr (1, 1)) = g5 at k5 G5 ⊢
  refine ZV_loose ?_
  refine ZV_astore3 dL_law_19 rfl (by decide) ?_
  refine ZV_iconst dL_law_20 ?_
  refine ZV_istore4 dL_law_21 rfl (by decide) ?_
  have hCL : CL X (g5.1, g5.2.1, false) c := hL2.rw' (fun a k e => G5.2.1 a k (G4.2.1 a k (G3.2.1 a k e))) (fun a q1 q2 => by show g5.2.1 a = _; rw [G5.2.2.1 a (by omega), G4.2.2.1 a (by omega), G3.2.2.1 a (by omega)])
  have hML : ML X (g5.1, g5.2.1, false) (c + 726) := hL4.rw' (fun a k e => G5.2.1 a k e) (by show g5.2.1 (c + 726) = _; rw [G5.2.2.1 _ (by omega)])
  have rI : ∀ q, q < c + 726 → q ≠ c + 729 → rowZ I5 (c + 740) q = I2 q := fun q h1 h2 => by
    rw [(G5.2.2.2.1 q (by omega)).1, h5 q (by omega), (G4.2.2.2.1 q (by omega)).1, (G3.2.2.2.1 q (by omega)).1]
  have zC : ∀ q, c + 1 ≤ q → q < c + 726 → rowZ I5 (c + 740) q = fun _ => 0 := fun q h1 h2 => by
    rw [rI q h2 (by omega)]
    exact (G2.2.2.2.2 q (by omega) (by omega)).1
  have zM : ∀ q k, c + 726 ≤ q → q < c + 726 + 14 → k < 980 → rowZ I5 (c + 740) q k = 0 := fun q k h1 h2 hk => by
    rw [(G5.2.2.2.1 q (by omega)).1]
    by_cases e : q = c + 726 + 3
    · rw [e]; exact h5z k hk
    · rw [h5 q e]
      by_cases e2 : q = c + 726
      · rw [e2, (G4.2.2.2.1 _ (by omega)).1, (G3.2.2.2.2 _ (by omega) (by omega)).1]
      · rw [(G4.2.2.2.2 q (by omega) (by omega)).1]
  exact lw_loop hl 0 (by omega) _ _ _ _ Q00 _ _ _ rfl (by decide) (by decide) ⟨CInv_zero hCL rfl zC, MInv_zero hML zM, k5⟩
end ZLP

