/-! the reference's constructor; the script's length; memory that is no longer tight -/
theorem ZV_loose {X : Xt} {E : Me} {pc : Nat} {L : List (Option Value)} {S : List Value} {b : Nat × Nat} {g : Geo} {I J : Mm} {post : Out → Geo → Mm → Mm → Prop} (h : ZV X E pc L S b (g.1, g.2.1, false) I J post) : ZV X E pc L S b g I J post := by
  intro p e s m args below meth c C H locs cells slots ls hH
  exact h p e s m args below meth c C H locs cells slots ls ⟨hH.1, fun q => absurd q Bool.false_ne_true⟩
theorem ZV_slen {X : Xt} {E : Me} {pc : Nat} {L : List (Option Value)} {S : List Value} {b : Nat × Nat} {g : Geo} {I J : Mm} {post : Out → Geo → Mm → Mm → Prop} (hE : mY E = x) (hd : decode (mC E) pc = .ok (.arraylength, 1)) (h : ZV X E (pc + 1) L (vi (X.2.2.2.2.2.1 : Int) :: S) b g I J post) : ZV X E pc L (.ref X.2.2.2.2.1 :: S) b g I J post := by
  intro p e s m args below meth c C H locs cells slots ls hH hS hc hs hls
  obtain ⟨hX, hbB⟩ := C.2.2.2.2.2.2.2.2.2.2.2.2.2.2 hE
  have hBs := C.2.2.2.2.2.2.2.2.2.2.2.1
  refine va_slen C.1 C.2.1 hX (by omega) (by show ¬ xB X ≤ _; omega) hS hd ?_
  exact h p e s m args below meth c C H locs cells slots ls hH hS hc hs hls
section ZMI
variable {X : Xt} {g : Geo} {I J : Mm} {post : Out → Geo → Mm → Mm → Prop}
theorem sp_X7_init {m : Nat} (hk : ksh X g m = some (.inl 5)) (ht : m + 1 = xB X + g.1.length) (hg : g.2.2 = true) (h : ∀ g' I1 J1 I', Gr X m g g' I J I1 J1 → g'.1.length = g.1.length + 13 → ML X g' m → (∀ q, q ≠ m + 3 → I' q = I1 q) → (∀ k, k < 980 → I' (m + 3) k = 0) → post (.inl none) g' I' J1) : ZV X E_X7_init 0 [some (.ref m)] [] (13, 19232) g I J post := by
  refine ZV_aload_n dX7_init_0 rfl ?_
  refine ZV_objInit dX7_init_1 oX7_init ⟨by decide, by decide⟩ ?_
  refine ZV_aload_n dX7_init_4 rfl ?_
  refine ZV_bipush dX7_init_5 (by decide) ?_
  refine ZV_newaI (n := 100) aX7_init_int dX7_init_7 (by first | rfl | omega) (by decide) (by assumption) ⟨by decide, by decide⟩ ?_
  refine ZV_putR fX7_init_7 dX7_init_9 (by first | assumption | exact ksh_old _ (by assumption)) rfl ⟨rfl, rfl⟩ ?_
  have top1 : m + 1 = xB X + g.1.length := ht
  rw [← top1]
  generalize hG1 : ((geoPush X g (.inr (0, 100))).1, up2 (geoPush X g (.inr (0, 100))).2.1 m 1 (some (m + 1)), (geoPush X g (.inr (0, 100))).2.2) = gg1
  obtain ⟨E1a, E1b, q1_1, r1_1, E1e, -⟩ := pr_ok (.inr (0, 100)) I J top1 (show m < m + 1 by omega) (Nat.le_refl m) hG1
  have k1 := E1a.2.1 _ _ hk
  have t1 : gg1.2.2 = true := by rw [E1a.1.2]; exact hg
  have A1 := E1a
  refine ZV_aload_n dX7_init_12 rfl ?_
  refine ZV_sipush dX7_init_13 (by decide) ?_
  refine ZV_newaI (n := 980) aX7_init_int dX7_init_16 (by first | rfl | omega) (by decide) (by assumption) ⟨by decide, by decide⟩ ?_
  refine ZV_putR fX7_init_13 dX7_init_18 (by first | assumption | exact ksh_old _ (by assumption)) rfl ⟨rfl, rfl⟩ ?_
  have top2 : m + 2 = xB X + gg1.1.length := by omega
  rw [← top2]
  generalize hG2 : ((geoPush X gg1 (.inr (0, 980))).1, up2 (geoPush X gg1 (.inr (0, 980))).2.1 m 5 (some (m + 2)), (geoPush X gg1 (.inr (0, 980))).2.2) = gg2
  obtain ⟨E2a, E2b, q2_2, r2_2, E2e, -⟩ := pr_ok (.inr (0, 980)) (rowZ I (m + 1)) (rowZ J (m + 1)) top2 (show m < m + 2 by omega) (Nat.le_refl m) hG2
  have k2 := E2a.2.1 _ _ k1
  have t2 : gg2.2.2 = true := by rw [E2a.1.2]; exact t1
  have r1_2 : gg2.2.1 m 1 = some (m + 1) := by rw [E2e 1 (by decide)]; exact r1_1
  have q1_2 := E2a.2.1 _ _ q1_1
  have A2 := A1.trans E2a (Nat.le_refl _)
  clear r1_1 q1_1 E2a E2e hG2
  refine ZV_aload_n dX7_init_21 rfl ?_
  refine ZV_sipush dX7_init_22 (by decide) ?_
  refine ZV_newaI (n := 980) aX7_init_int dX7_init_25 (by first | rfl | omega) (by decide) (by assumption) ⟨by decide, by decide⟩ ?_
  refine ZV_putR fX7_init_16 dX7_init_27 (by first | assumption | exact ksh_old _ (by assumption)) rfl ⟨rfl, rfl⟩ ?_
  have top3 : m + 3 = xB X + gg2.1.length := by omega
  rw [← top3]
  generalize hG3 : ((geoPush X gg2 (.inr (0, 980))).1, up2 (geoPush X gg2 (.inr (0, 980))).2.1 m 6 (some (m + 3)), (geoPush X gg2 (.inr (0, 980))).2.2) = gg3
  obtain ⟨E3a, E3b, q3_3, r3_3, E3e, -⟩ := pr_ok (.inr (0, 980)) (rowZ (rowZ I (m + 1)) (m + 2)) (rowZ (rowZ J (m + 1)) (m + 2)) top3 (show m < m + 3 by omega) (Nat.le_refl m) hG3
  have k3 := E3a.2.1 _ _ k2
  have t3 : gg3.2.2 = true := by rw [E3a.1.2]; exact t2
  have r1_3 : gg3.2.1 m 1 = some (m + 1) := by rw [E3e 1 (by decide)]; exact r1_2
  have q1_3 := E3a.2.1 _ _ q1_2
  have r2_3 : gg3.2.1 m 5 = some (m + 2) := by rw [E3e 5 (by decide)]; exact r2_2
  have q2_3 := E3a.2.1 _ _ q2_2
  have A3 := A2.trans E3a (Nat.le_refl _)
  clear r1_2 q1_2 r2_2 q2_2 E3a E3e hG3
  refine ZV_aload_n dX7_init_30 rfl ?_
  refine ZV_sipush dX7_init_31 (by decide) ?_
  refine ZV_newaI (n := 980) aX7_init_int dX7_init_34 (by first | rfl | omega) (by decide) (by assumption) ⟨by decide, by decide⟩ ?_
  refine ZV_putR fX7_init_19 dX7_init_36 (by first | assumption | exact ksh_old _ (by assumption)) rfl ⟨rfl, rfl⟩ ?_
  have top4 : m + 4 = xB X + gg3.1.length := by omega
  rw [← top4]
  generalize hG4 : ((geoPush X gg3 (.inr (0, 980))).1, up2 (geoPush X gg3 (.inr (0, 980))).2.1 m 7 (some (m + 4)), (geoPush X gg3 (.inr (0, 980))).2.2) = gg4
  obtain ⟨E4a, E4b, q4_4, r4_4, E4e, -⟩ := pr_ok (.inr (0, 980)) (rowZ (rowZ (rowZ I (m + 1)) (m + 2)) (m + 3)) (rowZ (rowZ (rowZ J (m + 1)) (m + 2)) (m + 3)) top4 (show m < m + 4 by omega) (Nat.le_refl m) hG4
  have k4 := E4a.2.1 _ _ k3
  have t4 : gg4.2.2 = true := by rw [E4a.1.2]; exact t3
  have r1_4 : gg4.2.1 m 1 = some (m + 1) := by rw [E4e 1 (by decide)]; exact r1_3
  have q1_4 := E4a.2.1 _ _ q1_3
  have r2_4 : gg4.2.1 m 5 = some (m + 2) := by rw [E4e 5 (by decide)]; exact r2_3
  have q2_4 := E4a.2.1 _ _ q2_3
  have r3_4 : gg4.2.1 m 6 = some (m + 3) := by rw [E4e 6 (by decide)]; exact r3_3
  have q3_4 := E4a.2.1 _ _ q3_3
  have A4 := A3.trans E4a (Nat.le_refl _)
  clear r1_3 q1_3 r2_3 q2_3 r3_3 q3_3 E4a E4e hG4
  refine ZV_aload_n dX7_init_39 rfl ?_
  refine ZV_sipush dX7_init_40 (by decide) ?_
  refine ZV_newaI (n := 13720) aX7_init_int dX7_init_43 (by first | rfl | omega) (by decide) (by assumption) ⟨by decide, by decide⟩ ?_
  refine ZV_putR fX7_init_22 dX7_init_45 (by first | assumption | exact ksh_old _ (by assumption)) rfl ⟨rfl, rfl⟩ ?_
  have top5 : m + 5 = xB X + gg4.1.length := by omega
  rw [← top5]
  generalize hG5 : ((geoPush X gg4 (.inr (0, 13720))).1, up2 (geoPush X gg4 (.inr (0, 13720))).2.1 m 8 (some (m + 5)), (geoPush X gg4 (.inr (0, 13720))).2.2) = gg5
  obtain ⟨E5a, E5b, q5_5, r5_5, E5e, -⟩ := pr_ok (.inr (0, 13720)) (rowZ (rowZ (rowZ (rowZ I (m + 1)) (m + 2)) (m + 3)) (m + 4)) (rowZ (rowZ (rowZ (rowZ J (m + 1)) (m + 2)) (m + 3)) (m + 4)) top5 (show m < m + 5 by omega) (Nat.le_refl m) hG5
  have k5 := E5a.2.1 _ _ k4
  have t5 : gg5.2.2 = true := by rw [E5a.1.2]; exact t4
  have r1_5 : gg5.2.1 m 1 = some (m + 1) := by rw [E5e 1 (by decide)]; exact r1_4
  have q1_5 := E5a.2.1 _ _ q1_4
  have r2_5 : gg5.2.1 m 5 = some (m + 2) := by rw [E5e 5 (by decide)]; exact r2_4
  have q2_5 := E5a.2.1 _ _ q2_4
  have r3_5 : gg5.2.1 m 6 = some (m + 3) := by rw [E5e 6 (by decide)]; exact r3_4
  have q3_5 := E5a.2.1 _ _ q3_4
  have r4_5 : gg5.2.1 m 7 = some (m + 4) := by rw [E5e 7 (by decide)]; exact r4_4
  have q4_5 := E5a.2.1 _ _ q4_4
  have A5 := A4.trans E5a (Nat.le_refl _)
  clear r1_4 q1_4 r2_4 q2_4 r3_4 q3_4 r4_4 q4_4 E5a E5e hG5
  refine ZV_aload_n dX7_init_48 rfl ?_
  refine ZV_sipush dX7_init_49 (by decide) ?_
  refine ZV_newaI (n := 1960) aX7_init_int dX7_init_52 (by first | rfl | omega) (by decide) (by assumption) ⟨by decide, by decide⟩ ?_
  refine ZV_putR fX7_init_25 dX7_init_54 (by first | assumption | exact ksh_old _ (by assumption)) rfl ⟨rfl, rfl⟩ ?_
  have top6 : m + 6 = xB X + gg5.1.length := by omega
  rw [← top6]
  generalize hG6 : ((geoPush X gg5 (.inr (0, 1960))).1, up2 (geoPush X gg5 (.inr (0, 1960))).2.1 m 10 (some (m + 6)), (geoPush X gg5 (.inr (0, 1960))).2.2) = gg6
  obtain ⟨E6a, E6b, q6_6, r6_6, E6e, -⟩ := pr_ok (.inr (0, 1960)) (rowZ (rowZ (rowZ (rowZ (rowZ I (m + 1)) (m + 2)) (m + 3)) (m + 4)) (m + 5)) (rowZ (rowZ (rowZ (rowZ (rowZ J (m + 1)) (m + 2)) (m + 3)) (m + 4)) (m + 5)) top6 (show m < m + 6 by omega) (Nat.le_refl m) hG6
  have k6 := E6a.2.1 _ _ k5
  have t6 : gg6.2.2 = true := by rw [E6a.1.2]; exact t5
  have r1_6 : gg6.2.1 m 1 = some (m + 1) := by rw [E6e 1 (by decide)]; exact r1_5
  have q1_6 := E6a.2.1 _ _ q1_5
  have r2_6 : gg6.2.1 m 5 = some (m + 2) := by rw [E6e 5 (by decide)]; exact r2_5
  have q2_6 := E6a.2.1 _ _ q2_5
  have r3_6 : gg6.2.1 m 6 = some (m + 3) := by rw [E6e 6 (by decide)]; exact r3_5
  have q3_6 := E6a.2.1 _ _ q3_5
  have r4_6 : gg6.2.1 m 7 = some (m + 4) := by rw [E6e 7 (by decide)]; exact r4_5
  have q4_6 := E6a.2.1 _ _ q4_5
  have r5_6 : gg6.2.1 m 8 = some (m + 5) := by rw [E6e 8 (by decide)]; exact r5_5
  have q5_6 := E6a.2.1 _ _ q5_5
  have A6 := A5.trans E6a (Nat.le_refl _)
  clear r1_5 q1_5 r2_5 q2_5 r3_5 q3_5 r4_5 q4_5 r5_5 q5_5 E6a E6e hG6
  refine ZV_aload_n dX7_init_57 rfl ?_
  refine ZV_iconst dX7_init_58 ?_
  refine ZV_newaZ (n := 2) aX7_init_boolean dX7_init_59 (by first | rfl | omega) (by decide) (by assumption) ⟨by decide, by decide⟩ ?_
  refine ZV_putR fX7_init_28 dX7_init_61 (by first | assumption | exact ksh_old _ (by assumption)) rfl ⟨rfl, rfl⟩ ?_
  have top7 : m + 7 = xB X + gg6.1.length := by omega
  rw [← top7]
  generalize hG7 : ((geoPush X gg6 (.inr (3, 2))).1, up2 (geoPush X gg6 (.inr (3, 2))).2.1 m 11 (some (m + 7)), (geoPush X gg6 (.inr (3, 2))).2.2) = gg7
  obtain ⟨E7a, E7b, q7_7, r7_7, E7e, -⟩ := pr_ok (.inr (3, 2)) (rowZ (rowZ (rowZ (rowZ (rowZ (rowZ I (m + 1)) (m + 2)) (m + 3)) (m + 4)) (m + 5)) (m + 6)) (rowZ (rowZ (rowZ (rowZ (rowZ (rowZ J (m + 1)) (m + 2)) (m + 3)) (m + 4)) (m + 5)) (m + 6)) top7 (show m < m + 7 by omega) (Nat.le_refl m) hG7
  have k7 := E7a.2.1 _ _ k6
  have t7 : gg7.2.2 = true := by rw [E7a.1.2]; exact t6
  have r1_7 : gg7.2.1 m 1 = some (m + 1) := by rw [E7e 1 (by decide)]; exact r1_6
  have q1_7 := E7a.2.1 _ _ q1_6
  have r2_7 : gg7.2.1 m 5 = some (m + 2) := by rw [E7e 5 (by decide)]; exact r2_6
  have q2_7 := E7a.2.1 _ _ q2_6
  have r3_7 : gg7.2.1 m 6 = some (m + 3) := by rw [E7e 6 (by decide)]; exact r3_6
  have q3_7 := E7a.2.1 _ _ q3_6
  have r4_7 : gg7.2.1 m 7 = some (m + 4) := by rw [E7e 7 (by decide)]; exact r4_6
  have q4_7 := E7a.2.1 _ _ q4_6
  have r5_7 : gg7.2.1 m 8 = some (m + 5) := by rw [E7e 8 (by decide)]; exact r5_6
  have q5_7 := E7a.2.1 _ _ q5_6
  have r6_7 : gg7.2.1 m 10 = some (m + 6) := by rw [E7e 10 (by decide)]; exact r6_6
  have q6_7 := E7a.2.1 _ _ q6_6
  have A7 := A6.trans E7a (Nat.le_refl _)
  clear r1_6 q1_6 r2_6 q2_6 r3_6 q3_6 r4_6 q4_6 r5_6 q5_6 r6_6 q6_6 E7a E7e hG7
  refine ZV_aload_n dX7_init_64 rfl ?_
  refine ZV_sipush dX7_init_65 (by decide) ?_
  refine ZV_newaI (n := 224) aX7_init_int dX7_init_68 (by first | rfl | omega) (by decide) (by assumption) ⟨by decide, by decide⟩ ?_
  refine ZV_putR fX7_init_32 dX7_init_70 (by first | assumption | exact ksh_old _ (by assumption)) rfl ⟨rfl, rfl⟩ ?_
  have top8 : m + 8 = xB X + gg7.1.length := by omega
  rw [← top8]
  generalize hG8 : ((geoPush X gg7 (.inr (0, 224))).1, up2 (geoPush X gg7 (.inr (0, 224))).2.1 m 12 (some (m + 8)), (geoPush X gg7 (.inr (0, 224))).2.2) = gg8
  obtain ⟨E8a, E8b, q8_8, r8_8, E8e, -⟩ := pr_ok (.inr (0, 224)) (rowZ (rowZ (rowZ (rowZ (rowZ (rowZ (rowZ I (m + 1)) (m + 2)) (m + 3)) (m + 4)) (m + 5)) (m + 6)) (m + 7)) (rowZ (rowZ (rowZ (rowZ (rowZ (rowZ (rowZ J (m + 1)) (m + 2)) (m + 3)) (m + 4)) (m + 5)) (m + 6)) (m + 7)) top8 (show m < m + 8 by omega) (Nat.le_refl m) hG8
  have k8 := E8a.2.1 _ _ k7
  have t8 : gg8.2.2 = true := by rw [E8a.1.2]; exact t7
  have r1_8 : gg8.2.1 m 1 = some (m + 1) := by rw [E8e 1 (by decide)]; exact r1_7
  have q1_8 := E8a.2.1 _ _ q1_7
  have r2_8 : gg8.2.1 m 5 = some (m + 2) := by rw [E8e 5 (by decide)]; exact r2_7
  have q2_8 := E8a.2.1 _ _ q2_7
  have r3_8 : gg8.2.1 m 6 = some (m + 3) := by rw [E8e 6 (by decide)]; exact r3_7
  have q3_8 := E8a.2.1 _ _ q3_7
  have r4_8 : gg8.2.1 m 7 = some (m + 4) := by rw [E8e 7 (by decide)]; exact r4_7
  have q4_8 := E8a.2.1 _ _ q4_7
  have r5_8 : gg8.2.1 m 8 = some (m + 5) := by rw [E8e 8 (by decide)]; exact r5_7
  have q5_8 := E8a.2.1 _ _ q5_7
  have r6_8 : gg8.2.1 m 10 = some (m + 6) := by rw [E8e 10 (by decide)]; exact r6_7
  have q6_8 := E8a.2.1 _ _ q6_7
  have r7_8 : gg8.2.1 m 11 = some (m + 7) := by rw [E8e 11 (by decide)]; exact r7_7
  have q7_8 := E8a.2.1 _ _ q7_7
  have A8 := A7.trans E8a (Nat.le_refl _)
  clear r1_7 q1_7 r2_7 q2_7 r3_7 q3_7 r4_7 q4_7 r5_7 q5_7 r6_7 q6_7 r7_7 q7_7 E8a E8e hG8
  refine ZV_aload_n dX7_init_73 rfl ?_
  refine ZV_bipush dX7_init_74 (by decide) ?_
  refine ZV_newaI (n := 16) aX7_init_int dX7_init_76 (by first | rfl | omega) (by decide) (by assumption) ⟨by decide, by decide⟩ ?_
  refine ZV_putR fX7_init_35 dX7_init_78 (by first | assumption | exact ksh_old _ (by assumption)) rfl ⟨rfl, rfl⟩ ?_
  have top9 : m + 9 = xB X + gg8.1.length := by omega
  rw [← top9]
  generalize hG9 : ((geoPush X gg8 (.inr (0, 16))).1, up2 (geoPush X gg8 (.inr (0, 16))).2.1 m 13 (some (m + 9)), (geoPush X gg8 (.inr (0, 16))).2.2) = gg9
  obtain ⟨E9a, E9b, q9_9, r9_9, E9e, -⟩ := pr_ok (.inr (0, 16)) (rowZ (rowZ (rowZ (rowZ (rowZ (rowZ (rowZ (rowZ I (m + 1)) (m + 2)) (m + 3)) (m + 4)) (m + 5)) (m + 6)) (m + 7)) (m + 8)) (rowZ (rowZ (rowZ (rowZ (rowZ (rowZ (rowZ (rowZ J (m + 1)) (m + 2)) (m + 3)) (m + 4)) (m + 5)) (m + 6)) (m + 7)) (m + 8)) top9 (show m < m + 9 by omega) (Nat.le_refl m) hG9
  have k9 := E9a.2.1 _ _ k8
  have t9 : gg9.2.2 = true := by rw [E9a.1.2]; exact t8
  have r1_9 : gg9.2.1 m 1 = some (m + 1) := by rw [E9e 1 (by decide)]; exact r1_8
  have q1_9 := E9a.2.1 _ _ q1_8
  have r2_9 : gg9.2.1 m 5 = some (m + 2) := by rw [E9e 5 (by decide)]; exact r2_8
  have q2_9 := E9a.2.1 _ _ q2_8
  have r3_9 : gg9.2.1 m 6 = some (m + 3) := by rw [E9e 6 (by decide)]; exact r3_8
  have q3_9 := E9a.2.1 _ _ q3_8
  have r4_9 : gg9.2.1 m 7 = some (m + 4) := by rw [E9e 7 (by decide)]; exact r4_8
  have q4_9 := E9a.2.1 _ _ q4_8
  have r5_9 : gg9.2.1 m 8 = some (m + 5) := by rw [E9e 8 (by decide)]; exact r5_8
  have q5_9 := E9a.2.1 _ _ q5_8
  have r6_9 : gg9.2.1 m 10 = some (m + 6) := by rw [E9e 10 (by decide)]; exact r6_8
  have q6_9 := E9a.2.1 _ _ q6_8
  have r7_9 : gg9.2.1 m 11 = some (m + 7) := by rw [E9e 11 (by decide)]; exact r7_8
  have q7_9 := E9a.2.1 _ _ q7_8
  have r8_9 : gg9.2.1 m 12 = some (m + 8) := by rw [E9e 12 (by decide)]; exact r8_8
  have q8_9 := E9a.2.1 _ _ q8_8
  have A9 := A8.trans E9a (Nat.le_refl _)
  clear r1_8 q1_8 r2_8 q2_8 r3_8 q3_8 r4_8 q4_8 r5_8 q5_8 r6_8 q6_8 r7_8 q7_8 r8_8 q8_8 E9a E9e hG9
  refine ZV_aload_n dX7_init_81 rfl ?_
  refine ZV_bipush dX7_init_82 (by decide) ?_
  refine ZV_newaI (n := 16) aX7_init_int dX7_init_84 (by first | rfl | omega) (by decide) (by assumption) ⟨by decide, by decide⟩ ?_
  refine ZV_putR fX7_init_38 dX7_init_86 (by first | assumption | exact ksh_old _ (by assumption)) rfl ⟨rfl, rfl⟩ ?_
  have top10 : m + 10 = xB X + gg9.1.length := by omega
  rw [← top10]
  generalize hG10 : ((geoPush X gg9 (.inr (0, 16))).1, up2 (geoPush X gg9 (.inr (0, 16))).2.1 m 14 (some (m + 10)), (geoPush X gg9 (.inr (0, 16))).2.2) = gg10
  obtain ⟨E10a, E10b, q10_10, r10_10, E10e, -⟩ := pr_ok (.inr (0, 16)) (rowZ (rowZ (rowZ (rowZ (rowZ (rowZ (rowZ (rowZ (rowZ I (m + 1)) (m + 2)) (m + 3)) (m + 4)) (m + 5)) (m + 6)) (m + 7)) (m + 8)) (m + 9)) (rowZ (rowZ (rowZ (rowZ (rowZ (rowZ (rowZ (rowZ (rowZ J (m + 1)) (m + 2)) (m + 3)) (m + 4)) (m + 5)) (m + 6)) (m + 7)) (m + 8)) (m + 9)) top10 (show m < m + 10 by omega) (Nat.le_refl m) hG10
  have k10 := E10a.2.1 _ _ k9
  have t10 : gg10.2.2 = true := by rw [E10a.1.2]; exact t9
  have r1_10 : gg10.2.1 m 1 = some (m + 1) := by rw [E10e 1 (by decide)]; exact r1_9
  have q1_10 := E10a.2.1 _ _ q1_9
  have r2_10 : gg10.2.1 m 5 = some (m + 2) := by rw [E10e 5 (by decide)]; exact r2_9
  have q2_10 := E10a.2.1 _ _ q2_9
  have r3_10 : gg10.2.1 m 6 = some (m + 3) := by rw [E10e 6 (by decide)]; exact r3_9
  have q3_10 := E10a.2.1 _ _ q3_9
  have r4_10 : gg10.2.1 m 7 = some (m + 4) := by rw [E10e 7 (by decide)]; exact r4_9
  have q4_10 := E10a.2.1 _ _ q4_9
  have r5_10 : gg10.2.1 m 8 = some (m + 5) := by rw [E10e 8 (by decide)]; exact r5_9
  have q5_10 := E10a.2.1 _ _ q5_9
  have r6_10 : gg10.2.1 m 10 = some (m + 6) := by rw [E10e 10 (by decide)]; exact r6_9
  have q6_10 := E10a.2.1 _ _ q6_9
  have r7_10 : gg10.2.1 m 11 = some (m + 7) := by rw [E10e 11 (by decide)]; exact r7_9
  have q7_10 := E10a.2.1 _ _ q7_9
  have r8_10 : gg10.2.1 m 12 = some (m + 8) := by rw [E10e 12 (by decide)]; exact r8_9
  have q8_10 := E10a.2.1 _ _ q8_9
  have r9_10 : gg10.2.1 m 13 = some (m + 9) := by rw [E10e 13 (by decide)]; exact r9_9
  have q9_10 := E10a.2.1 _ _ q9_9
  have A10 := A9.trans E10a (Nat.le_refl _)
  clear r1_9 q1_9 r2_9 q2_9 r3_9 q3_9 r4_9 q4_9 r5_9 q5_9 r6_9 q6_9 r7_9 q7_9 r8_9 q8_9 r9_9 q9_9 E10a E10e hG10
  refine ZV_aload_n dX7_init_89 rfl ?_
  refine ZV_bipush dX7_init_90 (by decide) ?_
  refine ZV_newaI (n := 16) aX7_init_int dX7_init_92 (by first | rfl | omega) (by decide) (by assumption) ⟨by decide, by decide⟩ ?_
  refine ZV_putR fX7_init_41 dX7_init_94 (by first | assumption | exact ksh_old _ (by assumption)) rfl ⟨rfl, rfl⟩ ?_
  have top11 : m + 11 = xB X + gg10.1.length := by omega
  rw [← top11]
  generalize hG11 : ((geoPush X gg10 (.inr (0, 16))).1, up2 (geoPush X gg10 (.inr (0, 16))).2.1 m 15 (some (m + 11)), (geoPush X gg10 (.inr (0, 16))).2.2) = gg11
  obtain ⟨E11a, E11b, q11_11, r11_11, E11e, -⟩ := pr_ok (.inr (0, 16)) (rowZ (rowZ (rowZ (rowZ (rowZ (rowZ (rowZ (rowZ (rowZ (rowZ I (m + 1)) (m + 2)) (m + 3)) (m + 4)) (m + 5)) (m + 6)) (m + 7)) (m + 8)) (m + 9)) (m + 10)) (rowZ (rowZ (rowZ (rowZ (rowZ (rowZ (rowZ (rowZ (rowZ (rowZ J (m + 1)) (m + 2)) (m + 3)) (m + 4)) (m + 5)) (m + 6)) (m + 7)) (m + 8)) (m + 9)) (m + 10)) top11 (show m < m + 11 by omega) (Nat.le_refl m) hG11
  have k11 := E11a.2.1 _ _ k10
  have t11 : gg11.2.2 = true := by rw [E11a.1.2]; exact t10
  have r1_11 : gg11.2.1 m 1 = some (m + 1) := by rw [E11e 1 (by decide)]; exact r1_10
  have q1_11 := E11a.2.1 _ _ q1_10
  have r2_11 : gg11.2.1 m 5 = some (m + 2) := by rw [E11e 5 (by decide)]; exact r2_10
  have q2_11 := E11a.2.1 _ _ q2_10
  have r3_11 : gg11.2.1 m 6 = some (m + 3) := by rw [E11e 6 (by decide)]; exact r3_10
  have q3_11 := E11a.2.1 _ _ q3_10
  have r4_11 : gg11.2.1 m 7 = some (m + 4) := by rw [E11e 7 (by decide)]; exact r4_10
  have q4_11 := E11a.2.1 _ _ q4_10
  have r5_11 : gg11.2.1 m 8 = some (m + 5) := by rw [E11e 8 (by decide)]; exact r5_10
  have q5_11 := E11a.2.1 _ _ q5_10
  have r6_11 : gg11.2.1 m 10 = some (m + 6) := by rw [E11e 10 (by decide)]; exact r6_10
  have q6_11 := E11a.2.1 _ _ q6_10
  have r7_11 : gg11.2.1 m 11 = some (m + 7) := by rw [E11e 11 (by decide)]; exact r7_10
  have q7_11 := E11a.2.1 _ _ q7_10
  have r8_11 : gg11.2.1 m 12 = some (m + 8) := by rw [E11e 12 (by decide)]; exact r8_10
  have q8_11 := E11a.2.1 _ _ q8_10
  have r9_11 : gg11.2.1 m 13 = some (m + 9) := by rw [E11e 13 (by decide)]; exact r9_10
  have q9_11 := E11a.2.1 _ _ q9_10
  have r10_11 : gg11.2.1 m 14 = some (m + 10) := by rw [E11e 14 (by decide)]; exact r10_10
  have q10_11 := E11a.2.1 _ _ q10_10
  have A11 := A10.trans E11a (Nat.le_refl _)
  clear r1_10 q1_10 r2_10 q2_10 r3_10 q3_10 r4_10 q4_10 r5_10 q5_10 r6_10 q6_10 r7_10 q7_10 r8_10 q8_10 r9_10 q9_10 r10_10 q10_10 E11a E11e hG11
  refine ZV_aload_n dX7_init_97 rfl ?_
  refine ZV_sipush dX7_init_98 (by decide) ?_
  refine ZV_newaI (n := 224) aX7_init_int dX7_init_101 (by first | rfl | omega) (by decide) (by assumption) ⟨by decide, by decide⟩ ?_
  refine ZV_putR fX7_init_44 dX7_init_103 (by first | assumption | exact ksh_old _ (by assumption)) rfl ⟨rfl, rfl⟩ ?_
  have top12 : m + 12 = xB X + gg11.1.length := by omega
  rw [← top12]
  generalize hG12 : ((geoPush X gg11 (.inr (0, 224))).1, up2 (geoPush X gg11 (.inr (0, 224))).2.1 m 16 (some (m + 12)), (geoPush X gg11 (.inr (0, 224))).2.2) = gg12
  obtain ⟨E12a, E12b, q12_12, r12_12, E12e, -⟩ := pr_ok (.inr (0, 224)) (rowZ (rowZ (rowZ (rowZ (rowZ (rowZ (rowZ (rowZ (rowZ (rowZ (rowZ I (m + 1)) (m + 2)) (m + 3)) (m + 4)) (m + 5)) (m + 6)) (m + 7)) (m + 8)) (m + 9)) (m + 10)) (m + 11)) (rowZ (rowZ (rowZ (rowZ (rowZ (rowZ (rowZ (rowZ (rowZ (rowZ (rowZ J (m + 1)) (m + 2)) (m + 3)) (m + 4)) (m + 5)) (m + 6)) (m + 7)) (m + 8)) (m + 9)) (m + 10)) (m + 11)) top12 (show m < m + 12 by omega) (Nat.le_refl m) hG12
  have k12 := E12a.2.1 _ _ k11
  have t12 : gg12.2.2 = true := by rw [E12a.1.2]; exact t11
  have r1_12 : gg12.2.1 m 1 = some (m + 1) := by rw [E12e 1 (by decide)]; exact r1_11
  have q1_12 := E12a.2.1 _ _ q1_11
  have r2_12 : gg12.2.1 m 5 = some (m + 2) := by rw [E12e 5 (by decide)]; exact r2_11
  have q2_12 := E12a.2.1 _ _ q2_11
  have r3_12 : gg12.2.1 m 6 = some (m + 3) := by rw [E12e 6 (by decide)]; exact r3_11
  have q3_12 := E12a.2.1 _ _ q3_11
  have r4_12 : gg12.2.1 m 7 = some (m + 4) := by rw [E12e 7 (by decide)]; exact r4_11
  have q4_12 := E12a.2.1 _ _ q4_11
  have r5_12 : gg12.2.1 m 8 = some (m + 5) := by rw [E12e 8 (by decide)]; exact r5_11
  have q5_12 := E12a.2.1 _ _ q5_11
  have r6_12 : gg12.2.1 m 10 = some (m + 6) := by rw [E12e 10 (by decide)]; exact r6_11
  have q6_12 := E12a.2.1 _ _ q6_11
  have r7_12 : gg12.2.1 m 11 = some (m + 7) := by rw [E12e 11 (by decide)]; exact r7_11
  have q7_12 := E12a.2.1 _ _ q7_11
  have r8_12 : gg12.2.1 m 12 = some (m + 8) := by rw [E12e 12 (by decide)]; exact r8_11
  have q8_12 := E12a.2.1 _ _ q8_11
  have r9_12 : gg12.2.1 m 13 = some (m + 9) := by rw [E12e 13 (by decide)]; exact r9_11
  have q9_12 := E12a.2.1 _ _ q9_11
  have r10_12 : gg12.2.1 m 14 = some (m + 10) := by rw [E12e 14 (by decide)]; exact r10_11
  have q10_12 := E12a.2.1 _ _ q10_11
  have r11_12 : gg12.2.1 m 15 = some (m + 11) := by rw [E12e 15 (by decide)]; exact r11_11
  have q11_12 := E12a.2.1 _ _ q11_11
  have A12 := A11.trans E12a (Nat.le_refl _)
  clear r1_11 q1_11 r2_11 q2_11 r3_11 q3_11 r4_11 q4_11 r5_11 q5_11 r6_11 q6_11 r7_11 q7_11 r8_11 q8_11 r9_11 q9_11 r10_11 q10_11 r11_11 q11_11 E12a E12e hG12
  refine ZV_aload_n dX7_init_106 rfl ?_
  refine ZV_bipush dX7_init_107 (by decide) ?_
  refine ZV_newaI (n := 14) aX7_init_int dX7_init_109 (by first | rfl | omega) (by decide) (by assumption) ⟨by decide, by decide⟩ ?_
  refine ZV_putR fX7_init_47 dX7_init_111 (by first | assumption | exact ksh_old _ (by assumption)) rfl ⟨rfl, rfl⟩ ?_
  have top13 : m + 13 = xB X + gg12.1.length := by omega
  rw [← top13]
  generalize hG13 : ((geoPush X gg12 (.inr (0, 14))).1, up2 (geoPush X gg12 (.inr (0, 14))).2.1 m 17 (some (m + 13)), (geoPush X gg12 (.inr (0, 14))).2.2) = gg13
  obtain ⟨E13a, E13b, q13_13, r13_13, E13e, -⟩ := pr_ok (.inr (0, 14)) (rowZ (rowZ (rowZ (rowZ (rowZ (rowZ (rowZ (rowZ (rowZ (rowZ (rowZ (rowZ I (m + 1)) (m + 2)) (m + 3)) (m + 4)) (m + 5)) (m + 6)) (m + 7)) (m + 8)) (m + 9)) (m + 10)) (m + 11)) (m + 12)) (rowZ (rowZ (rowZ (rowZ (rowZ (rowZ (rowZ (rowZ (rowZ (rowZ (rowZ (rowZ J (m + 1)) (m + 2)) (m + 3)) (m + 4)) (m + 5)) (m + 6)) (m + 7)) (m + 8)) (m + 9)) (m + 10)) (m + 11)) (m + 12)) top13 (show m < m + 13 by omega) (Nat.le_refl m) hG13
  have k13 := E13a.2.1 _ _ k12
  have t13 : gg13.2.2 = true := by rw [E13a.1.2]; exact t12
  have r1_13 : gg13.2.1 m 1 = some (m + 1) := by rw [E13e 1 (by decide)]; exact r1_12
  have q1_13 := E13a.2.1 _ _ q1_12
  have r2_13 : gg13.2.1 m 5 = some (m + 2) := by rw [E13e 5 (by decide)]; exact r2_12
  have q2_13 := E13a.2.1 _ _ q2_12
  have r3_13 : gg13.2.1 m 6 = some (m + 3) := by rw [E13e 6 (by decide)]; exact r3_12
  have q3_13 := E13a.2.1 _ _ q3_12
  have r4_13 : gg13.2.1 m 7 = some (m + 4) := by rw [E13e 7 (by decide)]; exact r4_12
  have q4_13 := E13a.2.1 _ _ q4_12
  have r5_13 : gg13.2.1 m 8 = some (m + 5) := by rw [E13e 8 (by decide)]; exact r5_12
  have q5_13 := E13a.2.1 _ _ q5_12
  have r6_13 : gg13.2.1 m 10 = some (m + 6) := by rw [E13e 10 (by decide)]; exact r6_12
  have q6_13 := E13a.2.1 _ _ q6_12
  have r7_13 : gg13.2.1 m 11 = some (m + 7) := by rw [E13e 11 (by decide)]; exact r7_12
  have q7_13 := E13a.2.1 _ _ q7_12
  have r8_13 : gg13.2.1 m 12 = some (m + 8) := by rw [E13e 12 (by decide)]; exact r8_12
  have q8_13 := E13a.2.1 _ _ q8_12
  have r9_13 : gg13.2.1 m 13 = some (m + 9) := by rw [E13e 13 (by decide)]; exact r9_12
  have q9_13 := E13a.2.1 _ _ q9_12
  have r10_13 : gg13.2.1 m 14 = some (m + 10) := by rw [E13e 14 (by decide)]; exact r10_12
  have q10_13 := E13a.2.1 _ _ q10_12
  have r11_13 : gg13.2.1 m 15 = some (m + 11) := by rw [E13e 15 (by decide)]; exact r11_12
  have q11_13 := E13a.2.1 _ _ q11_12
  have r12_13 : gg13.2.1 m 16 = some (m + 12) := by rw [E13e 16 (by decide)]; exact r12_12
  have q12_13 := E13a.2.1 _ _ q12_12
  have A13 := A12.trans E13a (Nat.le_refl _)
  clear r1_12 q1_12 r2_12 q2_12 r3_12 q3_12 r4_12 q4_12 r5_12 q5_12 r6_12 q6_12 r7_12 q7_12 r8_12 q8_12 r9_12 q9_12 r10_12 q10_12 r11_12 q11_12 r12_12 q12_12 E13a E13e hG13
  refine ZV_aload_n dX7_init_114 rfl ?_
  refine ZV_getR fX7_init_16 dX7_init_115 (by first | assumption | exact ksh_old _ (by assumption)) rfl (by assumption) ?_
  refine cl_X7_clean kX7_init_50 rfl dX7_init_118 (Nat.le_of_ble_eq_true rfl) ?_
  refine sp_X7_clean q3_13 ?_
  intro I' hI' hI'k
  refine ZV_vret dX7_init_121 rfl ?_
  exact h gg13 _ _ I' A13 (by omega) ⟨k13, ⟨r1_13, r2_13, r3_13, r4_13, r5_13, r6_13, r7_13⟩, ⟨r8_13, r9_13, r10_13, r11_13, r12_13, r13_13⟩, ⟨q1_13, q2_13, q3_13, q4_13, q5_13, q6_13, q7_13⟩, ⟨q8_13, q9_13, q10_13, q11_13, q12_13, q13_13⟩⟩ hI' hI'k
end ZMI

