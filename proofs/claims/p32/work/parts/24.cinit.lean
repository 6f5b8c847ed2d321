/-! the constructor of CitationKeys -/
/-- kinds are kept, and rows of references between c and top -/
def Kp (X : Xt) (c top : Nat) (g g' : Geo) : Prop := (∀ a k, ksh X g a = some k → ksh X g' a = some k) ∧ ∀ a, c < a → a < top → g'.2.1 a = g.2.1 a
theorem Kp.trans {X : Xt} {c top top2 : Nat} {g g1 g2 : Geo} (h1 : Kp X c top g g1) (h2 : Kp X c top2 g1 g2) (h : top ≤ top2) : Kp X c top g g2 := ⟨fun a k e => h2.1 a k (h1.1 a k e), fun a q1 q2 => by rw [h2.2 a q1 (by omega), h1.2 a q1 q2]⟩
theorem Kp.mono {X : Xt} {c top top2 : Nat} {g g' : Geo} (h1 : Kp X c top g g') (h : top2 ≤ top) : Kp X c top2 g g' := ⟨h1.1, fun a q1 q2 => h1.2 a q1 (by omega)⟩
theorem Gr.lo {X : Xt} {lo lo2 : Nat} {g g' : Geo} {I J I' J' : Mm} (h : Gr X lo g g' I J I' J') (hl : lo2 ≤ lo) : Gr X lo2 g g' I J I' J' := ⟨h.1, h.2.1, fun a ha => h.2.2.1 a (by omega), h.2.2.2⟩
theorem no_ok {X : Xt} {c top slot n : Nat} {g g3 G : Geo} {kd : Kd} {I J I3 J3 : Mm} (htop : top = xB X + g.1.length) (hc : c < top) (G3 : Gr X top (geoPush X g kd) g3 (rowZ I top) (rowZ J top) I3 J3) (l3 : g3.1.length = (geoPush X g kd).1.length + n) (hG : (g3.1, up2 g3.2.1 c slot (some top), g3.2.2) = G) : Gr X c g G I J I3 J3 ∧ G.1.length = g.1.length + n + 1 ∧ G.2.1 c slot = some top ∧ (∀ k', k' ≠ slot → G.2.1 c k' = g.2.1 c k') ∧ Kp X c top g G ∧ Kp X c (xB X + G.1.length) g3 G := by
  subst hG
  have P1 := push_Gr kd I J htop (Nat.le_refl top)
  have Pl := push_len X g kd
  refine ⟨((P1.trans G3 (Nat.le_refl _)).lo (Nat.le_of_lt hc)).trans (row_Gr c slot _ (Nat.le_refl c)) (Nat.le_refl _), ?_, up2_same _ _ _ _, fun k' hk' => ?_, ⟨fun a k e => G3.2.1 a k (ksh_old kd e), fun a h1 h2 => ?_⟩, ⟨fun a k e => e, fun a h1 h2 => up2_row _ _ (by omega)⟩⟩
  · show g3.1.length = _
    omega
  · show up2 g3.2.1 c slot (some top) c k' = _
    rw [up2_kR hk', G3.2.2.1 c hc, P1.2.2.1 c hc]
  · show up2 g3.2.1 c slot (some top) a = _
    rw [up2_row _ _ (by omega), G3.2.2.1 a h2, P1.2.2.1 a h2]
/-- the cells of a CitationKeys from c on -/
def CL (X : Xt) (g : Geo) (c : Nat) : Prop := (ksh X g c = some (.inl 4) ∧ g.2.1 c 0 = some (c + 1) ∧ g.2.1 c 1 = some (c + 36) ∧ g.2.1 c 2 = some (c + 74) ∧ g.2.1 c 3 = some (c + 112) ∧ g.2.1 c 4 = some (c + 114) ∧ g.2.1 c 5 = some (c + 648) ∧ g.2.1 c 6 = some (c + 725)) ∧ TL X g (c + 1) ∧ SL X g (c + 36) ∧ SL X g (c + 74) ∧ WG X g (c + 112) ∧ HG X g (c + 114) ∧ (ksh X g (c + 648) = some (.inr (4, 2)) ∧ (∀ s, s < 2 → g.2.1 (c + 648) s = some (c + 649 + 38 * s) ∧ SL X g (c + 649 + 38 * s))) ∧ ksh X g (c + 725) = some (.inr (3, 2))
section ZIn
variable {X : Xt} {g : Geo} {I J : Mm} {post : Out → Geo → Mm → Mm → Prop}
set_option maxRecDepth 4096 in
theorem sp_X6_init {c : Nat} (hk : ksh X g c = some (.inl 4)) (ht : c + 1 = xB X + g.1.length) (hg : g.2.2 = true) (h : ∀ g' I' J', Gr X c g g' I J I' J' → g'.1.length = g.1.length + 725 → CL X g' c → post (.inl none) g' I' J') : ZV X E_X6_init 0 [some (.ref c), none] [] (725, 4185) g I J post := by
  refine ZV_aload_n dX6_init_0 rfl ?_
  refine ZV_objInit dX6_init_1 oX6_init ⟨by decide, by decide⟩ ?_
  refine ZV_aload_n dX6_init_4 rfl ?_
  refine ZV_new nX6_init_7 dX6_init_5 (by assumption) ⟨by decide, by decide⟩ ?_
  have topA : c + 1 = xB X + g.1.length := by omega
  rw [← topA]
  have PkA := ksh_new X g (.inl 2)
  rw [← topA] at PkA
  have PlA := push_len X g (.inl 2)
  have PtA : (geoPush X g (.inl 2)).2.2 = true := hg
  refine ZV_dup dX6_init_8 rfl ?_
  refine cl_X4_init kX6_init_9 rfl dX6_init_9 ⟨by decide, by decide⟩ (Nat.le_of_ble_eq_true rfl) ?_
  refine sp_X4_init PkA (by omega) PtA ?_
  intro gA' IA JA GA lA WA
  have qA := GA.2.1 _ _ (ksh_old (.inl 2) hk)
  refine ZV_putR fX6_init_10 dX6_init_12 (by first | assumption | exact ksh_old _ (by assumption)) rfl ⟨rfl, rfl⟩ ?_
  generalize hGA : (gA'.1, up2 gA'.2.1 c 0 (some (c + 1)), gA'.2.2) = gA
  obtain ⟨A1, A2, A3, A4, A5, A6⟩ := no_ok topA (by omega) GA lA hGA
  have kA := A1.2.1 _ _ hk
  have tA : gA.2.2 = true := by rw [A1.1.2]; exact hg
  refine ZV_aload_n dX6_init_15 rfl ?_
  refine ZV_new nX6_init_16 dX6_init_16 (by assumption) ⟨by decide, by decide⟩ ?_
  have topB : c + 36 = xB X + gA.1.length := by omega
  rw [← topB]
  have PkB := ksh_new X gA (.inl 1)
  rw [← topB] at PkB
  have PlB := push_len X gA (.inl 1)
  have PtB : (geoPush X gA (.inl 1)).2.2 = true := tA
  refine ZV_dup dX6_init_19 rfl ?_
  refine cl_X3_init kX6_init_18 rfl dX6_init_20 ⟨by decide, by decide⟩ (Nat.le_of_ble_eq_true rfl) ?_
  refine sp_X3_init PkB (by omega) PtB ?_
  intro gB' IB JB GB lB WB _
  have qB := GB.2.1 _ _ (ksh_old (.inl 1) kA)
  refine ZV_putR fX6_init_19 dX6_init_23 (by first | assumption | exact ksh_old _ (by assumption)) rfl ⟨rfl, rfl⟩ ?_
  generalize hGB : (gB'.1, up2 gB'.2.1 c 1 (some (c + 36)), gB'.2.2) = gB
  obtain ⟨B1, B2, B3, B4, B5, B6⟩ := no_ok topB (by omega) GB lB hGB
  have kB := B1.2.1 _ _ kA
  have tB : gB.2.2 = true := by rw [B1.1.2]; exact tA
  refine ZV_aload_n dX6_init_26 rfl ?_
  refine ZV_new nX6_init_16 dX6_init_27 (by assumption) ⟨by decide, by decide⟩ ?_
  have topC : c + 74 = xB X + gB.1.length := by omega
  rw [← topC]
  have PkC := ksh_new X gB (.inl 1)
  rw [← topC] at PkC
  have PlC := push_len X gB (.inl 1)
  have PtC : (geoPush X gB (.inl 1)).2.2 = true := tB
  refine ZV_dup dX6_init_30 rfl ?_
  refine cl_X3_init kX6_init_18 rfl dX6_init_31 ⟨by decide, by decide⟩ (Nat.le_of_ble_eq_true rfl) ?_
  refine sp_X3_init PkC (by omega) PtC ?_
  intro gC' IC JC GC lC WC _
  have qC := GC.2.1 _ _ (ksh_old (.inl 1) kB)
  refine ZV_putR fX6_init_23 dX6_init_34 (by first | assumption | exact ksh_old _ (by assumption)) rfl ⟨rfl, rfl⟩ ?_
  generalize hGC : (gC'.1, up2 gC'.2.1 c 2 (some (c + 74)), gC'.2.2) = gC
  obtain ⟨C1, C2, C3, C4, C5, C6⟩ := no_ok topC (by omega) GC lC hGC
  have kC := C1.2.1 _ _ kB
  have tC : gC.2.2 = true := by rw [C1.1.2]; exact tB
  refine ZV_aload_n dX6_init_37 rfl ?_
  refine ZV_new nX6_init_26 dX6_init_38 (by assumption) ⟨by decide, by decide⟩ ?_
  have topD : c + 112 = xB X + gC.1.length := by omega
  rw [← topD]
  have PkD := ksh_new X gC (.inl 3)
  rw [← topD] at PkD
  have PlD := push_len X gC (.inl 3)
  have PtD : (geoPush X gC (.inl 3)).2.2 = true := tC
  refine ZV_dup dX6_init_41 rfl ?_
  refine cl_X5_init kX6_init_28 rfl dX6_init_42 ⟨by decide, by decide⟩ (Nat.le_of_ble_eq_true rfl) ?_
  refine sp_X5_init ⟨by decide, by decide⟩ PkD (by omega) PtD ?_
  intro gD' ID JD GD lD WD
  have qD := GD.2.1 _ _ (ksh_old (.inl 3) kC)
  refine ZV_putR fX6_init_29 dX6_init_45 (by first | assumption | exact ksh_old _ (by assumption)) rfl ⟨rfl, rfl⟩ ?_
  generalize hGD : (gD'.1, up2 gD'.2.1 c 3 (some (c + 112)), gD'.2.2) = gD
  obtain ⟨D1, D2, D3, D4, D5, D6⟩ := no_ok topD (by omega) GD lD hGD
  have kD := D1.2.1 _ _ kC
  have tD : gD.2.2 = true := by rw [D1.1.2]; exact tC
  refine ZV_aload_n dX6_init_48 rfl ?_
  refine ZV_new nX6_init_33 dX6_init_49 (by assumption) ⟨by decide, by decide⟩ ?_
  have topE : c + 114 = xB X + gD.1.length := by omega
  rw [← topE]
  have PkE := ksh_new X gD (.inl 0)
  rw [← topE] at PkE
  have PlE := push_len X gD (.inl 0)
  have PtE : (geoPush X gD (.inl 0)).2.2 = true := tD
  refine ZV_dup dX6_init_52 rfl ?_
  refine cl_X0_init kX6_init_35 rfl dX6_init_53 ⟨by decide, by decide⟩ (Nat.le_of_ble_eq_true rfl) ?_
  refine sp_X0_init PkE (by omega) PtE ?_
  intro gE' IE JE GE lE WE
  have qE := GE.2.1 _ _ (ksh_old (.inl 0) kD)
  refine ZV_putR fX6_init_36 dX6_init_56 (by first | assumption | exact ksh_old _ (by assumption)) rfl ⟨rfl, rfl⟩ ?_
  generalize hGE : (gE'.1, up2 gE'.2.1 c 4 (some (c + 114)), gE'.2.2) = gE
  obtain ⟨E1, E2, E3, E4, E5, E6⟩ := no_ok topE (by omega) GE lE hGE
  have kE := E1.2.1 _ _ kD
  have tE : gE.2.2 = true := by rw [E1.1.2]; exact tD
  refine ZV_aload_n dX6_init_59 rfl ?_
  refine ZV_iconst dX6_init_60 ?_
  refine ZV_newqS (n := 2) aX6_init_61 dX6_init_61 (by first | rfl | omega) (by decide) (by assumption) ⟨by decide, by decide⟩ ?_
  refine ZV_putR fX6_init_40 dX6_init_64 (by first | assumption | exact ksh_old _ (by assumption)) rfl ⟨rfl, rfl⟩ ?_
  rw [show xB X + gE.1.length = c + 648 by omega]
  generalize hGF : ((geoPush X gE (.inr (4, 2))).1, up2 (geoPush X gE (.inr (4, 2))).2.1 c 5 (some (c + 648)), (geoPush X gE (.inr (4, 2))).2.2) = gF
  obtain ⟨F1, F2, F3, F4, F5, F6⟩ := pr_ok (.inr (4, 2)) IE JE (show c + 648 = xB X + gE.1.length by omega) (show c < c + 648 by omega) (Nat.le_refl c) hGF
  have kF := F1.2.1 _ _ kE
  have KF : Kp X c (c + 648) gE gF := ⟨F1.2.1, fun a h1 h2 => F6 a (by omega) (by omega)⟩
  have A0 := ((((A1.trans B1 (Nat.le_refl _)).trans C1 (Nat.le_refl _)).trans D1 (Nat.le_refl _)).trans E1 (Nat.le_refl _)).trans F1 (Nat.le_refl _)
  have KA : Kp X c (c + 36) gA' gF := ((((((A6.mono (show c + 36 ≤ xB X + gA.1.length by omega)).trans B5 (by omega)).trans C5 (by omega)).trans D5 (by omega)).trans E5 (by omega)).trans KF (by omega))
  have KB : Kp X c (c + 74) gB' gF := (((((B6.mono (show c + 74 ≤ xB X + gB.1.length by omega)).trans C5 (by omega)).trans D5 (by omega)).trans E5 (by omega)).trans KF (by omega))
  have KC : Kp X c (c + 112) gC' gF := ((((C6.mono (show c + 112 ≤ xB X + gC.1.length by omega)).trans D5 (by omega)).trans E5 (by omega)).trans KF (by omega))
  have KD : Kp X c (c + 114) gD' gF := (((D6.mono (show c + 114 ≤ xB X + gD.1.length by omega)).trans E5 (by omega)).trans KF (by omega))
  have KE : Kp X c (c + 648) gE' gF := ((E6.mono (show c + 648 ≤ xB X + gE.1.length by omega)).trans KF (by omega))
  have zT : TL X gF (c + 1) := WA.rw' KA.1 (fun a h1 h2 => KA.2 a (by omega) (by omega))
  have zB : SL X gF (c + 36) := WB.rw' KB.1 (fun a h1 h2 => KB.2 a (by omega) (by omega))
  have zC : SL X gF (c + 74) := WC.rw' KC.1 (fun a h1 h2 => KC.2 a (by omega) (by omega))
  have zD : WG X gF (c + 112) := WD.rw' KD.1 (KD.2 _ (by omega) (by omega))
  have zE : HG X gF (c + 114) := WE.rw' KE.1 (fun a h1 h2 => KE.2 a (by omega) (by omega))
  have r0 : gF.2.1 c 0 = some (c + 1) := by rw [F5 0 (by decide), E4 0 (by decide), D4 0 (by decide), C4 0 (by decide), B4 0 (by decide)]; exact A3
  have r1 : gF.2.1 c 1 = some (c + 36) := by rw [F5 1 (by decide), E4 1 (by decide), D4 1 (by decide), C4 1 (by decide)]; exact B3
  have r2 : gF.2.1 c 2 = some (c + 74) := by rw [F5 2 (by decide), E4 2 (by decide), D4 2 (by decide)]; exact C3
  have r3 : gF.2.1 c 3 = some (c + 112) := by rw [F5 3 (by decide), E4 3 (by decide)]; exact D3
  have r4 : gF.2.1 c 4 = some (c + 114) := by rw [F5 4 (by decide)]; exact E3
  refine ZV_iconst dX6_init_67 ?_
  refine ZV_istore1 dX6_init_68 rfl (by decide) ?_
  have key : ∀ q : Nat, q ≤ 2 → ∀ (z : Int) (b : Nat × Nat) (g1 : Geo) (I1 J1 : Mm), z = (q : Int) → b.1 + 38 * q = 77 → b.2 + 217 * q = 436 → Gr X c g g1 I J I1 J1 → xB X + g1.1.length = c + 649 + 38 * q → Kp X c (c + 648) gF g1 → g1.2.1 c = gF.2.1 c → ksh X g1 (c + 648) = some (.inr (4, 2)) → (∀ s, s < q → g1.2.1 (c + 648) s = some (c + 649 + 38 * s) ∧ SL X g1 (c + 649 + 38 * s)) → ZV X E_X6_init 69 [some (.ref c), some (vi z)] [] b g1 I1 J1 post := by
    refine loop_up 2 ?_ ?_
    · intro z b g1 I1 J1 hz b1 b2 Q1 Q2 Q3 Q4 Q5 Q6
      have k1 := Q1.2.1 _ _ hk
      have t1 : g1.2.2 = true := by rw [Q1.1.2]; exact hg
      refine ZV_iload_n dX6_init_69 rfl ?_
      refine ZV_iconst dX6_init_70 ?_
      refine ZV_icmp_ge (tgt := 93) dX6_init_71 (by decide) ⟨by omega, by omega⟩ ⟨by omega, by omega⟩ (fun h71 => ?_) (fun h71 => ?_)
      · refine ZV_aload_n dX6_init_93 rfl ?_
        refine ZV_iconst dX6_init_94 ?_
        refine ZV_newaZ (n := 2) aX6_init_boolean dX6_init_95 (by first | rfl | omega) (by decide) (by assumption) ⟨by first | omega | (simp only [zN1, zN3]; omega) | (dsimp only; omega), by first | omega | (simp only [zN1, zN3]; omega) | (dsimp only; omega)⟩ ?_
        refine ZV_putR fX6_init_44 dX6_init_97 (by first | assumption | exact ksh_old _ (by assumption)) rfl ⟨rfl, rfl⟩ ?_
        rw [show xB X + g1.1.length = c + 725 by omega]
        generalize hGZ : ((geoPush X g1 (.inr (3, 2))).1, up2 (geoPush X g1 (.inr (3, 2))).2.1 c 6 (some (c + 725)), (geoPush X g1 (.inr (3, 2))).2.2) = gZ
        obtain ⟨Z1, Z2, Z3, Z4, Z5, Z6⟩ := pr_ok (.inr (3, 2)) I1 J1 (show c + 725 = xB X + g1.1.length by omega) (show c < c + 725 by omega) (Nat.le_refl c) hGZ
        have KZ : Kp X c (c + 725) g1 gZ := ⟨Z1.2.1, fun a h1 h2 => Z6 a (by omega) (by omega)⟩
        have KK := Q3.trans KZ (by omega)
        refine ZV_vret dX6_init_100 rfl ?_
        have rr : ∀ k, k ≠ 6 → gZ.2.1 c k = gF.2.1 c k := fun k hk9 => by rw [Z5 k hk9, Q4]
        refine h _ _ _ (Q1.trans Z1 (Nat.le_refl _)) (by omega) ⟨⟨Z1.2.1 _ _ k1, ?_, ?_, ?_, ?_, ?_, ?_, Z4⟩, zT.rw' KK.1 (fun a h1 h2 => KK.2 a (by omega) (by omega)), zB.rw' KK.1 (fun a h1 h2 => KK.2 a (by omega) (by omega)), zC.rw' KK.1 (fun a h1 h2 => KK.2 a (by omega) (by omega)), zD.rw' KK.1 (KK.2 _ (by omega) (by omega)), zE.rw' KK.1 (fun a h1 h2 => KK.2 a (by omega) (by omega)), ⟨KZ.1 _ _ Q5, fun s hs => ⟨by rw [KZ.2 _ (by omega) (by omega)]; exact (Q6 s hs).1, (Q6 s hs).2.rw' KZ.1 (fun a h1 h2 => KZ.2 a (by omega) (by omega))⟩⟩, Z3⟩
        · rw [rr 0 (by decide)]; exact r0
        · rw [rr 1 (by decide)]; exact r1
        · rw [rr 2 (by decide)]; exact r2
        · rw [rr 3 (by decide)]; exact r3
        · rw [rr 4 (by decide)]; exact r4
        · rw [rr 5 (by decide)]; exact F4
      · omega
    · intro q hq ih z b g1 I1 J1 hz b1 b2 Q1 Q2 Q3 Q4 Q5 Q6
      have k1 := Q1.2.1 _ _ hk
      have t1 : g1.2.2 = true := by rw [Q1.1.2]; exact hg
      have r5 : g1.2.1 c 5 = some (c + 648) := by rw [Q4]; exact F4
      refine ZV_iload_n dX6_init_69 rfl ?_
      refine ZV_iconst dX6_init_70 ?_
      refine ZV_icmp_ge (tgt := 93) dX6_init_71 (by decide) ⟨by omega, by omega⟩ ⟨by omega, by omega⟩ (fun h71 => ?_) (fun h71 => ?_)
      · omega
      · refine ZV_aload_n dX6_init_74 rfl ?_
        refine ZV_getR fX6_init_40 dX6_init_75 (by first | assumption | exact ksh_old _ (by assumption)) rfl (by assumption) ?_
        refine ZV_iload_n dX6_init_78 rfl ?_
        refine ZV_new nX6_init_16 dX6_init_79 (by assumption) ⟨by first | omega | (simp only [zN1, zN3]; omega) | (dsimp only; omega), by first | omega | (simp only [zN1, zN3]; omega) | (dsimp only; omega)⟩ ?_
        have htop : c + 649 + 38 * q = xB X + g1.1.length := by omega
        rw [← htop]
        have P1 := push_Gr (.inl 1) I1 J1 htop (Nat.le_refl _)
        have Pk := ksh_new X g1 (.inl 1)
        rw [← htop] at Pk
        have Pl := push_len X g1 (.inl 1)
        generalize geoPush X g1 (.inl 1) = g2 at P1 Pk Pl ⊢
        have t2 : g2.2.2 = true := by rw [P1.1.2]; exact t1
        refine ZV_dup dX6_init_82 rfl ?_
        refine cl_X3_init kX6_init_18 rfl dX6_init_83 ⟨by first | omega | (simp only [zN1, zN3]; omega) | (dsimp only; omega), by first | omega | (simp only [zN1, zN3]; omega) | (dsimp only; omega)⟩ (Nat.le_of_ble_eq_true rfl) ?_
        refine sp_X3_init Pk (by omega) t2 ?_
        intro g3 I3 J3 G3 l3 W3 _
        have w3 := W3.1.1
        have k3 := G3.2.1 _ _ (P1.2.1 _ _ Q5)
        have hr : ∀ a, a < c + 649 + 38 * q → g3.2.1 a = g1.2.1 a := fun a ha => by rw [G3.2.2.1 a ha, P1.2.2.1 a ha]
        have hm : ∀ a k, ksh X g1 a = some k → ksh X g3 a = some k := fun a k e => G3.2.1 _ _ (P1.2.1 _ _ e)
        first | refine ZV_aastW (q) dX6_init_86 (by first | assumption | exact ksh_old _ (by assumption)) (by first | rfl | omega) (by omega) (by omega) (by first | assumption | exact ksh_old _ (by assumption)) ?_ | refine ZV_aastS (q) dX6_init_86 (by first | assumption | exact ksh_old _ (by assumption)) (by first | rfl | omega) (by omega) (by omega) (by first | assumption | exact ksh_old _ (by assumption)) ?_
        refine ZV_jinc1 dX6_init_87 rfl (by decide) ?_
        refine ZV_goto (tgt := 69) dX6_init_90 (by decide) ?_
        refine ih _ _ _ _ _ (by omega) (by first | omega | (simp only [zN1]; omega)) (by first | omega | (simp only [zN1]; omega)) (((Q1.trans P1 (by omega)).trans G3 (by omega)).trans (row_Gr (c + 648) q _ (by omega)) (Nat.le_refl _)) (by show xB X + g3.1.length = _; omega) ⟨fun a k e => hm a k (Q3.1 a k e), fun a h1 h2 => ?_⟩ ?_ k3 ?_
        · show up2 g3.2.1 (c + 648) q _ a = _
          rw [up2_row _ _ (by omega), hr a (by omega), Q3.2 a h1 h2]
        · show up2 g3.2.1 (c + 648) q _ c = _
          rw [up2_row _ _ (by omega), hr c (by omega), Q4]
        · intro k hk9
          by_cases e : k = q
          · rw [e]
            refine ⟨?_, W3.rw' (fun _ _ e => e) (fun a h1 h2 => up2_row _ _ (by omega))⟩
            exact up2_same g3.2.1 (c + 648) q (some (c + 649 + 38 * q))
          · have hk8 : k < q := by omega
            refine ⟨?_, (Q6 k hk8).2.rw' hm (fun a h1 h2 => ?_)⟩
            · have e9 : up2 g3.2.1 (c + 648) q (some (c + 649 + 38 * q)) (c + 648) k = some (c + 649 + 38 * k) := by
                rw [up2_kR e, hr (c + 648) (by omega)]; exact (Q6 k hk8).1
              exact e9
            · show up2 g3.2.1 (c + 648) q _ a = _
              rw [up2_row _ _ (by omega), hr _ (by omega)]
  exact key 0 (by omega) _ _ _ _ _ rfl rfl rfl A0 (by omega) ⟨fun _ _ e => e, fun _ _ _ => rfl⟩ rfl F3 (fun k hk9 => absurd hk9 (Nat.not_lt_zero k))
end ZIn

