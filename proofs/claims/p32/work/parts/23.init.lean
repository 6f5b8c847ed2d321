/-! the constructors of CitationKeys$Text and CitationKeys$History -/
theorem zN0 : zN 0 = 3 := rfl
theorem zN2 : zN 2 = 6 := rfl
theorem push_len (X : Xt) (g : Geo) (kd : Kd) : (geoPush X g kd).1.length = g.1.length + 1 := by
  show (g.1 ++ [kd]).length = _
  simp
theorem TL.rw' {X : Xt} {t : Nat} {g g' : Geo} (h : TL X g t) (hm : ∀ a k, ksh X g a = some k → ksh X g' a = some k) (hr : ∀ a, t ≤ a → a < t + 35 → g'.2.1 a = g.2.1 a) : TL X g' t := by
  obtain ⟨⟨l1, l2, l3, l4, l5⟩, l6⟩ := h
  have e0 := hr t (by omega) (by omega)
  have e1 := hr (t + 2) (by omega) (by omega)
  exact ⟨⟨hm _ _ l1, by rw [e0]; exact l2, by rw [e0]; exact l3, hm _ _ l4, hm _ _ l5⟩, fun k hk => ⟨by rw [e1]; exact (l6 k hk).1, (l6 k hk).2.rw' hm (hr _ (by omega) (by omega))⟩⟩
theorem HG.rw' {X : Xt} {t : Nat} {g g' : Geo} (h : HG X g t) (hm : ∀ a k, ksh X g a = some k → ksh X g' a = some k) (hr : ∀ a, t ≤ a → a < t + 534 → g'.2.1 a = g.2.1 a) : HG X g' t := by
  obtain ⟨⟨l1, l2, l3⟩, l4⟩ := h
  have e0 := hr t (by omega) (by omega)
  have e1 := hr (t + 1) (by omega) (by omega)
  exact ⟨⟨hm _ _ l1, by rw [e0]; exact l2, hm _ _ l3⟩, fun k hk => ⟨by rw [e1]; exact (l4 k hk).1, (l4 k hk).2.rw' hm (fun a h1 h2 => hr a (by omega) (by omega))⟩⟩
section ZIn
variable {X : Xt} {g : Geo} {I J : Mm} {post : Out → Geo → Mm → Mm → Prop}
theorem sp_X4_init {t : Nat} (hk : ksh X g t = some (.inl 2)) (ht : t + 1 = xB X + g.1.length) (hg : g.2.2 = true) (h : ∀ g' I' J', Gr X t g g' I J I' J' → g'.1.length = g.1.length + 34 → TL X g' t → post (.inl none) g' I' J') : ZV X E_X4_init 0 [some (.ref t), none] [] (34, 244) g I J post := by
  refine ZV_aload_n dX4_init_0 rfl ?_
  refine ZV_objInit dX4_init_1 oX4_init ⟨by decide, by decide⟩ ?_
  refine ZV_aload_n dX4_init_4 rfl ?_
  refine ZV_bipush dX4_init_5 (by decide) ?_
  refine ZV_newaC (n := 100) aX4_init_char dX4_init_7 (by first | rfl | omega) (by decide) (by assumption) ⟨by decide, by decide⟩ ?_
  refine ZV_putR fX4_init_9 dX4_init_9 (by first | assumption | exact ksh_old _ (by assumption)) rfl ⟨rfl, rfl⟩ ?_
  rw [← ht]
  generalize hG0 : ((geoPush X g (.inr (2, 100))).1, up2 (geoPush X g (.inr (2, 100))).2.1 t 0 (some (t + 1)), (geoPush X g (.inr (2, 100))).2.2) = gA
  obtain ⟨E1, E2, E3, E4, E5, E6⟩ := pr_ok (.inr (2, 100)) I J ht (show t < t + 1 by omega) (Nat.le_refl t) hG0
  have kA := E1.2.1 _ _ hk
  have tA : gA.2.2 = true := by rw [E1.1.2]; exact hg
  refine ZV_aload_n dX4_init_12 rfl ?_
  refine ZV_bipush dX4_init_13 (by decide) ?_
  refine ZV_newqW (n := 16) aX4_init_15 dX4_init_15 (by first | rfl | omega) (by decide) (by assumption) ⟨by decide, by decide⟩ ?_
  refine ZV_putR fX4_init_17 dX4_init_18 (by first | assumption | exact ksh_old _ (by assumption)) rfl ⟨rfl, rfl⟩ ?_
  rw [show xB X + gA.1.length = t + 2 by omega]
  generalize hG : ((geoPush X gA (.inr (5, 16))).1, up2 (geoPush X gA (.inr (5, 16))).2.1 t 2 (some (t + 2)), (geoPush X gA (.inr (5, 16))).2.2) = g0
  obtain ⟨F1, F2, F3, F4, F5, F6⟩ := pr_ok (.inr (5, 16)) (rowZ I (t + 1)) (rowZ J (t + 1)) (show t + 2 = xB X + gA.1.length by omega) (show t < t + 2 by omega) (Nat.le_refl t) hG
  refine ZV_iconst dX4_init_21 ?_
  refine ZV_istore1 dX4_init_22 rfl (by decide) ?_
  have key : ∀ q : Nat, q ≤ 16 → ∀ (z : Int) (b : Nat × Nat) (g1 : Geo) (I1 J1 : Mm), z = (q : Int) → b.1 + 2 * q = 32 → b.2 + 8 * q = 128 → Gr X t g g1 I J I1 J1 → g1.1.length = g.1.length + 2 + 2 * q → (ksh X g1 (t + 1) = some (.inr (2, 100)) ∧ g1.2.1 t 0 = some (t + 1)) → ksh X g1 (t + 2) = some (.inr (5, 16)) → g1.2.1 t 2 = some (t + 2) → (∀ k, k < q → g1.2.1 (t + 2) k = some (t + 3 + 2 * k) ∧ WG X g1 (t + 3 + 2 * k)) → ZV X E_X4_init 23 [some (.ref t), some (vi z)] [] b g1 I1 J1 post := by
    refine loop_up 16 ?_ ?_
    · intro z b g1 I1 J1 hz b1 b2 A1 A2 A0 A3 A4 A5
      have k1 := A1.2.1 _ _ hk
      refine ZV_iload_n dX4_init_23 rfl ?_
      refine ZV_bipush dX4_init_24 (by decide) ?_
      refine ZV_icmp_ge (tgt := 48) dX4_init_26 (by decide) ⟨by omega, by omega⟩ ⟨by omega, by omega⟩ (fun h26 => ?_) (fun h26 => ?_)
      · refine ZV_vret dX4_init_48 rfl ?_
        exact h _ _ _ A1 (by omega) ⟨⟨k1, A0.2, A4, A0.1, A3⟩, A5⟩
      · omega
    · intro q hq ih z b g1 I1 J1 hz b1 b2 A1 A2 A0 A3 A4 A5
      have k1 := A1.2.1 _ _ hk
      have t1 : g1.2.2 = true := by rw [A1.1.2]; exact hg
      refine ZV_iload_n dX4_init_23 rfl ?_
      refine ZV_bipush dX4_init_24 (by decide) ?_
      refine ZV_icmp_ge (tgt := 48) dX4_init_26 (by decide) ⟨by omega, by omega⟩ ⟨by omega, by omega⟩ (fun h26 => ?_) (fun h26 => ?_)
      · omega
      · refine ZV_aload_n dX4_init_29 rfl ?_
        refine ZV_getR fX4_init_17 dX4_init_30 (by first | assumption | exact ksh_old _ (by assumption)) rfl (by assumption) ?_
        refine ZV_iload_n dX4_init_33 rfl ?_
        refine ZV_new nX4_init_15 dX4_init_34 (by assumption) ⟨by first | omega | (simp only [zN1, zN3]; omega) | (dsimp only; omega), by first | omega | (simp only [zN1, zN3]; omega) | (dsimp only; omega)⟩ ?_
        have htop : t + 3 + 2 * q = xB X + g1.1.length := by omega
        rw [← htop]
        have P1 := push_Gr (.inl 3) I1 J1 htop (Nat.le_refl _)
        have Pk := ksh_new X g1 (.inl 3)
        rw [← htop] at Pk
        have Pl := push_len X g1 (.inl 3)
        generalize geoPush X g1 (.inl 3) = g2 at P1 Pk Pl ⊢
        have t2 : g2.2.2 = true := by rw [P1.1.2]; exact t1
        refine ZV_dup dX4_init_37 rfl ?_
        refine cl_X5_init kX4_init_21 rfl dX4_init_38 ⟨by first | omega | (simp only [zN1, zN3]; omega) | (dsimp only; omega), by first | omega | (simp only [zN1, zN3]; omega) | (dsimp only; omega)⟩ (Nat.le_of_ble_eq_true rfl) ?_
        refine sp_X5_init ⟨by decide, by decide⟩ Pk (by omega) t2 ?_
        intro g3 I3 J3 G3 l3 W3
        have w3 := W3.1
        have k3 := G3.2.1 _ _ (P1.2.1 _ _ A3)
        have hr : ∀ a, a < t + 3 + 2 * q → g3.2.1 a = g1.2.1 a := fun a ha => by rw [G3.2.2.1 a ha, P1.2.2.1 a ha]
        have hm : ∀ a k, ksh X g1 a = some k → ksh X g3 a = some k := fun a k e => G3.2.1 _ _ (P1.2.1 _ _ e)
        first | refine ZV_aastW (q) dX4_init_41 (by first | assumption | exact ksh_old _ (by assumption)) (by first | rfl | omega) (by omega) (by omega) (by first | assumption | exact ksh_old _ (by assumption)) ?_ | refine ZV_aastS (q) dX4_init_41 (by first | assumption | exact ksh_old _ (by assumption)) (by first | rfl | omega) (by omega) (by omega) (by first | assumption | exact ksh_old _ (by assumption)) ?_
        refine ZV_jinc1 dX4_init_42 rfl (by decide) ?_
        refine ZV_goto (tgt := 23) dX4_init_45 (by decide) ?_
        refine ih _ _ _ _ _ (by omega) (by first | omega | (simp only [zN3]; omega)) (by first | omega | (simp only [zN3]; omega)) (((A1.trans P1 (by omega)).trans G3 (by omega)).trans (row_Gr (t + 2) q _ (by omega)) (Nat.le_refl _)) (by show g3.1.length = _; omega) ⟨hm _ _ A0.1, ?_⟩ k3 ?_ ?_
        · show up2 g3.2.1 (t + 2) q _ t 0 = _
          rw [up2_row _ _ (by omega), hr t (by omega)]; exact A0.2
        · show up2 g3.2.1 (t + 2) q _ t 2 = _
          rw [up2_row _ _ (by omega), hr t (by omega)]; exact A4
        · intro k hk9
          by_cases e : k = q
          · rw [e]
            exact ⟨up2_same _ _ _ _, W3.rw' (fun _ _ e => e) (up2_row _ _ (by omega))⟩
          · have hk8 : k < q := by omega
            refine ⟨?_, (A5 k hk8).2.rw' hm ?_⟩
            · show up2 g3.2.1 (t + 2) q _ (t + 2) k = _
              rw [up2_kR e, hr (t + 2) (by omega)]; exact (A5 k hk8).1
            · show up2 g3.2.1 (t + 2) q _ (t + 3 + 2 * k) = _
              rw [up2_row _ _ (by omega), hr _ (by omega)]
  exact key 0 (by omega) _ _ _ _ _ rfl rfl rfl (E1.trans F1 (Nat.le_refl _)) (by omega) ⟨F1.2.1 _ _ E3, by rw [F5 0 (by decide)]; exact E4⟩ F3 F4 (fun k hk9 => absurd hk9 (Nat.not_lt_zero k))
theorem sp_X0_init {t : Nat} (hk : ksh X g t = some (.inl 0)) (ht : t + 1 = xB X + g.1.length) (hg : g.2.2 = true) (h : ∀ g' I' J', Gr X t g g' I J I' J' → g'.1.length = g.1.length + 533 → HG X g' t → post (.inl none) g' I' J') : ZV X E_X0_init 0 [some (.ref t), none] [] (533, 3052) g I J post := by
  refine ZV_aload_n dX0_init_0 rfl ?_
  refine ZV_objInit dX0_init_1 oX0_init ⟨by decide, by decide⟩ ?_
  refine ZV_aload_n dX0_init_4 rfl ?_
  refine ZV_bipush dX0_init_5 (by decide) ?_
  refine ZV_newqS (n := 14) aX0_init_7 dX0_init_7 (by first | rfl | omega) (by decide) (by assumption) ⟨by decide, by decide⟩ ?_
  refine ZV_putR fX0_init_11 dX0_init_10 (by first | assumption | exact ksh_old _ (by assumption)) rfl ⟨rfl, rfl⟩ ?_
  rw [← ht]
  generalize hG : ((geoPush X g (.inr (4, 14))).1, up2 (geoPush X g (.inr (4, 14))).2.1 t 0 (some (t + 1)), (geoPush X g (.inr (4, 14))).2.2) = g0
  obtain ⟨F1, F2, F3, F4, F5, F6⟩ := pr_ok (.inr (4, 14)) I J ht (show t < t + 1 by omega) (Nat.le_refl t) hG
  refine ZV_iconst dX0_init_13 ?_
  refine ZV_istore1 dX0_init_14 rfl (by decide) ?_
  have key : ∀ q : Nat, q ≤ 14 → ∀ (z : Int) (b : Nat × Nat) (g1 : Geo) (I1 J1 : Mm), z = (q : Int) → b.1 + 38 * q = 532 → b.2 + 217 * q = 3038 → Gr X t g g1 I J I1 J1 → g1.1.length = g.1.length + 1 + 38 * q → ksh X g1 (t + 1) = some (.inr (4, 14)) → g1.2.1 t 0 = some (t + 1) → (∀ k, k < q → g1.2.1 (t + 1) k = some (t + 2 + 38 * k) ∧ SL X g1 (t + 2 + 38 * k)) → ZV X E_X0_init 15 [some (.ref t), some (vi z)] [] b g1 I1 J1 post := by
    refine loop_up 14 ?_ ?_
    · intro z b g1 I1 J1 hz b1 b2 A1 A2 A3 A4 A5
      have k1 := A1.2.1 _ _ hk
      refine ZV_iload_n dX0_init_15 rfl ?_
      refine ZV_bipush dX0_init_16 (by decide) ?_
      refine ZV_icmp_ge (tgt := 40) dX0_init_18 (by decide) ⟨by omega, by omega⟩ ⟨by omega, by omega⟩ (fun h18 => ?_) (fun h18 => ?_)
      · refine ZV_vret dX0_init_40 rfl ?_
        exact h _ _ _ A1 (by omega) ⟨⟨k1, A4, A3⟩, A5⟩
      · omega
    · intro q hq ih z b g1 I1 J1 hz b1 b2 A1 A2 A3 A4 A5
      have k1 := A1.2.1 _ _ hk
      have t1 : g1.2.2 = true := by rw [A1.1.2]; exact hg
      refine ZV_iload_n dX0_init_15 rfl ?_
      refine ZV_bipush dX0_init_16 (by decide) ?_
      refine ZV_icmp_ge (tgt := 40) dX0_init_18 (by decide) ⟨by omega, by omega⟩ ⟨by omega, by omega⟩ (fun h18 => ?_) (fun h18 => ?_)
      · omega
      · refine ZV_aload_n dX0_init_21 rfl ?_
        refine ZV_getR fX0_init_11 dX0_init_22 (by first | assumption | exact ksh_old _ (by assumption)) rfl (by assumption) ?_
        refine ZV_iload_n dX0_init_25 rfl ?_
        refine ZV_new nX0_init_9 dX0_init_26 (by assumption) ⟨by first | omega | (simp only [zN1, zN3]; omega) | (dsimp only; omega), by first | omega | (simp only [zN1, zN3]; omega) | (dsimp only; omega)⟩ ?_
        have htop : t + 2 + 38 * q = xB X + g1.1.length := by omega
        rw [← htop]
        have P1 := push_Gr (.inl 1) I1 J1 htop (Nat.le_refl _)
        have Pk := ksh_new X g1 (.inl 1)
        rw [← htop] at Pk
        have Pl := push_len X g1 (.inl 1)
        generalize geoPush X g1 (.inl 1) = g2 at P1 Pk Pl ⊢
        have t2 : g2.2.2 = true := by rw [P1.1.2]; exact t1
        refine ZV_dup dX0_init_29 rfl ?_
        refine cl_X3_init kX0_init_17 rfl dX0_init_30 ⟨by first | omega | (simp only [zN1, zN3]; omega) | (dsimp only; omega), by first | omega | (simp only [zN1, zN3]; omega) | (dsimp only; omega)⟩ (Nat.le_of_ble_eq_true rfl) ?_
        refine sp_X3_init Pk (by omega) t2 ?_
        intro g3 I3 J3 G3 l3 W3 W4
        have w3 := W3.1.1
        have k3 := G3.2.1 _ _ (P1.2.1 _ _ A3)
        have hr : ∀ a, a < t + 2 + 38 * q → g3.2.1 a = g1.2.1 a := fun a ha => by rw [G3.2.2.1 a ha, P1.2.2.1 a ha]
        have hm : ∀ a k, ksh X g1 a = some k → ksh X g3 a = some k := fun a k e => G3.2.1 _ _ (P1.2.1 _ _ e)
        first | refine ZV_aastW (q) dX0_init_33 (by first | assumption | exact ksh_old _ (by assumption)) (by first | rfl | omega) (by omega) (by omega) (by first | assumption | exact ksh_old _ (by assumption)) ?_ | refine ZV_aastS (q) dX0_init_33 (by first | assumption | exact ksh_old _ (by assumption)) (by first | rfl | omega) (by omega) (by omega) (by first | assumption | exact ksh_old _ (by assumption)) ?_
        refine ZV_jinc1 dX0_init_34 rfl (by decide) ?_
        refine ZV_goto (tgt := 15) dX0_init_37 (by decide) ?_
        refine ih _ _ _ _ _ (by omega) (by first | omega | (simp only [zN1]; omega)) (by first | omega | (simp only [zN1]; omega)) (((A1.trans P1 (by omega)).trans G3 (by omega)).trans (row_Gr (t + 1) q _ (by omega)) (Nat.le_refl _)) (by show g3.1.length = _; omega) k3 ?_ ?_
        · show up2 g3.2.1 (t + 1) q _ t 0 = _
          rw [up2_row _ _ (by omega), hr t (by omega)]; exact A4
        · intro k hk9
          by_cases e : k = q
          · rw [e]
            exact ⟨up2_same _ _ _ _, W3.rw' (fun _ _ e => e) (fun a h1 h2 => up2_row _ _ (by omega))⟩
          · have hk8 : k < q := by omega
            refine ⟨?_, (A5 k hk8).2.rw' hm (fun a h1 h2 => ?_)⟩
            · show up2 g3.2.1 (t + 1) q _ (t + 1) k = _
              rw [up2_kR e, hr (t + 1) (by omega)]; exact (A5 k hk8).1
            · show up2 g3.2.1 (t + 1) q _ a = _
              rw [up2_row _ _ (by omega), hr _ (by omega)]
  exact key 0 (by omega) _ _ _ _ _ rfl rfl rfl F1 (by omega) F3 F4 (fun k hk9 => absurd hk9 (Nat.not_lt_zero k))
end ZIn

