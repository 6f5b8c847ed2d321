/-! the constructors -/
/-- g has grown to g' behind its end; rows of references below lo are kept -/
def Gr (X : Xt) (lo : Nat) (g g' : Geo) (I J I' J' : Mm) : Prop := (g.1.length ≤ g'.1.length ∧ g'.2.2 = g.2.2) ∧ (∀ a k, ksh X g a = some k → ksh X g' a = some k) ∧ (∀ a, a < lo → g'.2.1 a = g.2.1 a) ∧ (∀ a, a < xB X + g.1.length → I' a = I a ∧ J' a = J a) ∧ ∀ a, xB X + g.1.length ≤ a → a < xB X + g'.1.length → I' a = (fun _ => 0) ∧ J' a = (fun _ => 0)
theorem Gr.trans {X : Xt} {lo lo2 : Nat} {g g1 g2 : Geo} {I J I1 J1 I2 J2 : Mm} (h1 : Gr X lo g g1 I J I1 J1) (h2 : Gr X lo2 g1 g2 I1 J1 I2 J2) (hlo : lo ≤ lo2) : Gr X lo g g2 I J I2 J2 := by
  obtain ⟨⟨a1, a2⟩, a3, a4, a5, a6⟩ := h1
  obtain ⟨⟨b1, b2⟩, b3, b4, b5, b6⟩ := h2
  refine ⟨⟨by omega, by rw [b2, a2]⟩, fun a k h => b3 a k (a3 a k h), fun a ha => by rw [b4 a (by omega), a4 a ha], fun a ha => ?_, fun a q1 q2 => ?_⟩
  · have e1 := a5 a ha
    have e2 := b5 a (by omega)
    exact ⟨e2.1.trans e1.1, e2.2.trans e1.2⟩
  · by_cases e : a < xB X + g1.1.length
    · have e1 := a6 a q1 e
      have e2 := b5 a e
      exact ⟨e2.1.trans e1.1, e2.2.trans e1.2⟩
    · exact b6 a (by omega) q2
theorem ksh_old {X : Xt} {g : Geo} (kd : Kd) {a : Nat} {k : Kd} (h : ksh X g a = some k) : ksh X (geoPush X g kd) a = some k := by
  unfold ksh at h ⊢
  by_cases e : xB X ≤ a
  · rw [if_pos e] at h ⊢
    show (g.1 ++ [kd])[a - xB X]? = some k
    have hl : a - xB X < g.1.length := (List.getElem?_eq_some_iff.mp h).1
    rw [List.getElem?_append_left hl]
    exact h
  · rw [if_neg e] at h
    cases h
theorem ksh_new (X : Xt) (g : Geo) (kd : Kd) : ksh X (geoPush X g kd) (xB X + g.1.length) = some kd := by
  unfold ksh
  rw [if_pos (by omega)]
  show (g.1 ++ [kd])[xB X + g.1.length - xB X]? = some kd
  rw [show xB X + g.1.length - xB X = g.1.length by omega]
  simp
theorem push_Gr {X : Xt} {lo top : Nat} {g : Geo} (kd : Kd) (I J : Mm) (htop : top = xB X + g.1.length) (hlo : lo ≤ top) : Gr X lo g (geoPush X g kd) I J (rowZ I top) (rowZ J top) := by
  refine ⟨⟨by show g.1.length ≤ (g.1 ++ [kd]).length; simp, rfl⟩, fun a k h => ksh_old kd h, fun a ha => ?_, fun a ha => ?_, fun a q1 q2 => ?_⟩
  · show (if a = xB X + g.1.length then fun _ => none else g.2.1 a) = _
    rw [if_neg (by omega)]
  · unfold rowZ
    rw [if_neg (by omega), if_neg (by omega)]
    exact ⟨rfl, rfl⟩
  · have q3 : a < xB X + (g.1 ++ [kd]).length := q2
    simp at q3
    unfold rowZ
    rw [if_pos (by omega), if_pos (by omega)]
    exact ⟨rfl, rfl⟩
theorem row_Gr {X : Xt} {lo : Nat} {g : Geo} {I J : Mm} (a k : Nat) (v : Option Nat) (hlo : lo ≤ a) : Gr X lo g (g.1, up2 g.2.1 a k v, g.2.2) I J I J := ⟨⟨Nat.le_refl _, rfl⟩, fun _ _ h => h, fun q hq => up2_row _ _ (by omega), fun _ _ => ⟨rfl, rfl⟩, fun q h1 h2 => absurd h2 (by show ¬ q < xB X + g.1.length; omega)⟩
/-- a new cell, and a reference to it -/
theorem pr_ok {X : Xt} {lo top t k : Nat} {g G : Geo} (kd : Kd) (I J : Mm) (htop : top = xB X + g.1.length) (ht : t < top) (hlo : lo ≤ t) (hG : ((geoPush X g kd).1, up2 (geoPush X g kd).2.1 t k (some top), (geoPush X g kd).2.2) = G) : Gr X lo g G I J (rowZ I top) (rowZ J top) ∧ G.1.length = g.1.length + 1 ∧ ksh X G top = some kd ∧ G.2.1 t k = some top ∧ (∀ k', k' ≠ k → G.2.1 t k' = g.2.1 t k') ∧ ∀ a, a ≠ t → a ≠ top → G.2.1 a = g.2.1 a := by
  subst hG
  have hr : ∀ a, a ≠ top → (geoPush X g kd).2.1 a = g.2.1 a := fun a ha => by
    show (if a = xB X + g.1.length then fun _ => none else g.2.1 a) = _
    rw [if_neg (by omega)]
  refine ⟨(push_Gr (lo := lo) kd I J htop (by omega)).trans (row_Gr t k _ hlo) (Nat.le_refl _), ?_, ?_, up2_same _ _ _ _, fun k' hk' => ?_, fun a h1 h2 => ?_⟩
  · show (g.1 ++ [kd]).length = _
    simp
  · have := ksh_new X g kd
    rw [← htop] at this
    exact this
  · show up2 (geoPush X g kd).2.1 t k (some top) t k' = _
    rw [up2_kR hk', hr t (by omega)]
  · show up2 (geoPush X g kd).2.1 t k (some top) a = _
    rw [up2_row _ _ h1, hr a h2]
theorem WG.gr {X : Xt} {lo w : Nat} {g g' : Geo} {I J I' J' : Mm} (h : WG X g w) (G : Gr X lo g g' I J I' J') (hw : w < lo) : WG X g' w := ⟨G.2.1 _ _ h.1, by rw [G.2.2.1 w hw]; exact h.2.1, G.2.1 _ _ h.2.2⟩
theorem WG.rw' {X : Xt} {w : Nat} {g g' : Geo} (h : WG X g w) (hm : ∀ a k, ksh X g a = some k → ksh X g' a = some k) (hr : g'.2.1 w = g.2.1 w) : WG X g' w := ⟨hm _ _ h.1, by rw [hr]; exact h.2.1, hm _ _ h.2.2⟩
theorem SL.rw' {X : Xt} {t : Nat} {g g' : Geo} (h : SL X g t) (hm : ∀ a k, ksh X g a = some k → ksh X g' a = some k) (hr : ∀ a, t ≤ a → a < t + 38 → g'.2.1 a = g.2.1 a) : SL X g' t := by
  obtain ⟨⟨s1, s2, s3, s4, s5, s6⟩, ⟨s7, s8, s9, s10, s11⟩, s12, s13, s14⟩ := h
  have e0 := hr t (by omega) (by omega)
  have e1 := hr (t + 1) (by omega) (by omega)
  exact ⟨⟨hm _ _ s1, by rw [e0]; exact s2, by rw [e0]; exact s3, by rw [e0]; exact s4, by rw [e0]; exact s5, by rw [e0]; exact s6⟩, ⟨hm _ _ s7, hm _ _ s8, hm _ _ s9, hm _ _ s10, hm _ _ s11⟩, by rw [e1]; exact s12, by rw [e1]; exact s13, fun k hk => (s14 k hk).rw' hm (hr _ (by omega) (by omega))⟩
theorem SL.gr {X : Xt} {lo t : Nat} {g g' : Geo} {I J I' J' : Mm} (h : SL X g t) (G : Gr X lo g g' I J I' J') (hw : t + 38 ≤ lo) : SL X g' t := h.rw' G.2.1 fun a _ ha => G.2.2.1 a (by omega)
theorem zN1 : zN 1 = 9 := rfl
theorem zN3 : zN 3 = 4 := rfl
section ZIn
variable {X : Xt} {g : Geo} {I J : Mm} {post : Out → Geo → Mm → Mm → Prop}
theorem sp_X5_init {w : Nat} {b : Nat × Nat} (hb : 1 ≤ b.1 ∧ 4 ≤ b.2) (hk : ksh X g w = some (.inl 3)) (ht : w + 1 = xB X + g.1.length) (hg : g.2.2 = true) (h : ∀ g' I' J', Gr X w g g' I J I' J' → g'.1.length = g.1.length + 1 → WG X g' w → post (.inl none) g' I' J') : ZV X E_X5_init 0 [some (.ref w)] [] b g I J post := by
  refine ZV_aload_n dX5_init_0 rfl ?_
  refine ZV_objInit dX5_init_1 oX5_init ⟨by decide, by decide⟩ ?_
  refine ZV_aload_n dX5_init_4 rfl ?_
  refine ZV_iconst dX5_init_5 ?_
  refine ZV_newaJ (n := 4) aX5_init_long dX5_init_6 (by first | rfl | omega) (by decide) (by assumption) hb ?_
  refine ZV_putR fX5_init_9 dX5_init_8 (by first | assumption | exact ksh_old _ (by assumption)) rfl ⟨rfl, rfl⟩ ?_
  rw [← ht]
  obtain ⟨F1, F2, F3, F4, F5, F6⟩ := pr_ok (k := 0) (.inr (1, 4)) I J ht (show w < w + 1 by omega) (Nat.le_refl w) rfl
  refine ZV_vret dX5_init_11 rfl ?_
  exact h _ _ _ F1 F2 ⟨F1.2.1 _ _ hk, F4, F3⟩
theorem sp_X3_init {t : Nat} (hk : ksh X g t = some (.inl 1)) (ht : t + 1 = xB X + g.1.length) (hg : g.2.2 = true) (h : ∀ g' I' J', Gr X t g g' I J I' J' → g'.1.length = g.1.length + 37 → SL X g' t → (∀ i, i < 16 → g'.2.1 (t + 1) i = some (t + 2 + 2 * i)) → post (.inl none) g' I' J') : ZV X E_X3_init 0 [some (.ref t), none] [] (37, 208) g I J post := by
  refine ZV_aload_n dX3_init_0 rfl ?_
  refine ZV_objInit dX3_init_1 oX3_init ⟨by decide, by decide⟩ ?_
  refine ZV_aload_n dX3_init_4 rfl ?_
  refine ZV_bipush dX3_init_5 (by decide) ?_
  refine ZV_newqW (n := 16) aX3_init_7 dX3_init_7 (by first | rfl | omega) (by decide) (by assumption) ⟨by decide, by decide⟩ ?_
  refine ZV_putR fX3_init_11 dX3_init_10 (by first | assumption | exact ksh_old _ (by assumption)) rfl ⟨rfl, rfl⟩ ?_
  rw [← ht]
  generalize hG : ((geoPush X g (.inr (5, 16))).1, up2 (geoPush X g (.inr (5, 16))).2.1 t 0 (some (t + 1)), (geoPush X g (.inr (5, 16))).2.2) = g0
  obtain ⟨F1, F2, F3, F4, F5, F6⟩ := pr_ok (.inr (5, 16)) I J ht (show t < t + 1 by omega) (Nat.le_refl t) hG
  refine ZV_iconst dX3_init_13 ?_
  refine ZV_istore1 dX3_init_14 rfl (by decide) ?_
  have key : ∀ q : Nat, q ≤ 16 → ∀ (z : Int) (b : Nat × Nat) (g1 : Geo) (I1 J1 : Mm), z = (q : Int) → b.1 + 2 * q = 36 → b.2 + 8 * q = 192 → Gr X t g g1 I J I1 J1 → g1.1.length = g.1.length + 1 + 2 * q → ksh X g1 (t + 1) = some (.inr (5, 16)) → g1.2.1 t 0 = some (t + 1) → (∀ k, k < q → g1.2.1 (t + 1) k = some (t + 2 + 2 * k) ∧ WG X g1 (t + 2 + 2 * k)) → ZV X E_X3_init 15 [some (.ref t), some (vi z)] [] b g1 I1 J1 post := by
    refine loop_up 16 ?_ ?_
    · intro z b g1 I1 J1 hz b1 b2 A1 A2 A3 A4 A5
      have k1 := A1.2.1 _ _ hk
      have t1 : g1.2.2 = true := by rw [A1.1.2]; exact hg
      refine ZV_iload_n dX3_init_15 rfl ?_
      refine ZV_bipush dX3_init_16 (by decide) ?_
      refine ZV_icmp_ge (tgt := 40) dX3_init_18 (by decide) ⟨by omega, by omega⟩ ⟨by omega, by omega⟩ (fun h18 => ?_) (fun h18 => ?_)
      · refine ZV_aload_n dX3_init_40 rfl ?_
        refine ZV_bipush dX3_init_41 (by decide) ?_
        refine ZV_newaJ (n := 16) aX3_init_long dX3_init_43 (by first | rfl | omega) (by decide) (by assumption) ⟨by first | omega | (simp only [zN1, zN3]; omega) | (dsimp only; omega), by first | omega | (simp only [zN1, zN3]; omega) | (dsimp only; omega)⟩ ?_
        refine ZV_putR fX3_init_18 dX3_init_45 (by first | assumption | exact ksh_old _ (by assumption)) rfl ⟨rfl, rfl⟩ ?_
        rw [show xB X + g1.1.length = t + 34 by omega]
        generalize hG2 : ((geoPush X g1 (.inr (1, 16))).1, up2 (geoPush X g1 (.inr (1, 16))).2.1 t 4 (some (t + 34)), (geoPush X g1 (.inr (1, 16))).2.2) = g2
        obtain ⟨B1, B2, B3, B4, B5, B6⟩ := pr_ok (.inr (1, 16)) (I1) (J1) (show t + 34 = xB X + g1.1.length by omega) (show t < t + 34 by omega) (Nat.le_refl t) hG2
        have k2 := B1.2.1 _ _ k1
        have t2 : g2.2.2 = true := by rw [B1.1.2]; exact t1
        refine ZV_aload_n dX3_init_48 rfl ?_
        refine ZV_bipush dX3_init_49 (by decide) ?_
        refine ZV_newaJ (n := 16) aX3_init_long dX3_init_51 (by first | rfl | omega) (by decide) (by assumption) ⟨by first | omega | (simp only [zN1, zN3]; omega) | (dsimp only; omega), by first | omega | (simp only [zN1, zN3]; omega) | (dsimp only; omega)⟩ ?_
        refine ZV_putR fX3_init_22 dX3_init_53 (by first | assumption | exact ksh_old _ (by assumption)) rfl ⟨rfl, rfl⟩ ?_
        rw [show xB X + g2.1.length = t + 35 by omega]
        generalize hG3 : ((geoPush X g2 (.inr (1, 16))).1, up2 (geoPush X g2 (.inr (1, 16))).2.1 t 5 (some (t + 35)), (geoPush X g2 (.inr (1, 16))).2.2) = g3
        obtain ⟨C1, C2, C3, C4, C5, C6⟩ := pr_ok (.inr (1, 16)) (rowZ (I1) (t + 34)) (rowZ (J1) (t + 34)) (show t + 35 = xB X + g2.1.length by omega) (show t < t + 35 by omega) (Nat.le_refl t) hG3
        have k3 := C1.2.1 _ _ k2
        have t3 : g3.2.2 = true := by rw [C1.1.2]; exact t2
        refine ZV_aload_n dX3_init_56 rfl ?_
        refine ZV_bipush dX3_init_57 (by decide) ?_
        refine ZV_newaJ (n := 16) aX3_init_long dX3_init_59 (by first | rfl | omega) (by decide) (by assumption) ⟨by first | omega | (simp only [zN1, zN3]; omega) | (dsimp only; omega), by first | omega | (simp only [zN1, zN3]; omega) | (dsimp only; omega)⟩ ?_
        refine ZV_putR fX3_init_25 dX3_init_61 (by first | assumption | exact ksh_old _ (by assumption)) rfl ⟨rfl, rfl⟩ ?_
        rw [show xB X + g3.1.length = t + 36 by omega]
        generalize hG4 : ((geoPush X g3 (.inr (1, 16))).1, up2 (geoPush X g3 (.inr (1, 16))).2.1 t 6 (some (t + 36)), (geoPush X g3 (.inr (1, 16))).2.2) = g4
        obtain ⟨M1, M2, M3, M4, M5, M6⟩ := pr_ok (.inr (1, 16)) (rowZ (rowZ (I1) (t + 34)) (t + 35)) (rowZ (rowZ (J1) (t + 34)) (t + 35)) (show t + 36 = xB X + g3.1.length by omega) (show t < t + 36 by omega) (Nat.le_refl t) hG4
        have k4 := M1.2.1 _ _ k3
        have t4 : g4.2.2 = true := by rw [M1.1.2]; exact t3
        refine ZV_aload_n dX3_init_64 rfl ?_
        refine ZV_bipush dX3_init_65 (by decide) ?_
        refine ZV_newaI (n := 16) aX3_init_int dX3_init_67 (by first | rfl | omega) (by decide) (by assumption) ⟨by first | omega | (simp only [zN1, zN3]; omega) | (dsimp only; omega), by first | omega | (simp only [zN1, zN3]; omega) | (dsimp only; omega)⟩ ?_
        refine ZV_putR fX3_init_28 dX3_init_69 (by first | assumption | exact ksh_old _ (by assumption)) rfl ⟨rfl, rfl⟩ ?_
        rw [show xB X + g4.1.length = t + 37 by omega]
        generalize hG5 : ((geoPush X g4 (.inr (0, 16))).1, up2 (geoPush X g4 (.inr (0, 16))).2.1 t 7 (some (t + 37)), (geoPush X g4 (.inr (0, 16))).2.2) = g5
        obtain ⟨N1, N2, N3, N4, N5, N6⟩ := pr_ok (.inr (0, 16)) (rowZ (rowZ (rowZ (I1) (t + 34)) (t + 35)) (t + 36)) (rowZ (rowZ (rowZ (J1) (t + 34)) (t + 35)) (t + 36)) (show t + 37 = xB X + g4.1.length by omega) (show t < t + 37 by omega) (Nat.le_refl t) hG5
        have k5 := N1.2.1 _ _ k4
        have t5 : g5.2.2 = true := by rw [N1.1.2]; exact t4
        refine ZV_vret dX3_init_72 rfl ?_
        have hr : ∀ a, t < a → a < t + 34 → g5.2.1 a = g1.2.1 a := fun a h1 h2 => by rw [N6 a (by omega) (by omega), M6 a (by omega) (by omega), C6 a (by omega) (by omega), B6 a (by omega) (by omega)]
        have hm : ∀ a k, ksh X g1 a = some k → ksh X g5 a = some k := fun a k q => N1.2.1 _ _ (M1.2.1 _ _ (C1.2.1 _ _ (B1.2.1 _ _ q)))
        have e1 := hr (t + 1) (by omega) (by omega)
        refine h _ _ _ ((((A1.trans B1 (Nat.le_refl _)).trans C1 (Nat.le_refl _)).trans M1 (Nat.le_refl _)).trans N1 (Nat.le_refl _)) (by omega) ⟨⟨k5, ?_, ?_, ?_, ?_, N4⟩, ⟨hm _ _ A3, N1.2.1 _ _ (M1.2.1 _ _ (C1.2.1 _ _ B3)), N1.2.1 _ _ (M1.2.1 _ _ C3), N1.2.1 _ _ M3, N3⟩, fun i hi => ⟨i, hi, by rw [e1]; exact (A5 i hi).1⟩, fun i j hi hj e => ?_, fun k hk9 => (A5 k hk9).2.rw' hm (hr _ (by omega) (by omega))⟩ (fun i hi => by rw [e1]; exact (A5 i hi).1)
        · rw [N5 0 (by decide), M5 0 (by decide), C5 0 (by decide), B5 0 (by decide)]; exact A4
        · rw [N5 4 (by decide), M5 4 (by decide), C5 4 (by decide)]; exact B4
        · rw [N5 5 (by decide), M5 5 (by decide)]; exact C4
        · rw [N5 6 (by decide)]; exact M4
        · rw [e1, (A5 i hi).1, (A5 j hj).1] at e
          injection e with e
          omega
      · omega
    · intro q hq ih z b g1 I1 J1 hz b1 b2 A1 A2 A3 A4 A5
      have k1 := A1.2.1 _ _ hk
      have t1 : g1.2.2 = true := by rw [A1.1.2]; exact hg
      refine ZV_iload_n dX3_init_15 rfl ?_
      refine ZV_bipush dX3_init_16 (by decide) ?_
      refine ZV_icmp_ge (tgt := 40) dX3_init_18 (by decide) ⟨by omega, by omega⟩ ⟨by omega, by omega⟩ (fun h18 => ?_) (fun h18 => ?_)
      · omega
      · refine ZV_aload_n dX3_init_21 rfl ?_
        refine ZV_getR fX3_init_11 dX3_init_22 (by first | assumption | exact ksh_old _ (by assumption)) rfl (by assumption) ?_
        refine ZV_iload_n dX3_init_25 rfl ?_
        refine ZV_new nX3_init_9 dX3_init_26 (by assumption) ⟨by first | omega | (simp only [zN1, zN3]; omega) | (dsimp only; omega), by first | omega | (simp only [zN1, zN3]; omega) | (dsimp only; omega)⟩ ?_
        have htop : t + 2 + 2 * q = xB X + g1.1.length := by omega
        rw [← htop]
        have P1 := push_Gr (.inl 3) I1 J1 htop (Nat.le_refl _)
        have Pk := ksh_new X g1 (.inl 3)
        rw [← htop] at Pk
        have Pl : (geoPush X g1 (.inl 3)).1.length = g1.1.length + 1 := by show (g1.1 ++ [_]).length = _; simp
        generalize geoPush X g1 (.inl 3) = g2 at P1 Pk Pl ⊢
        have t2 : g2.2.2 = true := by rw [P1.1.2]; exact t1
        refine ZV_dup dX3_init_29 rfl ?_
        refine cl_X5_init kX3_init_17 rfl dX3_init_30 ⟨by first | omega | (simp only [zN1, zN3]; omega) | (dsimp only; omega), by first | omega | (simp only [zN1, zN3]; omega) | (dsimp only; omega)⟩ (Nat.le_of_ble_eq_true rfl) ?_
        refine sp_X5_init ⟨by decide, by decide⟩ Pk (by omega) t2 ?_
        intro g3 I3 J3 G3 l3 W3
        have w3 := W3.1
        have k3 := G3.2.1 _ _ (P1.2.1 _ _ A3)
        have hr : ∀ a, a < t + 2 + 2 * q → g3.2.1 a = g1.2.1 a := fun a ha => by rw [G3.2.2.1 a ha, P1.2.2.1 a ha]
        have hm : ∀ a k, ksh X g1 a = some k → ksh X g3 a = some k := fun a k e => G3.2.1 _ _ (P1.2.1 _ _ e)
        first | refine ZV_aastW (q) dX3_init_33 (by first | assumption | exact ksh_old _ (by assumption)) (by first | rfl | omega) (by omega) (by omega) (by first | assumption | exact ksh_old _ (by assumption)) ?_ | refine ZV_aastS (q) dX3_init_33 (by first | assumption | exact ksh_old _ (by assumption)) (by first | rfl | omega) (by omega) (by omega) (by first | assumption | exact ksh_old _ (by assumption)) ?_
        refine ZV_jinc1 dX3_init_34 rfl (by decide) ?_
        refine ZV_goto (tgt := 15) dX3_init_37 (by decide) ?_
        refine ih _ _ _ _ _ (by omega) (by first | omega | (simp only [zN3]; omega)) (by first | omega | (simp only [zN3]; omega)) (((A1.trans P1 (by omega)).trans G3 (by omega)).trans (row_Gr (t + 1) q _ (by omega)) (Nat.le_refl _)) (by show g3.1.length = _; omega) k3 ?_ ?_
        · show up2 g3.2.1 (t + 1) q _ t 0 = _
          rw [up2_row _ _ (by omega), hr t (by omega)]; exact A4
        · intro k hk9
          by_cases e : k = q
          · rw [e]
            exact ⟨up2_same _ _ _ _, W3.rw' (fun _ _ e => e) (up2_row _ _ (by omega))⟩
          · have hk8 : k < q := by omega
            refine ⟨?_, (A5 k hk8).2.rw' hm ?_⟩
            · show up2 g3.2.1 (t + 1) q _ (t + 1) k = _
              rw [up2_kR e, hr (t + 1) (by omega)]; exact (A5 k hk8).1
            · show up2 g3.2.1 (t + 1) q _ (t + 2 + 2 * k) = _
              rw [up2_row _ _ (by omega), hr _ (by omega)]
  exact key 0 (by omega) _ _ _ _ _ rfl rfl rfl F1 (by omega) F3 F4 (fun k hk9 => absurd hk9 (Nat.not_lt_zero k))
end ZIn

