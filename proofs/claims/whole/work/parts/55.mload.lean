/-! the reference: reading a text, loading it -/
theorem RFr.mi {X : Xt} {g : Geo} {I I' : Mm} {m : Nat} {Q : AC} (h : MInv X g I m Q) (hF : RFr I I' m) : MInv X g I' m Q := h.rw' (hF.2 2 (by decide) (by decide)) (hF.2 9 (by decide) (by decide)) (fun q hq => hF.1 q (by omega) (by omega))
theorem RFr.mf {I I' : Mm} {m : Nat} (hF : RFr I I' m) : MFr I I' m := fun q hq => hF.1 q (by omega) (by omega)
theorem MP.rd {X : Xt} {g : Geo} {I I' I2 : Mm} {m : Nat} {Q : AC} {w : Int} (h : MP X g I I' m Q w) (hF : RFr I' I2 m) : MP X g I I2 m Q w := ⟨h.1.tr hF.mf, hF.mi h.2.1, by rw [hF.2 0 (by decide) (by decide)]; exact h.2.2⟩
theorem aList_W (A : ASt) (ws : Nat → AWk) : ∀ n k, k < n → aW (aList A ws n) k = ws k := by
  intro n
  induction n with
  | zero => intro k hk; exact absurd hk (Nat.not_lt_zero k)
  | succ n ih =>
    intro k hk
    show (if k = aN (aList A ws n) then ws n else aW (aList A ws n) k) = ws k
    rw [aList_n]
    by_cases e : k = n
    · rw [if_pos e, e]
    · rw [if_neg e]; exact ih k (by omega)
theorem aList_S (A : ASt) (ws : Nat → AWk) : ∀ n, aS (aList A ws n) = 0 ∧ aO (aList A ws n) = 0 ∧ aPn (aList A ws n) = 0
  | 0 => ⟨rfl, rfl, rfl⟩
  | n + 1 => aList_S A ws n
theorem aList_G {A : ASt} (h : GoodSt A) (ws : Nat → AWk) : ∀ n, n ≤ 16 → (∀ k, k < n → AWF (ws k)) → GoodSt (aList A ws n) := by
  intro n
  induction n with
  | zero => intro _ _; exact h.emp
  | succ n ih =>
    intro hn hw
    exact (ih (by omega) (fun k hk => hw k (by omega))).place (hw n (by omega)) (by rw [aList_n]; omega)
/-- what has been read when a text is a list -/
def RdOk (I' : Mm) (m : Nat) (s : PSt) : Prop := (I' (m + 2) 0 = (s.1 : Int) ∧ I' (m + 2) 1 = 0 ∧ I' (m + 2) 2 = 0 ∧ I' (m + 2) 3 = 0) ∧ ∀ k, k < s.1 → WkA (I' (m + 2)) (4 + 47 * k) (s.2.2.2 k)
theorem SIn_all {s : PSt} (h : SIn s) (h1 : s.2.1 = 2) (h2 : 0 < s.2.2.1) : ∀ k, k < s.1 → AWF (s.2.2.2 k) := by
  intro k hk
  by_cases e : k = s.1 - 1
  · have := h.2.1
    rw [h1, ← e] at this
    exact CWF_AWF this h2
  · exact h.2.2 k (by omega)
section ZM12
variable {X : Xt} {g : Geo} {I J : Mm} {b : Nat × Nat} {post : Out → Geo → Mm → Mm → Prop}
theorem sp_X7_readText {m : Nat} {T : Nat × (Nat → Int)} (hL : ML X g m) (hT : MTx I m T) (h : ∀ I', RFr I I' m → (rdv T.2 T.1 = -9 → ∃ s, rn T.2 T.1 = some s ∧ s.2.1 = 2 ∧ 0 < s.2.2.1 ∧ SIn s ∧ RdOk I' m s) → post (.inl (some (vi (rdv T.2 T.1)))) g I' J) : ZV X E_X7_readText 0 [some (.ref m)] [] b g I J post := by
  obtain ⟨l0, ⟨p1, p2, p3, p4, p5, p6, p7⟩, ⟨l1, l2, l3, l4, l5, l6⟩, ⟨j1, j2, j3, j4, j5, j6, j7⟩, ⟨k1, k2, k3, k4, k5, k6⟩⟩ := id hL
  have t100 := hT.2.1
  have bad21 : ∀ (I' : Mm) (q : Nat), q ≤ T.1 → BadP T q → I' m 3 = (q : Int) → I' m 4 = 0 → RFr I I' m → ZV X E_X7_readText 21 [some (.ref m)] [] b g I' J post := by
    intro I' q hq hbp h3 h4 hF
    have e := rdv_bad hbp
    have hx := h I' hF (fun z => by omega)
    rw [e] at hx
    refine ZV_aload_n dX7_readText_21 rfl ?_
    refine ZV_getZ fX7_readText_136 dX7_readText_22 (by assumption) rfl ?_
    rw [h4]
    refine ZV_if_eq (tgt := 63) dX7_readText_25 (by decide) ⟨by omega, by omega⟩ (fun h25 => ?_) (fun h25 => ?_)
    · refine ZV_aload_n dX7_readText_63 rfl ?_
      refine ZV_getZ fX7_readText_136 dX7_readText_64 (by assumption) rfl ?_
      rw [h4]
      refine ZV_if_eq (tgt := 75) dX7_readText_67 (by decide) ⟨by omega, by omega⟩ (fun h67 => ?_) (fun h67 => ?_)
      · refine ZV_aload_n dX7_readText_75 rfl ?_
        refine ZV_getI fX7_readText_129 dX7_readText_76 (by assumption) rfl ?_
        rw [h3]
        refine ZV_iret dX7_readText_79 rfl ?_
        exact hx
      · omega
    · omega
  have loop : ∀ i : Nat, i ≤ 12 → ∀ (I' : Mm) (q tk : Nat) (ws : Nat → AWk) (W : AWk), q ≤ T.1 → 9 * i + 8 ≤ q → rn T.2 q = some (cur i 2 (tk : Int) ws W) → 0 < tk → (tk = 8 ∨ q = T.1 ∨ ¬ isLt (T.2 q)) → I' m 3 = (q : Int) → I' m 4 = 1 → RFr I I' m → (I' (m + 2) 0 = (i : Int) + 1 ∧ I' (m + 2) 1 = 0 ∧ I' (m + 2) 2 = 0 ∧ I' (m + 2) 3 = 0) → (∀ k, k < i + 1 → WkA (I' (m + 2)) (4 + 47 * k) (setW ws i W k)) → ZV X E_X7_readText 21 [some (.ref m)] [] b g I' J post := by
    refine loop_up 12 ?_ ?_
    · intro I' q tk ws W hq h9
      omega
    · intro i hi ih I' q tk ws W hq h9 hrn htk hmx h3 h4 hF hr hw
      have tx := hF.tx hT
      refine ZV_aload_n dX7_readText_21 rfl ?_
      refine ZV_getZ fX7_readText_136 dX7_readText_22 (by assumption) rfl ?_
      rw [h4]
      refine ZV_if_eq (tgt := 63) dX7_readText_25 (by decide) ⟨by omega, by omega⟩ (fun h25 => ?_) (fun h25 => ?_)
      · omega
      · refine ZV_aload_n dX7_readText_28 rfl ?_
        refine ZV_getI fX7_readText_129 dX7_readText_29 (by assumption) rfl ?_
        rw [h3]
        refine ZV_aload_n dX7_readText_32 rfl ?_
        refine ZV_getI fX7_readText_122 dX7_readText_33 (by assumption) rfl ?_
        rw [tx.1]
        refine ZV_icmp_ge (tgt := 63) dX7_readText_36 (by decide) ⟨by omega, by omega⟩ ⟨by omega, by omega⟩ (fun h36 => ?_) (fun h36 => ?_)
        · have e : q = T.1 := by omega
          rw [e] at hrn
          have er : rdv T.2 T.1 = -9 := rdv_ok hrn rfl (by show (0 : Int) < tk; omega)
          have hx := h I' hF (fun _ => ⟨_, hrn, rfl, by show (0 : Int) < tk; omega, rn_SIn hrn, ⟨by rw [hr.1]; rfl, hr.2⟩, hw⟩)
          rw [er] at hx
          refine ZV_aload_n dX7_readText_63 rfl ?_
          refine ZV_getZ fX7_readText_136 dX7_readText_64 (by assumption) rfl ?_
          rw [h4]
          refine ZV_if_eq (tgt := 75) dX7_readText_67 (by decide) ⟨by omega, by omega⟩ (fun h67 => ?_) (fun h67 => ?_)
          · omega
          · refine ZV_bipush dX7_readText_70 (by decide) ?_
            refine ZV_goto (tgt := 79) dX7_readText_72 (by decide) ?_
            refine ZV_iret dX7_readText_79 rfl ?_
            exact hx
        · refine ZV_aload_n dX7_readText_39 rfl ?_
          refine ZV_aload_n dX7_readText_40 rfl ?_
          refine ZV_bipush dX7_readText_41 (by decide) ?_
          refine cl_X7_isNext kX7_readText_155 rfl dX7_readText_43 (by assumption) (Nat.le_of_ble_eq_true rfl) ?_
          refine sp_X7_isNext hL tx h3 hq ⟨by decide, by decide⟩ ?_
          refine cl_X7_accept kX7_readText_144 rfl dX7_readText_46 (by assumption) (Nat.le_of_ble_eq_true rfl) ?_
          by_cases hc : q < T.1 ∧ T.2 q = 59
          · rw [if_pos hc]
            refine sp_X7_accept (p := q) hL h3 (by omega) h4 (Or.inr rfl) (Or.inr rfl) (fun _ _ => ?_) (fun e => absurd ⟨rfl, rfl⟩ e)
            have rn1 : rn T.2 (q + 1) = some (cur (i + 1) 0 0 (setW ws i W) wk0) := by rw [rn_succ hrn, hc.2]; exact cT_semi (by omega) (by omega)
            have F1 := (hF.u4 (v := 1)).u3 (v := (q : Int) + 1)
            have r1 : ∀ c, up2 (up2 I' m 4 1) m 3 ((q : Int) + 1) (m + 2) c = I' (m + 2) c := fun c => by rw [up2_a (by omega), up2_a (by omega)]
            refine ZV_aload_n dX7_readText_49 rfl ?_
            refine ZV_getZ fX7_readText_136 dX7_readText_50 (by assumption) rfl ?_
            rw [up2_k (by decide), up2_same]
            refine ZV_if_eq (tgt := 21) dX7_readText_53 (by decide) ⟨by omega, by omega⟩ (fun h53 => ?_) (fun h53 => ?_)
            · omega
            · refine ZV_aload_n dX7_readText_56 rfl ?_
              refine cl_X7_readWork kX7_readText_161 rfl dX7_readText_57 (by assumption) (Nat.le_of_ble_eq_true rfl) ?_
              refine sp_X7_readWork (p := q + 1) (i := i + 1) hL (F1.tx hT) (by rw [up2_same]; omega) (by rw [up2_k (by decide), up2_same]) (by omega) (by omega) (by rw [r1, hr.1]; omega) rn1 ?_ ?_
              · intro I2 q2 a1 a2 a3 a4 a5
                refine ZV_goto (tgt := 21) dX7_readText_60 (by decide) ?_
                exact bad21 I2 q2 a1 a2 a3 a4 (F1.tr a5)
              · intro I2 q2 tk2 W2 a1 a2 a3 a4 a5 a6 a7 a8 a9 a10 a11
                have sin := rn_SIn a3
                refine ZV_goto (tgt := 21) dX7_readText_60 (by decide) ?_
                refine ih I2 q2 tk2 (setW ws i W) W2 a1 (by omega) a3 a4 a5 a6 a7 (F1.tr a11) ⟨by rw [a8], by rw [a10 1 (by omega) (by omega), r1]; exact hr.2.1, by rw [a10 2 (by omega) (by omega), r1]; exact hr.2.2.1, by rw [a10 3 (by omega) (by omega), r1]; exact hr.2.2.2⟩ (fun k hk => ?_)
                by_cases e : k = i + 1
                · have e2 : setW (setW ws i W) (i + 1) W2 k = W2 := by unfold setW; rw [if_pos e]
                  rw [e2, e]; exact a9
                · have e2 : setW (setW ws i W) (i + 1) W2 k = setW ws i W k := by
                    show (if k = i + 1 then W2 else setW ws i W k) = _
                    rw [if_neg e]
                  have aw : AWF (setW (setW ws i W) (i + 1) W2 k) := sin.2.2 k (by show k < i + 1 + 1 - 1; omega)
                  rw [e2] at aw ⊢
                  exact (hw k (by omega)).move (p := 4 + 47 * k) aw.1.2 (fun c hc9 => by rw [a10 _ (by omega) (by omega), r1])
          · rw [if_neg hc]
            refine sp_X7_accept (p := q) hL h3 (by omega) h4 (Or.inr rfl) (Or.inl rfl) (fun _ e => absurd e (by decide)) (fun _ => ?_)
            have bp : BadP T q := ⟨_, hrn, Or.inl ⟨by omega, by
              by_cases e : isLt (T.2 q)
              · exact cT_8 e (by omega)
              · exact cT_no e (fun z => hc ⟨by omega, z.1⟩)⟩⟩
            refine ZV_aload_n dX7_readText_49 rfl ?_
            refine ZV_getZ fX7_readText_136 dX7_readText_50 (by assumption) rfl ?_
            rw [up2_k (by decide), up2_same]
            refine ZV_if_eq (tgt := 21) dX7_readText_53 (by decide) ⟨by omega, by omega⟩ (fun h53 => ?_) (fun h53 => ?_)
            · exact bad21 _ q hq bp (up2_same _ _ _ _) (by rw [up2_k (by decide), up2_same]) ((hF.u4).u3)
            · omega
  refine ZV_aload_n dX7_readText_0 rfl ?_
  refine ZV_iconst dX7_readText_1 ?_
  refine ZV_putI fX7_readText_129 dX7_readText_2 (by assumption) rfl ?_
  refine ZV_aload_n dX7_readText_5 rfl ?_
  refine ZV_iconst dX7_readText_6 ?_
  refine ZV_putZ fX7_readText_136 dX7_readText_7 (by assumption) rfl (by first | exact Or.inl rfl | exact Or.inr rfl | assumption | omega) ?_
  refine ZV_aload_n dX7_readText_10 rfl ?_
  refine ZV_getR fX7_readText_13 dX7_readText_11 (by assumption) rfl (by assumption) ?_
  refine cl_X7_clean kX7_readText_50 rfl dX7_readText_14 (Nat.le_of_ble_eq_true rfl) ?_
  refine sp_X7_clean j2 ?_
  intro I0 hI0 hI0k
  have F0 : RFr I I0 m := ⟨fun q q1 q2 => by rw [hI0 q q2, up2_row _ _ q1, up2_row _ _ q1], fun k k3 k4 => by rw [hI0 m (by omega), up2_k k4, up2_k k3]⟩
  refine ZV_aload_n dX7_readText_17 rfl ?_
  refine cl_X7_readWork kX7_readText_161 rfl dX7_readText_18 (by assumption) (Nat.le_of_ble_eq_true rfl) ?_
  refine sp_X7_readWork (p := 0) (i := 0) (ws := fun _ => wk0) hL (F0.tx hT) (by rw [hI0 m (by omega), up2_k (by decide), up2_same]; rfl) (by rw [hI0 m (by omega), up2_same]) (Nat.zero_le _) (by decide) (by rw [hI0k 0 (by decide)]; rfl) rfl ?_ ?_
  · intro I2 q2 a1 a2 a3 a4 a5
    exact bad21 I2 q2 a1 a2 a3 a4 (F0.tr a5)
  · intro I2 q2 tk2 W2 a1 a2 a3 a4 a5 a6 a7 a8 a9 a10 a11
    refine loop 0 (by decide) I2 q2 tk2 _ W2 a1 (by omega) a3 a4 a5 a6 a7 (F0.tr a11) ⟨by rw [a8], by rw [a10 1 (by omega) (by omega), hI0k 1 (by decide)], by rw [a10 2 (by omega) (by omega), hI0k 2 (by decide)], by rw [a10 3 (by omega) (by omega), hI0k 3 (by decide)]⟩ (fun k hk => ?_)
    have e : setW (fun _ => wk0) 0 W2 k = W2 := by unfold setW; rw [if_pos (by omega)]
    rw [e, show k = 0 by omega]
    exact a9
theorem sp_X7_errorPosition {m : Nat} {Q : AC} (hM : MInv X g I m Q) (h : ∀ I', MP X g I I' m Q 0 → post (.inl (some (vi (rdv Q.1.2 Q.1.1)))) g I' J) : ZV X E_X7_errorPosition 0 [some (.ref m)] [] b g I J post := by
  have l0 := hM.1.1
  have rg := rdv_rng Q.1
  have t100 := hM.2.1.2.1
  refine ZV_aload_n dX7_errorPosition_0 rfl ?_
  refine ZV_iconst dX7_errorPosition_1 ?_
  refine ZV_putI fX7_errorPosition_54 dX7_errorPosition_2 (by assumption) rfl ?_
  refine ZV_aload_n dX7_errorPosition_5 rfl ?_
  refine cl_X7_readText kX7_errorPosition_164 rfl dX7_errorPosition_6 (by assumption) (Nat.le_of_ble_eq_true rfl) ?_
  refine sp_X7_readText hM.1 (hM.ref (w := 0)).2.1 ?_
  intro I' hF _
  refine ZV_iret dX7_errorPosition_9 rfl ?_
  exact h I' (hM.mp.rd hF)
theorem sp_X7_isOneWork {m : Nat} {Q : AC} (hM : MInv X g I m Q) (h : ∀ I' r, RFr I I' m → ((r = 1 ∧ rdv Q.1.2 Q.1.1 = -9 ∧ ∃ s, rn Q.1.2 Q.1.1 = some s ∧ s.1 = 1 ∧ AWF (s.2.2.2 0) ∧ RdOk I' m s) ∨ (r = 0 ∧ ¬ oneW Q.1)) → post (.inl (some (vi r))) g I' J) : ZV X E_X7_isOneWork 0 [some (.ref m)] [] b g I J post := by
  have hL := hM.1
  obtain ⟨l0, ⟨p1, p2, p3, p4, p5, p6, p7⟩, ⟨l1, l2, l3, l4, l5, l6⟩, ⟨j1, j2, j3, j4, j5, j6, j7⟩, ⟨k1, k2, k3, k4, k5, k6⟩⟩ := id hL
  have rg := rdv_rng Q.1
  have t100 := hM.2.1.2.1
  refine ZV_aload_n dX7_isOneWork_0 rfl ?_
  refine cl_X7_readText kX7_isOneWork_164 rfl dX7_isOneWork_1 (by assumption) (Nat.le_of_ble_eq_true rfl) ?_
  refine sp_X7_readText hL hM.2.1 ?_
  intro I' hF hw
  refine ZV_bipush dX7_isOneWork_4 (by decide) ?_
  refine ZV_icmp_ne (tgt := 23) dX7_isOneWork_6 (by decide) ⟨by omega, by omega⟩ ⟨by omega, by omega⟩ (fun h6 => ?_) (fun h6 => ?_)
  · refine ZV_iconst dX7_isOneWork_23 ?_
    refine ZV_zret dX7_isOneWork_24 rfl (by first | exact Or.inl rfl | exact Or.inr rfl | assumption | omega) ?_
    exact h I' 0 hF (Or.inr ⟨rfl, fun q => by have := q.1; omega⟩)
  · obtain ⟨s, w1, w2, w3, w4, w5⟩ := hw (by omega)
    have s16 := w4.1
    refine ZV_aload_n dX7_isOneWork_9 rfl ?_
    refine ZV_getR fX7_isOneWork_13 dX7_isOneWork_10 (by assumption) rfl (by assumption) ?_
    refine ZV_iconst dX7_isOneWork_13 ?_
    refine ZV_iald (0) dX7_isOneWork_14 (by assumption) (by first | rfl | omega) (by omega) (by omega) ?_
    rw [w5.1.1]
    refine ZV_iconst dX7_isOneWork_15 ?_
    refine ZV_icmp_ne (tgt := 23) dX7_isOneWork_16 (by decide) ⟨by omega, by omega⟩ ⟨by omega, by omega⟩ (fun h16 => ?_) (fun h16 => ?_)
    · refine ZV_iconst dX7_isOneWork_23 ?_
      refine ZV_zret dX7_isOneWork_24 rfl (by first | exact Or.inl rfl | exact Or.inr rfl | assumption | omega) ?_
      refine h I' 0 hF (Or.inr ⟨rfl, fun q => ?_⟩)
      obtain ⟨-, s', q1, q2⟩ := q
      rw [w1] at q1
      injection q1 with q1
      subst q1
      omega
    · refine ZV_iconst dX7_isOneWork_19 ?_
      refine ZV_goto (tgt := 24) dX7_isOneWork_20 (by decide) ?_
      refine ZV_zret dX7_isOneWork_24 rfl (by first | exact Or.inl rfl | exact Or.inr rfl | assumption | omega) ?_
      exact h I' 1 hF (Or.inl ⟨rfl, by omega, s, w1, by omega, SIn_all w4 w2 w3 0 (by omega), w5⟩)
theorem sp_X7_load {m : Nat} {Q : AC} (hM : MInv X g I m Q) (hx1 : rdv Q.1.2 Q.1.1 ≠ -9 → ∀ I', MP X g I I' m Q 1 → post (.inl (some (vi 0))) g I' J) (hx2 : ∀ s, rdv Q.1.2 Q.1.1 = -9 → rn Q.1.2 Q.1.1 = some s → ∀ I', MP X g I I' m (Q.1, aList Q.2.1 s.2.2.2 s.1, (0, Q.2.2.1.2), fun _ => none) 0 → post (.inl (some (vi (s.1 : Int)))) g I' J) : ZV X E_X7_load 0 [some (.ref m)] [] b g I J post := by
  have hL := hM.1
  obtain ⟨l0, ⟨p1, p2, p3, p4, p5, p6, p7⟩, ⟨l1, l2, l3, l4, l5, l6⟩, ⟨j1, j2, j3, j4, j5, j6, j7⟩, ⟨k1, k2, k3, k4, k5, k6⟩⟩ := id hL
  have rg := rdv_rng Q.1
  have t100 := hM.2.1.2.1
  refine ZV_aload_n dX7_load_0 rfl ?_
  refine ZV_aload_n dX7_load_1 rfl ?_
  refine cl_X7_readText kX7_load_164 rfl dX7_load_2 (by assumption) (Nat.le_of_ble_eq_true rfl) ?_
  refine sp_X7_readText hL hM.2.1 ?_
  intro I1 hF hw
  have hM1 := hF.mi hM
  have mp1 : ∀ w, MP X g I (up2 I1 m 0 w) m Q w := fun w => ⟨hF.mf.tr (hM1.mp (w := w)).1, hM1.mp.2.1, hM1.mp.2.2⟩
  refine ZV_bipush dX7_load_5 (by decide) ?_
  refine ZV_icmp_ne (tgt := 14) dX7_load_7 (by decide) ⟨by omega, by omega⟩ ⟨by omega, by omega⟩ (fun h7 => ?_) (fun h7 => ?_)
  · refine ZV_iconst dX7_load_14 ?_
    refine cl_X7_refused kX7_load_125 rfl dX7_load_15 (by assumption) (Nat.le_of_ble_eq_true rfl) ?_
    refine sp_X7_refused hL ⟨by decide, by decide⟩ ?_
    rw [if_pos (by decide)]
    refine ZV_if_eq (tgt := 23) dX7_load_18 (by decide) ⟨by omega, by omega⟩ (fun h18 => ?_) (fun h18 => ?_)
    · omega
    · refine ZV_iconst dX7_load_21 ?_
      refine ZV_iret dX7_load_22 rfl ?_
      exact hx1 (by omega) _ (mp1 1)
  · obtain ⟨s, w1, w2, w3, w4, ⟨w5, w6, w7, w8⟩, w9⟩ := hw (by omega)
    have s16 := w4.1
    have hx := hx2 s (by omega) w1
    refine ZV_iconst dX7_load_10 ?_
    refine ZV_goto (tgt := 15) dX7_load_11 (by decide) ?_
    refine cl_X7_refused kX7_load_125 rfl dX7_load_15 (by assumption) (Nat.le_of_ble_eq_true rfl) ?_
    refine sp_X7_refused hL ⟨by decide, by decide⟩ ?_
    rw [if_neg (by decide)]
    refine ZV_if_eq (tgt := 23) dX7_load_18 (by decide) ⟨by omega, by omega⟩ (fun h18 => ?_) (fun h18 => ?_)
    · refine ZV_aload_n dX7_load_23 rfl ?_
      refine ZV_getR fX7_load_13 dX7_load_24 (by assumption) rfl (by assumption) ?_
      refine ZV_iconst dX7_load_27 ?_
      refine ZV_aload_n dX7_load_28 rfl ?_
      refine ZV_getR fX7_load_16 dX7_load_29 (by assumption) rfl (by assumption) ?_
      refine ZV_iconst dX7_load_32 ?_
      refine ZV_sipush dX7_load_33 (by decide) ?_
      refine cl_X7_copy kX7_load_63 rfl dX7_load_36 (Nat.le_of_ble_eq_true rfl) ?_
      refine sp_X7_copy (x := 0) (y := 0) (n := 980) j2 j3 (by omega) (by omega) (by omega) (by omega) (Or.inl (by omega)) ?_
      intro I2 hI2 hI2k
      have cp : ∀ k, k < 980 → I2 (m + 3) k = I1 (m + 2) k := fun k hk => by rw [hI2k, if_pos ⟨by omega, by omega⟩, up2_a (by omega), show 0 + (k - 0) = k by omega]
      refine ZV_aload_n dX7_load_39 rfl ?_
      refine ZV_iconst dX7_load_40 ?_
      refine ZV_putI fX7_load_60 dX7_load_41 (by assumption) rfl ?_
      refine ZV_aload_n dX7_load_44 rfl ?_
      refine ZV_getR fX7_load_28 dX7_load_45 (by assumption) rfl (by assumption) ?_
      refine ZV_iconst dX7_load_48 ?_
      refine ZV_iconst dX7_load_49 ?_
      refine ZV_zast (0) dX7_load_50 (by assumption) (by first | rfl | omega) (by omega) (by omega) (by first | exact Or.inl rfl | exact Or.inr rfl | omega) ?_
      refine ZV_aload_n dX7_load_51 rfl ?_
      refine ZV_getR fX7_load_28 dX7_load_52 (by assumption) rfl (by assumption) ?_
      refine ZV_iconst dX7_load_55 ?_
      refine ZV_iconst dX7_load_56 ?_
      refine ZV_zast (1) dX7_load_57 (by assumption) (by first | rfl | omega) (by omega) (by omega) (by first | exact Or.inl rfl | exact Or.inr rfl | omega) ?_
      have c0 : up2 (up2 (up2 I2 m 9 0) (m + 7) 0 0) (m + 7) 1 0 (m + 3) 0 = (s.1 : Int) := by rw [up2_a (by omega), up2_a (by omega), up2_a (by omega), cp 0 (by decide)]; exact w5
      refine ZV_aload_n dX7_load_58 rfl ?_
      refine ZV_getR fX7_load_16 dX7_load_59 (by assumption) rfl (by assumption) ?_
      refine ZV_iconst dX7_load_62 ?_
      refine ZV_iald (0) dX7_load_63 (by assumption) (by first | rfl | omega) (by omega) (by omega) ?_
      rw [c0]
      refine ZV_iret dX7_load_64 rfl ?_
      have rr : ∀ q, q ≠ m → q ≠ m + 7 → q ≠ m + 3 → up2 (up2 (up2 I2 m 9 0) (m + 7) 0 0) (m + 7) 1 0 q = I1 q := fun q q1 q2 q3 => by rw [up2_row _ _ q2, up2_row _ _ q2, up2_row _ _ q1, hI2 q q3, up2_row _ _ q1]
      have r3 : ∀ k, k < 980 → up2 (up2 (up2 I2 m 9 0) (m + 7) 0 0) (m + 7) 1 0 (m + 3) k = I1 (m + 2) k := fun k hk => by rw [up2_a (by omega), up2_a (by omega), up2_a (by omega), cp k hk]
      have rm : ∀ k, k ≠ 9 → k ≠ 0 → up2 (up2 (up2 I2 m 9 0) (m + 7) 0 0) (m + 7) 1 0 m k = I1 m k := fun k q1 q2 => by rw [up2_a (by omega), up2_a (by omega), up2_k q1, hI2 m (by omega), up2_k q2]
      have aw := SIn_all w4 w2 w3
      refine hx _ ⟨fun q hq => (rr q (by omega) (by omega) (by omega)).trans (hF.mf q hq), ⟨hL, ?_, ⟨?_, aList_G hM.2.2.1.2 _ _ s16.2 aw⟩, ⟨by rw [up2_a (by omega), up2_a (by omega), up2_same]; rfl, Nat.zero_le _, fun k hk => absurd hk (Nat.not_lt_zero k)⟩, fun k hk => Or.inl ⟨rfl, ?_⟩⟩, ?_⟩
      · obtain ⟨t1, t2, t3⟩ := hM1.2.1
        exact ⟨by rw [rm 2 (by decide) (by decide)]; exact t1, t2, fun p hp => by rw [rr (m + 1) (by omega) (by omega) (by omega)]; exact t3 p hp⟩
      · obtain ⟨e1, e2, e3⟩ := aList_S Q.2.1 s.2.2.2 s.1
        refine ⟨⟨by rw [aList_n]; exact c0, by rw [e1, r3 1 (by decide)]; exact w6, by rw [e2, r3 2 (by decide)]; exact w7, by rw [e3, r3 3 (by decide)]; exact w8⟩, fun k hk => ?_, fun p hp => by rw [e3] at hp; exact absurd hp (Nat.not_lt_zero p)⟩
        rw [aList_n] at hk
        rw [aList_W _ _ _ k hk]
        exact (w9 k hk).move (p := 4 + 47 * k) (aw k hk).1.2 (fun c hc => r3 _ (by omega))
      · by_cases e : k = 1
        · rw [e, up2_same]
        · rw [up2_k e, show k = 0 by omega, up2_same]
      · rw [up2_a (by omega), up2_a (by omega), up2_k (by decide), hI2 m (by omega), up2_same]
    · omega
theorem sp_X7_note {m : Nat} {Q : AC} (hM : MInv X g I m Q) (h : ∀ I', (∀ q, q ≠ m → q ≠ m + 5 → I' q = I q) → (∀ k, k ≠ 9 → I' m k = I m k) → MInv X g I' m (Q.1, Q.2.1, hpush Q.2.2.1 Q.2.1, Q.2.2.2) → post (.inl none) g I' J) : ZV X E_X7_note 0 [some (.ref m)] [] b g I J post := by
  obtain ⟨hL, hT, ⟨hR, hG⟩, ⟨a1, a2, a3⟩, hV⟩ := hM
  obtain ⟨l0, ⟨p1, p2, p3, p4, p5, p6, p7⟩, ⟨l1, l2, l3, l4, l5, l6⟩, ⟨j1, j2, j3, j4, j5, j6, j7⟩, ⟨k1, k2, k3, k4, k5, k6⟩⟩ := id hL
  have key : ∀ (I1 : Mm) (n : Nat), n < 14 → I1 m 9 = (n : Int) → (∀ q, q ≠ m → q ≠ m + 5 → I1 q = I q) → (∀ k, k ≠ 9 → I1 m k = I m k) → ((Q.2.2.1.1 = n ∧ I1 (m + 5) = I (m + 5)) ∨ (Q.2.2.1.1 = 14 ∧ n = 13 ∧ ∀ k, k < 12740 → I1 (m + 5) k = I (m + 5) (980 + k))) → ZV X E_X7_note 37 [some (.ref m)] [] b g I1 J post := by
    intro I1 n hn h9 hI1 hIm hc
    have e3 : I1 (m + 3) = I (m + 3) := hI1 _ (by omega) (by omega)
    refine ZV_aload_n dX7_note_37 rfl ?_
    refine ZV_getR fX7_note_16 dX7_note_38 (by assumption) rfl (by assumption) ?_
    refine ZV_iconst dX7_note_41 ?_
    refine ZV_aload_n dX7_note_42 rfl ?_
    refine ZV_getR fX7_note_22 dX7_note_43 (by assumption) rfl (by assumption) ?_
    refine ZV_sipush dX7_note_46 (by decide) ?_
    refine ZV_aload_n dX7_note_49 rfl ?_
    refine ZV_getI fX7_note_60 dX7_note_50 (by assumption) rfl ?_
    refine ZV_imul dX7_note_53 ?_
    rw [h9, show 980 * (n : Int) = ((980 * n : Nat) : Int) by omega]
    refine ZV_sipush dX7_note_54 (by decide) ?_
    refine cl_X7_copy kX7_note_63 rfl dX7_note_57 (Nat.le_of_ble_eq_true rfl) ?_
    refine sp_X7_copy (x := 0) (n := 980) j3 j5 (by omega) (by omega) (by omega) (by omega) (Or.inl (by omega)) ?_
    intro I2 hI2 hI2k
    have e9 : I2 m 9 = (n : Int) := by rw [hI2 m (by omega)]; exact h9
    refine ZV_aload_n dX7_note_60 rfl ?_
    refine ZV_dup dX7_note_61 rfl ?_
    refine ZV_getI fX7_note_60 dX7_note_62 (by assumption) rfl ?_
    rw [e9]
    refine ZV_iconst dX7_note_65 ?_
    refine ZV_iadd dX7_note_66 ?_
    refine ZV_putI fX7_note_60 dX7_note_67 (by assumption) rfl ?_
    refine ZV_vret dX7_note_70 rfl ?_
    have rr : ∀ q, q ≠ m → q ≠ m + 5 → up2 I2 m 9 ((n : Int) + 1) q = I q := fun q q1 q2 => by rw [up2_row _ _ q1, hI2 q q2, hI1 q q1 q2]
    have rm : ∀ k, k ≠ 9 → up2 I2 m 9 ((n : Int) + 1) m k = I m k := fun k hk => by rw [up2_k hk, hI2 m (by omega), hIm k hk]
    have r5 : up2 I2 m 9 ((n : Int) + 1) (m + 5) = I2 (m + 5) := up2_row _ _ (by omega)
    have last : MR (fun q => I2 (m + 5) (980 * n + q)) Q.2.1 := hR.move hG (fun k hk => by rw [hI2k, if_pos ⟨by omega, by omega⟩, e3, show 0 + (980 * n + k - 980 * n) = k by omega])
    refine h _ rr rm ⟨hL, ?_, ⟨by rw [rr (m + 3) (by omega) (by omega)]; exact hR, hG⟩, ⟨?_, ?_, fun k hk => ?_⟩, fun s hs => by rw [rr (m + 7) (by omega) (by omega), rr (m + 6) (by omega) (by omega)]; exact hV s hs⟩
    · obtain ⟨t1, t2, t3⟩ := hT
      exact ⟨by rw [rm 2 (by decide)]; exact t1, t2, fun p hp => by rw [rr (m + 1) (by omega) (by omega)]; exact t3 p hp⟩
    · show up2 I2 m 9 ((n : Int) + 1) m 9 = ((hpush Q.2.2.1 Q.2.1).1 : Int)
      rw [up2_same]
      unfold hpush
      rcases hc with ⟨c1, -⟩ | ⟨c1, c2, -⟩
      · rw [if_neg (by omega)]
        show (n : Int) + 1 = ((Q.2.2.1.1 + 1 : Nat) : Int)
        omega
      · rw [if_pos c1]
        show (n : Int) + 1 = ((14 : Nat) : Int)
        omega
    · show (hpush Q.2.2.1 Q.2.1).1 ≤ 14
      unfold hpush
      split
      · exact Nat.le_refl 14
      · show Q.2.2.1.1 + 1 ≤ 14; omega
    · show MR (fun q => up2 I2 m 9 ((n : Int) + 1) (m + 5) (980 * k + q)) ((hpush Q.2.2.1 Q.2.1).2 k) ∧ GoodSt ((hpush Q.2.2.1 Q.2.1).2 k)
      rw [r5]
      have hk0 : k < (hpush Q.2.2.1 Q.2.1).1 := hk
      unfold hpush at hk0 ⊢
      rcases hc with ⟨c1, c2⟩ | ⟨c1, c2, c3⟩
      · rw [if_neg (by omega)] at hk0 ⊢
        have hk2 : k < Q.2.2.1.1 + 1 := hk0
        show MR (fun q => I2 (m + 5) (980 * k + q)) (if k = Q.2.2.1.1 then Q.2.1 else Q.2.2.1.2 k) ∧ GoodSt (if k = Q.2.2.1.1 then Q.2.1 else Q.2.2.1.2 k)
        by_cases e : k = Q.2.2.1.1
        · rw [if_pos e, e, c1]; exact ⟨last, hG⟩
        · rw [if_neg e]
          obtain ⟨b1, b2⟩ := a3 k (by omega)
          exact ⟨b1.move b2 (fun q hq => by rw [hI2k, if_neg (by omega), c2]), b2⟩
      · rw [if_pos c1] at hk0 ⊢
        have hk2 : k < 14 := hk0
        show MR (fun q => I2 (m + 5) (980 * k + q)) (if k = 13 then Q.2.1 else Q.2.2.1.2 (k + 1)) ∧ GoodSt (if k = 13 then Q.2.1 else Q.2.2.1.2 (k + 1))
        by_cases e : k = 13
        · rw [if_pos e, e, ← c2]; exact ⟨last, hG⟩
        · rw [if_neg e]
          obtain ⟨b1, b2⟩ := a3 (k + 1) (by omega)
          exact ⟨b1.move b2 (fun q hq => by rw [hI2k, if_neg (by omega), c3 _ (by omega), show 980 + (980 * k + q) = 980 * (k + 1) + q by omega]), b2⟩
  refine ZV_aload_n dX7_note_0 rfl ?_
  refine ZV_getI fX7_note_60 dX7_note_1 (by assumption) rfl ?_
  rw [a1]
  refine ZV_bipush dX7_note_4 (by decide) ?_
  refine ZV_icmp_ne (tgt := 37) dX7_note_6 (by decide) ⟨by omega, by omega⟩ ⟨by omega, by omega⟩ (fun h6 => ?_) (fun h6 => ?_)
  · exact key I Q.2.2.1.1 (by omega) a1 (fun _ _ _ => rfl) (fun _ _ => rfl) (Or.inl ⟨rfl, rfl⟩)
  · refine ZV_aload_n dX7_note_9 rfl ?_
    refine ZV_getR fX7_note_22 dX7_note_10 (by assumption) rfl (by assumption) ?_
    refine ZV_sipush dX7_note_13 (by decide) ?_
    refine ZV_aload_n dX7_note_16 rfl ?_
    refine ZV_getR fX7_note_22 dX7_note_17 (by assumption) rfl (by assumption) ?_
    refine ZV_iconst dX7_note_20 ?_
    refine ZV_sipush dX7_note_21 (by decide) ?_
    refine cl_X7_copy kX7_note_63 rfl dX7_note_24 (Nat.le_of_ble_eq_true rfl) ?_
    refine sp_X7_copy (x := 980) (y := 0) (n := 12740) j5 j5 (by omega) (by omega) (by omega) (by omega) (Or.inr (by omega)) ?_
    intro I1 hI1 hI1k
    have e9 : I1 m 9 = (Q.2.2.1.1 : Int) := by rw [hI1 m (by omega)]; exact a1
    refine ZV_aload_n dX7_note_27 rfl ?_
    refine ZV_dup dX7_note_28 rfl ?_
    refine ZV_getI fX7_note_60 dX7_note_29 (by assumption) rfl ?_
    rw [e9]
    refine ZV_iconst dX7_note_32 ?_
    refine ZV_isub dX7_note_33 ?_
    refine ZV_putI fX7_note_60 dX7_note_34 (by assumption) rfl ?_
    exact key _ 13 (by decide) (by rw [up2_same]; omega) (fun q q1 q2 => by rw [up2_row _ _ q1, hI1 q q2]) (fun k hk => by rw [up2_k hk, hI1 m (by omega)]) (Or.inr ⟨by omega, rfl, fun k hk => by rw [up2_row _ _ (by omega), hI1k, if_pos ⟨by omega, by omega⟩, show 980 + (k - 0) = 980 + k by omega]⟩)
end ZM12

