/-! CitationKeys$Work -/
/-- a work: its authors as packed names, how many, its year, its title -/
abbrev AWk : Type := (Nat → Int) × Int × Int × Int
def WG (X : Xt) (g : Geo) (w : Nat) : Prop := ksh X g w = some (.inl 3) ∧ g.2.1 w 0 = some (w + 1) ∧ ksh X g (w + 1) = some (.inr (1, 4))
def WkAt (I J : Mm) (w : Nat) (A : AWk) : Prop := (∀ a, a < 4 → J (w + 1) a = A.1 a) ∧ I w 1 = A.2.1 ∧ I w 2 = A.2.2.1 ∧ J w 3 = A.2.2.2
def nmOK (v : Int) : Prop := 0 ≤ v ∧ v < 1099511627776
def WkOK (A : AWk) : Prop := (∀ a, a < 4 → nmOK (A.1 a)) ∧ r32 A.2.1 ∧ (0 ≤ A.2.2.1 ∧ A.2.2.1 < 4096) ∧ nmOK A.2.2.2
/-- outside a block nothing changes -/
def FrO (I I' J J' : Mm) (lo hi : Nat) : Prop := ∀ q, q < lo ∨ hi ≤ q → I' q = I q ∧ J' q = J q
theorem FrO.rf (I J : Mm) (lo hi : Nat) : FrO I I J J lo hi := fun _ _ => ⟨rfl, rfl⟩
theorem FrO.tr {I I' I'' J J' J'' : Mm} {lo hi : Nat} (h1 : FrO I I' J J' lo hi) (h2 : FrO I' I'' J' J'' lo hi) : FrO I I'' J J'' lo hi := fun q hq => ⟨(h2 q hq).1.trans (h1 q hq).1, (h2 q hq).2.trans (h1 q hq).2⟩
theorem FrO.mono {I I' J J' : Mm} {lo hi lo' hi' : Nat} (h : FrO I I' J J' lo hi) (h1 : lo' ≤ lo) (h2 : hi ≤ hi') : FrO I I' J J' lo' hi' := fun q hq => h q (by omega)
theorem FrO.upI {I I' J J' : Mm} {lo hi a k : Nat} {v : Int} (h : FrO I I' J J' lo hi) (h1 : lo ≤ a) (h2 : a < hi) : FrO I (up2 I' a k v) J J' lo hi := fun q hq => ⟨(up2_row I' v (by omega)).trans (h q hq).1, (h q hq).2⟩
theorem FrO.upJ {I I' J J' : Mm} {lo hi a k : Nat} {v : Int} (h : FrO I I' J J' lo hi) (h1 : lo ≤ a) (h2 : a < hi) : FrO I I' J (up2 J' a k v) lo hi := fun q hq => ⟨(h q hq).1, (up2_row J' v (by omega)).trans (h q hq).2⟩
theorem up2_k {f : Mm} {a k k' : Nat} {v : Int} (h : k' ≠ k) : up2 f a k v a k' = f a k' := up2_ne f v (fun q => h q.2)
theorem up2_a {f : Mm} {a a' k : Nat} {v : Int} (h : a' ≠ a) (k' : Nat) : up2 f a k v a' k' = f a' k' := by rw [up2_row f v h]
/-- which row of authors is first, of the first n -/
def acmp (f f' : Nat → Int) : Nat → Int
  | 0 => 0
  | n + 1 => if acmp f f' n = 0 then zcmp (f n) (f' n) else acmp f f' n
theorem acmp_stable {f f' : Nat → Int} {m : Nat} (h : acmp f f' m ≠ 0) : ∀ n, m ≤ n → acmp f f' n = acmp f f' m := by
  intro n
  induction n with
  | zero => intro q; rw [show m = 0 by omega]
  | succ n ih =>
    intro q
    by_cases e : m = n + 1
    · rw [e]
    · have := ih (by omega)
      simp only [acmp]
      rw [if_neg (by rw [this]; exact h), this]
/-- a name out of digits -/
def hsum (f : Nat → Int) (n : Nat) : Int := zsum (fun k => f k * 2 ^ (5 * (7 - k))) n
theorem hsum_ok {f : Nat → Int} (hf : ∀ k, 0 ≤ f k ∧ f k < 32) : ∀ n, n ≤ 8 → 0 ≤ hsum f n ∧ hsum f n + 2 ^ (5 * (8 - n)) ≤ 1099511627776 ∧ hsum f n % 2 ^ (5 * (8 - n)) = 0 := by
  intro n
  induction n with
  | zero =>
    intro _
    unfold hsum zsum
    exact ⟨by decide, by decide, by decide⟩
  | succ n ih =>
    intro hn
    obtain ⟨h1, h2, h3⟩ := ih (by omega)
    have e5 : (2 : Int) ^ (5 * (8 - n)) = 2 ^ (5 * (7 - n)) * 32 := by
      rw [show 5 * (8 - n) = 5 * (7 - n) + 5 by omega, p2add]; rfl
    have hs : hsum f (n + 1) = hsum f n + f n * 2 ^ (5 * (7 - n)) := rfl
    rw [show 8 - (n + 1) = 7 - n by omega, hs]
    have hp := p2pos (5 * (7 - n))
    obtain ⟨P, hP⟩ : ∃ P : Int, P = 2 ^ (5 * (7 - n)) := ⟨_, rfl⟩
    rw [← hP] at hp e5 ⊢
    rw [e5] at h2 h3
    obtain ⟨f0, f1⟩ := hf n
    have m0 : 0 ≤ f n * P := Int.mul_nonneg f0 (by omega)
    have m1 : (f n + 1) * P ≤ 32 * P := Int.mul_le_mul_of_nonneg_right (by omega) (by omega)
    rw [Int.add_mul] at m1
    refine ⟨by omega, by omega, ?_⟩
    have d1 : P ∣ hsum f n := Int.dvd_trans ⟨32, rfl⟩ (Int.dvd_of_emod_eq_zero h3)
    exact Int.emod_eq_zero_of_dvd (Int.dvd_add d1 ⟨f n, Int.mul_comm _ _⟩)
def pre3 (v : Int) : Int := hsum (fun k => dg v k) 3
def inits (au : Nat → Int) : Int := hsum (fun a => dg (au a) 0) 4
def aut2 (v t : Int) : Int := dg v 0 * 34359738368 + dg t 0 * 1073741824
def stm (A : AWk) (style y : Int) : Int :=
  if style = 0 then kst2 (pre3 (A.1 0)) 0 y
  else if style = 1 then kst4 (inits A.1) y
  else if style = 2 then kst2 (A.1 0) (if 1 < A.2.1 then 1 else 0) y
  else kst4 (aut2 (A.1 0) A.2.2.2) y
theorem pre3_ok (v : Int) : nmOK (pre3 v) := by
  have h := hsum_ok (f := fun k => dg v k) (fun k => dg_rng v k) 3 (by decide)
  have hp := p2pos (5 * (8 - 3))
  exact ⟨h.1, by have := h.2.1; unfold pre3; omega⟩
theorem inits_ok (au : Nat → Int) : nmOK (inits au) := by
  have h := hsum_ok (f := fun a => dg (au a) 0) (fun k => dg_rng _ _) 4 (by decide)
  have hp := p2pos (5 * (8 - 4))
  exact ⟨h.1, by have := h.2.1; unfold inits; omega⟩
theorem aut2_ok (v t : Int) : nmOK (aut2 v t) := by
  have h1 := dg_rng v 0
  have h2 := dg_rng t 0
  unfold aut2 nmOK
  omega
section ZW
variable {X : Xt} {b : Nat × Nat} {g : Geo} {I J : Mm} {post : Out → Geo → Mm → Mm → Prop}
theorem sp_X5_empty {w : Nat} (hw : WG X g w) (h : ∀ I' J', WkAt I' J' w (fun _ => 0, 0, 0, 0) → FrO I I' J J' w (w + 2) → post (.inl none) g I' J') : ZV X E_X5_empty 0 [some (.ref w), none] [] b g I J post := by
  obtain ⟨k1, k2, k3⟩ := hw
  refine ZV_iconst dX5_empty_0 ?_
  refine ZV_istore1 dX5_empty_1 rfl (by decide) ?_
  have key : ∀ i : Nat, i ≤ 4 → ∀ (j : Int) (J' : Mm), j = (i : Int) → (∀ a, a < i → J' (w + 1) a = 0) → (∀ q, q ≠ w + 1 → J' q = J q) → ZV X E_X5_empty 2 [some (.ref w), some (vi j)] [] b g I J' post := by
    refine loop_up 4 ?_ ?_
    · intro j J' hj h1 h2
      refine ZV_iload_n dX5_empty_2 rfl ?_
      refine ZV_iconst dX5_empty_3 ?_
      refine ZV_icmp_ge (tgt := 20) dX5_empty_4 (by decide) ⟨by omega, by omega⟩ ⟨by omega, by omega⟩ (fun h4 => ?_) (fun h4 => ?_)
      · refine ZV_aload_n dX5_empty_20 rfl ?_
        refine ZV_iconst dX5_empty_21 ?_
        refine ZV_putI fX5_empty_15 dX5_empty_22 (by assumption) rfl ?_
        refine ZV_aload_n dX5_empty_25 rfl ?_
        refine ZV_iconst dX5_empty_26 ?_
        refine ZV_putI fX5_empty_19 dX5_empty_27 (by assumption) rfl ?_
        refine ZV_aload_n dX5_empty_30 rfl ?_
        refine ZV_lconst (z := 0) dX5_empty_31 (by decide) ?_
        refine ZV_putJ fX5_empty_22 dX5_empty_32 (by assumption) rfl ?_
        refine ZV_vret dX5_empty_35 rfl ?_
        refine h _ _ ⟨fun a ha => ?_, ?_, ?_, ?_⟩ (((((FrO.rf I J w (w + 2)).upI ?_ ?_).upI ?_ ?_).tr (fun q hq => ⟨rfl, h2 q (by omega)⟩)).upJ ?_ ?_)
        · rw [up2_a (by omega)]; exact h1 a ha
        · rw [up2_k (by decide), up2_same]
        · rw [up2_same]
        · rw [up2_same]
        all_goals omega
      · omega
    · intro i hi ih j J' hj h1 h2
      refine ZV_iload_n dX5_empty_2 rfl ?_
      refine ZV_iconst dX5_empty_3 ?_
      refine ZV_icmp_ge (tgt := 20) dX5_empty_4 (by decide) ⟨by omega, by omega⟩ ⟨by omega, by omega⟩ (fun h4 => ?_) (fun h4 => ?_)
      · omega
      · refine ZV_aload_n dX5_empty_7 rfl ?_
        refine ZV_getR fX5_empty_9 dX5_empty_8 (by assumption) rfl (by assumption) ?_
        refine ZV_iload_n dX5_empty_11 rfl ?_
        refine ZV_lconst (z := 0) dX5_empty_12 (by decide) ?_
        refine ZV_last (i) dX5_empty_13 (by assumption) (by first | rfl | omega) (by omega) (by omega) ?_
        refine ZV_jinc1 dX5_empty_14 rfl (by decide) ?_
        refine ZV_goto (tgt := 2) dX5_empty_17 (by decide) ?_
        refine ih _ _ (by omega) (fun a ha => ?_) (fun q hq => (up2_row _ _ hq).trans (h2 q hq))
        by_cases e : a = i
        · rw [e, up2_same]
        · rw [up2_k e]; exact h1 a (by omega)
  exact key 0 (by omega) _ _ rfl (fun a ha => by omega) (fun _ _ => rfl)
theorem sp_X5_copyFrom {w u : Nat} {A : AWk} (hw : WG X g w) (hu : WG X g u) (hd : w + 2 ≤ u ∨ u + 2 ≤ w) (hA : WkAt I J u A) (h : ∀ I' J', WkAt I' J' w A → FrO I I' J J' w (w + 2) → post (.inl none) g I' J') : ZV X E_X5_copyFrom 0 [some (.ref w), some (.ref u), none] [] b g I J post := by
  obtain ⟨k1, k2, k3⟩ := hw
  obtain ⟨l1, l2, l3⟩ := hu
  obtain ⟨a1, a2, a3, a4⟩ := hA
  refine ZV_iconst dX5_copyFrom_0 ?_
  refine ZV_istore2 dX5_copyFrom_1 rfl (by decide) ?_
  have key : ∀ i : Nat, i ≤ 4 → ∀ (j : Int) (J' : Mm), j = (i : Int) → (∀ a, a < i → J' (w + 1) a = A.1 a) → (∀ q, q ≠ w + 1 → J' q = J q) → ZV X E_X5_copyFrom 2 [some (.ref w), some (.ref u), some (vi j)] [] b g I J' post := by
    refine loop_up 4 ?_ ?_
    · intro j J' hj h1 h2
      refine ZV_iload_n dX5_copyFrom_2 rfl ?_
      refine ZV_iconst dX5_copyFrom_3 ?_
      refine ZV_icmp_ge (tgt := 25) dX5_copyFrom_4 (by decide) ⟨by omega, by omega⟩ ⟨by omega, by omega⟩ (fun h4 => ?_) (fun h4 => ?_)
      · refine ZV_aload_n dX5_copyFrom_25 rfl ?_
        refine ZV_aload_n dX5_copyFrom_26 rfl ?_
        refine ZV_getI fX5_copyFrom_15 dX5_copyFrom_27 (by assumption) rfl ?_
        refine ZV_putI fX5_copyFrom_15 dX5_copyFrom_30 (by assumption) rfl ?_
        refine ZV_aload_n dX5_copyFrom_33 rfl ?_
        refine ZV_aload_n dX5_copyFrom_34 rfl ?_
        refine ZV_getI fX5_copyFrom_19 dX5_copyFrom_35 (by assumption) rfl ?_
        refine ZV_putI fX5_copyFrom_19 dX5_copyFrom_38 (by assumption) rfl ?_
        refine ZV_aload_n dX5_copyFrom_41 rfl ?_
        refine ZV_aload_n dX5_copyFrom_42 rfl ?_
        refine ZV_getJ fX5_copyFrom_22 dX5_copyFrom_43 (by assumption) rfl ?_
        refine ZV_putJ fX5_copyFrom_22 dX5_copyFrom_46 (by assumption) rfl ?_
        refine ZV_vret dX5_copyFrom_49 rfl ?_
        refine h _ _ ⟨fun a ha => ?_, ?_, ?_, ?_⟩ (((((FrO.rf I J w (w + 2)).upI ?_ ?_).upI ?_ ?_).tr (fun q hq => ⟨rfl, h2 q (by omega)⟩)).upJ ?_ ?_)
        · rw [up2_a (by omega)]; exact h1 a ha
        · rw [up2_k (by decide), up2_same]; exact a2
        · rw [up2_same, up2_a (by omega)]; exact a3
        · rw [up2_same, h2 u (by omega)]; exact a4
        all_goals omega
      · omega
    · intro i hi ih j J' hj h1 h2
      refine ZV_iload_n dX5_copyFrom_2 rfl ?_
      refine ZV_iconst dX5_copyFrom_3 ?_
      refine ZV_icmp_ge (tgt := 25) dX5_copyFrom_4 (by decide) ⟨by omega, by omega⟩ ⟨by omega, by omega⟩ (fun h4 => ?_) (fun h4 => ?_)
      · omega
      · refine ZV_aload_n dX5_copyFrom_7 rfl ?_
        refine ZV_getR fX5_copyFrom_9 dX5_copyFrom_8 (by assumption) rfl (by assumption) ?_
        refine ZV_iload_n dX5_copyFrom_11 rfl ?_
        refine ZV_aload_n dX5_copyFrom_12 rfl ?_
        refine ZV_getR fX5_copyFrom_9 dX5_copyFrom_13 (by assumption) rfl (by assumption) ?_
        refine ZV_iload_n dX5_copyFrom_16 rfl ?_
        refine ZV_lald (i) dX5_copyFrom_17 (by assumption) (by first | rfl | omega) (by omega) (by omega) ?_
        refine ZV_last (i) dX5_copyFrom_18 (by assumption) (by first | rfl | omega) (by omega) (by omega) ?_
        refine ZV_jinc2 dX5_copyFrom_19 rfl (by decide) ?_
        refine ZV_goto (tgt := 2) dX5_copyFrom_22 (by decide) ?_
        refine ih _ _ (by omega) (fun a ha => ?_) (fun q hq => (up2_row _ _ hq).trans (h2 q hq))
        by_cases e : a = i
        · rw [e, up2_same, h2 (u + 1) (by omega)]; exact a1 i hi
        · rw [up2_k e]; exact h1 a (by omega)
  exact key 0 (by omega) _ _ rfl (fun a ha => by omega) (fun _ _ => rfl)
theorem sp_X5_nameAt {w : Nat} {a : Int} (hw : WG X g w) (ha : r32 a) (hn : r32 (I w 1)) (h : post (.inl (some (vl (if 0 ≤ a ∧ a < I w 1 ∧ a < 4 then J (w + 1) a.toNat else J w 3)))) g I J) : ZV X E_X5_nameAt 0 [some (.ref w), some (vi a)] [] b g I J post := by
  obtain ⟨k1, k2, k3⟩ := hw
  obtain ⟨ha1, ha2⟩ := ha
  obtain ⟨hn1, hn2⟩ := hn
  refine ZV_iload_n dX5_nameAt_0 rfl ?_
  refine ZV_if_lt (tgt := 26) dX5_nameAt_1 (by decide) ⟨by omega, by omega⟩ (fun h1 => ?_) (fun h1 => ?_)
  · refine ZV_aload_n dX5_nameAt_26 rfl ?_
    refine ZV_getJ fX5_nameAt_22 dX5_nameAt_27 (by assumption) rfl ?_
    refine ZV_lret dX5_nameAt_30 rfl ?_
    rw [if_neg (by omega)] at h
    exact h
  · refine ZV_iload_n dX5_nameAt_4 rfl ?_
    refine ZV_aload_n dX5_nameAt_5 rfl ?_
    refine ZV_getI fX5_nameAt_15 dX5_nameAt_6 (by assumption) rfl ?_
    refine ZV_icmp_ge (tgt := 26) dX5_nameAt_9 (by decide) ⟨by omega, by omega⟩ ⟨by omega, by omega⟩ (fun h9 => ?_) (fun h9 => ?_)
    · refine ZV_aload_n dX5_nameAt_26 rfl ?_
      refine ZV_getJ fX5_nameAt_22 dX5_nameAt_27 (by assumption) rfl ?_
      refine ZV_lret dX5_nameAt_30 rfl ?_
      rw [if_neg (by omega)] at h
      exact h
    · refine ZV_iload_n dX5_nameAt_12 rfl ?_
      refine ZV_iconst dX5_nameAt_13 ?_
      refine ZV_icmp_ge (tgt := 26) dX5_nameAt_14 (by decide) ⟨by omega, by omega⟩ ⟨by omega, by omega⟩ (fun h14 => ?_) (fun h14 => ?_)
      · refine ZV_aload_n dX5_nameAt_26 rfl ?_
        refine ZV_getJ fX5_nameAt_22 dX5_nameAt_27 (by assumption) rfl ?_
        refine ZV_lret dX5_nameAt_30 rfl ?_
        rw [if_neg (by omega)] at h
        exact h
      · refine ZV_aload_n dX5_nameAt_17 rfl ?_
        refine ZV_getR fX5_nameAt_9 dX5_nameAt_18 (by assumption) rfl (by assumption) ?_
        refine ZV_iload_n dX5_nameAt_21 rfl ?_
        refine ZV_lald (a.toNat) dX5_nameAt_22 (by assumption) (by first | rfl | omega) (by omega) (by omega) ?_
        refine ZV_goto (tgt := 30) dX5_nameAt_23 (by decide) ?_
        refine ZV_lret dX5_nameAt_30 rfl ?_
        rw [if_pos ⟨by omega, by omega, by omega⟩] at h
        exact h
theorem sp_X5_compareAuthors {w u : Nat} {A B : AWk} (hw : WG X g w) (hu : WG X g u) (hA : WkAt I J w A) (hB : WkAt I J u B) (hAo : WkOK A) (hBo : WkOK B) (h : post (.inl (some (vi (acmp A.1 B.1 4)))) g I J) : ZV X E_X5_compareAuthors 0 [some (.ref w), some (.ref u), none, none] [] b g I J post := by
  obtain ⟨k1, k2, k3⟩ := hw
  obtain ⟨l1, l2, l3⟩ := hu
  refine ZV_iconst dX5_compareAuthors_0 ?_
  refine ZV_istore2 dX5_compareAuthors_1 rfl (by decide) ?_
  have key : ∀ i : Nat, i ≤ 4 → ∀ (j : Int) (o : Option Value), j = (i : Int) → acmp A.1 B.1 i = 0 → ZV X E_X5_compareAuthors 2 [some (.ref w), some (.ref u), some (vi j), o] [] b g I J post := by
    refine loop_up 4 ?_ ?_
    · intro j o hj h1
      refine ZV_iload_n dX5_compareAuthors_2 rfl ?_
      refine ZV_iconst dX5_compareAuthors_3 ?_
      refine ZV_icmp_ge (tgt := 35) dX5_compareAuthors_4 (by decide) ⟨by omega, by omega⟩ ⟨by omega, by omega⟩ (fun h4 => ?_) (fun h4 => ?_)
      · refine ZV_iconst dX5_compareAuthors_35 ?_
        refine ZV_iret dX5_compareAuthors_36 rfl ?_
        rw [h1] at h
        exact h
      · omega
    · intro i hi ih j o hj h1
      refine ZV_iload_n dX5_compareAuthors_2 rfl ?_
      refine ZV_iconst dX5_compareAuthors_3 ?_
      refine ZV_icmp_ge (tgt := 35) dX5_compareAuthors_4 (by decide) ⟨by omega, by omega⟩ ⟨by omega, by omega⟩ (fun h4 => ?_) (fun h4 => ?_)
      · omega
      · refine ZV_aload_n dX5_compareAuthors_7 rfl ?_
        refine ZV_getR fX5_compareAuthors_9 dX5_compareAuthors_8 (by assumption) rfl (by assumption) ?_
        refine ZV_iload_n dX5_compareAuthors_11 rfl ?_
        refine ZV_lald (i) dX5_compareAuthors_12 (by assumption) (by first | rfl | omega) (by omega) (by omega) ?_
        refine ZV_aload_n dX5_compareAuthors_13 rfl ?_
        refine ZV_getR fX5_compareAuthors_9 dX5_compareAuthors_14 (by assumption) rfl (by assumption) ?_
        refine ZV_iload_n dX5_compareAuthors_17 rfl ?_
        refine ZV_lald (i) dX5_compareAuthors_18 (by assumption) (by first | rfl | omega) (by omega) (by omega) ?_
        refine cl_J13_compare_74951 kX5_compareAuthors_26 rfl dX5_compareAuthors_19 (Nat.le_of_ble_eq_true rfl) ?_
        rw [hA.1 i hi, hB.1 i hi]
        have hx := hAo.1 i hi
        have hy := hBo.1 i hi
        unfold nmOK at hx hy
        have hz := zcmp_r (A.1 i) (B.1 i)
        obtain ⟨hz1, hz2⟩ := hz
        refine sp_J13_compare ⟨by omega, by omega⟩ ⟨by omega, by omega⟩ ?_
        have e : acmp A.1 B.1 (i + 1) = zcmp (A.1 i) (B.1 i) := by simp only [acmp]; rw [if_pos h1]
        refine ZV_istore3 dX5_compareAuthors_22 rfl (by decide) ?_
        refine ZV_iload_n dX5_compareAuthors_23 rfl ?_
        refine ZV_if_eq (tgt := 29) dX5_compareAuthors_24 (by decide) ⟨by omega, by omega⟩ (fun h24 => ?_) (fun h24 => ?_)
        · refine ZV_jinc2 dX5_compareAuthors_29 rfl (by decide) ?_
          refine ZV_goto (tgt := 2) dX5_compareAuthors_32 (by decide) ?_
          exact ih _ _ (by omega) (by rw [e]; exact h24)
        · refine ZV_iload_n dX5_compareAuthors_27 rfl ?_
          refine ZV_iret dX5_compareAuthors_28 rfl ?_
          rw [acmp_stable (m := i + 1) (by rw [e]; exact h24) 4 (by omega), e] at h
          exact h
  exact key 0 (by omega) _ _ rfl rfl
end ZW

