/-! the reference: reading names and years -/
abbrev isLt (c : Int) : Prop := 97 ≤ c ∧ c ≤ 122
def nmV (ch : Nat → Int) (p : Nat) : Nat → Int
  | 0 => 0
  | k + 1 => nmV ch p k + (ch (p + k) - 96) * 2 ^ (5 * (7 - k))
theorem nmV_HD {ch : Nat → Int} {p : Nat} : ∀ k, k ≤ 8 → (∀ j, j < k → isLt (ch (p + j))) → HD (nmV ch p k) k (fun j => ch (p + j) - 96) := by
  intro k
  induction k with
  | zero => intro _ _; exact ⟨nmW_zero, fun j hj => absurd hj (Nat.not_lt_zero j)⟩
  | succ k ih =>
    intro hk h
    have hc := h k (by omega)
    exact HD_add (f := fun j => ch (p + j) - 96) (ih (by omega) (fun j hj => h j (by omega))) (by omega) ⟨by show 1 ≤ ch (p + k) - 96; omega, by show ch (p + k) - 96 ≤ 26; omega⟩
theorem nmA_of {R : Nat → Int} {pos p k : Nat} {ch : Nat → Int} (hk : k ≤ 8) (hl : ∀ j, j < k → isLt (ch (p + j))) (h0 : R pos = (k : Int)) (h1 : ∀ j, j < k → R (pos + 1 + j) = ch (p + j)) : NmA R pos (nmV ch p k) := by
  have hd := nmV_HD k hk hl
  have e := nmW_len hd.1
  refine ⟨by rw [e]; exact h0, fun j hj => ?_⟩
  rw [e] at hj
  have this : dg (nmV ch p k) j = ch (p + j) - 96 := hd.2 j (by omega)
  show R (pos + 1 + j) = 96 + dg (nmV ch p k) j
  rw [this, h1 j (by omega)]
  omega
def yrV (ch : Nat → Int) (p : Nat) : Nat → Int
  | 0 => 0
  | k + 1 => 10 * yrV ch p k + (ch (p + k) - 48)
/-- a digit that may stand at place k of a year -/
abbrev isDg (k : Nat) (c : Int) : Prop := (k = 0 ∧ 49 ≤ c ∧ c ≤ 50) ∨ (k ≠ 0 ∧ 48 ≤ c ∧ c ≤ 57)
theorem yrV_rng {ch : Nat → Int} {p : Nat} : ∀ k, k ≤ 4 → (∀ j, j < k → isDg j (ch (p + j))) → 0 ≤ yrV ch p k ∧ yrV ch p k ≤ 2999 := by
  intro k hk h
  have hc : k = 0 ∨ k = 1 ∨ k = 2 ∨ k = 3 ∨ k = 4 := by omega
  rcases hc with rfl | rfl | rfl | rfl | rfl
  · simp only [yrV]; omega
  · have h0 := h 0 (by decide)
    simp only [yrV]; omega
  · have h0 := h 0 (by decide)
    have h1 := h 1 (by decide)
    simp only [yrV]; omega
  · have h0 := h 0 (by decide)
    have h1 := h 1 (by decide)
    have h2 := h 2 (by decide)
    simp only [yrV]; omega
  · have h0 := h 0 (by decide)
    have h1 := h 1 (by decide)
    have h2 := h 2 (by decide)
    have h3 := h 3 (by decide)
    simp only [yrV]; omega
/-- what reading leaves as it is -/
def RFr (I I' : Mm) (m : Nat) : Prop := (∀ q, q ≠ m → q ≠ m + 2 → I' q = I q) ∧ ∀ k, k ≠ 3 → k ≠ 4 → I' m k = I m k
theorem RFr.rf (I : Mm) (m : Nat) : RFr I I m := ⟨fun _ _ _ => rfl, fun _ _ _ => rfl⟩
theorem RFr.tr {I I' I'' : Mm} {m : Nat} (h1 : RFr I I' m) (h2 : RFr I' I'' m) : RFr I I'' m := ⟨fun q a b => (h2.1 q a b).trans (h1.1 q a b), fun k a b => (h2.2 k a b).trans (h1.2 k a b)⟩
theorem RFr.u3 {I I' : Mm} {m : Nat} {v : Int} (h : RFr I I' m) : RFr I (up2 I' m 3 v) m := ⟨fun q a b => (up2_row _ _ a).trans (h.1 q a b), fun k a b => (up2_k a).trans (h.2 k a b)⟩
theorem RFr.u4 {I I' : Mm} {m : Nat} {v : Int} (h : RFr I I' m) : RFr I (up2 I' m 4 v) m := ⟨fun q a b => (up2_row _ _ a).trans (h.1 q a b), fun k a b => (up2_k b).trans (h.2 k a b)⟩
theorem RFr.ur {I I' : Mm} {m k : Nat} {v : Int} (h : RFr I I' m) : RFr I (up2 I' (m + 2) k v) m := ⟨fun q a b => (up2_row _ _ b).trans (h.1 q a b), fun k a b => (up2_a (by omega) _).trans (h.2 k a b)⟩
theorem RFr.tx {I I' : Mm} {m : Nat} {T : Nat × (Nat → Int)} (h : RFr I I' m) (hT : MTx I m T) : MTx I' m T := by
  obtain ⟨t1, t2, t3⟩ := hT
  refine ⟨by rw [h.2 2 (by decide) (by decide)]; exact t1, t2, fun p hp => ?_⟩
  rw [h.1 (m + 1) (by omega) (by omega)]
  exact t3 p hp
section ZM9
variable {X : Xt} {g : Geo} {I J : Mm} {b : Nat × Nat} {post : Out → Geo → Mm → Mm → Prop}
theorem sp_X7_isNext {m p : Nat} {c : Int} {T : Nat × (Nat → Int)} (hL : ML X g m) (hT : MTx I m T) (hs : I m 3 = (p : Int)) (hp : p ≤ T.1) (hc : r32 c) (h : post (.inl (some (vi (if p < T.1 ∧ T.2 p = c then 1 else 0)))) g I J) : ZV X E_X7_isNext 0 [some (.ref m), some (vi c)] [] b g I J post := by
  obtain ⟨l0, ⟨p1, p2, p3, p4, p5, p6, p7⟩, ⟨l1, l2, l3, l4, l5, l6⟩, ⟨j1, j2, j3, j4, j5, j6, j7⟩, ⟨k1, k2, k3, k4, k5, k6⟩⟩ := id hL
  obtain ⟨t1, t2, t3⟩ := hT
  obtain ⟨c1, c2⟩ := hc
  refine ZV_aload_n dX7_isNext_0 rfl ?_
  refine ZV_getI fX7_isNext_129 dX7_isNext_1 (by assumption) rfl ?_
  rw [hs]
  refine ZV_aload_n dX7_isNext_4 rfl ?_
  refine ZV_getI fX7_isNext_122 dX7_isNext_5 (by assumption) rfl ?_
  rw [t1]
  refine ZV_icmp_ge (tgt := 28) dX7_isNext_8 (by decide) ⟨by omega, by omega⟩ ⟨by omega, by omega⟩ (fun h8 => ?_) (fun h8 => ?_)
  · refine ZV_iconst dX7_isNext_28 ?_
    refine ZV_zret dX7_isNext_29 rfl (by first | exact Or.inl rfl | exact Or.inr rfl | assumption | omega) ?_
    rw [if_neg (by omega)] at h
    exact h
  · obtain ⟨b1, b2, b3⟩ := t3 p (by omega)
    refine ZV_aload_n dX7_isNext_11 rfl ?_
    refine ZV_getR fX7_isNext_7 dX7_isNext_12 (by assumption) rfl (by assumption) ?_
    refine ZV_aload_n dX7_isNext_15 rfl ?_
    refine ZV_getI fX7_isNext_129 dX7_isNext_16 (by assumption) rfl ?_
    rw [hs]
    refine ZV_iald (p) dX7_isNext_19 (by assumption) (by first | rfl | omega) (by omega) (by omega) ?_
    rw [b1]
    refine ZV_iload_n dX7_isNext_20 rfl ?_
    refine ZV_icmp_ne (tgt := 28) dX7_isNext_21 (by decide) ⟨by omega, by omega⟩ ⟨by omega, by omega⟩ (fun h21 => ?_) (fun h21 => ?_)
    · refine ZV_iconst dX7_isNext_28 ?_
      refine ZV_zret dX7_isNext_29 rfl (by first | exact Or.inl rfl | exact Or.inr rfl | assumption | omega) ?_
      rw [if_neg (by omega)] at h
      exact h
    · refine ZV_iconst dX7_isNext_24 ?_
      refine ZV_goto (tgt := 29) dX7_isNext_25 (by decide) ?_
      refine ZV_zret dX7_isNext_29 rfl (by first | exact Or.inl rfl | exact Or.inr rfl | assumption | omega) ?_
      rw [if_pos ⟨by omega, by omega⟩] at h
      exact h
theorem sp_X7_isLetter {m p : Nat} {T : Nat × (Nat → Int)} (hL : ML X g m) (hT : MTx I m T) (hs : I m 3 = (p : Int)) (hp : p ≤ T.1) (h : post (.inl (some (vi (if p < T.1 ∧ isLt (T.2 p) then 1 else 0)))) g I J) : ZV X E_X7_isLetter 0 [some (.ref m)] [] b g I J post := by
  obtain ⟨l0, ⟨p1, p2, p3, p4, p5, p6, p7⟩, ⟨l1, l2, l3, l4, l5, l6⟩, ⟨j1, j2, j3, j4, j5, j6, j7⟩, ⟨k1, k2, k3, k4, k5, k6⟩⟩ := id hL
  obtain ⟨t1, t2, t3⟩ := hT
  refine ZV_aload_n dX7_isLetter_0 rfl ?_
  refine ZV_getI fX7_isLetter_129 dX7_isLetter_1 (by assumption) rfl ?_
  rw [hs]
  refine ZV_aload_n dX7_isLetter_4 rfl ?_
  refine ZV_getI fX7_isLetter_122 dX7_isLetter_5 (by assumption) rfl ?_
  rw [t1]
  refine ZV_icmp_ge (tgt := 37) dX7_isLetter_8 (by decide) ⟨by omega, by omega⟩ ⟨by omega, by omega⟩ (fun h8 => ?_) (fun h8 => ?_)
  · refine ZV_iconst dX7_isLetter_37 ?_
    refine ZV_zret dX7_isLetter_38 rfl (by first | exact Or.inl rfl | exact Or.inr rfl | assumption | omega) ?_
    rw [if_neg (by omega)] at h
    exact h
  · obtain ⟨b1, b2, b3⟩ := t3 p (by omega)
    refine ZV_aload_n dX7_isLetter_11 rfl ?_
    refine ZV_getR fX7_isLetter_7 dX7_isLetter_12 (by assumption) rfl (by assumption) ?_
    refine ZV_aload_n dX7_isLetter_15 rfl ?_
    refine ZV_getI fX7_isLetter_129 dX7_isLetter_16 (by assumption) rfl ?_
    rw [hs]
    refine ZV_iald (p) dX7_isLetter_19 (by assumption) (by first | rfl | omega) (by omega) (by omega) ?_
    rw [b1]
    refine ZV_i2l dX7_isLetter_20 ⟨by omega, by omega⟩ ?_
    refine ZV_ldc2 (z := 97) dX7_isLetter_21 lX7_isLetter_132 ?_
    refine ZV_ldc2 (z := 122) dX7_isLetter_24 lX7_isLetter_134 ?_
    refine cl_X7_in kX7_isLetter_118 rfl dX7_isLetter_27 (Nat.le_of_ble_eq_true rfl) ?_
    refine sp_X7_in ⟨by omega, by omega⟩ ⟨by decide, by decide⟩ ⟨by decide, by decide⟩ ?_
    by_cases e : 97 ≤ T.2 p ∧ T.2 p ≤ 122
    · rw [if_pos e]
      rw [if_pos ⟨by omega, e⟩] at h
      refine ZV_if_eq (tgt := 37) dX7_isLetter_30 (by decide) ⟨by omega, by omega⟩ (fun h30 => ?_) (fun h30 => ?_)
      · omega
      · refine ZV_iconst dX7_isLetter_33 ?_
        refine ZV_goto (tgt := 38) dX7_isLetter_34 (by decide) ?_
        refine ZV_zret dX7_isLetter_38 rfl (by first | exact Or.inl rfl | exact Or.inr rfl | assumption | omega) ?_
        exact h
    · rw [if_neg e]
      rw [if_neg (fun q => e q.2)] at h
      refine ZV_if_eq (tgt := 37) dX7_isLetter_30 (by decide) ⟨by omega, by omega⟩ (fun h30 => ?_) (fun h30 => ?_)
      · refine ZV_iconst dX7_isLetter_37 ?_
        refine ZV_zret dX7_isLetter_38 rfl (by first | exact Or.inl rfl | exact Or.inr rfl | assumption | omega) ?_
        exact h
      · omega
theorem sp_X7_accept {m p : Nat} {gd z : Int} (hL : ML X g m) (hs : I m 3 = (p : Int)) (hp : p ≤ 200) (hg4 : I m 4 = gd) (hgd : gd = 0 ∨ gd = 1) (hz : z = 0 ∨ z = 1) (h1 : gd = 1 → z = 1 → post (.inl none) g (up2 (up2 I m 4 1) m 3 ((p : Int) + 1)) J) (h0 : ¬ (gd = 1 ∧ z = 1) → post (.inl none) g (up2 (up2 I m 4 0) m 3 (p : Int)) J) : ZV X E_X7_accept 0 [some (.ref m), some (vi z)] [] b g I J post := by
  have l0 := hL.1
  have m2 : ∀ (I' : Mm) (x : Int), x = I' m 4 → (x = 0 ∨ x = 1) → I' m 3 = (p : Int) → post (.inl none) g (up2 I' m 3 ((p : Int) + x)) J → ZV X E_X7_accept 20 [some (.ref m), some (vi z)] [] b g I' J post := by
    intro I' x hx hx2 hs' hp'
    refine ZV_aload_n dX7_accept_20 rfl ?_
    refine ZV_dup dX7_accept_21 rfl ?_
    refine ZV_getI fX7_accept_129 dX7_accept_22 (by assumption) rfl ?_
    rw [hs']
    refine ZV_aload_n dX7_accept_25 rfl ?_
    refine ZV_getZ fX7_accept_136 dX7_accept_26 (by assumption) rfl ?_
    rw [← hx]
    refine ZV_if_eq (tgt := 36) dX7_accept_29 (by decide) ⟨by omega, by omega⟩ (fun h29 => ?_) (fun h29 => ?_)
    · refine ZV_iconst dX7_accept_36 ?_
      rw [show x = 0 by omega] at hp'
      refine ZV_iadd dX7_accept_37 ?_
      refine ZV_putI fX7_accept_129 dX7_accept_38 (by assumption) rfl ?_
      refine ZV_vret dX7_accept_41 rfl ?_
      exact hp'
    · refine ZV_iconst dX7_accept_32 ?_
      refine ZV_goto (tgt := 37) dX7_accept_33 (by decide) ?_
      rw [show x = 1 by omega] at hp'
      refine ZV_iadd dX7_accept_37 ?_
      refine ZV_putI fX7_accept_129 dX7_accept_38 (by assumption) rfl ?_
      refine ZV_vret dX7_accept_41 rfl ?_
      exact hp'
  have no : ¬ (gd = 1 ∧ z = 1) → ZV X E_X7_accept 17 [some (.ref m), some (vi z)] [vi 0, .ref m] b g I J post := by
    intro e
    refine ZV_putZ fX7_accept_136 dX7_accept_17 (by assumption) rfl (by first | exact Or.inl rfl | exact Or.inr rfl | assumption | omega) ?_
    refine m2 _ 0 (up2_same _ _ _ _).symm (Or.inl rfl) (by rw [up2_k (by decide)]; exact hs) ?_
    rw [Int.add_zero]
    exact h0 e
  refine ZV_aload_n dX7_accept_0 rfl ?_
  refine ZV_aload_n dX7_accept_1 rfl ?_
  refine ZV_getZ fX7_accept_136 dX7_accept_2 (by assumption) rfl ?_
  rw [hg4]
  refine ZV_if_eq (tgt := 16) dX7_accept_5 (by decide) ⟨by omega, by omega⟩ (fun h5 => ?_) (fun h5 => ?_)
  · refine ZV_iconst dX7_accept_16 ?_
    exact no (by omega)
  · refine ZV_iload_n dX7_accept_8 rfl ?_
    refine ZV_if_eq (tgt := 16) dX7_accept_9 (by decide) ⟨by omega, by omega⟩ (fun h9 => ?_) (fun h9 => ?_)
    · refine ZV_iconst dX7_accept_16 ?_
      exact no (by omega)
    · refine ZV_iconst dX7_accept_12 ?_
      refine ZV_goto (tgt := 17) dX7_accept_13 (by decide) ?_
      refine ZV_putZ fX7_accept_136 dX7_accept_17 (by assumption) rfl (by first | exact Or.inl rfl | exact Or.inr rfl | assumption | omega) ?_
      exact m2 _ 1 (up2_same _ _ _ _).symm (Or.inr rfl) (by rw [up2_k (by decide)]; exact hs) (h1 (by omega) (by omega))
theorem sp_X7_readName {m p pos : Nat} {T : Nat × (Nat → Int)} (hL : ML X g m) (hT : MTx I m T) (hs : I m 3 = (p : Int)) (hg4 : I m 4 = 1) (hp : p ≤ T.1) (hpos : pos + 9 ≤ 980) (hB : ∀ I' (k : Nat), (1 ≤ k ∧ k ≤ 8) → (∀ j, j < k → isLt (T.2 (p + j))) → p + k ≤ T.1 → (k = 8 ∨ p + k = T.1 ∨ ¬ isLt (T.2 (p + k))) → I' m 3 = ((p + k : Nat) : Int) → I' m 4 = 1 → NmA (I' (m + 2)) pos (nmV T.2 p k) → (∀ q, q < pos ∨ pos + 9 ≤ q → I' (m + 2) q = I (m + 2) q) → RFr I I' m → post (.inl none) g I' J) (hA : ∀ I', ¬ (p < T.1 ∧ isLt (T.2 p)) → I' m 3 = (p : Int) → I' m 4 = 0 → (∀ q, q < pos ∨ pos + 9 ≤ q → I' (m + 2) q = I (m + 2) q) → RFr I I' m → post (.inl none) g I' J) : ZV X E_X7_readName 0 [some (.ref m), some (vi (pos : Int))] [] b g I J post := by
  obtain ⟨l0, ⟨p1, p2, p3, p4, p5, p6, p7⟩, ⟨l1, l2, l3, l4, l5, l6⟩, ⟨j1, j2, j3, j4, j5, j6, j7⟩, ⟨k1, k2, k3, k4, k5, k6⟩⟩ := id hL
  have t100 := hT.2.1
  refine ZV_aload_n dX7_readName_0 rfl ?_
  refine ZV_getR fX7_readName_13 dX7_readName_1 (by assumption) rfl (by assumption) ?_
  refine ZV_iload_n dX7_readName_4 rfl ?_
  refine ZV_iconst dX7_readName_5 ?_
  refine ZV_iast (pos) dX7_readName_6 (by assumption) (by first | rfl | omega) (by omega) (by omega) ?_
  refine ZV_aload_n dX7_readName_7 rfl ?_
  refine cl_X7_isLetter kX7_readName_140 rfl dX7_readName_8 (by assumption) (Nat.le_of_ble_eq_true rfl) ?_
  have hF0 : RFr I (up2 I (m + 2) pos 0) m := (RFr.rf I m).ur
  refine sp_X7_isLetter hL (hF0.tx hT) (by rw [up2_a (by omega)]; exact hs) hp ?_
  by_cases hf : p < T.1 ∧ isLt (T.2 p)
  · rw [if_pos hf]
    have key : ∀ k : Nat, k ≤ 8 → ∀ (I' : Mm), (∀ j, j < k → isLt (T.2 (p + j))) → p + k ≤ T.1 → I' m 3 = ((p + k : Nat) : Int) → I' m 4 = 1 → I' (m + 2) pos = (k : Int) → (∀ j, j < k → I' (m + 2) (pos + 1 + j) = T.2 (p + j)) → (∀ q, q < pos ∨ pos + 9 ≤ q → I' (m + 2) q = I (m + 2) q) → RFr I I' m → ZV X E_X7_readName 19 [some (.ref m), some (vi (pos : Int))] [] b g I' J post := by
      refine loop_up 8 ?_ ?_
      · intro I' hl hn h3 h4 hp0 hpj hfr hF
        refine ZV_aload_n dX7_readName_19 rfl ?_
        refine ZV_getZ fX7_readName_136 dX7_readName_20 (by assumption) rfl ?_
        rw [h4]
        refine ZV_if_eq (tgt := 89) dX7_readName_23 (by decide) ⟨by omega, by omega⟩ (fun h23 => ?_) (fun h23 => ?_)
        · omega
        · refine ZV_aload_n dX7_readName_26 rfl ?_
          refine ZV_getR fX7_readName_13 dX7_readName_27 (by assumption) rfl (by assumption) ?_
          refine ZV_iload_n dX7_readName_30 rfl ?_
          refine ZV_iald (pos) dX7_readName_31 (by assumption) (by first | rfl | omega) (by omega) (by omega) ?_
          rw [hp0]
          refine ZV_bipush dX7_readName_32 (by decide) ?_
          refine ZV_icmp_ge (tgt := 89) dX7_readName_34 (by decide) ⟨by omega, by omega⟩ ⟨by omega, by omega⟩ (fun h34 => ?_) (fun h34 => ?_)
          · refine ZV_vret dX7_readName_89 rfl ?_
            exact hB I' 8 ⟨by decide, by decide⟩ hl hn (Or.inl rfl) h3 h4 (nmA_of (by decide) hl hp0 hpj) hfr hF
          · omega
      · intro k hk ih I' hl hn h3 h4 hp0 hpj hfr hF
        refine ZV_aload_n dX7_readName_19 rfl ?_
        refine ZV_getZ fX7_readName_136 dX7_readName_20 (by assumption) rfl ?_
        rw [h4]
        refine ZV_if_eq (tgt := 89) dX7_readName_23 (by decide) ⟨by omega, by omega⟩ (fun h23 => ?_) (fun h23 => ?_)
        · omega
        · refine ZV_aload_n dX7_readName_26 rfl ?_
          refine ZV_getR fX7_readName_13 dX7_readName_27 (by assumption) rfl (by assumption) ?_
          refine ZV_iload_n dX7_readName_30 rfl ?_
          refine ZV_iald (pos) dX7_readName_31 (by assumption) (by first | rfl | omega) (by omega) (by omega) ?_
          rw [hp0]
          refine ZV_bipush dX7_readName_32 (by decide) ?_
          refine ZV_icmp_ge (tgt := 89) dX7_readName_34 (by decide) ⟨by omega, by omega⟩ ⟨by omega, by omega⟩ (fun h34 => ?_) (fun h34 => ?_)
          · omega
          · refine ZV_aload_n dX7_readName_37 rfl ?_
            refine cl_X7_isLetter kX7_readName_140 rfl dX7_readName_38 (by assumption) (Nat.le_of_ble_eq_true rfl) ?_
            refine sp_X7_isLetter hL (hF.tx hT) h3 hn ?_
            by_cases hc : p + k < T.1 ∧ isLt (T.2 (p + k))
            · rw [if_pos hc]
              have hch := (hF.tx hT).2.2 (p + k) hc.1
              refine ZV_if_eq (tgt := 89) dX7_readName_41 (by decide) ⟨by omega, by omega⟩ (fun h41 => ?_) (fun h41 => ?_)
              · omega
              · refine ZV_aload_n dX7_readName_44 rfl ?_
                refine ZV_getR fX7_readName_13 dX7_readName_45 (by assumption) rfl (by assumption) ?_
                refine ZV_iload_n dX7_readName_48 rfl ?_
                first | refine ZV_dup2 dX7_readName_49 rfl rfl ?_ | refine ZV_dup2l dX7_readName_49 rfl ?_
                refine ZV_iald (pos) dX7_readName_50 (by assumption) (by first | rfl | omega) (by omega) (by omega) ?_
                rw [hp0]
                refine ZV_iconst dX7_readName_51 ?_
                refine ZV_iadd dX7_readName_52 ?_
                refine ZV_iast (pos) dX7_readName_53 (by assumption) (by first | rfl | omega) (by omega) (by omega) ?_
                refine ZV_aload_n dX7_readName_54 rfl ?_
                refine ZV_getR fX7_readName_13 dX7_readName_55 (by assumption) rfl (by assumption) ?_
                refine ZV_iload_n dX7_readName_58 rfl ?_
                refine ZV_aload_n dX7_readName_59 rfl ?_
                refine ZV_getR fX7_readName_13 dX7_readName_60 (by assumption) rfl (by assumption) ?_
                refine ZV_iload_n dX7_readName_63 rfl ?_
                refine ZV_iald (pos) dX7_readName_64 (by assumption) (by first | rfl | omega) (by omega) (by omega) ?_
                rw [up2_same]
                refine ZV_iadd dX7_readName_65 ?_
                refine ZV_aload_n dX7_readName_66 rfl ?_
                refine ZV_getR fX7_readName_7 dX7_readName_67 (by assumption) rfl (by assumption) ?_
                refine ZV_aload_n dX7_readName_70 rfl ?_
                refine ZV_getI fX7_readName_129 dX7_readName_71 (by assumption) rfl ?_
                rw [up2_a (by omega), h3]
                refine ZV_iald (p + k) dX7_readName_74 (by assumption) (by first | rfl | omega) (by omega) (by omega) ?_
                rw [up2_a (by omega), hch.1]
                refine ZV_iast (pos + 1 + k) dX7_readName_75 (by assumption) (by first | rfl | omega) (by omega) (by omega) ?_
                refine ZV_aload_n dX7_readName_76 rfl ?_
                refine ZV_dup dX7_readName_77 rfl ?_
                refine ZV_getI fX7_readName_129 dX7_readName_78 (by assumption) rfl ?_
                rw [up2_a (by omega), up2_a (by omega), h3]
                refine ZV_iconst dX7_readName_81 ?_
                refine ZV_iadd dX7_readName_82 ?_
                refine ZV_putI fX7_readName_129 dX7_readName_83 (by assumption) rfl ?_
                refine ZV_goto (tgt := 19) dX7_readName_86 (by decide) ?_
                refine ih _ (fun j hj => ?_) (by omega) (by rw [up2_same]; omega) (by rw [up2_k (by decide), up2_a (by omega), up2_a (by omega)]; exact h4) ?_ (fun j hj => ?_) (fun q hq => ?_) ((hF.ur.ur).u3)
                · by_cases e : j = k
                  · rw [e]; exact hc.2
                  · exact hl j (by omega)
                · rw [up2_a (by omega), up2_k (by omega), up2_same]; rfl
                · rw [up2_a (by omega)]
                  by_cases e : j = k
                  · rw [e, up2_same]
                  · rw [up2_k (by omega), up2_k (by omega)]; exact hpj j (by omega)
                · rw [up2_a (by omega), up2_k (by omega), up2_k (by omega)]; exact hfr q hq
            · rw [if_neg hc]
              have hk1 : 1 ≤ k := by
                by_cases e : k = 0
                · rw [e] at hc
                  exact absurd hf hc
                · omega
              refine ZV_if_eq (tgt := 89) dX7_readName_41 (by decide) ⟨by omega, by omega⟩ (fun h41 => ?_) (fun h41 => ?_)
              · refine ZV_vret dX7_readName_89 rfl ?_
                refine hB I' k ⟨hk1, by omega⟩ hl hn (Or.inr ?_) h3 h4 (nmA_of (by omega) hl hp0 hpj) hfr hF
                by_cases e : p + k = T.1
                · exact Or.inl e
                · exact Or.inr (fun q => hc ⟨by omega, q⟩)
              · omega
    refine ZV_if_ne (tgt := 19) dX7_readName_11 (by decide) ⟨by omega, by omega⟩ (fun h11 => ?_) (fun h11 => ?_)
    · exact key 0 (by omega) _ (fun j hj => absurd hj (Nat.not_lt_zero j)) hp (by rw [up2_a (by omega)]; exact hs) (by rw [up2_a (by omega)]; exact hg4) (up2_same _ _ _ _) (fun j hj => absurd hj (Nat.not_lt_zero j)) (fun q hq => up2_k (by omega)) hF0
    · omega
  · rw [if_neg hf]
    refine ZV_if_ne (tgt := 19) dX7_readName_11 (by decide) ⟨by omega, by omega⟩ (fun h11 => ?_) (fun h11 => ?_)
    · omega
    · refine ZV_aload_n dX7_readName_14 rfl ?_
      refine ZV_iconst dX7_readName_15 ?_
      refine cl_X7_accept kX7_readName_144 rfl dX7_readName_16 (by assumption) (Nat.le_of_ble_eq_true rfl) ?_
      refine sp_X7_accept (p := p) (gd := 1) hL (by rw [up2_a (by omega)]; exact hs) (by omega) (by rw [up2_a (by omega)]; exact hg4) (Or.inr rfl) (Or.inl rfl) (fun _ e => absurd e (by decide)) (fun _ => ?_)
      refine ZV_aload_n dX7_readName_19 rfl ?_
      refine ZV_getZ fX7_readName_136 dX7_readName_20 (by assumption) rfl ?_
      rw [up2_k (by decide), up2_same]
      refine ZV_if_eq (tgt := 89) dX7_readName_23 (by decide) ⟨by omega, by omega⟩ (fun h23 => ?_) (fun h23 => ?_)
      · refine ZV_vret dX7_readName_89 rfl ?_
        exact hA _ hf (up2_same _ _ _ _) (by rw [up2_k (by decide), up2_same]) (fun q hq => by rw [up2_a (by omega), up2_a (by omega), up2_k (by omega)]) ((hF0.u4).u3)
      · omega
theorem sp_X7_readYear {m p pos : Nat} {gd : Int} {T : Nat × (Nat → Int)} (hL : ML X g m) (hT : MTx I m T) (hs : I m 3 = (p : Int)) (hg4 : I m 4 = gd) (hgd : gd = 0 ∨ gd = 1) (hp : p ≤ T.1) (hpos : pos < 980) (hB : gd = 1 → ∀ I', (∀ j, j < 4 → isDg j (T.2 (p + j))) → p + 4 ≤ T.1 → I' m 3 = ((p + 4 : Nat) : Int) → I' m 4 = 1 → I' (m + 2) pos = yrV T.2 p 4 → (∀ q, q ≠ pos → I' (m + 2) q = I (m + 2) q) → RFr I I' m → post (.inl none) g I' J) (hA : gd = 1 → ∀ I' (k : Nat), k < 4 → (∀ j, j < k → isDg j (T.2 (p + j))) → p + k ≤ T.1 → ¬ (p + k < T.1 ∧ isDg k (T.2 (p + k))) → I' m 3 = ((p + k : Nat) : Int) → I' m 4 = 0 → (∀ q, q ≠ pos → I' (m + 2) q = I (m + 2) q) → RFr I I' m → post (.inl none) g I' J) (h0 : gd = 0 → ∀ I', I' m 3 = (p : Int) → I' m 4 = 0 → (∀ q, q ≠ pos → I' (m + 2) q = I (m + 2) q) → RFr I I' m → post (.inl none) g I' J) : ZV X E_X7_readYear 0 [some (.ref m), some (vi (pos : Int)), none, none] [] b g I J post := by
  obtain ⟨l0, ⟨p1, p2, p3, p4, p5, p6, p7⟩, ⟨l1, l2, l3, l4, l5, l6⟩, ⟨j1, j2, j3, j4, j5, j6, j7⟩, ⟨k1, k2, k3, k4, k5, k6⟩⟩ := id hL
  have t100 := hT.2.1
  have hF0 : RFr I (up2 I (m + 2) pos 0) m := (RFr.rf I m).ur
  rcases hgd with hgd | hgd
  · subst hgd
    refine ZV_aload_n dX7_readYear_0 rfl ?_
    refine ZV_getR fX7_readYear_13 dX7_readYear_1 (by assumption) rfl (by assumption) ?_
    refine ZV_iload_n dX7_readYear_4 rfl ?_
    refine ZV_iconst dX7_readYear_5 ?_
    refine ZV_iast (pos) dX7_readYear_6 (by assumption) (by first | rfl | omega) (by omega) (by omega) ?_
    refine ZV_iconst dX7_readYear_7 ?_
    refine ZV_istore2 dX7_readYear_8 rfl (by decide) ?_
    refine ZV_iload_n dX7_readYear_9 rfl ?_
    refine ZV_iconst dX7_readYear_10 ?_
    refine ZV_icmp_ge (tgt := 115) dX7_readYear_11 (by decide) ⟨by omega, by omega⟩ ⟨by omega, by omega⟩ (fun h11 => ?_) (fun h11 => ?_)
    · omega
    · refine ZV_aload_n dX7_readYear_14 rfl ?_
      refine ZV_getZ fX7_readYear_136 dX7_readYear_15 (by assumption) rfl ?_
      rw [up2_a (by omega), hg4]
      refine ZV_if_eq (tgt := 115) dX7_readYear_18 (by decide) ⟨by omega, by omega⟩ (fun h18 => ?_) (fun h18 => ?_)
      · refine ZV_vret dX7_readYear_115 rfl ?_
        exact h0 rfl _ (by rw [up2_a (by omega)]; exact hs) (by rw [up2_a (by omega)]; exact hg4) (fun q hq => up2_k hq) hF0
      · omega
  · subst hgd
    have hB := hB rfl
    have hA := hA rfl
    have key : ∀ k : Nat, k ≤ 4 → ∀ (z : Int) (o : Option Value) (I' : Mm), z = (k : Int) → (∀ j, j < k → isDg j (T.2 (p + j))) → p + k ≤ T.1 → I' m 3 = ((p + k : Nat) : Int) → I' m 4 = 1 → I' (m + 2) pos = yrV T.2 p k → (∀ q, q ≠ pos → I' (m + 2) q = I (m + 2) q) → RFr I I' m → ZV X E_X7_readYear 9 [some (.ref m), some (vi (pos : Int)), some (vi z), o] [] b g I' J post := by
      refine loop_up 4 ?_ ?_
      · intro z o I' hz hd hn h3 h4 hv hfr hF
        refine ZV_iload_n dX7_readYear_9 rfl ?_
        refine ZV_iconst dX7_readYear_10 ?_
        refine ZV_icmp_ge (tgt := 115) dX7_readYear_11 (by decide) ⟨by omega, by omega⟩ ⟨by omega, by omega⟩ (fun h11 => ?_) (fun h11 => ?_)
        · refine ZV_vret dX7_readYear_115 rfl ?_
          exact hB I' hd hn h3 h4 hv hfr hF
        · omega
      · intro k hk ih z o I' hz hd hn h3 h4 hv hfr hF
        subst hz
        have yr := yrV_rng k (by omega) hd
        have tx := hF.tx hT
        -- behind the reading of a character
        have mid : ∀ v : Int, (-48 ≤ v ∧ v ≤ 300) → (p + k < T.1 ∧ v = T.2 (p + k) - 48 ∨ p + k = T.1 ∧ v = -9) → ZV X E_X7_readYear 49 [some (.ref m), some (vi (pos : Int)), some (vi (k : Int)), o] [vi v] b g I' J post := by
          intro v hv2 hv3
          have acc : ∀ lo hi : Int, (k = 0 → lo = 1 ∧ hi = 2) → (k ≠ 0 → lo = 0 ∧ hi = 9) → ZV X E_X7_readYear 75 [some (.ref m), some (vi (pos : Int)), some (vi (k : Int)), some (vi v)] [vl hi, vl lo, vl v, .ref m] b g I' J post := by
            intro lo hi e0 e1
            have er : r64 lo ∧ r64 hi := by
              by_cases e : k = 0
              · obtain ⟨rfl, rfl⟩ := e0 e; exact ⟨⟨by decide, by decide⟩, ⟨by decide, by decide⟩⟩
              · obtain ⟨rfl, rfl⟩ := e1 e; exact ⟨⟨by decide, by decide⟩, ⟨by decide, by decide⟩⟩
            refine cl_X7_in kX7_readYear_118 rfl dX7_readYear_75 (Nat.le_of_ble_eq_true rfl) ?_
            refine sp_X7_in ⟨by omega, by omega⟩ er.1 er.2 ?_
            by_cases c : lo ≤ v ∧ v ≤ hi
            · rw [if_pos c]
              have hdg : p + k < T.1 ∧ isDg k (T.2 (p + k)) := by
                by_cases e : k = 0
                · obtain ⟨rfl, rfl⟩ := e0 e
                  refine ⟨by omega, Or.inl ⟨e, by omega, by omega⟩⟩
                · obtain ⟨rfl, rfl⟩ := e1 e
                  refine ⟨by omega, Or.inr ⟨e, by omega, by omega⟩⟩
              refine cl_X7_accept kX7_readYear_144 rfl dX7_readYear_78 (by assumption) (Nat.le_of_ble_eq_true rfl) ?_
              refine sp_X7_accept (p := p + k) (gd := 1) hL h3 (by omega) h4 (Or.inr rfl) (Or.inr rfl) (fun _ _ => ?_) (fun e => absurd ⟨rfl, rfl⟩ e)
              refine ZV_aload_n dX7_readYear_81 rfl ?_
              refine ZV_getR fX7_readYear_13 dX7_readYear_82 (by assumption) rfl (by assumption) ?_
              refine ZV_iload_n dX7_readYear_85 rfl ?_
              refine ZV_aload_n dX7_readYear_86 rfl ?_
              refine ZV_getZ fX7_readYear_136 dX7_readYear_87 (by assumption) rfl ?_
              rw [up2_k (by decide), up2_same]
              refine ZV_if_eq (tgt := 107) dX7_readYear_90 (by decide) ⟨by omega, by omega⟩ (fun h90 => ?_) (fun h90 => ?_)
              · omega
              · refine ZV_bipush dX7_readYear_93 (by decide) ?_
                refine ZV_aload_n dX7_readYear_95 rfl ?_
                refine ZV_getR fX7_readYear_13 dX7_readYear_96 (by assumption) rfl (by assumption) ?_
                refine ZV_iload_n dX7_readYear_99 rfl ?_
                refine ZV_iald (pos) dX7_readYear_100 (by assumption) (by first | rfl | omega) (by omega) (by omega) ?_
                rw [up2_a (by omega), up2_a (by omega), hv]
                refine ZV_imul dX7_readYear_101 ?_
                refine ZV_iload_n dX7_readYear_102 rfl ?_
                refine ZV_iadd dX7_readYear_103 ?_
                refine ZV_goto (tgt := 108) dX7_readYear_104 (by decide) ?_
                refine ZV_iast (pos) dX7_readYear_108 (by assumption) (by first | rfl | omega) (by omega) (by omega) ?_
                refine ZV_jinc2 dX7_readYear_109 rfl (by decide) ?_
                refine ZV_goto (tgt := 9) dX7_readYear_112 (by decide) ?_
                refine ih _ _ _ (by omega) (fun j hj => ?_) (by omega) (by rw [up2_a (by omega), up2_same]; omega) (by rw [up2_a (by omega), up2_k (by decide), up2_same]) ?_ (fun q hq => by rw [up2_k hq, up2_a (by omega), up2_a (by omega)]; exact hfr q hq) (((hF.u4).u3).ur)
                · by_cases e : j = k
                  · rw [e]; exact hdg.2
                  · exact hd j (by omega)
                · rw [up2_same]
                  simp only [yrV]
                  omega
            · rw [if_neg c]
              refine cl_X7_accept kX7_readYear_144 rfl dX7_readYear_78 (by assumption) (Nat.le_of_ble_eq_true rfl) ?_
              refine sp_X7_accept (p := p + k) (gd := 1) hL h3 (by omega) h4 (Or.inr rfl) (Or.inl rfl) (fun _ e => absurd e (by decide)) (fun _ => ?_)
              refine ZV_aload_n dX7_readYear_81 rfl ?_
              refine ZV_getR fX7_readYear_13 dX7_readYear_82 (by assumption) rfl (by assumption) ?_
              refine ZV_iload_n dX7_readYear_85 rfl ?_
              refine ZV_aload_n dX7_readYear_86 rfl ?_
              refine ZV_getZ fX7_readYear_136 dX7_readYear_87 (by assumption) rfl ?_
              rw [up2_k (by decide), up2_same]
              refine ZV_if_eq (tgt := 107) dX7_readYear_90 (by decide) ⟨by omega, by omega⟩ (fun h90 => ?_) (fun h90 => ?_)
              · refine ZV_iconst dX7_readYear_107 ?_
                refine ZV_iast (pos) dX7_readYear_108 (by assumption) (by first | rfl | omega) (by omega) (by omega) ?_
                refine ZV_jinc2 dX7_readYear_109 rfl (by decide) ?_
                refine ZV_goto (tgt := 9) dX7_readYear_112 (by decide) ?_
                have out : ∀ I2 : Mm, I2 m 4 = 0 → (post (.inl none) g I2 J) → ∀ z : Int, (0 ≤ z ∧ z ≤ 5) → ZV X E_X7_readYear 9 [some (.ref m), some (vi (pos : Int)), some (vi z), some (vi v)] [] b g I2 J post := by
                  intro I2 e4 hp2 z hz
                  refine ZV_iload_n dX7_readYear_9 rfl ?_
                  refine ZV_iconst dX7_readYear_10 ?_
                  refine ZV_icmp_ge (tgt := 115) dX7_readYear_11 (by decide) ⟨by omega, by omega⟩ ⟨by omega, by omega⟩ (fun h11 => ?_) (fun h11 => ?_)
                  · refine ZV_vret dX7_readYear_115 rfl ?_
                    exact hp2
                  · refine ZV_aload_n dX7_readYear_14 rfl ?_
                    refine ZV_getZ fX7_readYear_136 dX7_readYear_15 (by assumption) rfl ?_
                    rw [e4]
                    refine ZV_if_eq (tgt := 115) dX7_readYear_18 (by decide) ⟨by omega, by omega⟩ (fun h18 => ?_) (fun h18 => ?_)
                    · refine ZV_vret dX7_readYear_115 rfl ?_
                      exact hp2
                    · omega
                refine out _ (by rw [up2_a (by omega), up2_k (by decide), up2_same]) ?_ _ ⟨by omega, by omega⟩
                refine hA _ k hk hd hn (fun q => ?_) (by rw [up2_a (by omega), up2_same]) (by rw [up2_a (by omega), up2_k (by decide), up2_same]) (fun q hq => by rw [up2_k hq, up2_a (by omega), up2_a (by omega)]; exact hfr q hq) (((hF.u4).u3).ur)
                by_cases e : k = 0
                · obtain ⟨rfl, rfl⟩ := e0 e
                  omega
                · obtain ⟨rfl, rfl⟩ := e1 e
                  omega
              · omega
          refine ZV_istore3 dX7_readYear_49 rfl (by decide) ?_
          refine ZV_aload_n dX7_readYear_50 rfl ?_
          refine ZV_iload_n dX7_readYear_51 rfl ?_
          refine ZV_i2l dX7_readYear_52 ⟨by omega, by omega⟩ ?_
          refine ZV_iload_n dX7_readYear_53 rfl ?_
          refine ZV_if_ne (tgt := 61) dX7_readYear_54 (by decide) ⟨by omega, by omega⟩ (fun h54 => ?_) (fun h54 => ?_)
          · refine ZV_lconst (z := 0) dX7_readYear_61 (by decide) ?_
            refine ZV_iload_n dX7_readYear_62 rfl ?_
            refine ZV_if_ne (tgt := 72) dX7_readYear_63 (by decide) ⟨by omega, by omega⟩ (fun h63 => ?_) (fun h63 => ?_)
            · refine ZV_ldc2 (z := 9) dX7_readYear_72 lX7_readYear_150 ?_
              exact acc 0 9 (fun e => by omega) (fun _ => ⟨rfl, rfl⟩)
            · omega
          · refine ZV_lconst (z := 1) dX7_readYear_57 (by decide) ?_
            refine ZV_goto (tgt := 62) dX7_readYear_58 (by decide) ?_
            refine ZV_iload_n dX7_readYear_62 rfl ?_
            refine ZV_if_ne (tgt := 72) dX7_readYear_63 (by decide) ⟨by omega, by omega⟩ (fun h63 => ?_) (fun h63 => ?_)
            · omega
            · refine ZV_ldc2 (z := 2) dX7_readYear_66 lX7_readYear_148 ?_
              refine ZV_goto (tgt := 75) dX7_readYear_69 (by decide) ?_
              exact acc 1 2 (fun _ => ⟨rfl, rfl⟩) (fun e => by omega)
        refine ZV_iload_n dX7_readYear_9 rfl ?_
        refine ZV_iconst dX7_readYear_10 ?_
        refine ZV_icmp_ge (tgt := 115) dX7_readYear_11 (by decide) ⟨by omega, by omega⟩ ⟨by omega, by omega⟩ (fun h11 => ?_) (fun h11 => ?_)
        · omega
        · refine ZV_aload_n dX7_readYear_14 rfl ?_
          refine ZV_getZ fX7_readYear_136 dX7_readYear_15 (by assumption) rfl ?_
          rw [h4]
          refine ZV_if_eq (tgt := 115) dX7_readYear_18 (by decide) ⟨by omega, by omega⟩ (fun h18 => ?_) (fun h18 => ?_)
          · omega
          · refine ZV_aload_n dX7_readYear_21 rfl ?_
            refine ZV_getI fX7_readYear_129 dX7_readYear_22 (by assumption) rfl ?_
            rw [h3]
            refine ZV_aload_n dX7_readYear_25 rfl ?_
            refine ZV_getI fX7_readYear_122 dX7_readYear_26 (by assumption) rfl ?_
            rw [tx.1]
            refine ZV_icmp_ge (tgt := 47) dX7_readYear_29 (by decide) ⟨by omega, by omega⟩ ⟨by omega, by omega⟩ (fun h29 => ?_) (fun h29 => ?_)
            · refine ZV_bipush dX7_readYear_47 (by decide) ?_
              exact mid (-9) ⟨by decide, by decide⟩ (Or.inr ⟨by omega, rfl⟩)
            · obtain ⟨b1, b2, b3⟩ := tx.2.2 (p + k) (by omega)
              refine ZV_aload_n dX7_readYear_32 rfl ?_
              refine ZV_getR fX7_readYear_7 dX7_readYear_33 (by assumption) rfl (by assumption) ?_
              refine ZV_aload_n dX7_readYear_36 rfl ?_
              refine ZV_getI fX7_readYear_129 dX7_readYear_37 (by assumption) rfl ?_
              rw [h3]
              refine ZV_iald (p + k) dX7_readYear_40 (by assumption) (by first | rfl | omega) (by omega) (by omega) ?_
              rw [b1]
              refine ZV_bipush dX7_readYear_41 (by decide) ?_
              refine ZV_isub dX7_readYear_43 ?_
              refine ZV_goto (tgt := 49) dX7_readYear_44 (by decide) ?_
              exact mid _ ⟨by omega, by omega⟩ (Or.inl ⟨by omega, rfl⟩)
    refine ZV_aload_n dX7_readYear_0 rfl ?_
    refine ZV_getR fX7_readYear_13 dX7_readYear_1 (by assumption) rfl (by assumption) ?_
    refine ZV_iload_n dX7_readYear_4 rfl ?_
    refine ZV_iconst dX7_readYear_5 ?_
    refine ZV_iast (pos) dX7_readYear_6 (by assumption) (by first | rfl | omega) (by omega) (by omega) ?_
    refine ZV_iconst dX7_readYear_7 ?_
    refine ZV_istore2 dX7_readYear_8 rfl (by decide) ?_
    exact key 0 (by omega) _ _ _ rfl (fun j hj => absurd hj (Nat.not_lt_zero j)) hp (by rw [up2_a (by omega)]; exact hs) (by rw [up2_a (by omega)]; exact hg4) (up2_same _ _ _ _) (fun q hq => up2_k hq) hF0
end ZM9

