/-! the reference: its cells; its small helpers -/
def ML (X : Xt) (g : Geo) (m : Nat) : Prop := ksh X g m = some (.inl 5) ∧ (g.2.1 m 1 = some (m + 1) ∧ g.2.1 m 5 = some (m + 2) ∧ g.2.1 m 6 = some (m + 3) ∧ g.2.1 m 7 = some (m + 4) ∧ g.2.1 m 8 = some (m + 5) ∧ g.2.1 m 10 = some (m + 6) ∧ g.2.1 m 11 = some (m + 7)) ∧ (g.2.1 m 12 = some (m + 8) ∧ g.2.1 m 13 = some (m + 9) ∧ g.2.1 m 14 = some (m + 10) ∧ g.2.1 m 15 = some (m + 11) ∧ g.2.1 m 16 = some (m + 12) ∧ g.2.1 m 17 = some (m + 13)) ∧ (ksh X g (m + 1) = some (.inr (0, 100)) ∧ ksh X g (m + 2) = some (.inr (0, 980)) ∧ ksh X g (m + 3) = some (.inr (0, 980)) ∧ ksh X g (m + 4) = some (.inr (0, 980)) ∧ ksh X g (m + 5) = some (.inr (0, 13720)) ∧ ksh X g (m + 6) = some (.inr (0, 1960)) ∧ ksh X g (m + 7) = some (.inr (3, 2))) ∧ (ksh X g (m + 8) = some (.inr (0, 224)) ∧ ksh X g (m + 9) = some (.inr (0, 16)) ∧ ksh X g (m + 10) = some (.inr (0, 16)) ∧ ksh X g (m + 11) = some (.inr (0, 16)) ∧ ksh X g (m + 12) = some (.inr (0, 224)) ∧ ksh X g (m + 13) = some (.inr (0, 14)))
/-- a text that lies in a row: its length ahead -/
def TxA (R : Nat → Int) (p : Nat) (n : Int) (f : Nat → Int) : Prop := R p = n ∧ ∀ k : Nat, (k : Int) < n → R (p + 1 + k) = f k
def NmA (R : Nat → Int) (p : Nat) (v : Int) : Prop := TxA R p (nlen v) (fun k => 96 + dg v k)
def KeA (R : Nat → Int) (p : Nat) (κ : Int) : Prop := TxA R p (klen κ) (fun k => kch κ k)
def WkA (R : Nat → Int) (p : Nat) (W : AWk) : Prop := (R p = W.2.2.1 ∧ R (p + 1) = W.2.1) ∧ (∀ a : Nat, (a : Int) < W.2.1 → NmA R (p + 2 + 9 * a) (W.1 a)) ∧ NmA R (p + 38) W.2.2.2
/-- a state that lies in a row -/
def MR (R : Nat → Int) (A : ASt) : Prop := (R 0 = (aN A : Int) ∧ R 1 = aS A ∧ R 2 = aO A ∧ R 3 = (aPn A : Int)) ∧ (∀ i, i < aN A → WkA R (4 + 47 * i) (aW A i)) ∧ ∀ p, p < aPn A → KeA R (756 + 14 * p) (aPk A p) ∧ R (756 + 14 * p + 13) = aPo A p
theorem TxA.congr {R R' : Nat → Int} {p : Nat} {n : Int} {f : Nat → Int} (h : TxA R p n f) (hr : ∀ q, p ≤ q → (q : Int) ≤ p + n → R' q = R q) (hn : 0 ≤ n) : TxA R' p n f := by
  refine ⟨?_, fun k hk => ?_⟩
  · rw [hr p (by omega) (by omega)]; exact h.1
  · rw [hr (p + 1 + k) (by omega) (by omega)]; exact h.2 k hk
theorem TxA.move {R R' : Nat → Int} {p p' : Nat} {n : Int} {f : Nat → Int} (h : TxA R p n f) (hr : ∀ k : Nat, (k : Int) ≤ n → R' (p' + k) = R (p + k)) (hn : 0 ≤ n) : TxA R' p' n f := by
  refine ⟨?_, fun k hk => ?_⟩
  · have := hr 0 (by omega)
    rw [Nat.add_zero, Nat.add_zero] at this
    rw [this]; exact h.1
  · have := hr (1 + k) (by omega)
    rw [show p' + 1 + k = p' + (1 + k) by omega, this, show p + (1 + k) = p + 1 + k by omega]
    exact h.2 k hk
theorem NmA.move {R R' : Nat → Int} {p p' : Nat} {v : Int} (h : NmA R p v) (hr : ∀ k : Nat, k ≤ 8 → R' (p' + k) = R (p + k)) : NmA R' p' v := by
  have := nlen_rng v
  exact TxA.move h (fun k hk => hr k (by omega)) (by omega)
theorem KeA.move {R R' : Nat → Int} {p p' : Nat} {κ : Int} (h : KeA R p κ) (hr : ∀ k : Nat, (k : Int) ≤ klen κ → R' (p' + k) = R (p + k)) : KeA R' p' κ := by
  have := klen_rng κ
  exact TxA.move h hr (by omega)
theorem WkA.move {R R' : Nat → Int} {p p' : Nat} {W : AWk} (h : WkA R p W) (hW : W.2.1 ≤ 4) (hr : ∀ k : Nat, k < 47 → R' (p' + k) = R (p + k)) : WkA R' p' W := by
  obtain ⟨⟨h1, h2⟩, h3, h4⟩ := h
  have h0 := hr 0 (by omega)
  rw [Nat.add_zero, Nat.add_zero] at h0
  refine ⟨⟨by rw [h0]; exact h1, by rw [hr 1 (by omega)]; exact h2⟩, fun a ha => ?_, ?_⟩
  · refine (h3 a ha).move fun k hk => ?_
    have := hr (2 + 9 * a + k) (by omega)
    rw [show p' + 2 + 9 * a + k = p' + (2 + 9 * a + k) by omega, this, show p + 2 + 9 * a + k = p + (2 + 9 * a + k) by omega]
  · refine h4.move fun k hk => ?_
    have := hr (38 + k) (by omega)
    rw [show p' + 38 + k = p' + (38 + k) by omega, this, show p + 38 + k = p + (38 + k) by omega]
theorem hlen {W : AWk} {s : Int} (hW : AWF W) (hs : 0 ≤ s ∧ s ≤ 3) : (hN W s : Int) + hS W s + hD s ≤ 11 := by
  have l0 := wfN_len (hW.2.1 0 (by have := hW.1; omega))
  have hn := hW.1
  have hc : s = 0 ∨ s = 1 ∨ s = 2 ∨ s = 3 := by omega
  rcases hc with rfl | rfl | rfl | rfl
  · have e : hN W 0 = min 3 (nlen (W.1 0)).toNat := rfl
    have e2 : hS W 0 = 0 := rfl
    have e3 : hD 0 = 2 := rfl
    omega
  · have e : hN W 1 = W.2.1.toNat := rfl
    have e2 : hS W 1 = 0 := rfl
    have e3 : hD 1 = 4 := rfl
    omega
  · have e : hN W 2 = (nlen (W.1 0)).toNat := rfl
    have e2 := hS_01 W 2
    have e3 : hD 2 = 2 := rfl
    omega
  · have e : hN W 3 = 2 := rfl
    have e2 : hS W 3 = 0 := rfl
    have e3 : hD 3 = 4 := rfl
    omega
theorem KWF.len {κ : Int} (h : KWF κ) : 3 ≤ klen κ ∧ klen κ ≤ 12 := by
  obtain ⟨W, s, l, hW, hs, hl, rfl⟩ := h
  have hy := hW.2.2.2.1
  obtain ⟨c1, -⟩ := stm_rd (l := l) hW hs (y := W.2.2.1) ⟨by omega, by omega⟩ ⟨by omega, by omega⟩
  have h1 := hlen hW hs
  have h2 := (hF_rng hW hs).1
  have h3 := hS_01 W s
  have h4 := hD_24 s
  rw [c1]
  split <;> omega
theorem MR.move {R R' : Nat → Int} {A : ASt} (h : MR R A) (hG : GoodSt A) (hr : ∀ k, k < 980 → R' k = R k) : MR R' A := by
  obtain ⟨⟨h1, h2, h3, h4⟩, h5, h6⟩ := h
  have hn := hG.1.1
  have hp := hG.1.2.1
  refine ⟨⟨by rw [hr 0 (by omega)]; exact h1, by rw [hr 1 (by omega)]; exact h2, by rw [hr 2 (by omega)]; exact h3, by rw [hr 3 (by omega)]; exact h4⟩, fun i hi => ?_, fun p hp => ⟨?_, ?_⟩⟩
  · exact (h5 i hi).move (hG.2.1 i hi).1.2 (fun k hk => hr _ (by omega))
  · have := (hG.2.2 p hp).1.len
    exact (h6 p hp).1.move fun k hk => hr _ (by omega)
  · rw [hr _ (by omega)]; exact (h6 p hp).2
section ZM
variable {X : Xt} {g : Geo} {I J : Mm} {b : Nat × Nat} {post : Out → Geo → Mm → Mm → Prop}
theorem sp_X7_cell {i w : Int} (h : post (.inl (some (vi (4 + 47 * i + w)))) g I J) : ZV X E_X7_cell 0 [some (vi i), some (vi w)] [] b g I J post := by
  refine ZV_iconst dX7_cell_0 ?_
  refine ZV_bipush dX7_cell_1 (by decide) ?_
  refine ZV_iload_n dX7_cell_3 rfl ?_
  refine ZV_imul dX7_cell_4 ?_
  refine ZV_iadd dX7_cell_5 ?_
  refine ZV_iload_n dX7_cell_6 rfl ?_
  refine ZV_iadd dX7_cell_7 ?_
  refine ZV_iret dX7_cell_8 rfl ?_
  exact h
theorem sp_X7_author {i a : Int} (h : post (.inl (some (vi (4 + 47 * i + (2 + 9 * a))))) g I J) : ZV X E_X7_author 0 [some (vi i), some (vi a)] [] b g I J post := by
  refine ZV_iload_n dX7_author_0 rfl ?_
  refine ZV_iconst dX7_author_1 ?_
  refine ZV_bipush dX7_author_2 (by decide) ?_
  refine ZV_iload_n dX7_author_4 rfl ?_
  refine ZV_imul dX7_author_5 ?_
  refine ZV_iadd dX7_author_6 ?_
  refine cl_X7_cell kX7_author_67 rfl dX7_author_7 (Nat.le_of_ble_eq_true rfl) ?_
  refine sp_X7_cell ?_
  refine ZV_iret dX7_author_10 rfl ?_
  exact h
theorem sp_X7_thrown {m : Nat} (hL : ML X g m) (h : post (.inl (some (vi (I m 0)))) g I J) : ZV X E_X7_thrown 0 [some (.ref m)] [] b g I J post := by
  have l0 := hL.1
  refine ZV_aload_n dX7_thrown_0 rfl ?_
  refine ZV_getI fX7_thrown_54 dX7_thrown_1 (by assumption) rfl ?_
  refine ZV_iret dX7_thrown_4 rfl ?_
  exact h
theorem sp_X7_refused {m : Nat} {w : Int} (hL : ML X g m) (hw : 0 ≤ w ∧ w ≤ 2) (h : post (.inl (some (vi (if 0 < w then 1 else 0)))) g (up2 I m 0 w) J) : ZV X E_X7_refused 0 [some (.ref m), some (vi w)] [] b g I J post := by
  have l0 := hL.1
  refine ZV_aload_n dX7_refused_0 rfl ?_
  refine ZV_iload_n dX7_refused_1 rfl ?_
  refine ZV_putI fX7_refused_54 dX7_refused_2 (by assumption) rfl ?_
  refine ZV_iload_n dX7_refused_5 rfl ?_
  refine ZV_if_le (tgt := 13) dX7_refused_6 (by decide) ⟨by omega, by omega⟩ (fun h6 => ?_) (fun h6 => ?_)
  · refine ZV_iconst dX7_refused_13 ?_
    rw [if_neg (by omega)] at h
    refine ZV_zret dX7_refused_14 rfl (by first | exact Or.inl rfl | exact Or.inr rfl | assumption | omega) ?_
    exact h
  · refine ZV_iconst dX7_refused_9 ?_
    refine ZV_goto (tgt := 14) dX7_refused_10 (by decide) ?_
    rw [if_pos (by omega)] at h
    refine ZV_zret dX7_refused_14 rfl (by first | exact Or.inl rfl | exact Or.inr rfl | assumption | omega) ?_
    exact h
theorem sp_X7_in {v x y : Int} (hv : r64 v) (hx : r64 x) (hy : r64 y) (h : post (.inl (some (vi (if x ≤ v ∧ v ≤ y then 1 else 0)))) g I J) : ZV X E_X7_in 0 [some (vl v), none, some (vl x), none, some (vl y), none] [] b g I J post := by
  obtain ⟨v1, v2⟩ := hv
  obtain ⟨x1, x2⟩ := hx
  obtain ⟨y1, y2⟩ := hy
  refine ZV_lload_n dX7_in_0 rfl ?_
  refine ZV_lload_n dX7_in_1 rfl ?_
  refine ZV_lif_lt (tgt := 17) dX7_in_2 dX7_in_3 (by decide) ⟨by omega, by omega⟩ ⟨by omega, by omega⟩ (fun h2 => ?_) (fun h2 => ?_)
  · refine ZV_iconst dX7_in_17 ?_
    refine ZV_zret dX7_in_18 rfl (by first | exact Or.inl rfl | exact Or.inr rfl | assumption | omega) ?_
    rw [if_neg (by omega)] at h
    exact h
  · refine ZV_lload_n dX7_in_6 rfl ?_
    refine ZV_lload dX7_in_7 rfl ?_
    refine ZV_lif_gt (tgt := 17) dX7_in_9 dX7_in_10 (by decide) ⟨by omega, by omega⟩ ⟨by omega, by omega⟩ (fun h9 => ?_) (fun h9 => ?_)
    · refine ZV_iconst dX7_in_17 ?_
      refine ZV_zret dX7_in_18 rfl (by first | exact Or.inl rfl | exact Or.inr rfl | assumption | omega) ?_
      rw [if_neg (by omega)] at h
      exact h
    · refine ZV_iconst dX7_in_13 ?_
      refine ZV_goto (tgt := 18) dX7_in_14 (by decide) ?_
      refine ZV_zret dX7_in_18 rfl (by first | exact Or.inl rfl | exact Or.inr rfl | assumption | omega) ?_
      rw [if_pos ⟨by omega, by omega⟩] at h
      exact h
theorem sp_X7_copy {f t x y n nf nt : Nat} (hf : ksh X g f = some (.inr (0, nf))) (ht : ksh X g t = some (.inr (0, nt))) (hx1 : x + n ≤ nf) (hx2 : y + n ≤ nt) (hx3 : nf < 20000) (hx4 : nt < 20000) (hd : f ≠ t ∨ y ≤ x) (h : ∀ I', (∀ q, q ≠ t → I' q = I q) → (∀ k, I' t k = if y ≤ k ∧ k < y + n then I f (x + (k - y)) else I t k) → post (.inl none) g I' J) : ZV X E_X7_copy 0 [some (.ref f), some (vi (x : Int)), some (.ref t), some (vi (y : Int)), some (vi (n : Int)), none] [] b g I J post := by
  refine ZV_iconst dX7_copy_0 ?_
  refine ZV_istore5 dX7_copy_1 rfl (by decide) ?_
  have key : ∀ q : Nat, q ≤ n → ∀ (z : Int) (I' : Mm), z = (q : Int) → (∀ a, a ≠ t → I' a = I a) → (∀ k, I' t k = if y ≤ k ∧ k < y + q then I f (x + (k - y)) else I t k) → ZV X E_X7_copy 3 [some (.ref f), some (vi (x : Int)), some (.ref t), some (vi (y : Int)), some (vi (n : Int)), some (vi z)] [] b g I' J post := by
    refine loop_up n ?_ ?_
    · intro z I' hz hI hk
      refine ZV_iload dX7_copy_3 rfl ?_
      refine ZV_iload dX7_copy_5 rfl ?_
      refine ZV_icmp_ge (tgt := 28) dX7_copy_7 (by decide) ⟨by omega, by omega⟩ ⟨by omega, by omega⟩ (fun h7 => ?_) (fun h7 => ?_)
      · refine ZV_vret dX7_copy_28 rfl ?_
        exact h I' hI hk
      · omega
    · intro q hq ih z I' hz hI hk
      have ev : I' f (x + q) = I f (x + q) := by
        by_cases e : f = t
        · have hyx : y ≤ x := by rcases hd with d | d; exact absurd e d; exact d
          rw [e, hk, if_neg (by omega)]
        · rw [hI f e]
      refine ZV_iload dX7_copy_3 rfl ?_
      refine ZV_iload dX7_copy_5 rfl ?_
      refine ZV_icmp_ge (tgt := 28) dX7_copy_7 (by decide) ⟨by omega, by omega⟩ ⟨by omega, by omega⟩ (fun h7 => ?_) (fun h7 => ?_)
      · omega
      · refine ZV_aload_n dX7_copy_10 rfl ?_
        refine ZV_iload_n dX7_copy_11 rfl ?_
        refine ZV_iload dX7_copy_12 rfl ?_
        refine ZV_iadd dX7_copy_14 ?_
        refine ZV_aload_n dX7_copy_15 rfl ?_
        refine ZV_iload_n dX7_copy_16 rfl ?_
        refine ZV_iload dX7_copy_17 rfl ?_
        refine ZV_iadd dX7_copy_19 ?_
        refine ZV_iald (x + q) dX7_copy_20 (by assumption) (by first | rfl | omega) (by omega) (by omega) ?_
        refine ZV_iast (y + q) dX7_copy_21 (by assumption) (by first | rfl | omega) (by omega) (by omega) ?_
        refine ZV_jinc5 dX7_copy_22 rfl (by decide) ?_
        refine ZV_goto (tgt := 3) dX7_copy_25 (by decide) ?_
        rw [ev]
        refine ih _ _ (by omega) (fun a ha => (up2_row _ _ ha).trans (hI a ha)) (fun k => ?_)
        by_cases e : k = y + q
        · rw [e, up2_same, if_pos ⟨by omega, by omega⟩, show y + q - y = q by omega]
        · rw [up2_k e, hk]
          by_cases e2 : y ≤ k ∧ k < y + q
          · rw [if_pos e2, if_pos ⟨e2.1, by omega⟩]
          · rw [if_neg e2, if_neg (by omega)]
  exact key 0 (by omega) _ _ rfl (fun _ _ => rfl) (fun k => by rw [if_neg (by omega)])
theorem sp_X7_clean {t : Nat} (ht : ksh X g t = some (.inr (0, 980))) (h : ∀ I', (∀ q, q ≠ t → I' q = I q) → (∀ k, k < 980 → I' t k = 0) → post (.inl none) g I' J) : ZV X E_X7_clean 0 [some (.ref t), none] [] b g I J post := by
  refine ZV_iconst dX7_clean_0 ?_
  refine ZV_istore1 dX7_clean_1 rfl (by decide) ?_
  have key : ∀ q : Nat, q ≤ 980 → ∀ (z : Int) (I' : Mm), z = (q : Int) → (∀ a, a ≠ t → I' a = I a) → (∀ k, k < q → I' t k = 0) → ZV X E_X7_clean 2 [some (.ref t), some (vi z)] [] b g I' J post := by
    refine loop_up 980 ?_ ?_
    · intro z I' hz hI hk
      refine ZV_iload_n dX7_clean_2 rfl ?_
      refine ZV_sipush dX7_clean_3 (by decide) ?_
      refine ZV_icmp_ge (tgt := 19) dX7_clean_6 (by decide) ⟨by omega, by omega⟩ ⟨by omega, by omega⟩ (fun h6 => ?_) (fun h6 => ?_)
      · refine ZV_vret dX7_clean_19 rfl ?_
        exact h I' hI hk
      · omega
    · intro q hq ih z I' hz hI hk
      refine ZV_iload_n dX7_clean_2 rfl ?_
      refine ZV_sipush dX7_clean_3 (by decide) ?_
      refine ZV_icmp_ge (tgt := 19) dX7_clean_6 (by decide) ⟨by omega, by omega⟩ ⟨by omega, by omega⟩ (fun h6 => ?_) (fun h6 => ?_)
      · omega
      · refine ZV_aload_n dX7_clean_9 rfl ?_
        refine ZV_iload_n dX7_clean_10 rfl ?_
        refine ZV_iconst dX7_clean_11 ?_
        refine ZV_iast (q) dX7_clean_12 (by assumption) (by first | rfl | omega) (by omega) (by omega) ?_
        refine ZV_jinc1 dX7_clean_13 rfl (by decide) ?_
        refine ZV_goto (tgt := 2) dX7_clean_16 (by decide) ?_
        refine ih _ _ (by omega) (fun a ha => (up2_row _ _ ha).trans (hI a ha)) (fun k hk2 => ?_)
        by_cases e : k = q
        · rw [e, up2_same]
        · rw [up2_k e]; exact hk k (by omega)
  exact key 0 (by omega) _ _ rfl (fun _ _ => rfl) (fun k hk => absurd hk (Nat.not_lt_zero k))
theorem sp_X7_tenTo {n : Nat} (hn : n ≤ 16) (h : post (.inl (some (vl ((10 : Int) ^ n)))) g I J) : ZV X E_X7_tenTo 0 [some (vi (n : Int)), none, none, none] [] b g I J post := by
  refine ZV_lconst (z := 1) dX7_tenTo_0 (by decide) ?_
  refine ZV_lstore1 dX7_tenTo_1 rfl (by decide) ?_
  refine ZV_iconst dX7_tenTo_2 ?_
  refine ZV_istore3 dX7_tenTo_3 rfl (by decide) ?_
  have key : ∀ q : Nat, q ≤ n → ∀ z v : Int, z = (q : Int) → v = (10 : Int) ^ q → ZV X E_X7_tenTo 4 [some (vi (n : Int)), some (vl v), none, some (vi z)] [] b g I J post := by
    refine loop_up n ?_ ?_
    · intro z v hz hv
      subst hv
      refine ZV_iload_n dX7_tenTo_4 rfl ?_
      refine ZV_iload_n dX7_tenTo_5 rfl ?_
      refine ZV_icmp_ge (tgt := 21) dX7_tenTo_6 (by decide) ⟨by omega, by omega⟩ ⟨by omega, by omega⟩ (fun h6 => ?_) (fun h6 => ?_)
      · refine ZV_lload_n dX7_tenTo_21 rfl ?_
        refine ZV_lret dX7_tenTo_22 rfl ?_
        exact h
      · omega
    · intro q hq ih z v hz hv
      subst hv
      refine ZV_iload_n dX7_tenTo_4 rfl ?_
      refine ZV_iload_n dX7_tenTo_5 rfl ?_
      refine ZV_icmp_ge (tgt := 21) dX7_tenTo_6 (by decide) ⟨by omega, by omega⟩ ⟨by omega, by omega⟩ (fun h6 => ?_) (fun h6 => ?_)
      · omega
      · refine ZV_lload_n dX7_tenTo_9 rfl ?_
        refine ZV_ldc2 (z := 10) dX7_tenTo_10 lX7_tenTo_58 ?_
        refine ZV_lmul dX7_tenTo_13 ?_
        refine ZV_lstore1 dX7_tenTo_14 rfl (by decide) ?_
        refine ZV_jinc3 dX7_tenTo_15 rfl (by decide) ?_
        refine ZV_goto (tgt := 4) dX7_tenTo_18 (by decide) ?_
        exact ih _ _ (by omega) (Int.pow_succ 10 q).symm
  exact key 0 (by omega) _ _ rfl rfl
end ZM

