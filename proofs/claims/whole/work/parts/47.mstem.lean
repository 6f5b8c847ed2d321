/-! the reference: the stem of a work -/
def SP (I : Mm) (m : Nat) (κ : Int) (n : Nat) : Prop := I (m + 13) 0 = (n : Int) ∧ ∀ k : Nat, k < n → I (m + 13) (1 + k) = kch κ k
section ZM3
variable {X : Xt} {g : Geo} {I J : Mm} {b : Nat × Nat} {post : Out → Geo → Mm → Mm → Prop}
theorem sp_X7_put {m n : Nat} {κ z : Int} (hL : ML X g m) (hS : SP I m κ n) (hn : n < 13) (hz : z = kch κ n) (h : ∀ I', (∀ q, q ≠ m + 13 → I' q = I q) → SP I' m κ (n + 1) → post (.inl none) g I' J) : ZV X E_X7_put 0 [some (.ref m), some (vi z)] [] b g I J post := by
  obtain ⟨l0, -, ⟨l1, l2, l3, l4, l5, l6⟩, -, ⟨k1, k2, k3, k4, k5, k6⟩⟩ := hL
  obtain ⟨s1, s2⟩ := hS
  refine ZV_aload_n dX7_put_0 rfl ?_
  refine ZV_getR fX7_put_47 dX7_put_1 (by assumption) rfl (by assumption) ?_
  refine ZV_iconst dX7_put_4 ?_
  first | refine ZV_dup2 dX7_put_5 rfl rfl ?_ | refine ZV_dup2l dX7_put_5 rfl ?_
  refine ZV_iald (0) dX7_put_6 (by assumption) (by first | rfl | omega) (by omega) (by omega) ?_
  rw [s1]
  refine ZV_iconst dX7_put_7 ?_
  refine ZV_iadd dX7_put_8 ?_
  refine ZV_iast (0) dX7_put_9 (by assumption) (by first | rfl | omega) (by omega) (by omega) ?_
  refine ZV_aload_n dX7_put_10 rfl ?_
  refine ZV_getR fX7_put_47 dX7_put_11 (by assumption) rfl (by assumption) ?_
  refine ZV_aload_n dX7_put_14 rfl ?_
  refine ZV_getR fX7_put_47 dX7_put_15 (by assumption) rfl (by assumption) ?_
  refine ZV_iconst dX7_put_18 ?_
  refine ZV_iald (0) dX7_put_19 (by assumption) (by first | rfl | omega) (by omega) (by omega) ?_
  rw [up2_same]
  refine ZV_iload_n dX7_put_20 rfl ?_
  refine ZV_iast (n + 1) dX7_put_21 (by assumption) (by first | rfl | omega) (by omega) (by omega) ?_
  refine ZV_vret dX7_put_22 rfl ?_
  refine h _ (fun q hq => by rw [up2_row _ _ hq, up2_row _ _ hq]) ⟨?_, fun k hk => ?_⟩
  · rw [up2_k (by omega), up2_same]; rfl
  · by_cases e : k = n
    · rw [e, show 1 + n = n + 1 by omega, up2_same]; exact hz
    · rw [up2_k (by omega), up2_k (by omega)]; exact s2 k (by omega)
theorem sp_X7_putYear {m N d : Nat} {κ y : Int} (hL : ML X g m) (hS : SP I m κ N) (hd : d = 2 ∨ d = 4) (hN : N + d ≤ 13) (hy : 1000 ≤ y ∧ y ≤ 2999) (hk : ∀ j : Nat, j < d → kch κ ((N + j : Nat) : Int) = 48 + dfe (if d = 2 then y % 100 else y) (d - 1 - j) % 10) (h : ∀ I', (∀ q, q ≠ m + 13 → I' q = I q) → SP I' m κ (N + d) → post (.inl none) g I' J) : ZV X E_X7_putYear 0 [some (.ref m), some (vi y), some (vi (d : Int)), none, none] [] b g I J post := by
  have l0 := hL.1
  have fin : ∀ (e : Nat) (I' : Mm), e = N + d → (∀ q, q ≠ m + 13 → I' q = I q) → SP I' m κ e → ZV X E_X7_putYear 7 [some (.ref m), some (vi y), some (vi (d : Int)), some (vl 0), none] [] b g I' J post := by
    intro e I' he hI hSP
    subst he
    refine ZV_lload_n dX7_putYear_7 rfl ?_
    refine ZV_lconst (z := 0) dX7_putYear_8 (by decide) ?_
    refine ZV_lif_le (tgt := 38) dX7_putYear_9 dX7_putYear_10 (by decide) ⟨by omega, by omega⟩ ⟨by omega, by omega⟩ (fun h9 => ?_) (fun h9 => ?_)
    · refine ZV_vret dX7_putYear_38 rfl ?_
      exact h I' hI hSP
    · omega
  have step : ∀ (v v' : Int) (n : Nat) (I' : Mm), (v = 1000 ∨ v = 100 ∨ v = 10 ∨ v = 1) → v / 10 = v' → n < 13 → 48 + y / v % 10 = kch κ n → (∀ q, q ≠ m + 13 → I' q = I q) → SP I' m κ n → (∀ I'', (∀ q, q ≠ m + 13 → I'' q = I q) → SP I'' m κ (n + 1) → ZV X E_X7_putYear 7 [some (.ref m), some (vi y), some (vi (d : Int)), some (vl v'), none] [] b g I'' J post) → ZV X E_X7_putYear 7 [some (.ref m), some (vi y), some (vi (d : Int)), some (vl v), none] [] b g I' J post := by
    intro v v' n I' hv hv' hn hc hI hSP next
    have hq : 0 ≤ y / v ∧ y / v ≤ 3000 := by rcases hv with rfl | rfl | rfl | rfl <;> omega
    have hv1 : 1 ≤ v ∧ v ≤ 1000 := by rcases hv with rfl | rfl | rfl | rfl <;> omega
    refine ZV_lload_n dX7_putYear_7 rfl ?_
    refine ZV_lconst (z := 0) dX7_putYear_8 (by decide) ?_
    refine ZV_lif_le (tgt := 38) dX7_putYear_9 dX7_putYear_10 (by decide) ⟨by omega, by omega⟩ ⟨by omega, by omega⟩ (fun h9 => ?_) (fun h9 => ?_)
    · omega
    · refine ZV_aload_n dX7_putYear_13 rfl ?_
      refine ZV_bipush dX7_putYear_14 (by decide) ?_
      refine ZV_iload_n dX7_putYear_16 rfl ?_
      refine ZV_i2l dX7_putYear_17 ⟨by omega, by omega⟩ ?_
      refine ZV_lload_n dX7_putYear_18 rfl ?_
      refine ZV_ldiv dX7_putYear_19 ⟨by omega, by omega⟩ ⟨by omega, by omega⟩ (by omega) ?_
      rw [Int.tdiv_eq_ediv_of_nonneg (by omega)]
      refine ZV_ldc2 (z := 10) dX7_putYear_20 lX7_putYear_58 ?_
      refine ZV_lrem dX7_putYear_23 ⟨by omega, by omega⟩ ⟨by omega, by omega⟩ (by omega) ?_
      rw [Int.tmod_eq_emod_of_nonneg hq.1]
      refine ZV_l2i dX7_putYear_24 ?_
      refine ZV_iadd dX7_putYear_25 ?_
      refine cl_X7_put kX7_putYear_85 rfl dX7_putYear_26 (by assumption) (Nat.le_of_ble_eq_true rfl) ?_
      refine sp_X7_put hL hSP hn hc ?_
      intro I2 hI2 hS2
      refine ZV_lload_n dX7_putYear_29 rfl ?_
      refine ZV_ldc2 (z := 10) dX7_putYear_30 lX7_putYear_58 ?_
      refine ZV_ldiv dX7_putYear_33 ⟨by omega, by omega⟩ ⟨by omega, by omega⟩ (by omega) ?_
      rw [Int.tdiv_eq_ediv_of_nonneg (by omega), hv']
      refine ZV_lstore3 dX7_putYear_34 rfl (by decide) ?_
      refine ZV_goto (tgt := 7) dX7_putYear_35 (by decide) ?_
      exact next I2 (fun q hq => (hI2 q hq).trans (hI q hq)) hS2
  refine ZV_iload_n dX7_putYear_0 rfl ?_
  refine ZV_iconst dX7_putYear_1 ?_
  refine ZV_isub dX7_putYear_2 ?_
  rw [show (d : Int) - 1 = ((d - 1 : Nat) : Int) by omega]
  refine cl_X7_tenTo kX7_putYear_81 rfl dX7_putYear_3 (Nat.le_of_ble_eq_true rfl) ?_
  refine sp_X7_tenTo (by omega) ?_
  refine ZV_lstore3 dX7_putYear_6 rfl (by decide) ?_
  rcases hd with rfl | rfl
  · have k0 := hk 0 (by decide)
    have k1 := hk 1 (by decide)
    rw [if_pos rfl] at k0 k1
    simp only [dfe, Nat.reduceSub] at k0 k1
    refine step 10 1 N I (Or.inr (Or.inr (Or.inl rfl))) rfl (by omega) (by rw [show (N : Int) = ((N + 0 : Nat) : Int) by omega, k0]; omega) (fun _ _ => rfl) hS ?_
    intro I1 hI1 hS1
    refine step 1 0 (N + 1) I1 (Or.inr (Or.inr (Or.inr rfl))) rfl (by omega) (by rw [k1]; omega) hI1 hS1 ?_
    intro I2 hI2 hS2
    exact fin _ I2 rfl hI2 hS2
  · have k0 := hk 0 (by decide)
    have k1 := hk 1 (by decide)
    have k2 := hk 2 (by decide)
    have k3 := hk 3 (by decide)
    rw [if_neg (by decide)] at k0 k1 k2 k3
    simp only [dfe, Nat.reduceSub] at k0 k1 k2 k3
    refine step 1000 100 N I (Or.inl rfl) rfl (by omega) (by rw [show (N : Int) = ((N + 0 : Nat) : Int) by omega, k0]; omega) (fun _ _ => rfl) hS ?_
    intro I1 hI1 hS1
    refine step 100 10 (N + 1) I1 (Or.inr (Or.inl rfl)) rfl (by omega) (by rw [k1]; omega) hI1 hS1 ?_
    intro I2 hI2 hS2
    refine step 10 1 (N + 2) I2 (Or.inr (Or.inr (Or.inl rfl))) rfl (by omega) (by rw [k2]) hI2 hS2 ?_
    intro I3 hI3 hS3
    refine step 1 0 (N + 3) I3 (Or.inr (Or.inr (Or.inr rfl))) rfl (by omega) (by rw [k3]; omega) hI3 hS3 ?_
    intro I4 hI4 hS4
    exact fin _ I4 rfl hI4 hS4
theorem sp_X7_layStem {m r i : Nat} {W : AWk} {s : Int} (hL : ML X g m) (hr : r = m + 3 ∨ r = m + 4) (hi : i < 16) (hW : WkA (I r) (4 + 47 * i) W) (wW : AWF W) (hs : 0 ≤ s ∧ s ≤ 3) (h : ∀ I', (∀ q, q ≠ m + 13 → I' q = I q) → KeA (I' (m + 13)) 0 (stm W s W.2.2.1) → post (.inl none) g I' J) : ZV X E_X7_layStem 0 [some (.ref m), some (.ref r), some (vi (i : Int)), some (vi s), none, none, none, none] [] b g I J post := by
  obtain ⟨l0, -, ⟨l1, l2, l3, l4, l5, l6⟩, ⟨j1, j2, j3, j4, j5, j6, j7⟩, ⟨k1, k2, k3, k4, k5, k6⟩⟩ := id hL
  have hrk : ksh X g r = some (.inr (0, 980)) := by rcases hr with e | e <;> rw [e] <;> assumption
  have hrn : r ≠ m + 13 := by omega
  have hy := wW.2.2.2.1
  obtain ⟨⟨n1, n2⟩, wA⟩ := id wW
  have w0 := wA.1 0 (by omega)
  obtain ⟨u1, u2, u3⟩ := wfN_len w0
  have rd := stm_rd (l := 0) wW hs (y := W.2.2.1) ⟨by omega, by omega⟩ ⟨by omega, by omega⟩
  rw [Int.add_zero] at rd
  have hfr := hF_rng wW hs
  have hl11 := hlen wW hs
  have hs01 := hS_01 W s
  have hd24 := hD_24 s
  obtain ⟨κ, hκ⟩ : ∃ κ, κ = stm W s W.2.2.1 := ⟨_, rfl⟩
  rw [← hκ] at rd h
  obtain ⟨c1, c2, c3, c4, -⟩ := rd
  rw [if_neg (by omega)] at c1
  have r1 : I r (4 + 47 * i + 1) = W.2.1 := hW.1.2
  have r0 : I r (4 + 47 * i + 0) = W.2.2.1 := hW.1.1
  have rf0 : I r (4 + 47 * i + 2) = nlen (W.1 0) := (hW.2.1 0 (by omega)).1
  have rfk : ∀ q : Nat, (q : Int) < nlen (W.1 0) → I r (4 + 47 * i + 2 + 1 + q) = 96 + dg (W.1 0) q := fun q hq => (hW.2.1 0 (by omega)).2 q hq
  have fin : ∀ (I' : Mm) (o4 o5 o6 o7 : Option Value), (∀ q, q ≠ m + 13 → I' q = I q) → SP I' m κ (hN W s + (hS W s).toNat) → ZV X E_X7_layStem 151 [some (.ref m), some (.ref r), some (vi (i : Int)), some (vi s), o4, o5, o6, o7] [] b g I' J post := by
    intro I' o4 o5 o6 o7 hI hSP
    have rr : I' r = I r := hI r hrn
    have done : ∀ d : Nat, d = hD s → ZV X E_X7_layStem 170 [some (.ref m), some (.ref r), some (vi (i : Int)), some (vi s), o4, o5, o6, o7] [vi (d : Int), vi W.2.2.1, .ref m] b g I' J post := by
      intro d hd
      refine cl_X7_putYear kX7_layStem_89 rfl dX7_layStem_170 (by assumption) (Nat.le_of_ble_eq_true rfl) ?_
      refine sp_X7_putYear hL hSP (by omega) (by omega) hy (fun j hj => ?_) ?_
      · have := c4 j (by omega)
        rw [show ((hN W s + (hS W s).toNat + j : Nat) : Int) = (hN W s : Int) + hS W s + (j : Int) by omega, this, ← hd]
        unfold hY
        by_cases e : s = 0 ∨ s = 2
        · have : hD s = 2 := if_pos e
          rw [if_pos e, if_pos (by omega)]
        · have : hD s = 4 := if_neg e
          rw [if_neg e, if_neg (by omega)]
      · intro I2 hI2 hS2
        refine ZV_vret dX7_layStem_173 rfl ?_
        refine h I2 (fun q hq => (hI2 q hq).trans (hI q hq)) ⟨?_, fun k hk => ?_⟩
        · rw [hS2.1, c1]; omega
        · rw [show 0 + 1 + k = 1 + k by omega]
          exact hS2.2 k (by omega)
    refine ZV_aload_n dX7_layStem_151 rfl ?_
    refine ZV_aload_n dX7_layStem_152 rfl ?_
    refine ZV_iload_n dX7_layStem_153 rfl ?_
    refine ZV_iconst dX7_layStem_154 ?_
    refine cl_X7_cell kX7_layStem_67 rfl dX7_layStem_155 (Nat.le_of_ble_eq_true rfl) ?_
    refine sp_X7_cell ?_
    refine ZV_iald (4 + 47 * i + 0) dX7_layStem_158 (by assumption) (by first | rfl | omega) (by omega) (by omega) ?_
    rw [rr, r0]
    refine ZV_iload_n dX7_layStem_159 rfl ?_
    refine ZV_iconst dX7_layStem_160 ?_
    refine ZV_irem dX7_layStem_161 ⟨by omega, by omega⟩ ⟨by omega, by omega⟩ (by omega) ?_
    rw [Int.tmod_eq_emod_of_nonneg hs.1]
    refine ZV_if_ne (tgt := 169) dX7_layStem_162 (by decide) ⟨by omega, by omega⟩ (fun h162 => ?_) (fun h162 => ?_)
    · refine ZV_iconst dX7_layStem_169 ?_
      exact done 4 (by unfold hD; rw [if_neg (by omega)])
    · refine ZV_iconst dX7_layStem_165 ?_
      refine ZV_goto (tgt := 170) dX7_layStem_166 (by decide) ?_
      exact done 2 (by unfold hD; rw [if_pos (by omega)])
  have loopA : ∀ (L : Nat) (lt : Int) (o4 : Option Value), (L : Int) ≤ nlen (W.1 0) → (L : Int) ≤ lt → ((L : Int) = nlen (W.1 0) ∨ (L : Int) = lt) → lt ≤ 8 → (∀ k : Nat, k < L → kch κ k = 96 + dg (W.1 0) k) → (∀ (I' : Mm) (z : Int), (∀ q, q ≠ m + 13 → I' q = I q) → SP I' m κ L → ZV X E_X7_layStem 80 [some (.ref m), some (.ref r), some (vi (i : Int)), some (vi s), o4, some (vi ((4 + 47 * i + 2 : Nat) : Int)), some (vi lt), some (vi z)] [] b g I' J post) → ∀ q : Nat, q ≤ L → ∀ (z : Int) (I' : Mm), z = (q : Int) + 1 → (∀ a, a ≠ m + 13 → I' a = I a) → SP I' m κ q → ZV X E_X7_layStem 47 [some (.ref m), some (.ref r), some (vi (i : Int)), some (vi s), o4, some (vi ((4 + 47 * i + 2 : Nat) : Int)), some (vi lt), some (vi z)] [] b g I' J post := by
    intro L lt o4 b1 b2 b3 b4 hch next
    refine loop_up L ?_ ?_
    · intro z I' hz hI hSP
      have rr : I' r = I r := hI r hrn
      refine ZV_iload dX7_layStem_47 rfl ?_
      refine ZV_aload_n dX7_layStem_49 rfl ?_
      refine ZV_iload dX7_layStem_50 rfl ?_
      refine ZV_iald (4 + 47 * i + 2) dX7_layStem_52 (by assumption) (by first | rfl | omega) (by omega) (by omega) ?_
      rw [rr, rf0]
      refine ZV_icmp_gt (tgt := 80) dX7_layStem_53 (by decide) ⟨by omega, by omega⟩ ⟨by omega, by omega⟩ (fun h53 => ?_) (fun h53 => ?_)
      · exact next I' z hI hSP
      · refine ZV_iload dX7_layStem_56 rfl ?_
        refine ZV_iload dX7_layStem_58 rfl ?_
        refine ZV_icmp_gt (tgt := 80) dX7_layStem_60 (by decide) ⟨by omega, by omega⟩ ⟨by omega, by omega⟩ (fun h60 => ?_) (fun h60 => ?_)
        · exact next I' z hI hSP
        · omega
    · intro q hq ih z I' hz hI hSP
      have rr : I' r = I r := hI r hrn
      refine ZV_iload dX7_layStem_47 rfl ?_
      refine ZV_aload_n dX7_layStem_49 rfl ?_
      refine ZV_iload dX7_layStem_50 rfl ?_
      refine ZV_iald (4 + 47 * i + 2) dX7_layStem_52 (by assumption) (by first | rfl | omega) (by omega) (by omega) ?_
      rw [rr, rf0]
      refine ZV_icmp_gt (tgt := 80) dX7_layStem_53 (by decide) ⟨by omega, by omega⟩ ⟨by omega, by omega⟩ (fun h53 => ?_) (fun h53 => ?_)
      · omega
      · refine ZV_iload dX7_layStem_56 rfl ?_
        refine ZV_iload dX7_layStem_58 rfl ?_
        refine ZV_icmp_gt (tgt := 80) dX7_layStem_60 (by decide) ⟨by omega, by omega⟩ ⟨by omega, by omega⟩ (fun h60 => ?_) (fun h60 => ?_)
        · omega
        · refine ZV_aload_n dX7_layStem_63 rfl ?_
          refine ZV_aload_n dX7_layStem_64 rfl ?_
          refine ZV_iload dX7_layStem_65 rfl ?_
          refine ZV_iload dX7_layStem_67 rfl ?_
          refine ZV_iadd dX7_layStem_69 ?_
          refine ZV_iald (4 + 47 * i + 2 + 1 + q) dX7_layStem_70 (by assumption) (by first | rfl | omega) (by omega) (by omega) ?_
          rw [rr, rfk q (by omega)]
          refine cl_X7_put kX7_layStem_85 rfl dX7_layStem_71 (by assumption) (Nat.le_of_ble_eq_true rfl) ?_
          refine sp_X7_put hL hSP (by omega) (hch q hq).symm ?_
          intro I2 hI2 hS2
          refine ZV_jinc7 dX7_layStem_74 rfl (by decide) ?_
          refine ZV_goto (tgt := 47) dX7_layStem_77 (by decide) ?_
          exact ih _ _ (by omega) (fun a ha => (hI2 a ha).trans (hI a ha)) hS2
  have hI0 : ∀ q, q ≠ m + 13 → up2 I (m + 13) 0 0 q = I q := fun q hq => up2_row _ _ hq
  have hSP0 : SP (up2 I (m + 13) 0 0) m κ 0 := ⟨up2_same _ _ _ _, fun k hk => absurd hk (Nat.not_lt_zero k)⟩
  have hc : s = 0 ∨ s = 1 ∨ s = 2 ∨ s = 3 := by omega
  refine ZV_aload_n dX7_layStem_0 rfl ?_
  refine ZV_iload_n dX7_layStem_1 rfl ?_
  refine ZV_iconst dX7_layStem_2 ?_
  refine cl_X7_cell kX7_layStem_67 rfl dX7_layStem_3 (Nat.le_of_ble_eq_true rfl) ?_
  refine sp_X7_cell ?_
  refine ZV_iald (4 + 47 * i + 1) dX7_layStem_6 (by assumption) (by first | rfl | omega) (by omega) (by omega) ?_
  rw [r1]
  refine ZV_istore4 dX7_layStem_7 rfl (by decide) ?_
  refine ZV_iload_n dX7_layStem_9 rfl ?_
  refine ZV_iconst dX7_layStem_10 ?_
  refine cl_X7_author kX7_layStem_71 rfl dX7_layStem_11 (Nat.le_of_ble_eq_true rfl) ?_
  refine sp_X7_author ?_
  rw [show 4 + 47 * (i : Int) + (2 + 9 * 0) = ((4 + 47 * i + 2 : Nat) : Int) by omega]
  rcases hc with rfl | rfl | rfl | rfl
  · have e1 : hN W 0 = min 3 (nlen (W.1 0)).toNat := rfl
    have e2 : ∀ k, hF W 0 k = dg (W.1 0) k := fun k => rfl
    have e3 : (hS W 0).toNat = 0 := rfl
    refine ZV_istore5 dX7_layStem_14 rfl (by decide) ?_
    refine ZV_aload_n dX7_layStem_16 rfl ?_
    refine ZV_getR fX7_layStem_47 dX7_layStem_17 (by assumption) rfl (by assumption) ?_
    refine ZV_iconst dX7_layStem_20 ?_
    refine ZV_iconst dX7_layStem_21 ?_
    refine ZV_iast (0) dX7_layStem_22 (by assumption) (by first | rfl | omega) (by omega) (by omega) ?_
    refine ZV_iload_n dX7_layStem_23 rfl ?_
    refine ZV_if_ne (tgt := 31) dX7_layStem_24 (by decide) ⟨by omega, by omega⟩ (fun h24 => ?_) (fun h24 => ?_)
    · exact absurd rfl h24
    · refine ZV_iconst dX7_layStem_27 ?_
      refine ZV_goto (tgt := 42) dX7_layStem_28 (by decide) ?_
      refine ZV_istore6 dX7_layStem_42 rfl (by decide) ?_
      refine ZV_iconst dX7_layStem_44 ?_
      refine ZV_istore7 dX7_layStem_45 rfl (by decide) ?_
      refine loopA (hN W 0) 3 _ (by omega) (by omega) (by omega) (by omega) (fun k hk => by rw [c2 k hk, e2]) ?_ 0 (by omega) _ _ rfl hI0 hSP0
      intro I' z hI hSP
      refine ZV_iload_n dX7_layStem_80 rfl ?_
      refine ZV_iconst dX7_layStem_81 ?_
      refine ZV_icmp_ne (tgt := 115) dX7_layStem_82 (by decide) ⟨by omega, by omega⟩ ⟨by omega, by omega⟩ (fun h82 => ?_) (fun h82 => ?_)
      · refine ZV_iload_n dX7_layStem_115 rfl ?_
        refine ZV_iconst dX7_layStem_116 ?_
        refine ZV_icmp_ne (tgt := 132) dX7_layStem_117 (by decide) ⟨by omega, by omega⟩ ⟨by omega, by omega⟩ (fun h117 => ?_) (fun h117 => ?_)
        · refine ZV_iload_n dX7_layStem_132 rfl ?_
          refine ZV_iconst dX7_layStem_133 ?_
          refine ZV_icmp_ne (tgt := 151) dX7_layStem_134 (by decide) ⟨by omega, by omega⟩ ⟨by omega, by omega⟩ (fun h134 => ?_) (fun h134 => ?_)
          · exact fin I' _ _ _ _ hI (by rw [e3]; exact hSP)
          · omega
        · omega
      · omega
  · have e1 : hN W 1 = W.2.1.toNat := rfl
    have e2 : ∀ k, hF W 1 k = dg (W.1 k) 0 := fun k => rfl
    have e3 : (hS W 1).toNat = 0 := rfl
    have loopB : ∀ q : Nat, q ≤ hN W 1 → 1 ≤ q → ∀ (z : Int) (I' : Mm) (o5 : Option Value) (s6 : Int), z = (q : Int) → (∀ a, a ≠ m + 13 → I' a = I a) → SP I' m κ q → ZV X E_X7_layStem 88 [some (.ref m), some (.ref r), some (vi (i : Int)), some (vi 1), some (vi W.2.1), o5, some (vi s6), some (vi z)] [] b g I' J post := by
      refine loop_up (hN W 1) ?_ ?_
      · intro hq1 z I' o5 s6 hz hI hSP
        refine ZV_iload dX7_layStem_88 rfl ?_
        refine ZV_iload dX7_layStem_90 rfl ?_
        refine ZV_icmp_ge (tgt := 115) dX7_layStem_92 (by decide) ⟨by omega, by omega⟩ ⟨by omega, by omega⟩ (fun h92 => ?_) (fun h92 => ?_)
        · refine ZV_iload_n dX7_layStem_115 rfl ?_
          refine ZV_iconst dX7_layStem_116 ?_
          refine ZV_icmp_ne (tgt := 132) dX7_layStem_117 (by decide) ⟨by omega, by omega⟩ ⟨by omega, by omega⟩ (fun h117 => ?_) (fun h117 => ?_)
          · refine ZV_iload_n dX7_layStem_132 rfl ?_
            refine ZV_iconst dX7_layStem_133 ?_
            refine ZV_icmp_ne (tgt := 151) dX7_layStem_134 (by decide) ⟨by omega, by omega⟩ ⟨by omega, by omega⟩ (fun h134 => ?_) (fun h134 => ?_)
            · exact fin I' _ _ _ _ hI (by rw [e3]; exact hSP)
            · omega
          · omega
        · omega
      · intro q hq ih hq1 z I' o5 s6 hz hI hSP
        have rr : I' r = I r := hI r hrn
        subst hz
        have wq := wA.1 q (by omega)
        have rq : I r (4 + 47 * i + 2 + 9 * q + 1) = 96 + dg (W.1 q) 0 := (hW.2.1 q (by omega)).2 0 (by have := wfN_len wq; omega)
        refine ZV_iload dX7_layStem_88 rfl ?_
        refine ZV_iload dX7_layStem_90 rfl ?_
        refine ZV_icmp_ge (tgt := 115) dX7_layStem_92 (by decide) ⟨by omega, by omega⟩ ⟨by omega, by omega⟩ (fun h92 => ?_) (fun h92 => ?_)
        · omega
        · refine ZV_aload_n dX7_layStem_95 rfl ?_
          refine ZV_aload_n dX7_layStem_96 rfl ?_
          refine ZV_iload_n dX7_layStem_97 rfl ?_
          refine ZV_iload dX7_layStem_98 rfl ?_
          refine cl_X7_author kX7_layStem_71 rfl dX7_layStem_100 (Nat.le_of_ble_eq_true rfl) ?_
          refine sp_X7_author ?_
          refine ZV_iconst dX7_layStem_103 ?_
          refine ZV_iadd dX7_layStem_104 ?_
          refine ZV_iald (4 + 47 * i + 2 + 9 * q + 1) dX7_layStem_105 (by assumption) (by first | rfl | omega) (by omega) (by omega) ?_
          rw [rr, rq]
          refine cl_X7_put kX7_layStem_85 rfl dX7_layStem_106 (by assumption) (Nat.le_of_ble_eq_true rfl) ?_
          refine sp_X7_put hL hSP (by omega) (by rw [c2 q hq, e2]) ?_
          intro I2 hI2 hS2
          refine ZV_jinc7 dX7_layStem_109 rfl (by decide) ?_
          refine ZV_goto (tgt := 88) dX7_layStem_112 (by decide) ?_
          exact ih (by omega) _ _ _ _ (by omega) (fun a ha => (hI2 a ha).trans (hI a ha)) hS2
    refine ZV_istore5 dX7_layStem_14 rfl (by decide) ?_
    refine ZV_aload_n dX7_layStem_16 rfl ?_
    refine ZV_getR fX7_layStem_47 dX7_layStem_17 (by assumption) rfl (by assumption) ?_
    refine ZV_iconst dX7_layStem_20 ?_
    refine ZV_iconst dX7_layStem_21 ?_
    refine ZV_iast (0) dX7_layStem_22 (by assumption) (by first | rfl | omega) (by omega) (by omega) ?_
    refine ZV_iload_n dX7_layStem_23 rfl ?_
    refine ZV_if_ne (tgt := 31) dX7_layStem_24 (by decide) ⟨by omega, by omega⟩ (fun h24 => ?_) (fun h24 => ?_)
    · refine ZV_iload_n dX7_layStem_31 rfl ?_
      refine ZV_iconst dX7_layStem_32 ?_
      refine ZV_icmp_ne (tgt := 41) dX7_layStem_33 (by decide) ⟨by omega, by omega⟩ ⟨by omega, by omega⟩ (fun h33 => ?_) (fun h33 => ?_)
      · refine ZV_iconst dX7_layStem_41 ?_
        refine ZV_istore6 dX7_layStem_42 rfl (by decide) ?_
        refine ZV_iconst dX7_layStem_44 ?_
        refine ZV_istore7 dX7_layStem_45 rfl (by decide) ?_
        refine loopA 1 1 _ (by omega) (by omega) (by omega) (by omega) (fun k hk => by rw [c2 k (by omega), e2, show k = 0 by omega]) ?_ 0 (by omega) _ _ rfl hI0 hSP0
        intro I' z hI hSP
        refine ZV_iload_n dX7_layStem_80 rfl ?_
        refine ZV_iconst dX7_layStem_81 ?_
        refine ZV_icmp_ne (tgt := 115) dX7_layStem_82 (by decide) ⟨by omega, by omega⟩ ⟨by omega, by omega⟩ (fun h82 => ?_) (fun h82 => ?_)
        · omega
        · refine ZV_iconst dX7_layStem_85 ?_
          refine ZV_istore7 dX7_layStem_86 rfl (by decide) ?_
          exact loopB 1 (by omega) (by omega) _ _ _ _ rfl hI hSP
      · omega
    · omega
  · have e1 : hN W 2 = (nlen (W.1 0)).toNat := rfl
    have e2 : ∀ k, hF W 2 k = dg (W.1 0) k := fun k => rfl
    have e3 : hS W 2 = if 1 < W.2.1 then 1 else 0 := by
      unfold hS
      by_cases e : 1 < W.2.1
      · rw [if_pos e, if_pos ⟨rfl, e⟩]
      · rw [if_neg e, if_neg (fun q => e q.2)]
    refine ZV_istore5 dX7_layStem_14 rfl (by decide) ?_
    refine ZV_aload_n dX7_layStem_16 rfl ?_
    refine ZV_getR fX7_layStem_47 dX7_layStem_17 (by assumption) rfl (by assumption) ?_
    refine ZV_iconst dX7_layStem_20 ?_
    refine ZV_iconst dX7_layStem_21 ?_
    refine ZV_iast (0) dX7_layStem_22 (by assumption) (by first | rfl | omega) (by omega) (by omega) ?_
    refine ZV_iload_n dX7_layStem_23 rfl ?_
    refine ZV_if_ne (tgt := 31) dX7_layStem_24 (by decide) ⟨by omega, by omega⟩ (fun h24 => ?_) (fun h24 => ?_)
    · refine ZV_iload_n dX7_layStem_31 rfl ?_
      refine ZV_iconst dX7_layStem_32 ?_
      refine ZV_icmp_ne (tgt := 41) dX7_layStem_33 (by decide) ⟨by omega, by omega⟩ ⟨by omega, by omega⟩ (fun h33 => ?_) (fun h33 => ?_)
      · omega
      · refine ZV_bipush dX7_layStem_36 (by decide) ?_
        refine ZV_goto (tgt := 42) dX7_layStem_38 (by decide) ?_
        refine ZV_istore6 dX7_layStem_42 rfl (by decide) ?_
        refine ZV_iconst dX7_layStem_44 ?_
        refine ZV_istore7 dX7_layStem_45 rfl (by decide) ?_
        refine loopA (hN W 2) 8 _ (by omega) (by omega) (by omega) (by omega) (fun k hk => by rw [c2 k hk, e2]) ?_ 0 (by omega) _ _ rfl hI0 hSP0
        intro I' z hI hSP
        refine ZV_iload_n dX7_layStem_80 rfl ?_
        refine ZV_iconst dX7_layStem_81 ?_
        refine ZV_icmp_ne (tgt := 115) dX7_layStem_82 (by decide) ⟨by omega, by omega⟩ ⟨by omega, by omega⟩ (fun h82 => ?_) (fun h82 => ?_)
        · refine ZV_iload_n dX7_layStem_115 rfl ?_
          refine ZV_iconst dX7_layStem_116 ?_
          refine ZV_icmp_ne (tgt := 132) dX7_layStem_117 (by decide) ⟨by omega, by omega⟩ ⟨by omega, by omega⟩ (fun h117 => ?_) (fun h117 => ?_)
          · omega
          · refine ZV_iload dX7_layStem_120 rfl ?_
            refine ZV_iconst dX7_layStem_122 ?_
            refine ZV_icmp_le (tgt := 132) dX7_layStem_123 (by decide) ⟨by omega, by omega⟩ ⟨by omega, by omega⟩ (fun h123 => ?_) (fun h123 => ?_)
            · refine ZV_iload_n dX7_layStem_132 rfl ?_
              refine ZV_iconst dX7_layStem_133 ?_
              refine ZV_icmp_ne (tgt := 151) dX7_layStem_134 (by decide) ⟨by omega, by omega⟩ ⟨by omega, by omega⟩ (fun h134 => ?_) (fun h134 => ?_)
              · exact fin I' _ _ _ _ hI (by rw [e3, if_neg (by omega)]; exact hSP)
              · omega
            · refine ZV_aload_n dX7_layStem_126 rfl ?_
              refine ZV_bipush dX7_layStem_127 (by decide) ?_
              refine cl_X7_put kX7_layStem_85 rfl dX7_layStem_129 (by assumption) (Nat.le_of_ble_eq_true rfl) ?_
              refine sp_X7_put hL hSP (by omega) (c3 (by rw [e3, if_pos (by omega)])).symm ?_
              intro I2 hI2 hS2
              refine ZV_iload_n dX7_layStem_132 rfl ?_
              refine ZV_iconst dX7_layStem_133 ?_
              refine ZV_icmp_ne (tgt := 151) dX7_layStem_134 (by decide) ⟨by omega, by omega⟩ ⟨by omega, by omega⟩ (fun h134 => ?_) (fun h134 => ?_)
              · exact fin I2 _ _ _ _ (fun a ha => (hI2 a ha).trans (hI a ha)) (by rw [e3, if_pos (by omega)]; exact hS2)
              · omega
        · omega
    · omega
  · have e1 : hN W 3 = 2 := rfl
    have e2 : hF W 3 0 = dg (W.1 0) 0 := rfl
    have e4 : hF W 3 1 = dg W.2.2.2 0 := rfl
    have e3 : (hS W 3).toNat = 0 := rfl
    have rt : I r (4 + 47 * i + 38 + 1) = 96 + dg W.2.2.2 0 := hW.2.2.2 0 (by have := wfN_len wA.2.2.2; omega)
    refine ZV_istore5 dX7_layStem_14 rfl (by decide) ?_
    refine ZV_aload_n dX7_layStem_16 rfl ?_
    refine ZV_getR fX7_layStem_47 dX7_layStem_17 (by assumption) rfl (by assumption) ?_
    refine ZV_iconst dX7_layStem_20 ?_
    refine ZV_iconst dX7_layStem_21 ?_
    refine ZV_iast (0) dX7_layStem_22 (by assumption) (by first | rfl | omega) (by omega) (by omega) ?_
    refine ZV_iload_n dX7_layStem_23 rfl ?_
    refine ZV_if_ne (tgt := 31) dX7_layStem_24 (by decide) ⟨by omega, by omega⟩ (fun h24 => ?_) (fun h24 => ?_)
    · refine ZV_iload_n dX7_layStem_31 rfl ?_
      refine ZV_iconst dX7_layStem_32 ?_
      refine ZV_icmp_ne (tgt := 41) dX7_layStem_33 (by decide) ⟨by omega, by omega⟩ ⟨by omega, by omega⟩ (fun h33 => ?_) (fun h33 => ?_)
      · refine ZV_iconst dX7_layStem_41 ?_
        refine ZV_istore6 dX7_layStem_42 rfl (by decide) ?_
        refine ZV_iconst dX7_layStem_44 ?_
        refine ZV_istore7 dX7_layStem_45 rfl (by decide) ?_
        refine loopA 1 1 _ (by omega) (by omega) (by omega) (by omega) (fun k hk => by rw [c2 k (by omega), show k = 0 by omega, e2]) ?_ 0 (by omega) _ _ rfl hI0 hSP0
        intro I' z hI hSP
        have rr : I' r = I r := hI r hrn
        refine ZV_iload_n dX7_layStem_80 rfl ?_
        refine ZV_iconst dX7_layStem_81 ?_
        refine ZV_icmp_ne (tgt := 115) dX7_layStem_82 (by decide) ⟨by omega, by omega⟩ ⟨by omega, by omega⟩ (fun h82 => ?_) (fun h82 => ?_)
        · refine ZV_iload_n dX7_layStem_115 rfl ?_
          refine ZV_iconst dX7_layStem_116 ?_
          refine ZV_icmp_ne (tgt := 132) dX7_layStem_117 (by decide) ⟨by omega, by omega⟩ ⟨by omega, by omega⟩ (fun h117 => ?_) (fun h117 => ?_)
          · refine ZV_iload_n dX7_layStem_132 rfl ?_
            refine ZV_iconst dX7_layStem_133 ?_
            refine ZV_icmp_ne (tgt := 151) dX7_layStem_134 (by decide) ⟨by omega, by omega⟩ ⟨by omega, by omega⟩ (fun h134 => ?_) (fun h134 => ?_)
            · omega
            · refine ZV_aload_n dX7_layStem_137 rfl ?_
              refine ZV_aload_n dX7_layStem_138 rfl ?_
              refine ZV_iload_n dX7_layStem_139 rfl ?_
              refine ZV_bipush dX7_layStem_140 (by decide) ?_
              refine cl_X7_cell kX7_layStem_67 rfl dX7_layStem_142 (Nat.le_of_ble_eq_true rfl) ?_
              refine sp_X7_cell ?_
              refine ZV_iconst dX7_layStem_145 ?_
              refine ZV_iadd dX7_layStem_146 ?_
              refine ZV_iald (4 + 47 * i + 38 + 1) dX7_layStem_147 (by assumption) (by first | rfl | omega) (by omega) (by omega) ?_
              rw [rr, rt]
              refine cl_X7_put kX7_layStem_85 rfl dX7_layStem_148 (by assumption) (Nat.le_of_ble_eq_true rfl) ?_
              refine sp_X7_put hL hSP (by omega) (by rw [c2 1 (by omega), e4]) ?_
              intro I2 hI2 hS2
              exact fin I2 _ _ _ _ (fun a ha => (hI2 a ha).trans (hI a ha)) (by rw [e3]; exact hS2)
          · omega
        · omega
      · omega
    · omega
end ZM3

