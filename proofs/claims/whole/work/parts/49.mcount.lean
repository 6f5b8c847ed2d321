/-! the reference: what holds between two calls; counting -/
def MTx (I : Mm) (m : Nat) (T : Nat × (Nat → Int)) : Prop := I m 2 = (T.1 : Int) ∧ T.1 ≤ 100 ∧ ∀ p, p < T.1 → I (m + 1) p = T.2 p ∧ 0 ≤ T.2 p ∧ T.2 p < 256
def MHs (I : Mm) (m : Nat) (H : Nat × (Nat → ASt)) : Prop := I m 9 = (H.1 : Int) ∧ H.1 ≤ 14 ∧ ∀ k, k < H.1 → MR (fun q => I (m + 5) (980 * k + q)) (H.2 k) ∧ GoodSt (H.2 k)
def MSl (I : Mm) (m : Nat) (V : Nat → Option ASt) : Prop := ∀ s, s < 2 → (V s = none ∧ I (m + 7) s = 0) ∨ ∃ B, V s = some B ∧ I (m + 7) s = 1 ∧ MR (fun q => I (m + 6) (980 * s + q)) B ∧ GoodSt B
def MInv (X : Xt) (g : Geo) (I : Mm) (m : Nat) (Q : AC) : Prop := ML X g m ∧ MTx I m Q.1 ∧ (MR (I (m + 3)) Q.2.1 ∧ GoodSt Q.2.1) ∧ MHs I m Q.2.2.1 ∧ MSl I m Q.2.2.2
/-- what a call leaves outside its object -/
def MFr (I I' : Mm) (m : Nat) : Prop := ∀ q, q < m ∨ m + 14 ≤ q → I' q = I q
theorem MInv.rw' {X : Xt} {g : Geo} {I I' : Mm} {m : Nat} {Q : AC} (h : MInv X g I m Q) (h1 : I' m 2 = I m 2) (h2 : I' m 9 = I m 9) (hr : ∀ q, q = m + 1 ∨ q = m + 3 ∨ q = m + 5 ∨ q = m + 6 ∨ q = m + 7 → I' q = I q) : MInv X g I' m Q := by
  obtain ⟨hL, ⟨t1, t2, t3⟩, hN, ⟨a1, a2, a3⟩, hV⟩ := h
  refine ⟨hL, ⟨by rw [h1]; exact t1, t2, fun p hp => by rw [hr (m + 1) (by omega)]; exact t3 p hp⟩, by rw [hr (m + 3) (by omega)]; exact hN, ⟨by rw [h2]; exact a1, a2, fun k hk => by rw [hr (m + 5) (by omega)]; exact a3 k hk⟩, fun s hs => ?_⟩
  rw [hr (m + 7) (by omega), hr (m + 6) (by omega)]
  exact hV s hs
theorem LFr.mf {I I' : Mm} {m : Nat} (h : LFr I I' m) : MFr I I' m := fun q hq => h q (by omega) (by omega) (by omega) (by omega) (by omega)
theorem MFr.tr {I I' I'' : Mm} {m : Nat} (h1 : MFr I I' m) (h2 : MFr I' I'' m) : MFr I I'' m := fun q hq => (h2 q hq).trans (h1 q hq)
theorem MFr.up {I I' : Mm} {m a k : Nat} {v : Int} (h : MFr I I' m) (h1 : m ≤ a) (h2 : a < m + 14) : MFr I (up2 I' a k v) m := fun q hq => (up2_row _ _ (by omega)).trans (h q hq)
theorem MFr.rf (I : Mm) (m : Nat) : MFr I I m := fun _ _ => rfl
theorem MInv.lay {X : Xt} {g : Geo} {I I' : Mm} {m : Nat} {Q : AC} (h : MInv X g I m Q) (hF : LFr I I' m) : MInv X g I' m Q := h.rw' (by rw [hF m (by omega) (by omega) (by omega) (by omega) (by omega)]) (by rw [hF m (by omega) (by omega) (by omega) (by omega) (by omega)]) (fun q hq => hF q (by omega) (by omega) (by omega) (by omega) (by omega))
theorem MInv.ref {X : Xt} {g : Geo} {I : Mm} {m : Nat} {Q : AC} {w : Int} (h : MInv X g I m Q) : MInv X g (up2 I m 0 w) m Q := h.rw' (up2_k (by decide)) (up2_k (by decide)) (fun q hq => up2_row _ _ (by omega))
theorem klet_key {B : ASt} (h : GoodSt B) {i : Nat} (hi : i < aN B) : klet (keyOf B i) = letOf B i := by
  have h1 := stemOf_rng h.1 hi
  have h2 := letOf_rng h.1 i
  unfold klet keyOf
  omega
theorem zmx_congr {f f' : Nat → Int} : ∀ n, (∀ i, i < n → f i = f' i) → zmx f n = zmx f' n := by
  intro n
  induction n with
  | zero => intro _; rfl
  | succ n ih =>
    intro h
    simp only [zmx]
    rw [ih (fun i hi => h i (by omega)), h n (by omega)]
section ZM5
variable {X : Xt} {g : Geo} {I J : Mm} {b : Nat × Nat} {post : Out → Geo → Mm → Mm → Prop}
theorem sp_X7_lettered {r n : Nat} (hk : ksh X g r = some (.inr (0, 16))) (hn : n ≤ 16) (hr : ∀ i, i < n → 0 ≤ I r i ∧ I r i ≤ 100) (h : post (.inl (some (vi (zsum (fun i => if 0 < I r i then 1 else 0) n)))) g I J) : ZV X E_X7_lettered 0 [some (.ref r), some (vi (n : Int)), none, none] [] b g I J post := by
  refine ZV_iconst dX7_lettered_0 ?_
  refine ZV_istore2 dX7_lettered_1 rfl (by decide) ?_
  refine ZV_iconst dX7_lettered_2 ?_
  refine ZV_istore3 dX7_lettered_3 rfl (by decide) ?_
  have key : ∀ q : Nat, q ≤ n → ∀ c z : Int, z = (q : Int) → c = zsum (fun i => if 0 < I r i then 1 else 0) q → ZV X E_X7_lettered 4 [some (.ref r), some (vi (n : Int)), some (vi c), some (vi z)] [] b g I J post := by
    refine loop_up n ?_ ?_
    · intro c z hz hc
      refine ZV_iload_n dX7_lettered_4 rfl ?_
      refine ZV_iload_n dX7_lettered_5 rfl ?_
      refine ZV_icmp_ge (tgt := 29) dX7_lettered_6 (by decide) ⟨by omega, by omega⟩ ⟨by omega, by omega⟩ (fun h6 => ?_) (fun h6 => ?_)
      · refine ZV_iload_n dX7_lettered_29 rfl ?_
        refine ZV_iret dX7_lettered_30 rfl ?_
        rw [hc]; exact h
      · omega
    · intro q hq ih c z hz hc
      have hv := hr q hq
      refine ZV_iload_n dX7_lettered_4 rfl ?_
      refine ZV_iload_n dX7_lettered_5 rfl ?_
      refine ZV_icmp_ge (tgt := 29) dX7_lettered_6 (by decide) ⟨by omega, by omega⟩ ⟨by omega, by omega⟩ (fun h6 => ?_) (fun h6 => ?_)
      · omega
      · refine ZV_iload_n dX7_lettered_9 rfl ?_
        refine ZV_aload_n dX7_lettered_10 rfl ?_
        refine ZV_iload_n dX7_lettered_11 rfl ?_
        refine ZV_iald (q) dX7_lettered_12 (by assumption) (by first | rfl | omega) (by omega) (by omega) ?_
        refine ZV_if_le (tgt := 20) dX7_lettered_13 (by decide) ⟨by omega, by omega⟩ (fun h13 => ?_) (fun h13 => ?_)
        · refine ZV_iconst dX7_lettered_20 ?_
          refine ZV_iadd dX7_lettered_21 ?_
          refine ZV_istore2 dX7_lettered_22 rfl (by decide) ?_
          refine ZV_jinc3 dX7_lettered_23 rfl (by decide) ?_
          refine ZV_goto (tgt := 4) dX7_lettered_26 (by decide) ?_
          exact ih _ _ (by omega) (by simp only [zsum]; rw [if_neg (by omega)]; omega)
        · refine ZV_iconst dX7_lettered_16 ?_
          refine ZV_goto (tgt := 21) dX7_lettered_17 (by decide) ?_
          refine ZV_iadd dX7_lettered_21 ?_
          refine ZV_istore2 dX7_lettered_22 rfl (by decide) ?_
          refine ZV_jinc3 dX7_lettered_23 rfl (by decide) ?_
          refine ZV_goto (tgt := 4) dX7_lettered_26 (by decide) ?_
          exact ih _ _ (by omega) (by simp only [zsum]; rw [if_pos (by omega)]; omega)
  exact key 0 (by omega) _ _ rfl rfl
theorem sp_X7_longest {m n : Nat} (hL : ML X g m) (hn : n ≤ 16) (hr : ∀ i, i < n → 0 ≤ I (m + 8) (14 * i) ∧ I (m + 8) (14 * i) ≤ 100) (h : post (.inl (some (vi (zmx (fun i => I (m + 8) (14 * i)) n)))) g I J) : ZV X E_X7_longest 0 [some (.ref m), some (vi (n : Int)), none, none] [] b g I J post := by
  obtain ⟨l0, -, ⟨l1, l2, l3, l4, l5, l6⟩, -, ⟨k1, k2, k3, k4, k5, k6⟩⟩ := id hL
  refine ZV_iconst dX7_longest_0 ?_
  refine ZV_istore2 dX7_longest_1 rfl (by decide) ?_
  refine ZV_iconst dX7_longest_2 ?_
  refine ZV_istore3 dX7_longest_3 rfl (by decide) ?_
  have key : ∀ q : Nat, q ≤ n → ∀ c z : Int, z = (q : Int) → c = zmx (fun i => I (m + 8) (14 * i)) q → (0 ≤ c ∧ c ≤ 100) → ZV X E_X7_longest 4 [some (.ref m), some (vi (n : Int)), some (vi c), some (vi z)] [] b g I J post := by
    refine loop_up n ?_ ?_
    · intro c z hz hc hc2
      refine ZV_iload_n dX7_longest_4 rfl ?_
      refine ZV_iload_n dX7_longest_5 rfl ?_
      refine ZV_icmp_ge (tgt := 42) dX7_longest_6 (by decide) ⟨by omega, by omega⟩ ⟨by omega, by omega⟩ (fun h6 => ?_) (fun h6 => ?_)
      · refine ZV_iload_n dX7_longest_42 rfl ?_
        refine ZV_iret dX7_longest_43 rfl ?_
        rw [hc]; exact h
      · omega
    · intro q hq ih c z hz hc hc2
      have hv := hr q hq
      refine ZV_iload_n dX7_longest_4 rfl ?_
      refine ZV_iload_n dX7_longest_5 rfl ?_
      refine ZV_icmp_ge (tgt := 42) dX7_longest_6 (by decide) ⟨by omega, by omega⟩ ⟨by omega, by omega⟩ (fun h6 => ?_) (fun h6 => ?_)
      · omega
      · refine ZV_aload_n dX7_longest_9 rfl ?_
        refine ZV_getR fX7_longest_32 dX7_longest_10 (by assumption) rfl (by assumption) ?_
        refine ZV_bipush dX7_longest_13 (by decide) ?_
        refine ZV_iload_n dX7_longest_15 rfl ?_
        refine ZV_imul dX7_longest_16 ?_
        refine ZV_iald (14 * q) dX7_longest_17 (by assumption) (by first | rfl | omega) (by omega) (by omega) ?_
        refine ZV_iload_n dX7_longest_18 rfl ?_
        refine ZV_icmp_le (tgt := 34) dX7_longest_19 (by decide) ⟨by omega, by omega⟩ ⟨by omega, by omega⟩ (fun h19 => ?_) (fun h19 => ?_)
        · refine ZV_iload_n dX7_longest_34 rfl ?_
          refine ZV_istore2 dX7_longest_35 rfl (by decide) ?_
          refine ZV_jinc3 dX7_longest_36 rfl (by decide) ?_
          refine ZV_goto (tgt := 4) dX7_longest_39 (by decide) ?_
          exact ih _ _ (by omega) (by simp only [zmx]; rw [if_neg (by omega)]; omega) hc2
        · refine ZV_aload_n dX7_longest_22 rfl ?_
          refine ZV_getR fX7_longest_32 dX7_longest_23 (by assumption) rfl (by assumption) ?_
          refine ZV_bipush dX7_longest_26 (by decide) ?_
          refine ZV_iload_n dX7_longest_28 rfl ?_
          refine ZV_imul dX7_longest_29 ?_
          refine ZV_iald (14 * q) dX7_longest_30 (by assumption) (by first | rfl | omega) (by omega) (by omega) ?_
          refine ZV_goto (tgt := 35) dX7_longest_31 (by decide) ?_
          refine ZV_istore2 dX7_longest_35 rfl (by decide) ?_
          refine ZV_jinc3 dX7_longest_36 rfl (by decide) ?_
          refine ZV_goto (tgt := 4) dX7_longest_39 (by decide) ?_
          exact ih _ _ (by omega) (by simp only [zmx]; rw [if_pos (by omega)]) hv
  exact key 0 (by omega) _ _ rfl rfl ⟨by decide, by decide⟩
theorem sp_X7_stems {m : Nat} {B : ASt} (hL : ML X g m) (h0 : I (m + 3) 0 = (aN B : Int)) (hn : aN B ≤ 16) (hr : ∀ i, i < aN B → 0 ≤ I (m + 9) i ∧ I (m + 9) i ≤ 100) (h : post (.inl (some (vi (zsum (fun i => if I (m + 9) i ≤ 1 then 1 else 0) (aN B))))) g I J) : ZV X E_X7_stems 0 [some (.ref m), none, none] [] b g I J post := by
  obtain ⟨l0, ⟨p1, p2, p3, p4, p5, p6, p7⟩, ⟨l1, l2, l3, l4, l5, l6⟩, ⟨j1, j2, j3, j4, j5, j6, j7⟩, ⟨k1, k2, k3, k4, k5, k6⟩⟩ := id hL
  refine ZV_iconst dX7_stems_0 ?_
  refine ZV_istore1 dX7_stems_1 rfl (by decide) ?_
  refine ZV_iconst dX7_stems_2 ?_
  refine ZV_istore2 dX7_stems_3 rfl (by decide) ?_
  have key : ∀ q : Nat, q ≤ aN B → ∀ c z : Int, z = (q : Int) → c = zsum (fun i => if I (m + 9) i ≤ 1 then 1 else 0) q → ZV X E_X7_stems 4 [some (.ref m), some (vi c), some (vi z)] [] b g I J post := by
    refine loop_up (aN B) ?_ ?_
    · intro c z hz hc
      refine ZV_iload_n dX7_stems_4 rfl ?_
      refine ZV_aload_n dX7_stems_5 rfl ?_
      refine ZV_getR fX7_stems_16 dX7_stems_6 (by assumption) rfl (by assumption) ?_
      refine ZV_iconst dX7_stems_9 ?_
      refine ZV_iald (0) dX7_stems_10 (by assumption) (by first | rfl | omega) (by omega) (by omega) ?_
      rw [h0]
      refine ZV_icmp_ge (tgt := 38) dX7_stems_11 (by decide) ⟨by omega, by omega⟩ ⟨by omega, by omega⟩ (fun h11 => ?_) (fun h11 => ?_)
      · refine ZV_iload_n dX7_stems_38 rfl ?_
        refine ZV_iret dX7_stems_39 rfl ?_
        rw [hc]; exact h
      · omega
    · intro q hq ih c z hz hc
      have hv := hr q hq
      refine ZV_iload_n dX7_stems_4 rfl ?_
      refine ZV_aload_n dX7_stems_5 rfl ?_
      refine ZV_getR fX7_stems_16 dX7_stems_6 (by assumption) rfl (by assumption) ?_
      refine ZV_iconst dX7_stems_9 ?_
      refine ZV_iald (0) dX7_stems_10 (by assumption) (by first | rfl | omega) (by omega) (by omega) ?_
      rw [h0]
      refine ZV_icmp_ge (tgt := 38) dX7_stems_11 (by decide) ⟨by omega, by omega⟩ ⟨by omega, by omega⟩ (fun h11 => ?_) (fun h11 => ?_)
      · omega
      · refine ZV_iload_n dX7_stems_14 rfl ?_
        refine ZV_aload_n dX7_stems_15 rfl ?_
        refine ZV_getR fX7_stems_35 dX7_stems_16 (by assumption) rfl (by assumption) ?_
        refine ZV_iload_n dX7_stems_19 rfl ?_
        refine ZV_iald (q) dX7_stems_20 (by assumption) (by first | rfl | omega) (by omega) (by omega) ?_
        refine ZV_iconst dX7_stems_21 ?_
        refine ZV_icmp_ge (tgt := 29) dX7_stems_22 (by decide) ⟨by omega, by omega⟩ ⟨by omega, by omega⟩ (fun h22 => ?_) (fun h22 => ?_)
        · refine ZV_iconst dX7_stems_29 ?_
          refine ZV_iadd dX7_stems_30 ?_
          refine ZV_istore1 dX7_stems_31 rfl (by decide) ?_
          refine ZV_jinc2 dX7_stems_32 rfl (by decide) ?_
          refine ZV_goto (tgt := 4) dX7_stems_35 (by decide) ?_
          exact ih _ _ (by omega) (by simp only [zsum]; rw [if_neg (by omega)]; omega)
        · refine ZV_iconst dX7_stems_25 ?_
          refine ZV_goto (tgt := 30) dX7_stems_26 (by decide) ?_
          refine ZV_iadd dX7_stems_30 ?_
          refine ZV_istore1 dX7_stems_31 rfl (by decide) ?_
          refine ZV_jinc2 dX7_stems_32 rfl (by decide) ?_
          refine ZV_goto (tgt := 4) dX7_stems_35 (by decide) ?_
          exact ih _ _ (by omega) (by simp only [zsum]; rw [if_pos (by omega)]; omega)
  exact key 0 (by omega) _ _ rfl rfl
theorem sp_X7_gone {m : Nat} {B : ASt} (hL : ML X g m) (hR : MR (I (m + 3)) B) (hG : GoodSt B) (h : post (.inl (some (vi (zsum (fun p => if aPo B p = -2 then 1 else 0) (aPn B))))) g I J) : ZV X E_X7_gone 0 [some (.ref m), none, none] [] b g I J post := by
  obtain ⟨l0, ⟨p1, p2, p3, p4, p5, p6, p7⟩, ⟨l1, l2, l3, l4, l5, l6⟩, ⟨j1, j2, j3, j4, j5, j6, j7⟩, ⟨k1, k2, k3, k4, k5, k6⟩⟩ := id hL
  have h3 := hR.1.2.2.2
  have hp16 := hG.1.2.1
  refine ZV_iconst dX7_gone_0 ?_
  refine ZV_istore1 dX7_gone_1 rfl (by decide) ?_
  refine ZV_iconst dX7_gone_2 ?_
  refine ZV_istore2 dX7_gone_3 rfl (by decide) ?_
  have key : ∀ q : Nat, q ≤ aPn B → ∀ c z : Int, z = (q : Int) → c = zsum (fun p => if aPo B p = -2 then 1 else 0) q → ZV X E_X7_gone 4 [some (.ref m), some (vi c), some (vi z)] [] b g I J post := by
    refine loop_up (aPn B) ?_ ?_
    · intro c z hz hc
      refine ZV_iload_n dX7_gone_4 rfl ?_
      refine ZV_aload_n dX7_gone_5 rfl ?_
      refine ZV_getR fX7_gone_16 dX7_gone_6 (by assumption) rfl (by assumption) ?_
      refine ZV_iconst dX7_gone_9 ?_
      refine ZV_iald (3) dX7_gone_10 (by assumption) (by first | rfl | omega) (by omega) (by omega) ?_
      rw [h3]
      refine ZV_icmp_ge (tgt := 49) dX7_gone_11 (by decide) ⟨by omega, by omega⟩ ⟨by omega, by omega⟩ (fun h11 => ?_) (fun h11 => ?_)
      · refine ZV_iload_n dX7_gone_49 rfl ?_
        refine ZV_iret dX7_gone_50 rfl ?_
        rw [hc]; exact h
      · omega
    · intro q hq ih c z hz hc
      have ho := (hR.2.2 q hq).2
      obtain ⟨o1, o2⟩ := (hG.pr q hq).2
      refine ZV_iload_n dX7_gone_4 rfl ?_
      refine ZV_aload_n dX7_gone_5 rfl ?_
      refine ZV_getR fX7_gone_16 dX7_gone_6 (by assumption) rfl (by assumption) ?_
      refine ZV_iconst dX7_gone_9 ?_
      refine ZV_iald (3) dX7_gone_10 (by assumption) (by first | rfl | omega) (by omega) (by omega) ?_
      rw [h3]
      refine ZV_icmp_ge (tgt := 49) dX7_gone_11 (by decide) ⟨by omega, by omega⟩ ⟨by omega, by omega⟩ (fun h11 => ?_) (fun h11 => ?_)
      · omega
      · refine ZV_iload_n dX7_gone_14 rfl ?_
        refine ZV_aload_n dX7_gone_15 rfl ?_
        refine ZV_getR fX7_gone_16 dX7_gone_16 (by assumption) rfl (by assumption) ?_
        refine ZV_sipush dX7_gone_19 (by decide) ?_
        refine ZV_bipush dX7_gone_22 (by decide) ?_
        refine ZV_iload_n dX7_gone_24 rfl ?_
        refine ZV_imul dX7_gone_25 ?_
        refine ZV_iadd dX7_gone_26 ?_
        refine ZV_bipush dX7_gone_27 (by decide) ?_
        refine ZV_iadd dX7_gone_29 ?_
        refine ZV_iald (756 + 14 * q + 13) dX7_gone_30 (by assumption) (by first | rfl | omega) (by omega) (by omega) ?_
        rw [ho]
        refine ZV_bipush dX7_gone_31 (by decide) ?_
        refine ZV_icmp_ne (tgt := 40) dX7_gone_33 (by decide) ⟨by omega, by omega⟩ ⟨by omega, by omega⟩ (fun h33 => ?_) (fun h33 => ?_)
        · refine ZV_iconst dX7_gone_40 ?_
          refine ZV_iadd dX7_gone_41 ?_
          refine ZV_istore1 dX7_gone_42 rfl (by decide) ?_
          refine ZV_jinc2 dX7_gone_43 rfl (by decide) ?_
          refine ZV_goto (tgt := 4) dX7_gone_46 (by decide) ?_
          exact ih _ _ (by omega) (by simp only [zsum]; rw [if_neg (by omega)]; omega)
        · refine ZV_iconst dX7_gone_36 ?_
          refine ZV_goto (tgt := 41) dX7_gone_37 (by decide) ?_
          refine ZV_iadd dX7_gone_41 ?_
          refine ZV_istore1 dX7_gone_42 rfl (by decide) ?_
          refine ZV_jinc2 dX7_gone_43 rfl (by decide) ?_
          refine ZV_goto (tgt := 4) dX7_gone_46 (by decide) ?_
          exact ih _ _ (by omega) (by simp only [zsum]; rw [if_pos (by omega)]; omega)
  exact key 0 (by omega) _ _ rfl rfl
theorem sp_X7_layNow {m : Nat} {A : ASt} (hL : ML X g m) (hR : MR (I (m + 3)) A) (hG : GoodSt A) (h : ∀ I', LFr I I' m → Laid I' m A → post (.inl none) g I' J) : ZV X E_X7_layNow 0 [some (.ref m)] [] b g I J post := by
  obtain ⟨l0, ⟨p1, p2, p3, p4, p5, p6, p7⟩, ⟨l1, l2, l3, l4, l5, l6⟩, ⟨j1, j2, j3, j4, j5, j6, j7⟩, ⟨k1, k2, k3, k4, k5, k6⟩⟩ := id hL
  refine ZV_aload_n dX7_layNow_0 rfl ?_
  refine ZV_aload_n dX7_layNow_1 rfl ?_
  refine ZV_getR fX7_layNow_16 dX7_layNow_2 (by assumption) rfl (by assumption) ?_
  refine ZV_aload_n dX7_layNow_5 rfl ?_
  refine ZV_getR fX7_layNow_16 dX7_layNow_6 (by assumption) rfl (by assumption) ?_
  refine ZV_iconst dX7_layNow_9 ?_
  refine ZV_iald (1) dX7_layNow_10 (by assumption) (by first | rfl | omega) (by omega) (by omega) ?_
  rw [hR.1.2.1]
  refine cl_X7_lay kX7_layNow_108 rfl dX7_layNow_11 (by assumption) (Nat.le_of_ble_eq_true rfl) ?_
  refine sp_X7_lay hL (Or.inl rfl) hR hG hG.1.2.2.1 ?_
  intro I' hF hLd
  refine ZV_vret dX7_layNow_14 rfl ?_
  exact h I' hF hLd
theorem sp_X7_layWas {m : Nat} {A : ASt} (hL : ML X g m) (hR : MR (I (m + 3)) A) (hG : GoodSt A) (h : ∀ I', (∀ q, q ≠ m + 12 → q ≠ m + 8 → q ≠ m + 9 → q ≠ m + 10 → q ≠ m + 11 → q ≠ m + 13 → I' q = I q) → (∀ i, i < aN A → KeA (I' (m + 12)) (14 * i) (keyOf A i)) → post (.inl none) g I' J) : ZV X E_X7_layWas 0 [some (.ref m)] [] b g I J post := by
  obtain ⟨l0, ⟨p1, p2, p3, p4, p5, p6, p7⟩, ⟨l1, l2, l3, l4, l5, l6⟩, ⟨j1, j2, j3, j4, j5, j6, j7⟩, ⟨k1, k2, k3, k4, k5, k6⟩⟩ := id hL
  have h16 := hG.1.1
  refine ZV_aload_n dX7_layWas_0 rfl ?_
  refine cl_X7_layNow kX7_layWas_105 rfl dX7_layWas_1 (by assumption) (Nat.le_of_ble_eq_true rfl) ?_
  refine sp_X7_layNow hL hR hG ?_
  intro I1 hF hLd
  refine ZV_aload_n dX7_layWas_4 rfl ?_
  refine ZV_getR fX7_layWas_32 dX7_layWas_5 (by assumption) rfl (by assumption) ?_
  refine ZV_iconst dX7_layWas_8 ?_
  refine ZV_aload_n dX7_layWas_9 rfl ?_
  refine ZV_getR fX7_layWas_44 dX7_layWas_10 (by assumption) rfl (by assumption) ?_
  refine ZV_iconst dX7_layWas_13 ?_
  refine ZV_sipush dX7_layWas_14 (by decide) ?_
  refine cl_X7_copy kX7_layWas_63 rfl dX7_layWas_17 (Nat.le_of_ble_eq_true rfl) ?_
  refine sp_X7_copy (x := 0) (y := 0) (n := 224) k1 k5 (by omega) (by omega) (by omega) (by omega) (Or.inl (by omega)) ?_
  intro I2 hI2 hI2k
  refine ZV_vret dX7_layWas_20 rfl ?_
  refine h I2 (fun q q1 q2 q3 q4 q5 q6 => (hI2 q q1).trans (hF q q2 q3 q4 q5 q6)) (fun i hi => ?_)
  have l12 := (keyOf_KWF hG hi).len.2
  exact (hLd i hi).1.move fun k hk => by rw [hI2k, if_pos ⟨by omega, by omega⟩, show 0 + (14 * i + k - 0) = 14 * i + k by omega]
theorem sp_X7_isText {m r p nr : Nat} {κ : Int} {T : Nat × (Nat → Int)} (hL : ML X g m) (hr : ksh X g r = some (.inr (0, nr))) (hp : p + 13 ≤ nr) (hnr : nr < 20000) (hK : KeA (I r) p κ) (wK : KWF κ) (hT : MTx I m T) (h : ∀ z, ((z = 1 ∧ spl T κ) ∨ (z = 0 ∧ ¬ spl T κ)) → post (.inl (some (vi z))) g I J) : ZV X E_X7_isText 0 [some (.ref m), some (.ref r), some (vi (p : Int)), none, none] [] b g I J post := by
  obtain ⟨l0, ⟨p1, p2, p3, p4, p5, p6, p7⟩, ⟨l1, l2, l3, l4, l5, l6⟩, ⟨j1, j2, j3, j4, j5, j6, j7⟩, ⟨k1, k2, k3, k4, k5, k6⟩⟩ := id hL
  obtain ⟨t1, t2, t3⟩ := hT
  have kl := wK.len
  have stop0 : ∀ z : Int, (0 ≤ z ∧ z ≤ 200) → ¬ spl T κ → ZV X E_X7_isText 19 [some (.ref m), some (.ref r), some (vi (p : Int)), some (vi 0), some (vi z)] [] b g I J post := by
    intro z hz hne
    refine ZV_iload dX7_isText_19 rfl ?_
    refine ZV_aload_n dX7_isText_21 rfl ?_
    refine ZV_getI fX7_isText_122 dX7_isText_22 (by assumption) rfl ?_
    rw [t1]
    refine ZV_icmp_ge (tgt := 62) dX7_isText_25 (by decide) ⟨by omega, by omega⟩ ⟨by omega, by omega⟩ (fun h25 => ?_) (fun h25 => ?_)
    · refine ZV_iload_n dX7_isText_62 rfl ?_
      refine ZV_zret dX7_isText_63 rfl (by first | exact Or.inl rfl | exact Or.inr rfl | assumption | omega) ?_
      exact h 0 (Or.inr ⟨rfl, hne⟩)
    · refine ZV_iload_n dX7_isText_28 rfl ?_
      refine ZV_if_eq (tgt := 62) dX7_isText_29 (by decide) ⟨by omega, by omega⟩ (fun h29 => ?_) (fun h29 => ?_)
      · refine ZV_iload_n dX7_isText_62 rfl ?_
        refine ZV_zret dX7_isText_63 rfl (by first | exact Or.inl rfl | exact Or.inr rfl | assumption | omega) ?_
        exact h 0 (Or.inr ⟨rfl, hne⟩)
      · omega
  have key : (T.1 : Int) = klen κ → ∀ q : Nat, q ≤ T.1 → ∀ (z : Int), z = (q : Int) → (∀ p : Nat, p < q → T.2 p = kch κ p) → ZV X E_X7_isText 19 [some (.ref m), some (.ref r), some (vi (p : Int)), some (vi 1), some (vi z)] [] b g I J post := by
    intro hlen
    refine loop_up T.1 ?_ ?_
    · intro z hz hq
      refine ZV_iload dX7_isText_19 rfl ?_
      refine ZV_aload_n dX7_isText_21 rfl ?_
      refine ZV_getI fX7_isText_122 dX7_isText_22 (by assumption) rfl ?_
      rw [t1]
      refine ZV_icmp_ge (tgt := 62) dX7_isText_25 (by decide) ⟨by omega, by omega⟩ ⟨by omega, by omega⟩ (fun h25 => ?_) (fun h25 => ?_)
      · refine ZV_iload_n dX7_isText_62 rfl ?_
        refine ZV_zret dX7_isText_63 rfl (by first | exact Or.inl rfl | exact Or.inr rfl | assumption | omega) ?_
        exact h 1 (Or.inl ⟨rfl, hlen, hq⟩)
      · omega
    · intro q hq ih z hz hp9
      have a1 : I r (p + 1 + q) = kch κ q := hK.2 q (by omega)
      obtain ⟨b1, b2, b3⟩ := t3 q hq
      have kr : -9 ≤ kch κ q ∧ kch κ q ≤ 200 := by
        have a1 := nlen_rng (khd κ)
        have a2 := klet_rng κ
        have a3 := dgz_rng (khd κ) (q : Int)
        unfold kch codeAt
        repeat' split
        all_goals omega
      refine ZV_iload dX7_isText_19 rfl ?_
      refine ZV_aload_n dX7_isText_21 rfl ?_
      refine ZV_getI fX7_isText_122 dX7_isText_22 (by assumption) rfl ?_
      rw [t1]
      refine ZV_icmp_ge (tgt := 62) dX7_isText_25 (by decide) ⟨by omega, by omega⟩ ⟨by omega, by omega⟩ (fun h25 => ?_) (fun h25 => ?_)
      · omega
      · refine ZV_iload_n dX7_isText_28 rfl ?_
        refine ZV_if_eq (tgt := 62) dX7_isText_29 (by decide) ⟨by omega, by omega⟩ (fun h29 => ?_) (fun h29 => ?_)
        · omega
        · refine ZV_aload_n dX7_isText_32 rfl ?_
          refine ZV_iload_n dX7_isText_33 rfl ?_
          refine ZV_iconst dX7_isText_34 ?_
          refine ZV_iadd dX7_isText_35 ?_
          refine ZV_iload dX7_isText_36 rfl ?_
          refine ZV_iadd dX7_isText_38 ?_
          refine ZV_iald (p + 1 + q) dX7_isText_39 (by assumption) (by first | rfl | omega) (by omega) (by omega) ?_
          refine ZV_aload_n dX7_isText_40 rfl ?_
          refine ZV_getR fX7_isText_7 dX7_isText_41 (by assumption) rfl (by assumption) ?_
          refine ZV_iload dX7_isText_44 rfl ?_
          refine ZV_iald (q) dX7_isText_46 (by assumption) (by first | rfl | omega) (by omega) (by omega) ?_
          rw [a1, b1]
          refine ZV_icmp_ne (tgt := 54) dX7_isText_47 (by decide) ⟨by omega, by omega⟩ ⟨by omega, by omega⟩ (fun h47 => ?_) (fun h47 => ?_)
          · refine ZV_iconst dX7_isText_54 ?_
            refine ZV_istore3 dX7_isText_55 rfl (by decide) ?_
            refine ZV_jinc4 dX7_isText_56 rfl (by decide) ?_
            refine ZV_goto (tgt := 19) dX7_isText_59 (by decide) ?_
            exact stop0 _ ⟨by omega, by omega⟩ (fun e => by have := e.2 q hq; omega)
          · refine ZV_iconst dX7_isText_50 ?_
            refine ZV_goto (tgt := 55) dX7_isText_51 (by decide) ?_
            refine ZV_istore3 dX7_isText_55 rfl (by decide) ?_
            refine ZV_jinc4 dX7_isText_56 rfl (by decide) ?_
            refine ZV_goto (tgt := 19) dX7_isText_59 (by decide) ?_
            exact ih _ (by omega) (fun j hj => by
              by_cases e : j = q
              · rw [e]; omega
              · exact hp9 j (by omega))
  refine ZV_aload_n dX7_isText_0 rfl ?_
  refine ZV_iload_n dX7_isText_1 rfl ?_
  refine ZV_iald (p) dX7_isText_2 (by assumption) (by first | rfl | omega) (by omega) (by omega) ?_
  rw [hK.1]
  refine ZV_aload_n dX7_isText_3 rfl ?_
  refine ZV_getI fX7_isText_122 dX7_isText_4 (by assumption) rfl ?_
  rw [t1]
  refine ZV_icmp_ne (tgt := 14) dX7_isText_7 (by decide) ⟨by omega, by omega⟩ ⟨by omega, by omega⟩ (fun h7 => ?_) (fun h7 => ?_)
  · refine ZV_iconst dX7_isText_14 ?_
    refine ZV_istore3 dX7_isText_15 rfl (by decide) ?_
    refine ZV_iconst dX7_isText_16 ?_
    refine ZV_istore4 dX7_isText_17 rfl (by decide) ?_
    exact stop0 _ ⟨by decide, by decide⟩ (fun e => by have := e.1; omega)
  · refine ZV_iconst dX7_isText_10 ?_
    refine ZV_goto (tgt := 15) dX7_isText_11 (by decide) ?_
    refine ZV_istore3 dX7_isText_15 rfl (by decide) ?_
    refine ZV_iconst dX7_isText_16 ?_
    refine ZV_istore4 dX7_isText_17 rfl (by decide) ?_
    exact key (by omega) 0 (by omega) _ rfl (fun j hj => absurd hj (Nat.not_lt_zero j))
theorem sp_X7_holder {m r k : Nat} {A : ASt} (hL : ML X g m) (hr : r = m + 3 ∨ r = m + 4) (hR : MR (I r) A) (hG : GoodSt A) (hLd : Laid I m A) (hk : k < aPn A) (h : post (.inl (some (vi (holdK (keyOf A) (aN A) (aPk A k))))) g I J) : ZV X E_X7_holder 0 [some (.ref m), some (.ref r), some (vi (k : Int)), none] [] b g I J post := by
  obtain ⟨l0, ⟨p1, p2, p3, p4, p5, p6, p7⟩, ⟨l1, l2, l3, l4, l5, l6⟩, ⟨j1, j2, j3, j4, j5, j6, j7⟩, ⟨k1, k2, k3, k4, k5, k6⟩⟩ := id hL
  have hrk : ksh X g r = some (.inr (0, 980)) := by rcases hr with e | e <;> rw [e] <;> assumption
  have h16 := hG.1.1
  have hp16 := hG.1.2.1
  have r0 := hR.1.1
  obtain ⟨kp, ko⟩ := hR.2.2 k hk
  have wp := (hG.2.2 k hk).1
  have lp := wp.len
  have kp0 : I r (756 + 14 * k) = klen (aPk A k) := kp.1
  unfold holdK at h
  refine ZV_iconst dX7_holder_0 ?_
  refine ZV_istore3 dX7_holder_1 rfl (by decide) ?_
  have key : ∀ q : Nat, q ≤ aN A → ∀ z : Int, z = (q : Int) → zfst (fun i => if keyOf A i = aPk A k then 1 else 0) q = -9 → ZV X E_X7_holder 2 [some (.ref m), some (.ref r), some (vi (k : Int)), some (vi z)] [] b g I J post := by
    refine loop_up (aN A) ?_ ?_
    · intro z hz hc
      rw [hc] at h
      refine ZV_iload_n dX7_holder_2 rfl ?_
      refine ZV_aload_n dX7_holder_3 rfl ?_
      refine ZV_iconst dX7_holder_4 ?_
      refine ZV_iald (0) dX7_holder_5 (by assumption) (by first | rfl | omega) (by omega) (by omega) ?_
      rw [r0]
      refine ZV_icmp_ge (tgt := 62) dX7_holder_6 (by decide) ⟨by omega, by omega⟩ ⟨by omega, by omega⟩ (fun h6 => ?_) (fun h6 => ?_)
      · refine ZV_bipush dX7_holder_62 (by decide) ?_
        refine ZV_iret dX7_holder_64 rfl ?_
        exact h
      · omega
    · intro q hq ih z hz hc
      subst hz
      obtain ⟨v1, -⟩ := hLd q hq
      have wq := keyOf_KWF hG hq
      have lq := wq.len
      have v10 : I (m + 8) (14 * q) = klen (keyOf A q) := v1.1
      refine ZV_iload_n dX7_holder_2 rfl ?_
      refine ZV_aload_n dX7_holder_3 rfl ?_
      refine ZV_iconst dX7_holder_4 ?_
      refine ZV_iald (0) dX7_holder_5 (by assumption) (by first | rfl | omega) (by omega) (by omega) ?_
      rw [r0]
      refine ZV_icmp_ge (tgt := 62) dX7_holder_6 (by decide) ⟨by omega, by omega⟩ ⟨by omega, by omega⟩ (fun h6 => ?_) (fun h6 => ?_)
      · omega
      · refine ZV_aload_n dX7_holder_9 rfl ?_
        refine ZV_getR fX7_holder_32 dX7_holder_10 (by assumption) rfl (by assumption) ?_
        refine ZV_bipush dX7_holder_13 (by decide) ?_
        refine ZV_iload_n dX7_holder_15 rfl ?_
        refine ZV_imul dX7_holder_16 ?_
        refine ZV_iald (14 * q) dX7_holder_17 (by assumption) (by first | rfl | omega) (by omega) (by omega) ?_
        rw [v10]
        refine ZV_aload_n dX7_holder_18 rfl ?_
        refine ZV_sipush dX7_holder_19 (by decide) ?_
        refine ZV_bipush dX7_holder_22 (by decide) ?_
        refine ZV_iload_n dX7_holder_24 rfl ?_
        refine ZV_imul dX7_holder_25 ?_
        refine ZV_iadd dX7_holder_26 ?_
        refine ZV_iald (756 + 14 * k) dX7_holder_27 (by assumption) (by first | rfl | omega) (by omega) (by omega) ?_
        rw [kp0]
        refine ZV_icmp_ne (tgt := 56) dX7_holder_28 (by decide) ⟨by omega, by omega⟩ ⟨by omega, by omega⟩ (fun h28 => ?_) (fun h28 => ?_)
        · refine ZV_jinc3 dX7_holder_56 rfl (by decide) ?_
          refine ZV_goto (tgt := 2) dX7_holder_59 (by decide) ?_
          exact ih _ (by omega) (zfst_miss hc (by rw [if_neg (fun e => h28 (by rw [e]))]; decide))
        · refine ZV_aload_n dX7_holder_31 rfl ?_
          refine ZV_getR fX7_holder_32 dX7_holder_32 (by assumption) rfl (by assumption) ?_
          refine ZV_bipush dX7_holder_35 (by decide) ?_
          refine ZV_iload_n dX7_holder_37 rfl ?_
          refine ZV_imul dX7_holder_38 ?_
          rw [show 14 * (q : Int) = ((14 * q : Nat) : Int) by omega]
          refine ZV_aload_n dX7_holder_39 rfl ?_
          refine ZV_sipush dX7_holder_40 (by decide) ?_
          refine ZV_bipush dX7_holder_43 (by decide) ?_
          refine ZV_iload_n dX7_holder_45 rfl ?_
          refine ZV_imul dX7_holder_46 ?_
          refine ZV_iadd dX7_holder_47 ?_
          rw [show 756 + 14 * (k : Int) = ((756 + 14 * k : Nat) : Int) by omega]
          refine cl_X7_areLike kX7_holder_97 rfl dX7_holder_48 (Nat.le_of_ble_eq_true rfl) ?_
          refine sp_X7_areLike k1 hrk (by omega) (by omega) (by omega) (by omega) v1 kp wq wp ?_
          by_cases e : keyOf A q = aPk A k
          · rw [if_pos e]
            rw [zfst_hit hc (if_pos e) hq] at h
            refine ZV_if_eq (tgt := 56) dX7_holder_51 (by decide) ⟨by omega, by omega⟩ (fun h51 => ?_) (fun h51 => ?_)
            · omega
            · refine ZV_iload_n dX7_holder_54 rfl ?_
              refine ZV_iret dX7_holder_55 rfl ?_
              exact h
          · rw [if_neg e]
            refine ZV_if_eq (tgt := 56) dX7_holder_51 (by decide) ⟨by omega, by omega⟩ (fun h51 => ?_) (fun h51 => ?_)
            · refine ZV_jinc3 dX7_holder_56 rfl (by decide) ?_
              refine ZV_goto (tgt := 2) dX7_holder_59 (by decide) ?_
              exact ih _ (by omega) (zfst_miss hc (by rw [if_neg e]; decide))
            · omega
  exact key 0 (by omega) _ rfl rfl
def kndF (A : ASt) (p : Nat) : Int := if holdK (keyOf A) (aN A) (aPk A p) = -9 then 1 else if holdK (keyOf A) (aN A) (aPk A p) = aPo A p then 2 else 0
theorem sp_X7_printedOf {m r : Nat} {A : ASt} {w : Int} (hL : ML X g m) (hr : r = m + 3 ∨ r = m + 4) (hR : MR (I r) A) (hG : GoodSt A) (hw : 0 ≤ w ∧ w ≤ 2) (h : ∀ I', LFr I I' m → Laid I' m A → post (.inl (some (vi (zsum (fun p => if kndF A p = w then 1 else 0) (aPn A))))) g I' J) : ZV X E_X7_printedOf 0 [some (.ref m), some (.ref r), some (vi w), none, none, none, none] [] b g I J post := by
  obtain ⟨l0, ⟨p1, p2, p3, p4, p5, p6, p7⟩, ⟨l1, l2, l3, l4, l5, l6⟩, ⟨j1, j2, j3, j4, j5, j6, j7⟩, ⟨k1, k2, k3, k4, k5, k6⟩⟩ := id hL
  have hrk : ksh X g r = some (.inr (0, 980)) := by rcases hr with e | e <;> rw [e] <;> assumption
  have h16 := hG.1.1
  have hp16 := hG.1.2.1
  refine ZV_aload_n dX7_printedOf_0 rfl ?_
  refine ZV_aload_n dX7_printedOf_1 rfl ?_
  refine ZV_aload_n dX7_printedOf_2 rfl ?_
  refine ZV_iconst dX7_printedOf_3 ?_
  refine ZV_iald (1) dX7_printedOf_4 (by assumption) (by first | rfl | omega) (by omega) (by omega) ?_
  rw [hR.1.2.1]
  refine cl_X7_lay kX7_printedOf_108 rfl dX7_printedOf_5 (by assumption) (Nat.le_of_ble_eq_true rfl) ?_
  refine sp_X7_lay hL hr hR hG hG.1.2.2.1 ?_
  intro I' hF hLd
  have hLd2 : Laid I' m A := hLd
  have h := h I' hF hLd2
  have rr : I' r = I r := hF r (by omega) (by omega) (by omega) (by omega) (by omega)
  have r3 : I' r 3 = (aPn A : Int) := by rw [rr]; exact hR.1.2.2.2
  have hR' : MR (I' r) A := by rw [rr]; exact hR
  have key : ∀ q : Nat, q ≤ aPn A → ∀ (c z : Int) (o5 o6 : Option Value), z = (q : Int) → c = zsum (fun p => if kndF A p = w then 1 else 0) q → ZV X E_X7_printedOf 13 [some (.ref m), some (.ref r), some (vi w), some (vi c), some (vi z), o5, o6] [] b g I' J post := by
    refine loop_up (aPn A) ?_ ?_
    · intro c z o5 o6 hz hc
      refine ZV_iload dX7_printedOf_13 rfl ?_
      refine ZV_aload_n dX7_printedOf_15 rfl ?_
      refine ZV_iconst dX7_printedOf_16 ?_
      refine ZV_iald (3) dX7_printedOf_17 (by assumption) (by first | rfl | omega) (by omega) (by omega) ?_
      rw [r3]
      refine ZV_icmp_ge (tgt := 87) dX7_printedOf_18 (by decide) ⟨by omega, by omega⟩ ⟨by omega, by omega⟩ (fun h18 => ?_) (fun h18 => ?_)
      · refine ZV_iload_n dX7_printedOf_87 rfl ?_
        refine ZV_iret dX7_printedOf_88 rfl ?_
        rw [hc]; exact h
      · omega
    · intro q hq ih c z o5 o6 hz hc
      subst hz
      have hh := zfst_rng (fun i => if keyOf A i = aPk A q then 1 else 0) (aN A)
      have hh2 : holdK (keyOf A) (aN A) (aPk A q) = zfst (fun i => if keyOf A i = aPk A q then 1 else 0) (aN A) := rfl
      obtain ⟨o1, o2⟩ := (hG.pr q hq).2
      have ho := (hR'.2.2 q hq).2
      have es : zsum (fun p => if kndF A p = w then 1 else 0) (q + 1) = c + if kndF A q = w then 1 else 0 := by simp only [zsum]; rw [hc]
      have fin : ∀ x : Int, x = kndF A q → ZV X E_X7_printedOf 65 [some (.ref m), some (.ref r), some (vi w), some (vi c), some (vi (q : Int)), some (vi (holdK (keyOf A) (aN A) (aPk A q))), o6] [vi x] b g I' J post := by
        intro x hx
        have hx3 : 0 ≤ x ∧ x ≤ 2 := by
          rw [hx]; unfold kndF
          repeat' split
          all_goals omega
        refine ZV_istore6 dX7_printedOf_65 rfl (by decide) ?_
        refine ZV_iload_n dX7_printedOf_67 rfl ?_
        refine ZV_iload dX7_printedOf_68 rfl ?_
        refine ZV_iload_n dX7_printedOf_70 rfl ?_
        refine ZV_icmp_ne (tgt := 78) dX7_printedOf_71 (by decide) ⟨by omega, by omega⟩ ⟨by omega, by omega⟩ (fun h71 => ?_) (fun h71 => ?_)
        · refine ZV_iconst dX7_printedOf_78 ?_
          refine ZV_iadd dX7_printedOf_79 ?_
          refine ZV_istore3 dX7_printedOf_80 rfl (by decide) ?_
          refine ZV_jinc4 dX7_printedOf_81 rfl (by decide) ?_
          refine ZV_goto (tgt := 13) dX7_printedOf_84 (by decide) ?_
          exact ih _ _ _ _ (by omega) (by rw [es, if_neg (by omega)])
        · refine ZV_iconst dX7_printedOf_74 ?_
          refine ZV_goto (tgt := 79) dX7_printedOf_75 (by decide) ?_
          refine ZV_iadd dX7_printedOf_79 ?_
          refine ZV_istore3 dX7_printedOf_80 rfl (by decide) ?_
          refine ZV_jinc4 dX7_printedOf_81 rfl (by decide) ?_
          refine ZV_goto (tgt := 13) dX7_printedOf_84 (by decide) ?_
          exact ih _ _ _ _ (by omega) (by rw [es, if_pos (by omega)])
      refine ZV_iload dX7_printedOf_13 rfl ?_
      refine ZV_aload_n dX7_printedOf_15 rfl ?_
      refine ZV_iconst dX7_printedOf_16 ?_
      refine ZV_iald (3) dX7_printedOf_17 (by assumption) (by first | rfl | omega) (by omega) (by omega) ?_
      rw [r3]
      refine ZV_icmp_ge (tgt := 87) dX7_printedOf_18 (by decide) ⟨by omega, by omega⟩ ⟨by omega, by omega⟩ (fun h18 => ?_) (fun h18 => ?_)
      · omega
      · refine ZV_aload_n dX7_printedOf_21 rfl ?_
        refine ZV_aload_n dX7_printedOf_22 rfl ?_
        refine ZV_iload dX7_printedOf_23 rfl ?_
        refine cl_X7_holder kX7_printedOf_112 rfl dX7_printedOf_25 (by assumption) (Nat.le_of_ble_eq_true rfl) ?_
        refine sp_X7_holder hL hr hR' hG hLd2 hq ?_
        refine ZV_istore5 dX7_printedOf_28 rfl (by decide) ?_
        refine ZV_iload dX7_printedOf_30 rfl ?_
        refine ZV_bipush dX7_printedOf_32 (by decide) ?_
        refine ZV_icmp_ne (tgt := 41) dX7_printedOf_34 (by decide) ⟨by omega, by omega⟩ ⟨by omega, by omega⟩ (fun h34 => ?_) (fun h34 => ?_)
        · refine ZV_iload dX7_printedOf_41 rfl ?_
          refine ZV_aload_n dX7_printedOf_43 rfl ?_
          refine ZV_sipush dX7_printedOf_44 (by decide) ?_
          refine ZV_bipush dX7_printedOf_47 (by decide) ?_
          refine ZV_iload dX7_printedOf_49 rfl ?_
          refine ZV_imul dX7_printedOf_51 ?_
          refine ZV_iadd dX7_printedOf_52 ?_
          refine ZV_bipush dX7_printedOf_53 (by decide) ?_
          refine ZV_iadd dX7_printedOf_55 ?_
          refine ZV_iald (756 + 14 * q + 13) dX7_printedOf_56 (by assumption) (by first | rfl | omega) (by omega) (by omega) ?_
          rw [ho]
          refine ZV_icmp_ne (tgt := 64) dX7_printedOf_57 (by decide) ⟨by omega, by omega⟩ ⟨by omega, by omega⟩ (fun h57 => ?_) (fun h57 => ?_)
          · refine ZV_iconst dX7_printedOf_64 ?_
            exact fin _ (by unfold kndF; rw [if_neg (by omega), if_neg (by omega)])
          · refine ZV_iconst dX7_printedOf_60 ?_
            refine ZV_goto (tgt := 65) dX7_printedOf_61 (by decide) ?_
            exact fin _ (by unfold kndF; rw [if_neg (by omega), if_pos (by omega)])
        · refine ZV_iconst dX7_printedOf_37 ?_
          refine ZV_goto (tgt := 65) dX7_printedOf_38 (by decide) ?_
          exact fin _ (by unfold kndF; rw [if_pos (by omega)])
  refine ZV_iconst dX7_printedOf_8 ?_
  refine ZV_istore3 dX7_printedOf_9 rfl (by decide) ?_
  refine ZV_iconst dX7_printedOf_10 ?_
  refine ZV_istore4 dX7_printedOf_11 rfl (by decide) ?_
  exact key 0 (by omega) _ _ _ _ rfl rfl
end ZM5

