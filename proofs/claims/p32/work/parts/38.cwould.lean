/-! CitationKeys: what would be -/
def hangN (A : ASt) (i : Nat) : Int := chgN (aTake A i) (fun j => if j < i then keyOf A j else keyOf A (j + 1))
abbrev freeZ (A : ASt) (i : Nat) (y : Int) : Prop := (1000 ≤ y ∧ y ≤ 2999) ∧ zsum (fun j => if j ≠ i ∧ stemOf A j = stm (aW A i) (aS A) y then 1 else 0) (aN A) = 0
def fyAt (A : ASt) (i : Nat) (d : Int) : Int := if freeZ A i ((aW A i).2.2.1 - d) then (aW A i).2.2.1 - d else if freeZ A i ((aW A i).2.2.1 + d) then (aW A i).2.2.1 + d else -9
def fyF (A : ASt) (i : Nat) : Nat → Int
  | 0 => -9
  | n + 1 => if fyF A i n = -9 then fyAt A i n else fyF A i n
theorem fyF_stable {A : ASt} {i m : Nat} (h : fyF A i m ≠ -9) : ∀ n, m ≤ n → fyF A i n = fyF A i m := by
  intro n
  induction n with
  | zero => intro q; rw [show m = 0 by omega]
  | succ n ih =>
    intro q
    by_cases e : m = n + 1
    · rw [e]
    · have := ih (by omega)
      simp only [fyF]
      rw [if_neg (by rw [this]; exact h), this]
theorem fyF_hit {A : ASt} {i q n : Nat} {z : Int} (h : fyF A i q = -9) (hz : fyAt A i q = z) (hz9 : z ≠ -9) (hn : q < n) : fyF A i n = z := by
  have e : fyF A i (q + 1) = z := by simp only [fyF]; rw [if_pos h, hz]
  rw [fyF_stable (m := q + 1) (by rw [e]; exact hz9) n (by omega), e]
def wtF (A : ASt) : Nat → Int × Int
  | 0 => (-9, 0)
  | n + 1 => if (wtF A n).1 = -9 ∨ (wtF A n).2 < hangN A n then ((n : Int), hangN A n) else wtF A n
theorem wtF_rng (A : ASt) : ∀ n, (-9 ≤ (wtF A n).1 ∧ (wtF A n).1 < n) ∧ (0 ≤ (wtF A n).2 ∧ (wtF A n).2 ≤ aN A) := by
  intro n
  induction n with
  | zero => exact ⟨⟨show (-9 : Int) ≤ -9 by decide, show (-9 : Int) < ((0 : Nat) : Int) by decide⟩, show (0 : Int) ≤ 0 by decide, by show (0 : Int) ≤ aN A; omega⟩
  | succ n ih =>
    have h1 := chgN_rng (aTake A n) (fun j => if j < n then keyOf A j else keyOf A (j + 1))
    have h2 : hangN A n = chgN (aTake A n) (fun j => if j < n then keyOf A j else keyOf A (j + 1)) := rfl
    have h3 : ((aN (aTake A n) : Nat) : Int) ≤ aN A := by show ((aN A - 1 : Nat) : Int) ≤ aN A; omega
    simp only [wtF]
    split
    · exact ⟨⟨by show (-9 : Int) ≤ n; omega, by show (n : Int) < ((n + 1 : Nat) : Int); omega⟩, by show 0 ≤ hangN A n; omega, by show hangN A n ≤ aN A; omega⟩
    · omega
def lgst (A : ASt) : Int := zmx (fun i => klen (keyOf A i)) (aN A)
theorem letdN_rng (A : ASt) : 0 ≤ letdN A ∧ letdN A ≤ aN A := zsum_01 (aN A) (fun i _ => by by_cases e : 0 < klet (keyOf A i) <;> simp [e])
theorem lgst_rng (A : ASt) : 0 ≤ lgst A ∧ lgst A ≤ 14 := zmx_rng (by decide) (fun i => klen_rng (keyOf A i)) (aN A)
def bsF (A : ASt) : Nat → Int × Int × Int
  | 0 => (0, 0, 0)
  | n + 1 => if n = 0 ∨ letdN (aSty A n) < (bsF A n).2.1 ∨ (letdN (aSty A n) = (bsF A n).2.1 ∧ lgst (aSty A n) < (bsF A n).2.2) then ((n : Int), letdN (aSty A n), lgst (aSty A n)) else bsF A n
theorem bsF_rng (A : ASt) : ∀ n, (0 ≤ (bsF A n).1 ∧ (bsF A n).1 ≤ n) ∧ (0 ≤ (bsF A n).2.1 ∧ (bsF A n).2.1 ≤ aN A) ∧ (0 ≤ (bsF A n).2.2 ∧ (bsF A n).2.2 ≤ 14) := by
  intro n
  induction n with
  | zero => exact ⟨⟨show (0 : Int) ≤ 0 by decide, show (0 : Int) ≤ ((0 : Nat) : Int) by decide⟩, ⟨show (0 : Int) ≤ 0 by decide, by show (0 : Int) ≤ aN A; omega⟩, show (0 : Int) ≤ 0 by decide, show (0 : Int) ≤ 14 by decide⟩
  | succ n ih =>
    have h1 := letdN_rng (aSty A n)
    have h2 := lgst_rng (aSty A n)
    have h3 : ((aN (aSty A n) : Nat) : Int) = aN A := rfl
    simp only [bsF]
    split
    · exact ⟨⟨by show (0 : Int) ≤ n; omega, by show (n : Int) ≤ ((n + 1 : Nat) : Int); omega⟩, ⟨by show 0 ≤ letdN (aSty A n); omega, by show letdN (aSty A n) ≤ aN A; omega⟩, h2⟩
    · omega
section ZA5
variable {X : Xt} {g : Geo} {I J : Mm} {b : Nat × Nat} {post : Out → Geo → Mm → Mm → Prop}
theorem sp_X6_keysHangingOn {c n : Nat} {Q : AC} (hC : CInv X g I J c Q) (hn : n < aN Q.2.1) (h : ∀ g' I' J', CFr g g' I I' J J' c → CInv X g' I' J' c Q → post (.inl (some (vi (hangN Q.2.1 n)))) g' I' J') : ZV X E_X6_keysHangingOn 0 [some (.ref c), some (vi (n : Int))] [] b g I J post := by
  obtain ⟨⟨l0, l1, l2, l3, l4, l5, l6, l7⟩, lT, lN, lR, -⟩ := id hC.1
  have lr := lR.1.1
  have hGd := hC.2.2.2.1.2
  have h16 := hGd.1.1
  obtain ⟨⟨hA, hK, hS⟩, -⟩ := hC.2.2.2.1
  refine ZV_aload_n dX6_keysHangingOn_0 rfl ?_
  refine ZV_getR fX6_keysHangingOn_23 dX6_keysHangingOn_1 (by assumption) rfl (by assumption) ?_
  refine ZV_aload_n dX6_keysHangingOn_4 rfl ?_
  refine ZV_getR fX6_keysHangingOn_19 dX6_keysHangingOn_5 (by assumption) rfl (by assumption) ?_
  refine cl_X3_copyFrom kX6_keysHangingOn_254 rfl dX6_keysHangingOn_8 (by assumption) (Nat.le_of_ble_eq_true rfl) ?_
  refine sp_X3_copyFrom lR lN (by omega) hA hGd.1 hK hS ?_
  intro I1 J1 hA1 hK1 hS1 hF1
  refine ZV_aload_n dX6_keysHangingOn_11 rfl ?_
  refine ZV_getR fX6_keysHangingOn_23 dX6_keysHangingOn_12 (by assumption) rfl (by assumption) ?_
  refine ZV_iload_n dX6_keysHangingOn_15 rfl ?_
  refine cl_X3_takeOut kX6_keysHangingOn_219 rfl dX6_keysHangingOn_16 (by assumption) (Nat.le_of_ble_eq_true rfl) ?_
  refine sp_X3_takeOut lR hA1 hGd.1 hK1 (fun p hp => (hGd.pr p hp).2) hn rfl ?_
  intro g2 I2 J2 hgf hS2 hA2 hK2 hF2
  have hL2 : CL X g2 c := hC.1.geo hgf (Or.inr rfl) hS2
  obtain ⟨m0, m1, m2, m3, -⟩ := hL2.1
  have mr := hS2.1.1
  have hg2 := hGd.take hn
  refine ZV_aload_n dX6_keysHangingOn_19 rfl ?_
  refine ZV_getR fX6_keysHangingOn_23 dX6_keysHangingOn_20 (by assumption) rfl (by assumption) ?_
  refine cl_X3_rekey kX6_keysHangingOn_88 rfl dX6_keysHangingOn_23 (by assumption) (Nat.le_of_ble_eq_true rfl) ?_
  refine sp_X3_rekey hS2 hA2 hg2.1 hK2 (fun j hj => ?_) ?_
  · have hj2 : j < aN Q.2.1 - 1 := hj
    show r64 (if j < n then keyOf Q.2.1 j else keyOf Q.2.1 (j + 1))
    split
    · exact (hGd.ky j (by omega)).2
    · exact (hGd.ky (j + 1) (by omega)).2
  · intro J3 a1 a2 a3 a4
    have hF3 : FrO I2 I2 J2 J3 (c + 74) (c + 112) := fun q hq => ⟨rfl, a4 q (by omega)⟩
    have hFF : FrO I I2 J J3 (c + 74) (c + 112) := ((hF1.mono (by omega) (by omega)).tr (hF2.mono (by omega) (by omega))).tr hF3
    have hc1 := chgN_rng (aTake Q.2.1 n) (fun j => if j < n then keyOf Q.2.1 j else keyOf Q.2.1 (j + 1))
    have hc2 : ((aN (aTake Q.2.1 n) : Nat) : Int) ≤ aN Q.2.1 := by show ((aN Q.2.1 - 1 : Nat) : Int) ≤ aN Q.2.1; omega
    have hc3 : hangN Q.2.1 n = zsum (fun i => if keyOf (aTake Q.2.1 n) i = (fun j => if j < n then keyOf Q.2.1 j else keyOf Q.2.1 (j + 1)) i then 0 else 1) (aN (aTake Q.2.1 n)) := rfl
    have hc4 : hangN Q.2.1 n = chgN (aTake Q.2.1 n) (fun j => if j < n then keyOf Q.2.1 j else keyOf Q.2.1 (j + 1)) := rfl
    rw [← hc3]
    refine ZV_iret dX6_keysHangingOn_26 rfl ?_
    exact h _ _ _ (hFF.cfg hgf (by omega) (by omega) (by omega) (by omega)) (hC.trial hgf hS2 hFF)
theorem sp_X6_ifRemoved {c : Nat} {i : Int} {Q : AC} (hC : CInv X g I J c Q) (hi : r32 i) (hb : 1 ≤ b.1 ∧ 6 ≤ b.2) (hx1 : ¬ (0 ≤ i ∧ i < aN Q.2.1) → post (.inr zIOB) g I J) (hx2 : (0 ≤ i ∧ i < aN Q.2.1) → ∀ g' I' J', CFr g g' I I' J J' c → CInv X g' I' J' c Q → post (.inl (some (vi (hangN Q.2.1 i.toNat)))) g' I' J') : ZV X E_X6_ifRemoved 0 [some (.ref c), some (vi i)] [] b g I J post := by
  obtain ⟨⟨l0, l1, l2, l3, l4, l5, l6, l7⟩, -⟩ := id hC.1
  have h16 := hC.2.2.2.1.2.1.1
  refine ZV_aload_n dX6_ifRemoved_0 rfl ?_
  refine ZV_iload_n dX6_ifRemoved_1 rfl ?_
  refine cl_X6_needWork kX6_ifRemoved_120 rfl dX6_ifRemoved_2 (by assumption) ⟨by first | omega | (dsimp only; omega), by first | omega | (dsimp only; omega)⟩ (Nat.le_of_ble_eq_true rfl) ?_
  refine sp_X6_needWork hC hi ⟨by decide, by decide⟩ ?_
  by_cases hi2 : 0 ≤ i ∧ i < aN Q.2.1
  · refine Or.inl ⟨hi2.1, hi2.2, ?_⟩
    obtain ⟨n, rfl⟩ : ∃ n : Nat, i = n := ⟨i.toNat, by omega⟩
    rw [Int.toNat_natCast] at hx2
    refine ZV_aload_n dX6_ifRemoved_5 rfl ?_
    refine ZV_iload_n dX6_ifRemoved_6 rfl ?_
    refine cl_X6_keysHangingOn kX6_ifRemoved_238 rfl dX6_ifRemoved_7 (by assumption) (Nat.le_of_ble_eq_true rfl) ?_
    refine sp_X6_keysHangingOn hC (by omega) ?_
    intro g' I' J' hF hC'
    have hc1 := chgN_rng (aTake Q.2.1 n) (fun j => if j < n then keyOf Q.2.1 j else keyOf Q.2.1 (j + 1))
    have hc2 : ((aN (aTake Q.2.1 n) : Nat) : Int) ≤ aN Q.2.1 := by show ((aN Q.2.1 - 1 : Nat) : Int) ≤ aN Q.2.1; omega
    have hc4 : hangN Q.2.1 n = chgN (aTake Q.2.1 n) (fun j => if j < n then keyOf Q.2.1 j else keyOf Q.2.1 (j + 1)) := rfl
    refine ZV_iret dX6_ifRemoved_10 rfl ?_
    exact hx2 hi2 _ _ _ hF hC'
  · exact Or.inr ⟨hi2, hx1 hi2⟩
theorem sp_X6_weightiest {c : Nat} {Q : AC} (hC : CInv X g I J c Q) (h : ∀ g' I' J', CFr g g' I I' J J' c → CInv X g' I' J' c Q → post (.inl (some (vi (wtF Q.2.1 (aN Q.2.1)).1))) g' I' J') : ZV X E_X6_weightiest 0 [some (.ref c), none, none, none, none] [] b g I J post := by
  have h16 := hC.2.2.2.1.2.1.1
  refine ZV_bipush dX6_weightiest_0 (by decide) ?_
  refine ZV_istore1 dX6_weightiest_2 rfl (by decide) ?_
  refine ZV_iconst dX6_weightiest_3 ?_
  refine ZV_istore2 dX6_weightiest_4 rfl (by decide) ?_
  refine ZV_iconst dX6_weightiest_5 ?_
  refine ZV_istore3 dX6_weightiest_6 rfl (by decide) ?_
  have key : ∀ q : Nat, q ≤ aN Q.2.1 → ∀ (z f m : Int) (o : Option Value) (g' : Geo) (I' J' : Mm), z = (q : Int) → (wtF Q.2.1 q) = (f, m) → CFr g g' I I' J J' c → CInv X g' I' J' c Q → ZV X E_X6_weightiest 7 [some (.ref c), some (vi f), some (vi m), some (vi z), o] [] b g' I' J' post := by
    refine loop_up (aN Q.2.1) ?_ ?_
    · intro z f m o g' I' J' hz hfm hF hC'
      obtain ⟨⟨l0, l1, l2, l3, l4, l5, l6, l7⟩, lT, lN, -⟩ := id hC'.1
      have ln := lN.1.1
      have e1 := hC'.2.2.2.1.1.1.1.1
      have h := h _ _ _ hF hC'
      have hr := wtF_rng Q.2.1 (aN Q.2.1)
      rw [hfm] at h hr
      have hr1 : -9 ≤ f ∧ f < aN Q.2.1 := hr.1
      refine ZV_iload_n dX6_weightiest_7 rfl ?_
      refine ZV_aload_n dX6_weightiest_8 rfl ?_
      refine ZV_getR fX6_weightiest_19 dX6_weightiest_9 (by assumption) rfl (by assumption) ?_
      refine ZV_getI fX6_weightiest_94 dX6_weightiest_12 (by assumption) rfl ?_
      rw [e1]
      refine ZV_icmp_ge (tgt := 48) dX6_weightiest_15 (by decide) ⟨by omega, by omega⟩ ⟨by omega, by omega⟩ (fun h15 => ?_) (fun h15 => ?_)
      · refine ZV_iload_n dX6_weightiest_48 rfl ?_
        refine ZV_iret dX6_weightiest_49 rfl ?_
        exact h
      · omega
    · intro q hq ih z f m o g' I' J' hz hfm hF hC'
      obtain ⟨⟨l0, l1, l2, l3, l4, l5, l6, l7⟩, lT, lN, -⟩ := id hC'.1
      have ln := lN.1.1
      have e1 := hC'.2.2.2.1.1.1.1.1
      have hr := wtF_rng Q.2.1 q
      rw [hfm] at hr
      obtain ⟨⟨r1, r2⟩, r3, r4⟩ : (-9 ≤ f ∧ f < (q : Int)) ∧ (0 ≤ m ∧ m ≤ aN Q.2.1) := hr
      subst hz
      refine ZV_iload_n dX6_weightiest_7 rfl ?_
      refine ZV_aload_n dX6_weightiest_8 rfl ?_
      refine ZV_getR fX6_weightiest_19 dX6_weightiest_9 (by assumption) rfl (by assumption) ?_
      refine ZV_getI fX6_weightiest_94 dX6_weightiest_12 (by assumption) rfl ?_
      rw [e1]
      refine ZV_icmp_ge (tgt := 48) dX6_weightiest_15 (by decide) ⟨by omega, by omega⟩ ⟨by omega, by omega⟩ (fun h15 => ?_) (fun h15 => ?_)
      · omega
      · refine ZV_aload_n dX6_weightiest_18 rfl ?_
        refine ZV_iload_n dX6_weightiest_19 rfl ?_
        refine cl_X6_keysHangingOn kX6_weightiest_238 rfl dX6_weightiest_20 (by assumption) (Nat.le_of_ble_eq_true rfl) ?_
        refine sp_X6_keysHangingOn hC' hq ?_
        intro g2 I2 J2 hF2 hC2
        have hc1 := chgN_rng (aTake Q.2.1 q) (fun j => if j < q then keyOf Q.2.1 j else keyOf Q.2.1 (j + 1))
        have hc2 : ((aN (aTake Q.2.1 q) : Nat) : Int) ≤ aN Q.2.1 := by show ((aN Q.2.1 - 1 : Nat) : Int) ≤ aN Q.2.1; omega
        have hc4 : hangN Q.2.1 q = chgN (aTake Q.2.1 q) (fun j => if j < q then keyOf Q.2.1 j else keyOf Q.2.1 (j + 1)) := rfl
        refine ZV_istore4 dX6_weightiest_23 rfl (by decide) ?_
        refine ZV_iload_n dX6_weightiest_25 rfl ?_
        refine ZV_bipush dX6_weightiest_26 (by decide) ?_
        refine ZV_icmp_eq (tgt := 37) dX6_weightiest_28 (by decide) ⟨by omega, by omega⟩ ⟨by omega, by omega⟩ (fun h28 => ?_) (fun h28 => ?_)
        · refine ZV_iload_n dX6_weightiest_37 rfl ?_
          refine ZV_istore1 dX6_weightiest_38 rfl (by decide) ?_
          refine ZV_iload dX6_weightiest_39 rfl ?_
          refine ZV_istore2 dX6_weightiest_41 rfl (by decide) ?_
          refine ZV_jinc3 dX6_weightiest_42 rfl (by decide) ?_
          refine ZV_goto (tgt := 7) dX6_weightiest_45 (by decide) ?_
          exact ih _ _ _ _ _ _ _ (by omega) (by simp only [wtF]; rw [hfm, if_pos (Or.inl h28)]) (hF.tr hF2) hC2
        · refine ZV_iload dX6_weightiest_31 rfl ?_
          refine ZV_iload_n dX6_weightiest_33 rfl ?_
          refine ZV_icmp_le (tgt := 42) dX6_weightiest_34 (by decide) ⟨by omega, by omega⟩ ⟨by omega, by omega⟩ (fun h34 => ?_) (fun h34 => ?_)
          · refine ZV_jinc3 dX6_weightiest_42 rfl (by decide) ?_
            refine ZV_goto (tgt := 7) dX6_weightiest_45 (by decide) ?_
            exact ih _ _ _ _ _ _ _ (by omega) (by simp only [wtF]; rw [hfm, if_neg (fun e => by rcases e with e | e; exact absurd e h28; exact absurd e (by show ¬ m < hangN Q.2.1 q; omega))]) (hF.tr hF2) hC2
          · refine ZV_iload_n dX6_weightiest_37 rfl ?_
            refine ZV_istore1 dX6_weightiest_38 rfl (by decide) ?_
            refine ZV_iload dX6_weightiest_39 rfl ?_
            refine ZV_istore2 dX6_weightiest_41 rfl (by decide) ?_
            refine ZV_jinc3 dX6_weightiest_42 rfl (by decide) ?_
            refine ZV_goto (tgt := 7) dX6_weightiest_45 (by decide) ?_
            exact ih _ _ _ _ _ _ _ (by omega) (by simp only [wtF]; rw [hfm, if_pos (Or.inr (by show m < hangN Q.2.1 q; omega))]) (hF.tr hF2) hC2
  exact key 0 (by omega) _ _ _ _ _ _ _ rfl rfl (CFr.rf g I J c) hC
theorem sp_X6_freeYear {c : Nat} {i : Int} {Q : AC} (hC : CInv X g I J c Q) (hi : r32 i) (hb : 1 ≤ b.1 ∧ 6 ≤ b.2) (hx1 : ¬ (0 ≤ i ∧ i < aN Q.2.1) → post (.inr zIOB) g I J) (hx2 : (0 ≤ i ∧ i < aN Q.2.1) → post (.inl (some (vi (fyF Q.2.1 i.toNat 2000)))) g I J) : ZV X E_X6_freeYear 0 [some (.ref c), some (vi i), none, none] [] b g I J post := by
  obtain ⟨⟨l0, l1, l2, l3, l4, l5, l6, l7⟩, lT, lN, -⟩ := id hC.1
  obtain ⟨⟨s1, s2, s3, s4, s5, s6⟩, ⟨s7, s8, s9, s10, s11⟩, -⟩ := id lN
  have hGd := hC.2.2.2.1.2
  have hO := hGd.1
  have h16 := hO.1
  obtain ⟨⟨hA, hK, hS⟩, -⟩ := id hC.2.2.2.1
  refine ZV_aload_n dX6_freeYear_0 rfl ?_
  refine ZV_iload_n dX6_freeYear_1 rfl ?_
  refine cl_X6_needWork kX6_freeYear_120 rfl dX6_freeYear_2 (by assumption) ⟨by first | omega | (dsimp only; omega), by first | omega | (dsimp only; omega)⟩ (Nat.le_of_ble_eq_true rfl) ?_
  refine sp_X6_needWork hC hi ⟨by decide, by decide⟩ ?_
  by_cases hi2 : 0 ≤ i ∧ i < aN Q.2.1
  · refine Or.inl ⟨hi2.1, hi2.2, ?_⟩
    obtain ⟨n, rfl⟩ : ∃ n : Nat, i = n := ⟨i.toNat, by omega⟩
    have hn : n < aN Q.2.1 := by omega
    rw [Int.toNat_natCast] at hx2
    obtain ⟨w1, w2, w3⟩ := SL_sw lN (i := n) (by omega)
    have wk := w2.1
    have wn := hA.2.1 n hn
    have hyr := (hGd.2.1 n hn).2.2.2.1
    have hSr : ∀ j, j < aN Q.2.1 → r64 (stemOf Q.2.1 j) := fun j hj => by have := stemOf_rng hO hj; exact ⟨by omega, by omega⟩
    obtain ⟨y, hy⟩ : ∃ y, y = (aW Q.2.1 n).2.2.1 := ⟨_, rfl⟩
    rw [← hy] at hyr
    refine ZV_aload_n dX6_freeYear_5 rfl ?_
    refine ZV_getR fX6_freeYear_19 dX6_freeYear_6 (by assumption) rfl (by assumption) ?_
    refine ZV_getR fX6_freeYear_124 dX6_freeYear_9 (by assumption) rfl (by assumption) ?_
    refine ZV_iload_n dX6_freeYear_12 rfl ?_
    first | refine ZV_aaldW (n) dX6_freeYear_13 (by assumption) (by first | rfl | omega) (by omega) (by omega) (by assumption) ?_ | refine ZV_aaldS (n) dX6_freeYear_13 (by assumption) (by first | rfl | omega) (by omega) (by omega) (by assumption) ?_
    refine ZV_getI fX6_freeYear_125 dX6_freeYear_14 (by assumption) rfl ?_
    rw [wn.2.2.1, ← hy]
    refine ZV_istore2 dX6_freeYear_17 rfl (by decide) ?_
    refine ZV_iconst dX6_freeYear_18 ?_
    refine ZV_istore3 dX6_freeYear_19 rfl (by decide) ?_
    have key : ∀ q : Nat, q ≤ 2000 → ∀ z : Int, z = (q : Int) → fyF Q.2.1 n q = -9 → ZV X E_X6_freeYear 20 [some (.ref c), some (vi (n : Int)), some (vi y), some (vi z)] [] (b.1 - 1, b.2 - 6) g I J post := by
      refine loop_up 2000 ?_ ?_
      · intro z hz hf
        have h := hx2 hi2
        rw [hf] at h
        refine ZV_iload_n dX6_freeYear_20 rfl ?_
        refine ZV_sipush dX6_freeYear_21 (by decide) ?_
        refine ZV_icmp_gt (tgt := 87) dX6_freeYear_24 (by decide) ⟨by omega, by omega⟩ ⟨by omega, by omega⟩ (fun h24 => ?_) (fun h24 => ?_)
        · refine ZV_bipush dX6_freeYear_87 (by decide) ?_
          refine ZV_iret dX6_freeYear_89 rfl ?_
          exact h
        · omega
      · intro q hq ih z hz hf
        subst hz
        have next : fyAt Q.2.1 n q = -9 → ZV X E_X6_freeYear 81 [some (.ref c), some (vi (n : Int)), some (vi y), some (vi (q : Int))] [] (b.1 - 1, b.2 - 6) g I J post := by
          intro e
          refine ZV_jinc3 dX6_freeYear_81 rfl (by decide) ?_
          refine ZV_goto (tgt := 20) dX6_freeYear_84 (by decide) ?_
          exact ih _ (by omega) (by simp only [fyF]; rw [if_pos hf, e])
        have second : ¬ freeZ Q.2.1 n (y - q) → ZV X E_X6_freeYear 54 [some (.ref c), some (vi (n : Int)), some (vi y), some (vi (q : Int))] [] (b.1 - 1, b.2 - 6) g I J post := by
          intro e0
          have e1 : fyAt Q.2.1 n q = if freeZ Q.2.1 n (y + q) then y + q else -9 := by unfold fyAt; rw [← hy, if_neg e0]
          refine ZV_iload_n dX6_freeYear_54 rfl ?_
          refine ZV_iload_n dX6_freeYear_55 rfl ?_
          refine ZV_iadd dX6_freeYear_56 ?_
          refine cl_X6_isYear kX6_freeYear_213 rfl dX6_freeYear_57 (Nat.le_of_ble_eq_true rfl) ?_
          refine sp_X6_isYear ⟨by omega, by omega⟩ ?_
          by_cases e2 : 1000 ≤ y + (q : Int) ∧ y + (q : Int) ≤ 2999
          · rw [if_pos e2]
            refine ZV_if_eq (tgt := 81) dX6_freeYear_60 (by decide) ⟨by omega, by omega⟩ (fun h60 => ?_) (fun h60 => ?_)
            · omega
            · refine ZV_aload_n dX6_freeYear_63 rfl ?_
              refine ZV_getR fX6_freeYear_19 dX6_freeYear_64 (by assumption) rfl (by assumption) ?_
              refine ZV_iload_n dX6_freeYear_67 rfl ?_
              refine ZV_iload_n dX6_freeYear_68 rfl ?_
              refine ZV_iload_n dX6_freeYear_69 rfl ?_
              refine ZV_iadd dX6_freeYear_70 ?_
              refine cl_X3_isFree kX6_freeYear_241 rfl dX6_freeYear_71 (by assumption) (Nat.le_of_ble_eq_true rfl) ?_
              refine sp_X3_isFree lN hA hO hS hSr hn rfl ⟨by omega, by omega⟩ ?_
              by_cases e3 : zsum (fun j => if j ≠ n ∧ stemOf Q.2.1 j = stm (aW Q.2.1 n) (aS Q.2.1) (y + q) then 1 else 0) (aN Q.2.1) = 0
              · rw [if_pos e3]
                have h := hx2 hi2
                rw [fyF_hit (z := y + q) hf (by rw [e1]; exact if_pos ⟨e2, e3⟩) (by omega) hq] at h
                refine ZV_if_eq (tgt := 81) dX6_freeYear_74 (by decide) ⟨by omega, by omega⟩ (fun h74 => ?_) (fun h74 => ?_)
                · omega
                · refine ZV_iload_n dX6_freeYear_77 rfl ?_
                  refine ZV_iload_n dX6_freeYear_78 rfl ?_
                  refine ZV_iadd dX6_freeYear_79 ?_
                  refine ZV_iret dX6_freeYear_80 rfl ?_
                  exact h
              · rw [if_neg e3]
                refine ZV_if_eq (tgt := 81) dX6_freeYear_74 (by decide) ⟨by omega, by omega⟩ (fun h74 => ?_) (fun h74 => ?_)
                · exact next (by rw [e1]; exact if_neg (fun e => e3 e.2))
                · omega
          · rw [if_neg e2]
            refine ZV_if_eq (tgt := 81) dX6_freeYear_60 (by decide) ⟨by omega, by omega⟩ (fun h60 => ?_) (fun h60 => ?_)
            · exact next (by rw [e1]; exact if_neg (fun e => e2 e.1))
            · omega
        refine ZV_iload_n dX6_freeYear_20 rfl ?_
        refine ZV_sipush dX6_freeYear_21 (by decide) ?_
        refine ZV_icmp_gt (tgt := 87) dX6_freeYear_24 (by decide) ⟨by omega, by omega⟩ ⟨by omega, by omega⟩ (fun h24 => ?_) (fun h24 => ?_)
        · omega
        · refine ZV_iload_n dX6_freeYear_27 rfl ?_
          refine ZV_iload_n dX6_freeYear_28 rfl ?_
          refine ZV_isub dX6_freeYear_29 ?_
          refine cl_X6_isYear kX6_freeYear_213 rfl dX6_freeYear_30 (Nat.le_of_ble_eq_true rfl) ?_
          refine sp_X6_isYear ⟨by omega, by omega⟩ ?_
          by_cases e2 : 1000 ≤ y - (q : Int) ∧ y - (q : Int) ≤ 2999
          · rw [if_pos e2]
            refine ZV_if_eq (tgt := 54) dX6_freeYear_33 (by decide) ⟨by omega, by omega⟩ (fun h33 => ?_) (fun h33 => ?_)
            · omega
            · refine ZV_aload_n dX6_freeYear_36 rfl ?_
              refine ZV_getR fX6_freeYear_19 dX6_freeYear_37 (by assumption) rfl (by assumption) ?_
              refine ZV_iload_n dX6_freeYear_40 rfl ?_
              refine ZV_iload_n dX6_freeYear_41 rfl ?_
              refine ZV_iload_n dX6_freeYear_42 rfl ?_
              refine ZV_isub dX6_freeYear_43 ?_
              refine cl_X3_isFree kX6_freeYear_241 rfl dX6_freeYear_44 (by assumption) (Nat.le_of_ble_eq_true rfl) ?_
              refine sp_X3_isFree lN hA hO hS hSr hn rfl ⟨by omega, by omega⟩ ?_
              by_cases e3 : zsum (fun j => if j ≠ n ∧ stemOf Q.2.1 j = stm (aW Q.2.1 n) (aS Q.2.1) (y - q) then 1 else 0) (aN Q.2.1) = 0
              · rw [if_pos e3]
                have h := hx2 hi2
                rw [fyF_hit (z := y - q) hf (by unfold fyAt; rw [← hy]; exact if_pos ⟨e2, e3⟩) (by omega) hq] at h
                refine ZV_if_eq (tgt := 54) dX6_freeYear_47 (by decide) ⟨by omega, by omega⟩ (fun h47 => ?_) (fun h47 => ?_)
                · omega
                · refine ZV_iload_n dX6_freeYear_50 rfl ?_
                  refine ZV_iload_n dX6_freeYear_51 rfl ?_
                  refine ZV_isub dX6_freeYear_52 ?_
                  refine ZV_iret dX6_freeYear_53 rfl ?_
                  exact h
              · rw [if_neg e3]
                refine ZV_if_eq (tgt := 54) dX6_freeYear_47 (by decide) ⟨by omega, by omega⟩ (fun h47 => ?_) (fun h47 => ?_)
                · exact second (fun e => e3 e.2)
                · omega
          · rw [if_neg e2]
            refine ZV_if_eq (tgt := 54) dX6_freeYear_33 (by decide) ⟨by omega, by omega⟩ (fun h33 => ?_) (fun h33 => ?_)
            · exact second (fun e => e2 e.1)
            · omega
    exact key 0 (by omega) _ rfl rfl
  · exact Or.inr ⟨hi2, hx1 hi2⟩
end ZA5

