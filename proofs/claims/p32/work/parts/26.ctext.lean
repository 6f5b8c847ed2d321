/-! CitationKeys: the methods on the text -/
/-- what a call leaves outside its object -/
def CFr (g g' : Geo) (I I' J J' : Mm) (c : Nat) : Prop := g'.1 = g.1 ∧ ∀ q, q < c ∨ c + 726 ≤ q → g'.2.1 q = g.2.1 q ∧ I' q = I q ∧ J' q = J q
theorem CInv.text {X : Xt} {g : Geo} {I I' J J' : Mm} {c : Nat} {Q : AC} {T : Nat × (Nat → Int)} (h : CInv X g I J c Q) (hr : ∀ q, c + 36 ≤ q → q < c + 726 → I' q = I q ∧ J' q = J q) (hT : CTx I' c T) : CInv X g I' J' c (T, Q.2) := by
  obtain ⟨hL, hg, -, hN, hH, hV⟩ := h
  exact ⟨hL, hg, hT, hN.rw' hL.2.2.1 rfl (fun q h1 h2 => hr q (by omega) (by omega)), hH.rw' hL (fun _ _ _ => rfl) (fun q h1 h2 => hr q (by omega) (by omega)), hV.rw' hL (fun _ _ _ => rfl) (fun q h1 h2 => hr q (by omega) (by omega))⟩
def txAdd (T : Nat × (Nat → Int)) (z : Int) : Nat × (Nat → Int) := (T.1 + 1, fun p => if p = T.1 then z else T.2 p)
section ZC2
variable {X : Xt} {g : Geo} {I J : Mm} {b : Nat × Nat} {post : Out → Geo → Mm → Mm → Prop}
theorem sp_X6_append {c : Nat} {z : Int} {Q : AC} (hC : CInv X g I J c Q) (hz : r32 z) (hb : 1 ≤ b.1 ∧ 6 ≤ b.2) (hx1 : ¬ (0 ≤ z ∧ z ≤ 255) → post (.inr zIAE) g I J) (hx2 : (0 ≤ z ∧ z ≤ 255) → 100 ≤ Q.1.1 → post (.inr zISE) g I J) (hx3 : (0 ≤ z ∧ z ≤ 255) → Q.1.1 < 100 → ∀ I' J', CFr g g I I' J J' c → CInv X g I' J' c (txAdd Q.1 z, Q.2) → post (.inl (some (vi ((Q.1.1 : Int) + 1)))) g I' J') : ZV X E_X6_append 0 [some (.ref c), some (vi z)] [] b g I J post := by
  have hC' := hC
  obtain ⟨hL, hg, hT, -⟩ := hC
  obtain ⟨⟨l0, l1, l2, l3, l4, l5, l6, l7⟩, lT, -⟩ := hL
  have lt := lT.1.1
  obtain ⟨t1, t2, t3⟩ := hT
  obtain ⟨z1, z2⟩ := hz
  refine ZV_iload_n dX6_append_0 rfl ?_
  refine ZV_if_lt (tgt := 11) dX6_append_1 (by decide) ⟨by omega, by omega⟩ (fun h1 => ?_) (fun h1 => ?_)
  · refine ZV_throw tX6_append_11 rfl dX6_append_11 dX6_append_14 dX6_append_15 dX6_append_17 dX6_append_20 ⟨by decide, by decide⟩ hb (by assumption) ?_
    exact hx1 (by omega)
  · refine ZV_iload_n dX6_append_4 rfl ?_
    refine ZV_sipush dX6_append_5 (by decide) ?_
    refine ZV_icmp_le (tgt := 21) dX6_append_8 (by decide) ⟨by omega, by omega⟩ ⟨by omega, by omega⟩ (fun h8 => ?_) (fun h8 => ?_)
    · refine ZV_aload_n dX6_append_21 rfl ?_
      refine ZV_getR fX6_append_10 dX6_append_22 (by assumption) rfl (by assumption) ?_
      refine ZV_getI fX6_append_55 dX6_append_25 (by assumption) rfl ?_
      rw [t1]
      refine ZV_bipush dX6_append_28 (by decide) ?_
      refine ZV_icmp_lt (tgt := 43) dX6_append_30 (by decide) ⟨by omega, by omega⟩ ⟨by omega, by omega⟩ (fun h30 => ?_) (fun h30 => ?_)
      · refine ZV_aload_n dX6_append_43 rfl ?_
        refine ZV_getR fX6_append_10 dX6_append_44 (by assumption) rfl (by assumption) ?_
        refine ZV_iload_n dX6_append_47 rfl ?_
        refine ZV_i2c dX6_append_48 (by omega) (by omega) ?_
        refine cl_X4_put kX6_append_64 rfl dX6_append_49 (by assumption) (Nat.le_of_ble_eq_true rfl) ?_
        refine sp_X4_put lT t1 (by omega) ⟨by omega, by omega⟩ ?_
        refine ZV_aload_n dX6_append_52 rfl ?_
        refine ZV_getR fX6_append_10 dX6_append_53 (by assumption) rfl (by assumption) ?_
        refine ZV_getI fX6_append_55 dX6_append_56 (by assumption) rfl ?_
        rw [up2_same]
        refine ZV_iret dX6_append_59 rfl ?_
        refine hx3 ⟨by omega, by omega⟩ (by omega) _ _ ⟨rfl, fun q hq => ⟨rfl, ?_, rfl⟩⟩ (hC'.text (fun q q1 q2 => ⟨?_, rfl⟩) ⟨up2_same _ _ _ _, by show Q.1.1 + 1 ≤ 100; omega, fun p hp => ?_⟩)
        · rw [up2_row _ _ (by omega), up2_row _ _ (by omega)]
        · rw [up2_row _ _ (by omega), up2_row _ _ (by omega)]
        · have hp' : p < Q.1.1 + 1 := hp
          show up2 (up2 I (c + 2) Q.1.1 z) (c + 1) 1 _ (c + 2) p = (if p = Q.1.1 then z else Q.1.2 p) ∧ 0 ≤ (if p = Q.1.1 then z else Q.1.2 p) ∧ (if p = Q.1.1 then z else Q.1.2 p) < 256
          rw [up2_a (by omega)]
          by_cases e : p = Q.1.1
          · rw [if_pos e, e, up2_same]
            exact ⟨rfl, by omega, by omega⟩
          · rw [if_neg e, up2_k e]
            exact t3 p (by omega)
      · refine ZV_throw tX6_append_33 rfl dX6_append_33 dX6_append_36 dX6_append_37 dX6_append_39 dX6_append_42 ⟨by decide, by decide⟩ hb (by assumption) ?_
        exact hx2 ⟨by omega, by omega⟩ (by omega)
    · refine ZV_throw tX6_append_11 rfl dX6_append_11 dX6_append_14 dX6_append_15 dX6_append_17 dX6_append_20 ⟨by decide, by decide⟩ hb (by assumption) ?_
      exact hx1 (by omega)
theorem sp_X6_clearText {c : Nat} {Q : AC} (hC : CInv X g I J c Q) (h : ∀ I' J', CFr g g I I' J J' c → CInv X g I' J' c ((0, Q.1.2), Q.2) → post (.inl (some (vi (Q.1.1 : Int)))) g I' J') : ZV X E_X6_clearText 0 [some (.ref c), none] [] b g I J post := by
  have hC' := hC
  obtain ⟨hL, hg, hT, -⟩ := hC
  obtain ⟨⟨l0, l1, l2, l3, l4, l5, l6, l7⟩, lT, -⟩ := hL
  have lt := lT.1.1
  obtain ⟨t1, t2, t3⟩ := hT
  refine ZV_aload_n dX6_clearText_0 rfl ?_
  refine ZV_getR fX6_clearText_10 dX6_clearText_1 (by assumption) rfl (by assumption) ?_
  refine ZV_getI fX6_clearText_55 dX6_clearText_4 (by assumption) rfl ?_
  rw [t1]
  refine ZV_istore1 dX6_clearText_7 rfl (by decide) ?_
  refine ZV_aload_n dX6_clearText_8 rfl ?_
  refine ZV_getR fX6_clearText_10 dX6_clearText_9 (by assumption) rfl (by assumption) ?_
  refine ZV_iconst dX6_clearText_12 ?_
  refine ZV_putI fX6_clearText_55 dX6_clearText_13 (by assumption) rfl ?_
  refine ZV_iload_n dX6_clearText_16 rfl ?_
  refine ZV_iret dX6_clearText_17 rfl ?_
  exact h _ _ ⟨rfl, fun q hq => ⟨rfl, up2_row _ _ (by omega), rfl⟩⟩ (hC'.text (fun q q1 q2 => ⟨up2_row _ _ (by omega), rfl⟩) ⟨up2_same _ _ _ _, by show 0 ≤ 100; omega, fun p hp => absurd hp (Nat.not_lt_zero p)⟩)
theorem CInv.read {c : Nat} {Q : AC} {I' J' : Mm} (hC : CInv X g I J c Q) (hF : ∀ q, q ≠ c + 1 ∧ (q < c + 1 + 3 ∨ c + 1 + 35 ≤ q) → I' q = I q ∧ J' q = J q) (h1 : I' (c + 1) 1 = I (c + 1) 1) : CFr g g I I' J J' c ∧ CInv X g I' J' c Q := by
  refine ⟨⟨rfl, fun q hq => ⟨rfl, hF q (by omega)⟩⟩, hC.text (fun q q1 q2 => hF q (by omega)) ⟨h1.trans hC.2.2.1.1, hC.2.2.1.2.1, fun p hp => ?_⟩⟩
  rw [(hF (c + 2) (by omega)).1]
  exact hC.2.2.1.2.2 p hp
theorem CTx_rdv {c : Nat} {T : Nat × (Nat → Int)} (h : CTx I c T) : ∀ n, n ≤ T.1 → rn (I (c + 2)) n = rn T.2 n := by
  intro n
  induction n with
  | zero => intro _; rfl
  | succ n ih =>
    intro hn
    simp only [rn]
    rw [ih (by omega), (h.2.2 n (by omega)).1]
end ZC2

