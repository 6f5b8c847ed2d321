section ZTx3
variable {X : Xt} {b : Nat × Nat} {g : Geo} {I J : Mm} {post : Out → Geo → Mm → Mm → Prop}
theorem sp_X4_takesTitle {T n : Nat} {tk c : Int} {ws : Nat → AWk} {W : AWk} (hL : TL X g T) (e3 : I T 3 = ((n + 1 : Nat) : Int)) (hn : n < 16) (e4 : I T 4 = 2) (e5 : I T 5 = tk) (ht : 0 ≤ tk ∧ tk ≤ 8) (hws : ∀ k, k < n + 1 → WkAt I J (T + 3 + 2 * k) (ws k)) (hW : ws n = W) (hC : CIn 2 tk W) (hc : 0 ≤ c ∧ c < 256) (h : ∀ r I' J', (∀ q, q ≠ T ∧ (q < T + 3 ∨ T + 35 ≤ q) → I' q = I q ∧ J' q = J q) → I' T 1 = I T 1 → ((r = 1 ∧ ∃ s', stp (n + 1, 2, tk, ws) c = some s' ∧ TxAt I' J' T s') ∨ (r = 0 ∧ stp (n + 1, 2, tk, ws) c = none)) → post (.inl (some (vi r))) g I' J') : ZV X E_X4_takesTitle 0 [some (.ref T), some (.ref (T + 3 + 2 * n)), some (vi c)] [] b g I J post := by
  have hL' := hL
  obtain ⟨⟨l1, l2, l3, l4, l5⟩, l6⟩ := hL
  obtain ⟨m1, m2⟩ := l6 n hn
  obtain ⟨k1, k2, k3⟩ := m2
  have hWn := hws n (by omega)
  rw [hW] at hWn
  obtain ⟨w1, w2, w3, w4⟩ := hWn
  obtain ⟨⟨c1, c2, c3, c4⟩, c5, -, c6, -⟩ := hC
  unfold nmOK at c4
  have est : stp (n + 1, 2, tk, ws) c = if 97 ≤ c ∧ c ≤ 122 then lift (n + 1, 2, tk, ws) (tT tk W c) else if c = 59 ∧ 0 < tk ∧ n + 1 < 16 then some (n + 1 + 1, 0, 0, setW ws (n + 1) wk0) else none := by
    unfold stp
    show (if (2 : Int) = 0 then _ else if (2 : Int) = 1 then _ else if 97 ≤ c ∧ c ≤ 122 then lift (n + 1, 2, tk, ws) (tT tk (ws (n + 1 - 1)) c) else _) = _
    rw [if_neg (show ¬ (2 : Int) = 0 by decide), if_neg (show ¬ (2 : Int) = 1 by decide), Nat.add_sub_cancel, hW]
  rw [est] at h
  refine ZV_iload_n dX4_takesTitle_0 rfl ?_
  refine cl_X4_isLetter kX4_takesTitle_72 rfl dX4_takesTitle_1 (Nat.le_of_ble_eq_true rfl) ?_
  refine sp_X4_isLetter (by omega) ?_
  by_cases hl : 97 ≤ c ∧ c ≤ 122
  · rw [if_pos hl]
    rw [if_pos hl] at h
    unfold tT at h
    refine ZV_if_eq (tgt := 33) dX4_takesTitle_4 (by decide) ⟨by omega, by omega⟩ (fun h4 => ?_) (fun h4 => ?_)
    · omega
    · refine ZV_aload_n dX4_takesTitle_7 rfl ?_
      refine ZV_aload_n dX4_takesTitle_8 rfl ?_
      refine ZV_getJ fX4_takesTitle_91 dX4_takesTitle_9 (by assumption) rfl ?_
      rw [w4]
      refine ZV_aload_n dX4_takesTitle_12 rfl ?_
      refine ZV_getI fX4_takesTitle_49 dX4_takesTitle_13 (by assumption) rfl ?_
      rw [e5]
      refine ZV_iload_n dX4_takesTitle_16 rfl ?_
      refine ZV_bipush dX4_takesTitle_17 (by decide) ?_
      refine ZV_isub dX4_takesTitle_19 ?_
      refine ZV_iconst dX4_takesTitle_20 ?_
      refine ZV_iadd dX4_takesTitle_21 ?_
      refine cl_X2_with kX4_takesTitle_79 rfl dX4_takesTitle_22 (Nat.le_of_ble_eq_true rfl) ?_
      refine sp_X2_with c4.1 ⟨by omega, by omega⟩ ⟨by omega, by omega⟩ ⟨by omega, by omega⟩ (fun q => c6 rfl q.2) ?_
      refine ZV_putJ fX4_takesTitle_91 dX4_takesTitle_25 (by assumption) rfl ?_
      refine ZV_aload_n dX4_takesTitle_28 rfl ?_
      refine cl_X4_countLetter kX4_takesTitle_85 rfl dX4_takesTitle_29 (by assumption) (Nat.le_of_ble_eq_true rfl) ?_
      refine sp_X4_countLetter l1 e5 ht ?_
      refine ZV_zret dX4_takesTitle_32 rfl (by first | exact Or.inl rfl | exact Or.inr rfl | assumption | omega) ?_
      have fr : ∀ v, ∀ q, q ≠ T ∧ (q < T + 3 ∨ T + 35 ≤ q) → up2 I T 5 (tk + 1) q = I q ∧ up2 J (T + 3 + 2 * n) 3 v q = J q := fun v q hq => ⟨up2_row _ _ hq.1, up2_row _ _ (by omega)⟩
      by_cases h8 : tk < 8
      · rw [if_pos (show 0 ≤ tk ∧ tk < 8 from ⟨ht.1, h8⟩), if_pos h8]
        rw [if_pos h8] at h
        refine h _ _ _ (fr _) (by rw [up2_k (by decide)]) (Or.inl ⟨rfl, _, rfl, ?_, ?_, ?_, fun k hk => ?_⟩)
        · rw [up2_k (by decide)]; exact e3
        · rw [up2_k (by decide)]; exact e4
        · rw [up2_same]
        · have hk' : k < n + 1 := hk
          show WkAt _ _ _ (if k = n + 1 - 1 then (W.1, W.2.1, W.2.2.1, addL W.2.2.2 tk c) else ws k)
          by_cases e : k = n
          · rw [if_pos (by omega), e]
            refine ⟨fun a ha => ?_, ?_, ?_, ?_⟩
            · rw [up2_a (by omega)]; exact w1 a ha
            · rw [up2_a (by omega)]; exact w2
            · rw [up2_a (by omega)]; exact w3
            · rw [up2_same]
              show W.2.2.2 + (c - 97 + 1) * 2 ^ (5 * (7 - tk.toNat)) = addL W.2.2.2 tk c
              unfold addL
              rw [show c - 97 + 1 = c - 96 by omega]
          · rw [if_neg (by omega)]
            obtain ⟨v1, v2, v3, v4⟩ := hws k hk'
            refine ⟨fun a ha => ?_, ?_, ?_, ?_⟩
            · rw [up2_a (by omega)]; exact v1 a ha
            · rw [up2_a (by omega)]; exact v2
            · rw [up2_a (by omega)]; exact v3
            · rw [up2_a (by omega)]; exact v4
      · rw [if_neg (show ¬ (0 ≤ tk ∧ tk < 8) by omega), if_neg h8]
        rw [if_neg h8] at h
        exact h _ _ _ (fr _) (by rw [up2_k (by decide)]) (Or.inr ⟨rfl, rfl⟩)
  · rw [if_neg hl]
    rw [if_neg hl] at h
    have no : ¬ (c = 59 ∧ 0 < tk ∧ n + 1 < 16) → post (.inl (some (vi 0))) g I J := fun hne => by
      rw [if_neg hne] at h
      exact h _ _ _ (fun _ _ => ⟨rfl, rfl⟩) rfl (Or.inr ⟨rfl, rfl⟩)
    refine ZV_if_eq (tgt := 33) dX4_takesTitle_4 (by decide) ⟨by omega, by omega⟩ (fun h4 => ?_) (fun h4 => ?_)
    · refine ZV_iload_n dX4_takesTitle_33 rfl ?_
      refine ZV_bipush dX4_takesTitle_34 (by decide) ?_
      refine ZV_icmp_ne (tgt := 57) dX4_takesTitle_36 (by decide) ⟨by omega, by omega⟩ ⟨by omega, by omega⟩ (fun h36 => ?_) (fun h36 => ?_)
      · refine ZV_iconst dX4_takesTitle_57 ?_
        refine ZV_zret dX4_takesTitle_58 rfl (by first | exact Or.inl rfl | exact Or.inr rfl | assumption | omega) ?_
        exact no (by omega)
      · refine ZV_aload_n dX4_takesTitle_39 rfl ?_
        refine ZV_getI fX4_takesTitle_49 dX4_takesTitle_40 (by assumption) rfl ?_
        rw [e5]
        refine ZV_if_le (tgt := 57) dX4_takesTitle_43 (by decide) ⟨by omega, by omega⟩ (fun h43 => ?_) (fun h43 => ?_)
        · refine ZV_iconst dX4_takesTitle_57 ?_
          refine ZV_zret dX4_takesTitle_58 rfl (by first | exact Or.inl rfl | exact Or.inr rfl | assumption | omega) ?_
          exact no (by omega)
        · refine ZV_aload_n dX4_takesTitle_46 rfl ?_
          refine cl_X4_beginWork kX4_takesTitle_38 rfl dX4_takesTitle_47 (by assumption) (Nat.le_of_ble_eq_true rfl) ?_
          refine sp_X4_beginWork (n := n + 1) hL' e3 (by omega) hws ?_
          intro r I' J' hF h1 hr
          rcases hr with ⟨rfl, hr1, hr2⟩ | ⟨rfl, hr1⟩
          · rw [if_pos (by omega)] at h
            refine ZV_if_eq (tgt := 57) dX4_takesTitle_50 (by decide) ⟨by omega, by omega⟩ (fun h50 => ?_) (fun h50 => ?_)
            · omega
            · refine ZV_iconst dX4_takesTitle_53 ?_
              refine ZV_goto (tgt := 58) dX4_takesTitle_54 (by decide) ?_
              refine ZV_zret dX4_takesTitle_58 rfl (by first | exact Or.inl rfl | exact Or.inr rfl | assumption | omega) ?_
              exact h _ _ _ hF h1 (Or.inl ⟨rfl, _, rfl, hr2⟩)
          · rw [if_neg (by omega)] at h
            refine ZV_if_eq (tgt := 57) dX4_takesTitle_50 (by decide) ⟨by omega, by omega⟩ (fun h50 => ?_) (fun h50 => ?_)
            · refine ZV_iconst dX4_takesTitle_57 ?_
              refine ZV_zret dX4_takesTitle_58 rfl (by first | exact Or.inl rfl | exact Or.inr rfl | assumption | omega) ?_
              exact h _ _ _ hF h1 (Or.inr ⟨rfl, rfl⟩)
            · omega
    · omega
end ZTx3

