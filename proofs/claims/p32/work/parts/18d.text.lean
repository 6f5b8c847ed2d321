section ZTx2
variable {X : Xt} {b : Nat × Nat} {g : Geo} {I J : Mm} {post : Out → Geo → Mm → Mm → Prop}
theorem sp_X4_beginWork {T n : Nat} {ws : Nat → AWk} (hL : TL X g T) (e3 : I T 3 = (n : Int)) (hn : n ≤ 16) (hws : ∀ k, k < n → WkAt I J (T + 3 + 2 * k) (ws k)) (h : ∀ r I' J', (∀ q, q ≠ T ∧ (q < T + 3 ∨ T + 35 ≤ q) → I' q = I q ∧ J' q = J q) → I' T 1 = I T 1 → ((r = 1 ∧ n < 16 ∧ TxAt I' J' T (n + 1, 0, 0, setW ws n wk0)) ∨ (r = 0 ∧ ¬ n < 16)) → post (.inl (some (vi r))) g I' J') : ZV X E_X4_beginWork 0 [some (.ref T)] [] b g I J post := by
  obtain ⟨⟨l1, l2, l3, l4, l5⟩, l6⟩ := hL
  refine ZV_aload_n dX4_beginWork_0 rfl ?_
  refine ZV_getI fX4_beginWork_35 dX4_beginWork_1 (by assumption) rfl ?_
  rw [e3]
  refine ZV_bipush dX4_beginWork_4 (by decide) ?_
  refine ZV_icmp_lt (tgt := 11) dX4_beginWork_6 (by decide) ⟨by omega, by omega⟩ ⟨by omega, by omega⟩ (fun h6 => ?_) (fun h6 => ?_)
  · obtain ⟨m1, m2⟩ := l6 n (by omega)
    have m3 := m2.1
    refine ZV_aload_n dX4_beginWork_11 rfl ?_
    refine ZV_getR fX4_beginWork_17 dX4_beginWork_12 (by assumption) rfl (by assumption) ?_
    refine ZV_aload_n dX4_beginWork_15 rfl ?_
    refine ZV_getI fX4_beginWork_35 dX4_beginWork_16 (by assumption) rfl ?_
    rw [e3]
    first | refine ZV_aaldW (n) dX4_beginWork_19 (by assumption) (by first | rfl | omega) (by omega) (by omega) (by assumption) ?_ | refine ZV_aaldS (n) dX4_beginWork_19 (by assumption) (by first | rfl | omega) (by omega) (by omega) (by assumption) ?_
    refine cl_X5_empty kX4_beginWork_52 rfl dX4_beginWork_20 (by assumption) (Nat.le_of_ble_eq_true rfl) ?_
    refine sp_X5_empty m2 ?_
    intro I2 J2 hw2 hF
    have f3 : I2 T 3 = (n : Int) := by rw [(hF T (by omega)).1]; exact e3
    refine ZV_aload_n dX4_beginWork_23 rfl ?_
    refine ZV_getR fX4_beginWork_17 dX4_beginWork_24 (by assumption) rfl (by assumption) ?_
    refine ZV_aload_n dX4_beginWork_27 rfl ?_
    refine ZV_getI fX4_beginWork_35 dX4_beginWork_28 (by assumption) rfl ?_
    rw [f3]
    first | refine ZV_aaldW (n) dX4_beginWork_31 (by assumption) (by first | rfl | omega) (by omega) (by omega) (by assumption) ?_ | refine ZV_aaldS (n) dX4_beginWork_31 (by assumption) (by first | rfl | omega) (by omega) (by omega) (by assumption) ?_
    refine ZV_iconst dX4_beginWork_32 ?_
    refine ZV_putI fX4_beginWork_55 dX4_beginWork_33 (by assumption) rfl ?_
    refine ZV_aload_n dX4_beginWork_36 rfl ?_
    refine ZV_dup dX4_beginWork_37 rfl ?_
    refine ZV_getI fX4_beginWork_35 dX4_beginWork_38 (by assumption) rfl ?_
    rw [up2_a (by omega), f3]
    refine ZV_iconst dX4_beginWork_41 ?_
    refine ZV_iadd dX4_beginWork_42 ?_
    refine ZV_putI fX4_beginWork_35 dX4_beginWork_43 (by assumption) rfl ?_
    refine ZV_aload_n dX4_beginWork_46 rfl ?_
    refine ZV_iconst dX4_beginWork_47 ?_
    refine cl_X4_begin kX4_beginWork_58 rfl dX4_beginWork_48 (by assumption) (Nat.le_of_ble_eq_true rfl) ?_
    refine sp_X4_begin l1 ?_
    refine ZV_iconst dX4_beginWork_51 ?_
    refine ZV_zret dX4_beginWork_52 rfl (by first | exact Or.inl rfl | exact Or.inr rfl | assumption | omega) ?_
    refine h _ _ _ (fun q hq => ⟨?_, (hF q (by omega)).2⟩) ?_ (Or.inl ⟨rfl, by omega, ?_, ?_, ?_, fun k hk => ?_⟩)
    · rw [up2_row _ _ hq.1, up2_row _ _ hq.1, up2_row _ _ hq.1, up2_row _ _ (by omega)]; exact (hF q (by omega)).1
    · rw [up2_k (by decide), up2_k (by decide), up2_k (by decide), up2_a (by omega), (hF T (by omega)).1]
    · rw [up2_k (by decide), up2_k (by decide), up2_same]; rfl
    · rw [up2_k (by decide), up2_same]
    · rw [up2_same]
    · have hk' : k < n + 1 := hk
      have tw : ∀ Q, WkAt I2 J2 (T + 3 + 2 * k) Q → k ≠ n → WkAt (up2 (up2 (up2 (up2 I2 (T + 3 + 2 * n) 1 1) T 3 ((n : Int) + 1)) T 4 0) T 5 0) J2 (T + 3 + 2 * k) Q := by
        intro Q ⟨v1, v2, v3, v4⟩ hne
        refine ⟨v1, ?_, ?_, v4⟩
        · rw [up2_a (by omega), up2_a (by omega), up2_a (by omega), up2_a (by omega)]; exact v2
        · rw [up2_a (by omega), up2_a (by omega), up2_a (by omega), up2_a (by omega)]; exact v3
      show WkAt _ _ _ (if k = n then wk0 else ws k)
      by_cases e : k = n
      · rw [if_pos e, e]
        obtain ⟨v1, v2, v3, v4⟩ := hw2
        refine ⟨v1, ?_, ?_, v4⟩
        · rw [up2_a (by omega), up2_a (by omega), up2_a (by omega), up2_same]; rfl
        · rw [up2_a (by omega), up2_a (by omega), up2_a (by omega), up2_k (by decide)]; exact v3
      · rw [if_neg e]
        exact tw _ ((hws k (by omega)).fr hF (by omega)) e
  · refine ZV_iconst dX4_beginWork_9 ?_
    refine ZV_zret dX4_beginWork_10 rfl (by first | exact Or.inl rfl | exact Or.inr rfl | assumption | omega) ?_
    exact h _ _ _ (fun _ _ => ⟨rfl, rfl⟩) rfl (Or.inr ⟨rfl, by omega⟩)
end ZTx2

