/-! CitationKeys$State: whether a year gives a stem that no other work has -/
section ZFr
variable {X : Xt} {b : Nat × Nat} {g : Geo} {I J : Mm} {post : Out → Geo → Mm → Mm → Prop}
theorem zsum_one {f : Nat → Int} (h : ∀ i, f i = 0 ∨ f i = 1) {q : Nat} : ∀ {n : Nat}, q < n → f q ≤ zsum f n := by
  intro n
  induction n with
  | zero => omega
  | succ n ih =>
    intro hq
    have h1 := zsum_01 (f := f) n (fun i _ => h i)
    have h2 := h n
    simp only [zsum]
    by_cases e : q = n
    · subst e; omega
    · have := ih (by omega); omega
theorem sp_X3_isFree {t : Nat} {A : ASt} {S : Nat → Int} {i : Nat} {zi y : Int} (hL : SL X g t) (hA : StAt g I J t A) (hO : StOK A) (hS : SmAt J t (aN A) S) (hSr : ∀ j, j < aN A → r64 (S j)) (hi : i < aN A) (ei : zi = (i : Int)) (hy : 0 ≤ y ∧ y < 4096) (h : post (.inl (some (vi (if zsum (fun j => if j ≠ i ∧ S j = stm (aW A i) (aS A) y then 1 else 0) (aN A) = 0 then 1 else 0)))) g I J) : ZV X E_X3_isFree 0 [some (.ref t), some (vi zi), some (vi y), none, none, none] [] b g I J post := by
  obtain ⟨hn, hpn, hst, hod, hwk⟩ := hO
  obtain ⟨x1, x2, x3⟩ := SL_sw hL (i := i) (by omega)
  obtain ⟨x4, x5, x6⟩ := id x2
  obtain ⟨⟨s1, s2, s3, s4, s5, s6⟩, ⟨s7, s8, s9, s10, s11⟩, -⟩ := hL
  obtain ⟨⟨a1, a2, a3, a4⟩, a5, a6⟩ := hA
  have wi := a5 i hi
  have oi := hwk i hi
  have hm := stm_rng (style := aS A) oi hy
  subst ei
  refine ZV_aload_n dX3_isFree_0 rfl ?_
  refine ZV_getR fX3_isFree_11 dX3_isFree_1 (by assumption) rfl (by assumption) ?_
  refine ZV_iload_n dX3_isFree_4 rfl ?_
  first | refine ZV_aaldW (i) dX3_isFree_5 (by assumption) (by first | rfl | omega) (by omega) (by omega) (by assumption) ?_ | refine ZV_aaldS (i) dX3_isFree_5 (by assumption) (by first | rfl | omega) (by omega) (by omega) (by assumption) ?_
  refine ZV_aload_n dX3_isFree_6 rfl ?_
  refine ZV_getI fX3_isFree_36 dX3_isFree_7 (by assumption) rfl ?_
  refine ZV_iload_n dX3_isFree_10 rfl ?_
  rw [a2]
  refine cl_X5_stem kX3_isFree_60 rfl dX3_isFree_11 (by assumption) (Nat.le_of_ble_eq_true rfl) ?_
  refine sp_X5_stem x2 wi oi ⟨by omega, by omega⟩ hy ?_
  obtain ⟨m, hm'⟩ : ∃ m, m = stm (aW A i) (aS A) y := ⟨_, rfl⟩
  rw [← hm'] at h hm ⊢
  have c1 := zsum_01 (f := fun j => if j ≠ i ∧ S j = m then 1 else 0) (aN A) (fun j _ => by by_cases e : j ≠ i ∧ S j = m <;> simp [e])
  refine ZV_lstore3 dX3_isFree_14 rfl (by decide) ?_
  refine ZV_iconst dX3_isFree_15 ?_
  refine ZV_istore5 dX3_isFree_16 rfl (by decide) ?_
  have key : ∀ q : Nat, q ≤ aN A → ∀ z : Int, z = (q : Int) → zsum (fun j => if j ≠ i ∧ S j = m then 1 else 0) q = 0 → ZV X E_X3_isFree 18 [some (.ref t), some (vi (i : Int)), some (vi y), some (vl m), none, some (vi z)] [] b g I J post := by
    refine loop_up (aN A) ?_ ?_
    · intro z hz hc
      refine ZV_iload dX3_isFree_18 rfl ?_
      refine ZV_aload_n dX3_isFree_20 rfl ?_
      refine ZV_getI fX3_isFree_32 dX3_isFree_21 (by assumption) rfl ?_
      refine ZV_icmp_ge (tgt := 53) dX3_isFree_24 (by decide) ⟨by omega, by omega⟩ ⟨by omega, by omega⟩ (fun h24 => ?_) (fun h24 => ?_)
      · refine ZV_iconst dX3_isFree_53 ?_
        refine ZV_zret dX3_isFree_54 rfl (by first | exact Or.inl rfl | exact Or.inr rfl | assumption | omega) ?_
        rw [if_pos hc] at h
        exact h
      · omega
    · intro q hq ih z hz hc
      have hrq := hSr q hq
      obtain ⟨r3, r4⟩ := hrq
      refine ZV_iload dX3_isFree_18 rfl ?_
      refine ZV_aload_n dX3_isFree_20 rfl ?_
      refine ZV_getI fX3_isFree_32 dX3_isFree_21 (by assumption) rfl ?_
      refine ZV_icmp_ge (tgt := 53) dX3_isFree_24 (by decide) ⟨by omega, by omega⟩ ⟨by omega, by omega⟩ (fun h24 => ?_) (fun h24 => ?_)
      · omega
      · refine ZV_iload dX3_isFree_27 rfl ?_
        refine ZV_iload_n dX3_isFree_29 rfl ?_
        refine ZV_icmp_eq (tgt := 47) dX3_isFree_30 (by decide) ⟨by omega, by omega⟩ ⟨by omega, by omega⟩ (fun h30 => ?_) (fun h30 => ?_)
        · refine ZV_jinc5 dX3_isFree_47 rfl (by decide) ?_
          refine ZV_goto (tgt := 18) dX3_isFree_50 (by decide) ?_
          exact ih _ (by omega) (by simp only [zsum]; rw [if_neg (fun e => e.1 (by omega))]; omega)
        · refine ZV_aload_n dX3_isFree_33 rfl ?_
          refine ZV_getR fX3_isFree_18 dX3_isFree_34 (by assumption) rfl (by assumption) ?_
          refine ZV_iload dX3_isFree_37 rfl ?_
          refine ZV_lald (q) dX3_isFree_39 (by assumption) (by first | rfl | omega) (by omega) (by omega) ?_
          refine ZV_lload_n dX3_isFree_40 rfl ?_
          rw [hS q hq]
          refine ZV_lif_ne (tgt := 47) dX3_isFree_41 dX3_isFree_42 (by decide) ⟨by omega, by omega⟩ ⟨by omega, by omega⟩ (fun h41 => ?_) (fun h41 => ?_)
          · refine ZV_jinc5 dX3_isFree_47 rfl (by decide) ?_
            refine ZV_goto (tgt := 18) dX3_isFree_50 (by decide) ?_
            exact ih _ (by omega) (by simp only [zsum]; rw [if_neg (fun e => h41 e.2)]; omega)
          · have c2 : zsum (fun j => if j ≠ i ∧ S j = m then 1 else 0) (aN A) ≠ 0 := by
              intro e
              have e1 := zsum_one (f := fun j => if j ≠ i ∧ S j = m then 1 else 0) (n := aN A) (q := q) (fun j => by by_cases e : j ≠ i ∧ S j = m <;> simp [e]) hq
              simp only [e] at e1
              rw [if_pos ⟨by omega, h41⟩] at e1
              omega
            rw [if_neg c2] at h
            refine ZV_iconst dX3_isFree_45 ?_
            refine ZV_zret dX3_isFree_46 rfl (by first | exact Or.inl rfl | exact Or.inr rfl | assumption | omega) ?_
            exact h
  exact key 0 (by omega) _ rfl rfl
end ZFr

