/-! the law tells a work as a text; it draws a number; it asks whether a number is in a range -/
section ZL5
variable {X : Xt} {g : Geo} {I J : Mm} {b : Nat × Nat} {post : Out → Geo → Mm → Mm → Prop}
theorem sp_L_draw {z : Int} (hz : 0 ≤ z ∧ z ≤ 1000) (hl : X.2.2.2.2.2.1 ≤ 260) (h : ∀ w : Int, (0 ≤ w ∧ w ≤ 2147483647) → post (.inl (some (vi w))) g I J) : ZV X E_L_draw 0 [some (.ref X.2.2.2.2.1), some (vi z)] [] b g I J post := by
  obtain ⟨z1, z2⟩ := hz
  have p20 : ∀ v : Int, ZV X E_L_draw 20 [some (.ref X.2.2.2.2.1), some (vi z)] [vi v] b g I J post := by
    intro v
    refine ZV_ldc (z := 2147483647) dL_draw_20 lL_draw_8 ?_
    refine ZV_iand dL_draw_22 31 (by decide) (by decide) ?_
    refine ZV_iret dL_draw_23 rfl ?_
    exact h _ ⟨by omega, by omega⟩
  refine ZV_iload_n dL_draw_0 rfl ?_
  refine ZV_aload_n dL_draw_1 rfl ?_
  refine ZV_slen dL_draw_2 ?_
  refine ZV_icmp_ge (tgt := 12) dL_draw_3 (by decide) ⟨by omega, by omega⟩ ⟨by omega, by omega⟩ (fun h3 => ?_) (fun h3 => ?_)
  · refine ZV_ldc (z := 15593323) dL_draw_12 lL_draw_7 ?_
    refine ZV_iload_n dL_draw_14 rfl ?_
    refine ZV_imul dL_draw_15 ?_
    refine ZV_sipush dL_draw_16 (by decide) ?_
    refine ZV_iadd dL_draw_19 ?_
    exact p20 _
  · refine ZV_aload_n dL_draw_6 rfl ?_
    refine ZV_iload_n dL_draw_7 rfl ?_
    refine ZV_sld (z.toNat) dL_draw_8 (by omega) (by omega) (by omega) ?_
    refine ZV_goto (tgt := 20) dL_draw_9 (by decide) ?_
    exact p20 _
theorem sp_L_in {v l m : Int} (hv : r64 v) (hl : r64 l) (hm : r64 m) (h : post (.inl (some (vi (if l ≤ v ∧ v ≤ m then 1 else 0)))) g I J) : ZV X E_L_in 0 [some (vl v), none, some (vl l), none, some (vl m), none] [] b g I J post := by
  obtain ⟨v1, v2⟩ := hv
  obtain ⟨l1, l2⟩ := hl
  obtain ⟨m1, m2⟩ := hm
  refine ZV_lload_n dL_in_0 rfl ?_
  refine ZV_lload_n dL_in_1 rfl ?_
  refine ZV_lif_lt (tgt := 17) dL_in_2 dL_in_3 (by decide) ⟨by omega, by omega⟩ ⟨by omega, by omega⟩ (fun h2 => ?_) (fun h2 => ?_)
  · refine ZV_iconst dL_in_17 ?_
    refine ZV_zret dL_in_18 rfl (by first | exact Or.inl rfl | exact Or.inr rfl | assumption | omega) ?_
    rw [if_neg (by omega)] at h
    exact h
  · refine ZV_lload_n dL_in_6 rfl ?_
    refine ZV_lload dL_in_7 rfl ?_
    refine ZV_lif_gt (tgt := 17) dL_in_9 dL_in_10 (by decide) ⟨by omega, by omega⟩ ⟨by omega, by omega⟩ (fun h9 => ?_) (fun h9 => ?_)
    · refine ZV_iconst dL_in_17 ?_
      refine ZV_zret dL_in_18 rfl (by first | exact Or.inl rfl | exact Or.inr rfl | assumption | omega) ?_
      rw [if_neg (by omega)] at h
      exact h
    · refine ZV_iconst dL_in_13 ?_
      refine ZV_goto (tgt := 18) dL_in_14 (by decide) ?_
      refine ZV_zret dL_in_18 rfl (by first | exact Or.inl rfl | exact Or.inr rfl | assumption | omega) ?_
      rw [if_pos (by omega)] at h
      exact h
theorem sp_L_name {c : Nat} {x : Int} {Q : AC} (hC : CInv X g I J c Q) (hx : 0 ≤ x ∧ x ≤ 2147483647) (hT : Q.1.1 + 8 ≤ 100) (hb : 8 ≤ b.1 ∧ 48 ≤ b.2) (h : ∀ g' I' J', CFr g g' I I' J J' c → CInv X g' I' J' c (nmX x Q.1, Q.2) → post (.inl (some (vi 1))) g' I' J') : ZV X E_L_name 0 [some (.ref c), some (vi x), none, none, none] [] b g I J post := by
  obtain ⟨x1, x2⟩ := hx
  have m4 : x.tmod 4 = x % 4 := Int.tmod_eq_emod_of_nonneg x1
  have d4 : x.tdiv 4 = x / 4 := Int.tdiv_eq_ediv_of_nonneg x1
  have m8 : (x / 4).tmod 8 = x / 4 % 8 := Int.tmod_eq_emod_of_nonneg (by omega)
  have m2 : (x / 4).tmod 2 = x / 4 % 2 := Int.tmod_eq_emod_of_nonneg (by omega)
  have d32 : x.tdiv 32 = x / 32 := Int.tdiv_eq_ediv_of_nonneg x1
  have nr := nmn_rng x
  have key : ∀ k : Nat, k ≤ nmn x → ∀ (z n : Int) (g1 : Geo) (I1 J1 : Mm) (b' : Nat × Nat), z = (k : Int) → n = (nmn x : Int) → CFr g g1 I I1 J J1 c → CInv X g1 I1 J1 c (nmT x Q.1 k, Q.2) → nmn x - k ≤ b'.1 → 6 * (nmn x - k) ≤ b'.2 → ZV X E_L_name 30 [some (.ref c), some (vi x), some (vi n), some (vi 1), some (vi z)] [] b' g1 I1 J1 post := by
    refine loop_up (nmn x) ?_ ?_
    · intro z n g1 I1 J1 b' hz hn hF1 hC1 hb1 hb2
      refine ZV_iload dL_name_30 rfl ?_
      refine ZV_iload_n dL_name_32 rfl ?_
      refine ZV_icmp_ge (tgt := 73) dL_name_33 (by decide) ⟨by omega, by omega⟩ ⟨by omega, by omega⟩ (fun h33 => ?_) (fun h33 => ?_)
      · refine ZV_iload_n dL_name_73 rfl ?_
        refine ZV_zret dL_name_74 rfl (by first | exact Or.inl rfl | exact Or.inr rfl | assumption | omega) ?_
        exact h g1 I1 J1 hF1 hC1
      · omega
    · intro k hk ih z n g1 I1 J1 b' hz hn hF1 hC1 hb1 hb2
      have tl := nmT_len x Q.1 k
      have cr := nmc_rng x k
      have e0 : 97 + x / 32 / 2 ^ k % (2 : Int) ^ 1 = nmc x k := by
        show 97 + x / 32 / 2 ^ k % (2 : Int) ^ 1 = 97 + x / 32 / 2 ^ k % 2
        rw [show (2 : Int) ^ 1 = 2 from rfl]
      have e1 : apL (nmT x Q.1 k) (nmc x k) = (((nmT x Q.1 k).1 : Int) + 1, txAdd (nmT x Q.1 k) (nmc x k)) := (if_pos ⟨by omega, by omega⟩).trans (if_pos (by omega))
      refine ZV_iload dL_name_30 rfl ?_
      refine ZV_iload_n dL_name_32 rfl ?_
      refine ZV_icmp_ge (tgt := 73) dL_name_33 (by decide) ⟨by omega, by omega⟩ ⟨by omega, by omega⟩ (fun h33 => ?_) (fun h33 => ?_)
      · omega
      · refine ZV_iload_n dL_name_36 rfl ?_
        refine ZV_one_eq (tgt := 73) dL_name_37 (by decide) ?_
        refine ZV_aload_n dL_name_40 rfl ?_
        refine ZV_bipush dL_name_41 (by decide) ?_
        refine ZV_iload_n dL_name_43 rfl ?_
        refine ZV_bipush dL_name_44 (by decide) ?_
        refine ZV_idiv dL_name_46 ⟨by omega, by omega⟩ ⟨by omega, by omega⟩ (by omega) ?_
        rw [d32]
        refine ZV_iload dL_name_47 rfl ?_
        refine ZV_ishr dL_name_49 (k) (by omega) (by omega) ⟨by omega, by omega⟩ (by omega) ?_
        refine ZV_iconst dL_name_50 ?_
        refine ZV_iand dL_name_51 1 (by decide) (by decide) ?_
        refine ZV_iadd dL_name_52 ?_
        rw [e0]
        refine cl_L_append kL_name_156 rfl dL_name_53 ⟨by first | omega | (dsimp only; omega), by first | omega | (dsimp only; omega)⟩ (Nat.le_of_ble_eq_true rfl) ?_
        refine sp_L_append hC1 ⟨by omega, by omega⟩ ⟨by decide, by decide⟩ ?_
        intro g2 I2 J2 hF2 hC2
        rw [e1] at hC2 ⊢
        refine ZV_lconst (z := 0) dL_name_56 (by decide) ?_
        refine ZV_lif_le (tgt := 65) dL_name_57 dL_name_58 (by decide) ⟨by omega, by omega⟩ ⟨by omega, by omega⟩ (fun h57 => ?_) (fun h57 => ?_)
        · omega
        · refine ZV_iconst dL_name_61 ?_
          refine ZV_goto (tgt := 66) dL_name_62 (by decide) ?_
          refine ZV_istore3 dL_name_66 rfl (by decide) ?_
          refine ZV_jinc4 dL_name_67 rfl (by decide) ?_
          refine ZV_goto (tgt := 30) dL_name_70 (by decide) ?_
          exact ih _ _ g2 I2 J2 _ (by omega) hn (hF1.tr hF2) hC2 (by first | omega | (dsimp only; omega)) (by first | omega | (dsimp only; omega))
  have p24 : ∀ n : Int, n = (nmn x : Int) → ZV X E_L_name 24 [some (.ref c), some (vi x), none, none, none] [vi n] b g I J post := by
    intro n hn
    refine ZV_istore2 dL_name_24 rfl (by decide) ?_
    refine ZV_iconst dL_name_25 ?_
    refine ZV_istore3 dL_name_26 rfl (by decide) ?_
    refine ZV_iconst dL_name_27 ?_
    refine ZV_istore4 dL_name_28 rfl (by decide) ?_
    exact key 0 (by omega) _ _ g I J _ rfl hn (CFr.rf g I J c) hC (by omega) (by omega)
  refine ZV_iload_n dL_name_0 rfl ?_
  refine ZV_iconst dL_name_1 ?_
  refine ZV_irem dL_name_2 ⟨by omega, by omega⟩ ⟨by omega, by omega⟩ (by omega) ?_
  rw [m4]
  refine ZV_if_ne (tgt := 17) dL_name_3 (by decide) ⟨by omega, by omega⟩ (fun h3 => ?_) (fun h3 => ?_)
  · refine ZV_iconst dL_name_17 ?_
    refine ZV_iload_n dL_name_18 rfl ?_
    refine ZV_iconst dL_name_19 ?_
    refine ZV_idiv dL_name_20 ⟨by omega, by omega⟩ ⟨by omega, by omega⟩ (by omega) ?_
    rw [d4]
    refine ZV_iconst dL_name_21 ?_
    refine ZV_irem dL_name_22 ⟨by omega, by omega⟩ ⟨by omega, by omega⟩ (by omega) ?_
    rw [m2]
    refine ZV_iadd dL_name_23 ?_
    exact p24 _ (by unfold nmn; rw [if_neg (by assumption)]; omega)
  · refine ZV_iconst dL_name_6 ?_
    refine ZV_iload_n dL_name_7 rfl ?_
    refine ZV_iconst dL_name_8 ?_
    refine ZV_idiv dL_name_9 ⟨by omega, by omega⟩ ⟨by omega, by omega⟩ (by omega) ?_
    rw [d4]
    refine ZV_bipush dL_name_10 (by decide) ?_
    refine ZV_irem dL_name_12 ⟨by omega, by omega⟩ ⟨by omega, by omega⟩ (by omega) ?_
    rw [m8]
    refine ZV_iadd dL_name_13 ?_
    refine ZV_goto (tgt := 24) dL_name_14 (by decide) ?_
    exact p24 _ (by unfold nmn; rw [if_pos (by assumption)]; omega)
theorem sp_L_tells {c : Nat} {x y : Int} {Q : AC} (hC : CInv X g I J c Q) (hx : 0 ≤ x ∧ x ≤ 2147483647) (hy : 0 ≤ y ∧ y ≤ 2147483647) (hT : Q.1.1 + 49 ≤ 100) (hb : 50 ≤ b.1 ∧ 300 ≤ b.2) (h : ∀ g' I' J', CFr g g' I I' J J' c → CInv X g' I' J' c (tlT x y Q.1, Q.2) → post (.inl (some (vi 1))) g' I' J') : ZV X E_L_tells 0 [some (.ref c), some (vi x), some (vi y), none, none, none] [] b g I J post := by
  obtain ⟨x1, x2⟩ := hx
  obtain ⟨y1, y2⟩ := hy
  have tn := tlN_rng x
  have ty := tlY_rng x
  obtain ⟨T1, hT1⟩ : ∃ T1 : Txt, T1 = tlA y Q.1 (tlN x) := ⟨_, rfl⟩
  obtain ⟨T2, hT2⟩ : ∃ T2 : Txt, T2 = txAdd T1 58 := ⟨_, rfl⟩
  have l1 := tlA_len y Q.1 (tlN x)
  rw [← hT1] at l1
  have l2 : T2.1 = T1.1 + 1 := by rw [hT2]; rfl
  have l3 := tlG_len (tlY x) T2
  have hfin : tlT x y Q.1 = nmX (x / 7) (txAdd (tlG (tlY x) T2 4) 58) := by rw [hT2, hT1]; rfl
  have p181 : ∀ (o4 o5 : Option Value) (g1 : Geo) (I1 J1 : Mm) (b' : Nat × Nat), CFr g g1 I I1 J J1 c → CInv X g1 I1 J1 c (tlG (tlY x) T2 4, Q.2) → 9 ≤ b'.1 → 54 ≤ b'.2 → ZV X E_L_tells 181 [some (.ref c), some (vi x), some (vi y), some (vi 1), o4, o5] [] b' g1 I1 J1 post := by
    intro o4 o5 g1 I1 J1 b' hF1 hC1 hb1 hb2
    have l4 := l3 4
    have e1 : apL (tlG (tlY x) T2 4) 58 = (((tlG (tlY x) T2 4).1 : Int) + 1, txAdd (tlG (tlY x) T2 4) 58) := (if_pos ⟨by omega, by omega⟩).trans (if_pos (by omega))
    have d7 : x.tdiv 7 = x / 7 := Int.tdiv_eq_ediv_of_nonneg x1
    have l5 : (txAdd (tlG (tlY x) T2 4) 58).1 = (tlG (tlY x) T2 4).1 + 1 := rfl
    refine ZV_iload_n dL_tells_181 rfl ?_
    refine ZV_one_eq (tgt := 211) dL_tells_182 (by decide) ?_
    refine ZV_aload_n dL_tells_185 rfl ?_
    refine ZV_bipush dL_tells_186 (by decide) ?_
    refine cl_L_append kL_tells_156 rfl dL_tells_188 ⟨by first | omega | (dsimp only; omega), by first | omega | (dsimp only; omega)⟩ (Nat.le_of_ble_eq_true rfl) ?_
    refine sp_L_append hC1 ⟨by omega, by omega⟩ ⟨by decide, by decide⟩ ?_
    intro g2 I2 J2 hF2 hC2
    rw [e1] at hC2 ⊢
    refine ZV_lconst (z := 0) dL_tells_191 (by decide) ?_
    refine ZV_lif_le (tgt := 211) dL_tells_192 dL_tells_193 (by decide) ⟨by omega, by omega⟩ ⟨by omega, by omega⟩ (fun h192 => ?_) (fun h192 => ?_)
    · omega
    · refine ZV_aload_n dL_tells_196 rfl ?_
      refine ZV_iload_n dL_tells_197 rfl ?_
      refine ZV_bipush dL_tells_198 (by decide) ?_
      refine ZV_idiv dL_tells_200 ⟨by omega, by omega⟩ ⟨by omega, by omega⟩ (by omega) ?_
      rw [d7]
      refine cl_L_name kL_tells_219 rfl dL_tells_201 ⟨by first | omega | (dsimp only; omega), by first | omega | (dsimp only; omega)⟩ (Nat.le_of_ble_eq_true rfl) ?_
      refine sp_L_name hC2 ⟨by omega, by omega⟩ (by show (txAdd (tlG (tlY x) T2 4) 58).1 + 8 ≤ 100; omega) ⟨by decide, by decide⟩ ?_
      intro g3 I3 J3 hF3 hC3
      refine ZV_one_eq (tgt := 211) dL_tells_204 (by decide) ?_
      refine ZV_iconst dL_tells_207 ?_
      refine ZV_goto (tgt := 212) dL_tells_208 (by decide) ?_
      refine ZV_zret dL_tells_212 rfl (by first | exact Or.inl rfl | exact Or.inr rfl | assumption | omega) ?_
      refine h g3 I3 J3 ((hF1.tr hF2).tr hF3) ?_
      rw [hfin]
      exact hC3
  have kG : ∀ k : Nat, k ≤ 4 → ∀ (z5 : Int) (g1 : Geo) (I1 J1 : Mm) (b' : Nat × Nat), z5 = tlD k → CFr g g1 I I1 J J1 c → CInv X g1 I1 J1 c (tlG (tlY x) T2 k, Q.2) → (4 - k) + 9 ≤ b'.1 → 6 * ((4 - k) + 9) ≤ b'.2 → ZV X E_L_tells 136 [some (.ref c), some (vi x), some (vi y), some (vi 1), some (vi (tlY x)), some (vi z5)] [] b' g1 I1 J1 post := by
    refine loop_up 4 ?_ ?_
    · intro z5 g1 I1 J1 b' hz hF1 hC1 hb1 hb2
      have d4 : tlD 4 = 0 := by decide
      rw [d4] at hz
      refine ZV_iload dL_tells_136 rfl ?_
      refine ZV_if_le (tgt := 181) dL_tells_138 (by decide) ⟨by omega, by omega⟩ (fun h138 => ?_) (fun h138 => ?_)
      · exact p181 _ _ g1 I1 J1 _ hF1 hC1 (by first | omega | (dsimp only; omega)) (by first | omega | (dsimp only; omega))
      · omega
    · intro k hk ih z5 g1 I1 J1 b' hz hF1 hC1 hb1 hb2
      have dk : (tlD k = 1000 ∨ tlD k = 100 ∨ tlD k = 10 ∨ tlD k = 1) := by
        have hk4 : k = 0 ∨ k = 1 ∨ k = 2 ∨ k = 3 := by omega
        rcases hk4 with rfl | rfl | rfl | rfl <;> decide
      rw [← hz] at dk
      have l4 := l3 k
      have q0 : 0 ≤ tlY x / z5 := Int.ediv_nonneg (by omega) (by omega)
      have q1 : tlY x / z5 ≤ tlY x := Int.ediv_le_self _ (by omega)
      have dv : (tlY x).tdiv z5 = tlY x / z5 := Int.tdiv_eq_ediv_of_nonneg (by omega)
      have dm : (tlY x / z5).tmod 10 = tlY x / z5 % 10 := Int.tmod_eq_emod_of_nonneg q0
      have dd : z5.tdiv 10 = z5 / 10 := Int.tdiv_eq_ediv_of_nonneg (by omega)
      have e1 : apL (tlG (tlY x) T2 k) (48 + tlY x / z5 % 10) = (((tlG (tlY x) T2 k).1 : Int) + 1, txAdd (tlG (tlY x) T2 k) (48 + tlY x / z5 % 10)) := (if_pos ⟨by omega, by omega⟩).trans (if_pos (by omega))
      refine ZV_iload dL_tells_136 rfl ?_
      refine ZV_if_le (tgt := 181) dL_tells_138 (by decide) ⟨by omega, by omega⟩ (fun h138 => ?_) (fun h138 => ?_)
      · omega
      · refine ZV_iload_n dL_tells_141 rfl ?_
        refine ZV_one_eq (tgt := 181) dL_tells_142 (by decide) ?_
        refine ZV_aload_n dL_tells_145 rfl ?_
        refine ZV_bipush dL_tells_146 (by decide) ?_
        refine ZV_iload dL_tells_148 rfl ?_
        refine ZV_iload dL_tells_150 rfl ?_
        refine ZV_idiv dL_tells_152 ⟨by omega, by omega⟩ ⟨by omega, by omega⟩ (by omega) ?_
        rw [dv]
        refine ZV_bipush dL_tells_153 (by decide) ?_
        refine ZV_irem dL_tells_155 ⟨by omega, by omega⟩ ⟨by omega, by omega⟩ (by omega) ?_
        rw [dm]
        refine ZV_iadd dL_tells_156 ?_
        refine cl_L_append kL_tells_156 rfl dL_tells_157 ⟨by first | omega | (dsimp only; omega), by first | omega | (dsimp only; omega)⟩ (Nat.le_of_ble_eq_true rfl) ?_
        refine sp_L_append hC1 ⟨by omega, by omega⟩ ⟨by decide, by decide⟩ ?_
        intro g2 I2 J2 hF2 hC2
        rw [e1] at hC2 ⊢
        refine ZV_lconst (z := 0) dL_tells_160 (by decide) ?_
        refine ZV_lif_le (tgt := 169) dL_tells_161 dL_tells_162 (by decide) ⟨by omega, by omega⟩ ⟨by omega, by omega⟩ (fun h161 => ?_) (fun h161 => ?_)
        · omega
        · refine ZV_iconst dL_tells_165 ?_
          refine ZV_goto (tgt := 170) dL_tells_166 (by decide) ?_
          refine ZV_istore3 dL_tells_170 rfl (by decide) ?_
          refine ZV_iload dL_tells_171 rfl ?_
          refine ZV_bipush dL_tells_173 (by decide) ?_
          refine ZV_idiv dL_tells_175 ⟨by omega, by omega⟩ ⟨by omega, by omega⟩ (by omega) ?_
          rw [dd]
          refine ZV_istore5 dL_tells_176 rfl (by decide) ?_
          refine ZV_goto (tgt := 136) dL_tells_178 (by decide) ?_
          exact ih _ g2 I2 J2 _ (by rw [hz]; rfl) (hF1.tr hF2) (by rw [hz] at hC2; exact hC2) (by first | omega | (dsimp only; omega)) (by first | omega | (dsimp only; omega))
  have p108 : ∀ (yr : Int) (o4 o5 : Option Value) (g1 : Geo) (I1 J1 : Mm) (b' : Nat × Nat), yr = tlY x → CFr g g1 I I1 J J1 c → CInv X g1 I1 J1 c (T1, Q.2) → 14 ≤ b'.1 → 84 ≤ b'.2 → ZV X E_L_tells 108 [some (.ref c), some (vi x), some (vi y), some (vi 1), o4, o5] [vi yr] b' g1 I1 J1 post := by
    intro yr o4 o5 g1 I1 J1 b' hyr hF1 hC1 hb1 hb2
    have e1 : apL T1 58 = ((T1.1 : Int) + 1, txAdd T1 58) := (if_pos ⟨by omega, by omega⟩).trans (if_pos (by omega))
    rw [hyr]
    refine ZV_istore4 dL_tells_108 rfl (by decide) ?_
    refine ZV_iload_n dL_tells_110 rfl ?_
    refine ZV_one_eq (tgt := 129) dL_tells_111 (by decide) ?_
    refine ZV_aload_n dL_tells_114 rfl ?_
    refine ZV_bipush dL_tells_115 (by decide) ?_
    refine cl_L_append kL_tells_156 rfl dL_tells_117 ⟨by first | omega | (dsimp only; omega), by first | omega | (dsimp only; omega)⟩ (Nat.le_of_ble_eq_true rfl) ?_
    refine sp_L_append hC1 ⟨by omega, by omega⟩ ⟨by decide, by decide⟩ ?_
    intro g2 I2 J2 hF2 hC2
    rw [e1, ← hT2] at hC2
    rw [e1]
    refine ZV_lconst (z := 0) dL_tells_120 (by decide) ?_
    refine ZV_lif_le (tgt := 129) dL_tells_121 dL_tells_122 (by decide) ⟨by omega, by omega⟩ ⟨by omega, by omega⟩ (fun h121 => ?_) (fun h121 => ?_)
    · omega
    · refine ZV_iconst dL_tells_125 ?_
      refine ZV_goto (tgt := 130) dL_tells_126 (by decide) ?_
      refine ZV_istore3 dL_tells_130 rfl (by decide) ?_
      refine ZV_sipush dL_tells_131 (by decide) ?_
      refine ZV_istore5 dL_tells_134 rfl (by decide) ?_
      exact kG 0 (by omega) _ g2 I2 J2 _ rfl (hF1.tr hF2) hC2 (by first | omega | (dsimp only; omega)) (by first | omega | (dsimp only; omega))
  have p72 : ∀ (o4 o5 : Option Value) (g1 : Geo) (I1 J1 : Mm) (b' : Nat × Nat), CFr g g1 I I1 J J1 c → CInv X g1 I1 J1 c (T1, Q.2) → 14 ≤ b'.1 → 84 ≤ b'.2 → ZV X E_L_tells 72 [some (.ref c), some (vi x), some (vi y), some (vi 1), o4, o5] [] b' g1 I1 J1 post := by
    intro o4 o5 g1 I1 J1 b' hF1 hC1 hb1 hb2
    have m4 : x.tmod 4 = x % 4 := Int.tmod_eq_emod_of_nonneg x1
    have d4 : x.tdiv 4 = x / 4 := Int.tdiv_eq_ediv_of_nonneg x1
    have mA : (x / 4).tmod 2000 = x / 4 % 2000 := Int.tmod_eq_emod_of_nonneg (by omega)
    have mB : (x / 4).tmod 3 = x / 4 % 3 := Int.tmod_eq_emod_of_nonneg (by omega)
    have m2 : x.tmod 2 = x % 2 := Int.tmod_eq_emod_of_nonneg x1
    refine ZV_iload_n dL_tells_72 rfl ?_
    refine ZV_iconst dL_tells_73 ?_
    refine ZV_irem dL_tells_74 ⟨by omega, by omega⟩ ⟨by omega, by omega⟩ (by omega) ?_
    rw [m4]
    refine ZV_if_ne (tgt := 92) dL_tells_75 (by decide) ⟨by omega, by omega⟩ (fun h75 => ?_) (fun h75 => ?_)
    · refine ZV_sipush dL_tells_92 (by decide) ?_
      refine ZV_iload_n dL_tells_95 rfl ?_
      refine ZV_iconst dL_tells_96 ?_
      refine ZV_idiv dL_tells_97 ⟨by omega, by omega⟩ ⟨by omega, by omega⟩ (by omega) ?_
      rw [d4]
      refine ZV_iconst dL_tells_98 ?_
      refine ZV_irem dL_tells_99 ⟨by omega, by omega⟩ ⟨by omega, by omega⟩ (by omega) ?_
      rw [mB]
      refine ZV_bipush dL_tells_100 (by decide) ?_
      refine ZV_imul dL_tells_102 ?_
      refine ZV_iadd dL_tells_103 ?_
      refine ZV_iload_n dL_tells_104 rfl ?_
      refine ZV_iconst dL_tells_105 ?_
      refine ZV_irem dL_tells_106 ⟨by omega, by omega⟩ ⟨by omega, by omega⟩ (by omega) ?_
      rw [m2]
      refine ZV_iadd dL_tells_107 ?_
      exact p108 _ _ _ g1 I1 J1 _ (by unfold tlY; rw [if_neg (by assumption)]) hF1 hC1 hb1 hb2
    · refine ZV_sipush dL_tells_78 (by decide) ?_
      refine ZV_iload_n dL_tells_81 rfl ?_
      refine ZV_iconst dL_tells_82 ?_
      refine ZV_idiv dL_tells_83 ⟨by omega, by omega⟩ ⟨by omega, by omega⟩ (by omega) ?_
      rw [d4]
      refine ZV_sipush dL_tells_84 (by decide) ?_
      refine ZV_irem dL_tells_87 ⟨by omega, by omega⟩ ⟨by omega, by omega⟩ (by omega) ?_
      rw [mA]
      refine ZV_iadd dL_tells_88 ?_
      refine ZV_goto (tgt := 108) dL_tells_89 (by decide) ?_
      exact p108 _ _ _ g1 I1 J1 _ (by unfold tlY; rw [if_pos (by assumption)]) hF1 hC1 hb1 hb2
  have to9 : ∀ a : Nat, (∀ (z lim : Int) (o5 : Option Value) (g1 : Geo) (I1 J1 : Mm) (b' : Nat × Nat), z = (a : Int) → lim = (tlN x : Int) → CFr g g1 I I1 J J1 c → CInv X g1 I1 J1 c (tlA y Q.1 a, Q.2) → (tlN x - a) * 9 + 14 ≤ b'.1 → 6 * ((tlN x - a) * 9 + 14) ≤ b'.2 → ZV X E_L_tells 26 [some (.ref c), some (vi x), some (vi y), some (vi 1), some (vi z), o5] [vi lim, vi z] b' g1 I1 J1 post) → ∀ (z : Int) (o5 : Option Value) (g1 : Geo) (I1 J1 : Mm) (b' : Nat × Nat), z = (a : Int) → CFr g g1 I I1 J J1 c → CInv X g1 I1 J1 c (tlA y Q.1 a, Q.2) → (tlN x - a) * 9 + 14 ≤ b'.1 → 6 * ((tlN x - a) * 9 + 14) ≤ b'.2 → ZV X E_L_tells 9 [some (.ref c), some (vi x), some (vi y), some (vi 1), some (vi z), o5] [] b' g1 I1 J1 post := by
    intro a hP z o5 g1 I1 J1 b' hz hF1 hC1 hb1 hb2
    have m3 : x.tmod 3 = x % 3 := Int.tmod_eq_emod_of_nonneg x1
    have d3 : x.tdiv 3 = x / 3 := Int.tdiv_eq_ediv_of_nonneg x1
    have mC : (x / 3).tmod 4 = x / 3 % 4 := Int.tmod_eq_emod_of_nonneg (by omega)
    refine ZV_iload dL_tells_9 rfl ?_
    refine ZV_iload_n dL_tells_11 rfl ?_
    refine ZV_iconst dL_tells_12 ?_
    refine ZV_irem dL_tells_13 ⟨by omega, by omega⟩ ⟨by omega, by omega⟩ (by omega) ?_
    rw [m3]
    refine ZV_if_ne (tgt := 25) dL_tells_14 (by decide) ⟨by omega, by omega⟩ (fun h14 => ?_) (fun h14 => ?_)
    · refine ZV_iconst dL_tells_25 ?_
      exact hP _ _ _ g1 I1 J1 _ hz (by unfold tlN; rw [if_neg (by assumption)]; rfl) hF1 hC1 hb1 hb2
    · refine ZV_iload_n dL_tells_17 rfl ?_
      refine ZV_iconst dL_tells_18 ?_
      refine ZV_idiv dL_tells_19 ⟨by omega, by omega⟩ ⟨by omega, by omega⟩ (by omega) ?_
      rw [d3]
      refine ZV_iconst dL_tells_20 ?_
      refine ZV_irem dL_tells_21 ⟨by omega, by omega⟩ ⟨by omega, by omega⟩ (by omega) ?_
      rw [mC]
      refine ZV_goto (tgt := 26) dL_tells_22 (by decide) ?_
      exact hP _ _ _ g1 I1 J1 _ hz (by unfold tlN; rw [if_pos (by assumption)]; omega) hF1 hC1 hb1 hb2
  have kA : ∀ a : Nat, a ≤ tlN x → ∀ (z lim : Int) (o5 : Option Value) (g1 : Geo) (I1 J1 : Mm) (b' : Nat × Nat), z = (a : Int) → lim = (tlN x : Int) → CFr g g1 I I1 J J1 c → CInv X g1 I1 J1 c (tlA y Q.1 a, Q.2) → (tlN x - a) * 9 + 14 ≤ b'.1 → 6 * ((tlN x - a) * 9 + 14) ≤ b'.2 → ZV X E_L_tells 26 [some (.ref c), some (vi x), some (vi y), some (vi 1), some (vi z), o5] [vi lim, vi z] b' g1 I1 J1 post := by
    refine loop_up (tlN x) ?_ ?_
    · intro z lim o5 g1 I1 J1 b' hz hlim hF1 hC1 hb1 hb2
      refine ZV_icmp_ge (tgt := 72) dL_tells_26 (by decide) ⟨by omega, by omega⟩ ⟨by omega, by omega⟩ (fun h26 => ?_) (fun h26 => ?_)
      · exact p72 _ _ g1 I1 J1 _ hF1 (by rw [hT1]; exact hC1) (by first | omega | (dsimp only; omega)) (by first | omega | (dsimp only; omega))
      · omega
    · intro a ha ih z lim o5 g1 I1 J1 b' hz hlim hF1 hC1 hb1 hb2
      have la := tlA_len y Q.1 a
      have lb : (txAdd (tlA y Q.1 a) 44).1 = (tlA y Q.1 a).1 + 1 := rfl
      have e1 : apL (tlA y Q.1 a) 44 = (((tlA y Q.1 a).1 : Int) + 1, txAdd (tlA y Q.1 a) 44) := (if_pos ⟨by omega, by omega⟩).trans (if_pos (by omega))
      have d5 : y.tdiv 5 = y / 5 := Int.tdiv_eq_ediv_of_nonneg y1
      refine ZV_icmp_ge (tgt := 72) dL_tells_26 (by decide) ⟨by omega, by omega⟩ ⟨by omega, by omega⟩ (fun h26 => ?_) (fun h26 => ?_)
      · omega
      · refine ZV_iload_n dL_tells_29 rfl ?_
        refine ZV_one_eq (tgt := 72) dL_tells_30 (by decide) ?_
        refine ZV_aload_n dL_tells_33 rfl ?_
        refine ZV_bipush dL_tells_34 (by decide) ?_
        refine cl_L_append kL_tells_156 rfl dL_tells_36 ⟨by first | omega | (dsimp only; omega), by first | omega | (dsimp only; omega)⟩ (Nat.le_of_ble_eq_true rfl) ?_
        refine sp_L_append hC1 ⟨by omega, by omega⟩ ⟨by decide, by decide⟩ ?_
        intro g2 I2 J2 hF2 hC2
        rw [e1] at hC2 ⊢
        refine ZV_lconst (z := 0) dL_tells_39 (by decide) ?_
        refine ZV_lif_le (tgt := 64) dL_tells_40 dL_tells_41 (by decide) ⟨by omega, by omega⟩ ⟨by omega, by omega⟩ (fun h40 => ?_) (fun h40 => ?_)
        · omega
        · refine ZV_aload_n dL_tells_44 rfl ?_
          refine ZV_iload_n dL_tells_45 rfl ?_
          refine ZV_iconst dL_tells_46 ?_
          refine ZV_idiv dL_tells_47 ⟨by omega, by omega⟩ ⟨by omega, by omega⟩ (by omega) ?_
          rw [d5]
          refine ZV_bipush dL_tells_48 (by decide) ?_
          refine ZV_iload dL_tells_50 rfl ?_
          refine ZV_imul dL_tells_52 ?_
          refine ZV_iadd dL_tells_53 ?_
          refine cl_L_name kL_tells_219 rfl dL_tells_54 ⟨by first | omega | (dsimp only; omega), by first | omega | (dsimp only; omega)⟩ (Nat.le_of_ble_eq_true rfl) ?_
          refine sp_L_name hC2 ⟨by omega, by omega⟩ (by show (txAdd (tlA y Q.1 a) 44).1 + 8 ≤ 100; omega) ⟨by decide, by decide⟩ ?_
          intro g3 I3 J3 hF3 hC3
          refine ZV_one_eq (tgt := 64) dL_tells_57 (by decide) ?_
          refine ZV_iconst dL_tells_60 ?_
          refine ZV_goto (tgt := 65) dL_tells_61 (by decide) ?_
          refine ZV_istore3 dL_tells_65 rfl (by decide) ?_
          refine ZV_jinc4 dL_tells_66 rfl (by decide) ?_
          refine ZV_goto (tgt := 9) dL_tells_69 (by decide) ?_
          exact to9 (a + 1) ih _ _ g3 I3 J3 _ (by omega) ((hF1.tr hF2).tr hF3) (by rw [hz] at hC3; exact hC3) (by first | omega | (dsimp only; omega)) (by first | omega | (dsimp only; omega))
  refine ZV_aload_n dL_tells_0 rfl ?_
  refine ZV_iload_n dL_tells_1 rfl ?_
  refine cl_L_name kL_tells_219 rfl dL_tells_2 ⟨by first | omega | (dsimp only; omega), by first | omega | (dsimp only; omega)⟩ (Nat.le_of_ble_eq_true rfl) ?_
  refine sp_L_name hC ⟨by omega, by omega⟩ (by omega) ⟨by decide, by decide⟩ ?_
  intro g1 I1 J1 hF1 hC1
  refine ZV_istore3 dL_tells_5 rfl (by decide) ?_
  refine ZV_iconst dL_tells_6 ?_
  refine ZV_istore4 dL_tells_7 rfl (by decide) ?_
  exact to9 0 (kA 0 (by omega)) _ _ g1 I1 J1 _ rfl hF1 hC1 (by first | omega | (dsimp only; omega)) (by first | omega | (dsimp only; omega))
end ZL5

