/-! CitationKeys$Text: reading -/
def up1 (f : Nat → Int) (k : Nat) (v : Int) : Nat → Int := fun a => if a = k then v else f a
/-- a reading's state: works begun, part, taken, the works -/
abbrev PSt : Type := Nat × Int × Int × (Nat → AWk)
abbrev TStep : Type := Option (Int × Int × AWk)
def addL (v tk c : Int) : Int := v + (c - 96) * 2 ^ (5 * (7 - tk.toNat))
def tA (tk : Int) (W : AWk) (c : Int) : TStep :=
  if 97 ≤ c ∧ c ≤ 122 then (if tk < 8 then some (0, tk + 1, (up1 W.1 (W.2.1 - 1).toNat (addL (W.1 (W.2.1 - 1).toNat) tk c), W.2)) else none)
  else if c = 44 ∧ 0 < tk ∧ W.2.1 < 4 then some (0, 0, (W.1, W.2.1 + 1, W.2.2))
  else if c = 58 ∧ 0 < tk then some (1, 0, W) else none
def tY (tk : Int) (W : AWk) (c : Int) : TStep :=
  if tk = 4 then (if c = 58 then some (2, 0, W) else none)
  else if (tk = 0 ∧ (c = 49 ∨ c = 50)) ∨ (tk ≠ 0 ∧ 48 ≤ c ∧ c ≤ 57) then some (1, tk + 1, (W.1, W.2.1, W.2.2.1 * 10 + c - 48, W.2.2.2)) else none
def tT (tk : Int) (W : AWk) (c : Int) : TStep :=
  if tk < 8 then some (2, tk + 1, (W.1, W.2.1, W.2.2.1, addL W.2.2.2 tk c)) else none
def wk0 : AWk := (fun _ => 0, 1, 0, 0)
def setW (ws : Nat → AWk) (k : Nat) (W : AWk) : Nat → AWk := fun j => if j = k then W else ws j
def lift (s : PSt) (o : TStep) : Option PSt := match o with
  | some q => some (s.1, q.1, q.2.1, setW s.2.2.2 (s.1 - 1) q.2.2)
  | none => none
def stp (s : PSt) (c : Int) : Option PSt :=
  if s.2.1 = 0 then lift s (tA s.2.2.1 (s.2.2.2 (s.1 - 1)) c)
  else if s.2.1 = 1 then lift s (tY s.2.2.1 (s.2.2.2 (s.1 - 1)) c)
  else if 97 ≤ c ∧ c ≤ 122 then lift s (tT s.2.2.1 (s.2.2.2 (s.1 - 1)) c)
  else if c = 59 ∧ 0 < s.2.2.1 ∧ s.1 < 16 then some (s.1 + 1, 0, 0, setW s.2.2.2 s.1 wk0) else none
def ps0 (ws : Nat → AWk) : PSt := (1, 0, 0, setW ws 0 wk0)
/-- the cells of a text from T on -/
def TL (X : Xt) (g : Geo) (T : Nat) : Prop := (ksh X g T = some (.inl 2) ∧ g.2.1 T 0 = some (T + 1) ∧ g.2.1 T 2 = some (T + 2) ∧ ksh X g (T + 1) = some (.inr (2, 100)) ∧ ksh X g (T + 2) = some (.inr (5, 16))) ∧ ∀ k, k < 16 → g.2.1 (T + 2) k = some (T + 3 + 2 * k) ∧ WG X g (T + 3 + 2 * k)
def TxAt (I J : Mm) (T : Nat) (s : PSt) : Prop := I T 3 = (s.1 : Int) ∧ I T 4 = s.2.1 ∧ I T 5 = s.2.2.1 ∧ ∀ k, k < s.1 → WkAt I J (T + 3 + 2 * k) (s.2.2.2 k)
def TF2 (I I' J J' : Mm) (T w : Nat) : Prop := (∀ q, q ≠ T ∧ q ≠ w ∧ q ≠ w + 1 → I' q = I q ∧ J' q = J q) ∧ I' T 1 = I T 1 ∧ I' T 3 = I T 3
def RA (T w : Nat) (o : TStep) (r : Int) (I' J' : Mm) : Prop := (∃ (p t : Int) (W : AWk), o = some (p, t, W) ∧ r = 1 ∧ I' T 4 = p ∧ I' T 5 = t ∧ WkAt I' J' w W) ∨ (o = none ∧ r = 0)
/-- what a reading keeps to -/
def PIn (s : PSt) : Prop := (1 ≤ s.1 ∧ s.1 ≤ 16) ∧ (s.2.1 = 0 ∨ s.2.1 = 1 ∨ s.2.1 = 2) ∧ (0 ≤ s.2.2.1 ∧ s.2.2.1 ≤ 8) ∧ (s.2.1 = 1 → s.2.2.1 ≤ 4)
/-- the work that is being read -/
def CIn (part tk : Int) (W : AWk) : Prop := WkOK W ∧ (1 ≤ W.2.1 ∧ W.2.1 ≤ 4) ∧ (part = 0 → tk < 8 → W.1 (W.2.1 - 1).toNat % 2 ^ (5 * (8 - tk.toNat)) = 0) ∧ (part = 2 → tk < 8 → W.2.2.2 % 2 ^ (5 * (8 - tk.toNat)) = 0) ∧ (part = 1 → tk < 4 → W.2.2.1 ≤ 300)
section ZTx
variable {X : Xt} {b : Nat × Nat} {g : Geo} {I J : Mm} {post : Out → Geo → Mm → Mm → Prop}
theorem sp_X4_isLetter {c : Int} (hc : 0 ≤ c ∧ c < 65536) (h : post (.inl (some (vi (if 97 ≤ c ∧ c ≤ 122 then 1 else 0)))) g I J) : ZV X E_X4_isLetter 0 [some (vi c)] [] b g I J post := by
  refine ZV_iload_n dX4_isLetter_0 rfl ?_
  refine ZV_bipush dX4_isLetter_1 (by decide) ?_
  refine ZV_icmp_lt (tgt := 16) dX4_isLetter_3 (by decide) ⟨by omega, by omega⟩ ⟨by omega, by omega⟩ (fun h3 => ?_) (fun h3 => ?_)
  · refine ZV_iconst dX4_isLetter_16 ?_
    refine ZV_zret dX4_isLetter_17 rfl (by first | exact Or.inl rfl | exact Or.inr rfl | assumption | omega) ?_
    rw [if_neg (by omega)] at h
    exact h
  · refine ZV_iload_n dX4_isLetter_6 rfl ?_
    refine ZV_bipush dX4_isLetter_7 (by decide) ?_
    refine ZV_icmp_gt (tgt := 16) dX4_isLetter_9 (by decide) ⟨by omega, by omega⟩ ⟨by omega, by omega⟩ (fun h9 => ?_) (fun h9 => ?_)
    · refine ZV_iconst dX4_isLetter_16 ?_
      refine ZV_zret dX4_isLetter_17 rfl (by first | exact Or.inl rfl | exact Or.inr rfl | assumption | omega) ?_
      rw [if_neg (by omega)] at h
      exact h
    · refine ZV_iconst dX4_isLetter_12 ?_
      refine ZV_goto (tgt := 17) dX4_isLetter_13 (by decide) ?_
      refine ZV_zret dX4_isLetter_17 rfl (by first | exact Or.inl rfl | exact Or.inr rfl | assumption | omega) ?_
      rw [if_pos (by omega)] at h
      exact h
theorem sp_X4_countLetter {T : Nat} {tk : Int} (hk : ksh X g T = some (.inl 2)) (h5 : I T 5 = tk) (ht : 0 ≤ tk ∧ tk ≤ 8) (h : post (.inl (some (vi (if tk < 8 then 1 else 0)))) g (up2 I T 5 (tk + 1)) J) : ZV X E_X4_countLetter 0 [some (.ref T)] [] b g I J post := by
  refine ZV_aload_n dX4_countLetter_0 rfl ?_
  refine ZV_dup dX4_countLetter_1 rfl ?_
  refine ZV_getI fX4_countLetter_49 dX4_countLetter_2 (by assumption) rfl ?_
  rw [h5]
  refine ZV_iconst dX4_countLetter_5 ?_
  refine ZV_iadd dX4_countLetter_6 ?_
  refine ZV_putI fX4_countLetter_49 dX4_countLetter_7 (by assumption) rfl ?_
  refine ZV_aload_n dX4_countLetter_10 rfl ?_
  refine ZV_getI fX4_countLetter_49 dX4_countLetter_11 (by assumption) rfl ?_
  rw [up2_same]
  refine ZV_bipush dX4_countLetter_14 (by decide) ?_
  refine ZV_icmp_gt (tgt := 23) dX4_countLetter_16 (by decide) ⟨by omega, by omega⟩ ⟨by omega, by omega⟩ (fun h16 => ?_) (fun h16 => ?_)
  · rw [if_neg (by omega)] at h
    refine ZV_iconst dX4_countLetter_23 ?_
    refine ZV_zret dX4_countLetter_24 rfl (by first | exact Or.inl rfl | exact Or.inr rfl | assumption | omega) ?_
    exact h
  · rw [if_pos (by omega)] at h
    refine ZV_iconst dX4_countLetter_19 ?_
    refine ZV_goto (tgt := 24) dX4_countLetter_20 (by decide) ?_
    refine ZV_zret dX4_countLetter_24 rfl (by first | exact Or.inl rfl | exact Or.inr rfl | assumption | omega) ?_
    exact h
theorem sp_X4_begin {T : Nat} {p : Int} (hk : ksh X g T = some (.inl 2)) (h : post (.inl none) g (up2 (up2 I T 4 p) T 5 0) J) : ZV X E_X4_begin 0 [some (.ref T), some (vi p)] [] b g I J post := by
  refine ZV_aload_n dX4_begin_0 rfl ?_
  refine ZV_iload_n dX4_begin_1 rfl ?_
  refine ZV_putI fX4_begin_46 dX4_begin_2 (by assumption) rfl ?_
  refine ZV_aload_n dX4_begin_5 rfl ?_
  refine ZV_iconst dX4_begin_6 ?_
  refine ZV_putI fX4_begin_49 dX4_begin_7 (by assumption) rfl ?_
  refine ZV_vret dX4_begin_10 rfl ?_
  exact h
theorem sp_X4_takesAuthors {T w : Nat} {tk c : Int} {W : AWk} (hk : ksh X g T = some (.inl 2)) (hw : WG X g w) (hd : w ≠ T ∧ w + 1 ≠ T) (h4 : I T 4 = 0) (h5 : I T 5 = tk) (ht : 0 ≤ tk ∧ tk ≤ 8) (hW : WkAt I J w W) (hC : CIn 0 tk W) (hc : 0 ≤ c ∧ c < 256) (h : ∀ r I' J', TF2 I I' J J' T w → RA T w (tA tk W c) r I' J' → post (.inl (some (vi r))) g I' J') : ZV X E_X4_takesAuthors 0 [some (.ref T), some (.ref w), some (vi c), none] [] b g I J post := by
  have hw' := hw
  obtain ⟨k1, k2, k3⟩ := hw
  obtain ⟨w1, w2, w3, w4⟩ := hW
  obtain ⟨⟨c1, c2, c3, c4⟩, c5, c6, -⟩ := hC
  have hn : ∃ n : Nat, W.2.1 - 1 = (n : Int) ∧ n < 4 := ⟨(W.2.1 - 1).toNat, by omega, by omega⟩
  obtain ⟨n, hn1, hn2⟩ := hn
  have hnT : (W.2.1 - 1).toNat = n := by omega
  have hau := c1 n hn2
  unfold nmOK at hau
  rw [hnT] at c6
  unfold tA at h
  rw [hnT] at h
  have tail : ∀ o, ¬ (97 ≤ c ∧ c ≤ 122) → ZV X E_X4_takesAuthors 53 [some (.ref T), some (.ref w), some (vi c), o] [] b g I J post := by
    intro o hnl
    rw [if_neg hnl] at h
    have tail2 : (¬ (c = 44 ∧ 0 < tk ∧ W.2.1 < 4)) → ZV X E_X4_takesAuthors 91 [some (.ref T), some (.ref w), some (vi c), o] [] b g I J post := by
      intro hnc
      rw [if_neg hnc] at h
      have tail3 : ¬ (c = 58 ∧ 0 < tk) → ZV X E_X4_takesAuthors 111 [some (.ref T), some (.ref w), some (vi c), o] [] b g I J post := by
        intro hn3
        rw [if_neg hn3] at h
        refine ZV_iconst dX4_takesAuthors_111 ?_
        refine ZV_zret dX4_takesAuthors_112 rfl (by first | exact Or.inl rfl | exact Or.inr rfl | assumption | omega) ?_
        exact h _ _ _ ⟨fun _ _ => ⟨rfl, rfl⟩, rfl, rfl⟩ (Or.inr ⟨rfl, rfl⟩)
      refine ZV_iload_n dX4_takesAuthors_91 rfl ?_
      refine ZV_bipush dX4_takesAuthors_92 (by decide) ?_
      refine ZV_icmp_ne (tgt := 111) dX4_takesAuthors_94 (by decide) ⟨by omega, by omega⟩ ⟨by omega, by omega⟩ (fun h94 => ?_) (fun h94 => ?_)
      · exact tail3 (by omega)
      · refine ZV_aload_n dX4_takesAuthors_97 rfl ?_
        refine ZV_getI fX4_takesAuthors_49 dX4_takesAuthors_98 (by assumption) rfl ?_
        rw [h5]
        refine ZV_if_le (tgt := 111) dX4_takesAuthors_101 (by decide) ⟨by omega, by omega⟩ (fun h101 => ?_) (fun h101 => ?_)
        · exact tail3 (by omega)
        · rw [if_pos (by omega)] at h
          refine ZV_aload_n dX4_takesAuthors_104 rfl ?_
          refine ZV_iconst dX4_takesAuthors_105 ?_
          refine cl_X4_begin kX4_takesAuthors_58 rfl dX4_takesAuthors_106 (by assumption) (Nat.le_of_ble_eq_true rfl) ?_
          refine sp_X4_begin hk ?_
          refine ZV_iconst dX4_takesAuthors_109 ?_
          refine ZV_zret dX4_takesAuthors_110 rfl (by first | exact Or.inl rfl | exact Or.inr rfl | assumption | omega) ?_
          refine h _ _ _ ⟨fun q hq => ⟨by rw [up2_row _ _ hq.1, up2_row _ _ hq.1], rfl⟩, by rw [up2_k (by decide), up2_k (by decide)], by rw [up2_k (by decide), up2_k (by decide)]⟩ (Or.inl ⟨_, _, _, rfl, rfl, by rw [up2_k (by decide), up2_same], by rw [up2_same], w1, ?_, ?_, w4⟩)
          · rw [up2_a hd.1, up2_a hd.1]; exact w2
          · rw [up2_a hd.1, up2_a hd.1]; exact w3
    refine ZV_iload_n dX4_takesAuthors_53 rfl ?_
    refine ZV_bipush dX4_takesAuthors_54 (by decide) ?_
    refine ZV_icmp_ne (tgt := 91) dX4_takesAuthors_56 (by decide) ⟨by omega, by omega⟩ ⟨by omega, by omega⟩ (fun h56 => ?_) (fun h56 => ?_)
    · exact tail2 (by omega)
    · refine ZV_aload_n dX4_takesAuthors_59 rfl ?_
      refine ZV_getI fX4_takesAuthors_49 dX4_takesAuthors_60 (by assumption) rfl ?_
      rw [h5]
      refine ZV_if_le (tgt := 91) dX4_takesAuthors_63 (by decide) ⟨by omega, by omega⟩ (fun h63 => ?_) (fun h63 => ?_)
      · exact tail2 (by omega)
      · refine ZV_aload_n dX4_takesAuthors_66 rfl ?_
        refine ZV_getI fX4_takesAuthors_55 dX4_takesAuthors_67 (by assumption) rfl ?_
        rw [w2]
        refine ZV_iconst dX4_takesAuthors_70 ?_
        refine ZV_icmp_ge (tgt := 91) dX4_takesAuthors_71 (by decide) ⟨by omega, by omega⟩ ⟨by omega, by omega⟩ (fun h71 => ?_) (fun h71 => ?_)
        · exact tail2 (by omega)
        · rw [if_pos (by omega)] at h
          refine ZV_aload_n dX4_takesAuthors_74 rfl ?_
          refine ZV_dup dX4_takesAuthors_75 rfl ?_
          refine ZV_getI fX4_takesAuthors_55 dX4_takesAuthors_76 (by assumption) rfl ?_
          rw [w2]
          refine ZV_iconst dX4_takesAuthors_79 ?_
          refine ZV_iadd dX4_takesAuthors_80 ?_
          refine ZV_putI fX4_takesAuthors_55 dX4_takesAuthors_81 (by assumption) rfl ?_
          refine ZV_aload_n dX4_takesAuthors_84 rfl ?_
          refine ZV_iconst dX4_takesAuthors_85 ?_
          refine cl_X4_begin kX4_takesAuthors_58 rfl dX4_takesAuthors_86 (by assumption) (Nat.le_of_ble_eq_true rfl) ?_
          refine sp_X4_begin hk ?_
          refine ZV_iconst dX4_takesAuthors_89 ?_
          refine ZV_zret dX4_takesAuthors_90 rfl (by first | exact Or.inl rfl | exact Or.inr rfl | assumption | omega) ?_
          refine h _ _ _ ⟨fun q hq => ⟨by rw [up2_row _ _ hq.1, up2_row _ _ hq.1, up2_row _ _ hq.2.1], rfl⟩, ?_, ?_⟩ (Or.inl ⟨_, _, _, rfl, rfl, by rw [up2_k (by decide), up2_same], by rw [up2_same], w1, ?_, ?_, w4⟩)
          · rw [up2_k (by decide), up2_k (by decide), up2_a (fun e => hd.1 e.symm)]
          · rw [up2_k (by decide), up2_k (by decide), up2_a (fun e => hd.1 e.symm)]
          · rw [up2_a hd.1, up2_a hd.1, up2_same]
          · rw [up2_a hd.1, up2_a hd.1, up2_k (by decide)]; exact w3
  refine ZV_aload_n dX4_takesAuthors_0 rfl ?_
  refine ZV_getI fX4_takesAuthors_55 dX4_takesAuthors_1 (by assumption) rfl ?_
  rw [w2]
  refine ZV_iconst dX4_takesAuthors_4 ?_
  refine ZV_isub dX4_takesAuthors_5 ?_
  refine ZV_istore3 dX4_takesAuthors_6 rfl (by decide) ?_
  refine ZV_iload_n dX4_takesAuthors_7 rfl ?_
  refine cl_X4_isLetter kX4_takesAuthors_72 rfl dX4_takesAuthors_8 (Nat.le_of_ble_eq_true rfl) ?_
  refine sp_X4_isLetter (by omega) ?_
  by_cases hl : 97 ≤ c ∧ c ≤ 122
  · rw [if_pos hl]
    rw [if_pos hl] at h
    refine ZV_if_eq (tgt := 53) dX4_takesAuthors_11 (by decide) ⟨by omega, by omega⟩ (fun h11 => ?_) (fun h11 => ?_)
    · omega
    · refine ZV_iload_n dX4_takesAuthors_14 rfl ?_
      refine ZV_if_lt (tgt := 53) dX4_takesAuthors_15 (by decide) ⟨by omega, by omega⟩ (fun h15 => ?_) (fun h15 => ?_)
      · omega
      · refine ZV_iload_n dX4_takesAuthors_18 rfl ?_
        refine ZV_iconst dX4_takesAuthors_19 ?_
        refine ZV_icmp_ge (tgt := 53) dX4_takesAuthors_20 (by decide) ⟨by omega, by omega⟩ ⟨by omega, by omega⟩ (fun h20 => ?_) (fun h20 => ?_)
        · omega
        · refine ZV_aload_n dX4_takesAuthors_23 rfl ?_
          refine ZV_getR fX4_takesAuthors_75 dX4_takesAuthors_24 (by assumption) rfl (by assumption) ?_
          refine ZV_iload_n dX4_takesAuthors_27 rfl ?_
          refine ZV_aload_n dX4_takesAuthors_28 rfl ?_
          refine ZV_getR fX4_takesAuthors_75 dX4_takesAuthors_29 (by assumption) rfl (by assumption) ?_
          refine ZV_iload_n dX4_takesAuthors_32 rfl ?_
          refine ZV_lald (n) dX4_takesAuthors_33 (by assumption) (by first | rfl | omega) (by omega) (by omega) ?_
          rw [w1 n hn2]
          refine ZV_aload_n dX4_takesAuthors_34 rfl ?_
          refine ZV_getI fX4_takesAuthors_49 dX4_takesAuthors_35 (by assumption) rfl ?_
          rw [h5]
          refine ZV_iload_n dX4_takesAuthors_38 rfl ?_
          refine ZV_bipush dX4_takesAuthors_39 (by decide) ?_
          refine ZV_isub dX4_takesAuthors_41 ?_
          refine ZV_iconst dX4_takesAuthors_42 ?_
          refine ZV_iadd dX4_takesAuthors_43 ?_
          refine cl_X2_with kX4_takesAuthors_79 rfl dX4_takesAuthors_44 (Nat.le_of_ble_eq_true rfl) ?_
          refine sp_X2_with hau.1 ⟨by omega, by omega⟩ ⟨by omega, by omega⟩ ⟨by omega, by omega⟩ (fun q => c6 rfl q.2) ?_
          refine ZV_last (n) dX4_takesAuthors_47 (by assumption) (by first | rfl | omega) (by omega) (by omega) ?_
          refine ZV_aload_n dX4_takesAuthors_48 rfl ?_
          refine cl_X4_countLetter kX4_takesAuthors_85 rfl dX4_takesAuthors_49 (by assumption) (Nat.le_of_ble_eq_true rfl) ?_
          refine sp_X4_countLetter hk h5 ht ?_
          refine ZV_zret dX4_takesAuthors_52 rfl (by first | exact Or.inl rfl | exact Or.inr rfl | assumption | omega) ?_
          by_cases h8 : tk < 8
          · rw [if_pos (show 0 ≤ tk ∧ tk < 8 from ⟨ht.1, h8⟩), if_pos h8]
            rw [if_pos h8] at h
            refine h _ _ _ ⟨fun q hq => ⟨up2_row _ _ hq.1, up2_row _ _ hq.2.2⟩, by rw [up2_k (by decide)], by rw [up2_k (by decide)]⟩ (Or.inl ⟨_, _, _, rfl, rfl, by rw [up2_k (by decide)]; exact h4, by rw [up2_same], ?_, ?_, ?_, ?_⟩)
            · intro a ha
              show _ = up1 W.1 n (addL (W.1 n) tk c) a
              unfold up1 addL
              by_cases e : a = n
              · rw [e, up2_same, if_pos rfl, show c - 97 + 1 = c - 96 by omega]
              · rw [up2_k e, if_neg e]; exact w1 a ha
            · rw [up2_a hd.1]; exact w2
            · rw [up2_a hd.1]; exact w3
            · rw [up2_a (by omega)]; exact w4
          · rw [if_neg (show ¬ (0 ≤ tk ∧ tk < 8) by omega), if_neg h8]
            rw [if_neg h8] at h
            refine h _ _ _ ⟨fun q hq => ⟨up2_row _ _ hq.1, up2_row _ _ hq.2.2⟩, by rw [up2_k (by decide)], by rw [up2_k (by decide)]⟩ (Or.inr ⟨rfl, rfl⟩)
  · rw [if_neg hl]
    refine ZV_if_eq (tgt := 53) dX4_takesAuthors_11 (by decide) ⟨by omega, by omega⟩ (fun h11 => ?_) (fun h11 => ?_)
    · exact tail _ hl
    · omega
theorem sp_X4_takesYear {T w : Nat} {tk c : Int} {W : AWk} (hk : ksh X g T = some (.inl 2)) (hw : WG X g w) (hd : w ≠ T ∧ w + 1 ≠ T) (e4 : I T 4 = 1) (e5 : I T 5 = tk) (ht : 0 ≤ tk ∧ tk ≤ 4) (hW : WkAt I J w W) (hC : CIn 1 tk W) (hc : 0 ≤ c ∧ c < 256) (h : ∀ r I' J', TF2 I I' J J' T w → RA T w (tY tk W c) r I' J' → post (.inl (some (vi r))) g I' J') : ZV X E_X4_takesYear 0 [some (.ref T), some (.ref w), some (vi c), none] [] b g I J post := by
  have hw' := hw
  obtain ⟨k1, k2, k3⟩ := hw
  obtain ⟨w1, w2, w3, w4⟩ := hW
  obtain ⟨⟨c1, c2, c3, c4⟩, c5, -, -, c6⟩ := hC
  unfold tY at h
  have fin : ∀ v : Int, ((v = 1 ∧ ((tk = 0 ∧ (c = 49 ∨ c = 50)) ∨ (tk ≠ 0 ∧ 48 ≤ c ∧ c ≤ 57))) ∨ (v = 0 ∧ ¬ ((tk = 0 ∧ (c = 49 ∨ c = 50)) ∨ (tk ≠ 0 ∧ 48 ≤ c ∧ c ≤ 57)))) → tk ≠ 4 → ZV X E_X4_takesYear 69 [some (.ref T), some (.ref w), some (vi c), none] [vi v] b g I J post := by
    intro v hv h44
    rw [if_neg h44] at h
    rcases hv with ⟨rfl, hv⟩ | ⟨rfl, hv⟩
    · rw [if_pos hv] at h
      refine ZV_istore3 dX4_takesYear_69 rfl (by decide) ?_
      refine ZV_iload_n dX4_takesYear_70 rfl ?_
      refine ZV_if_eq (tgt := 100) dX4_takesYear_71 (by decide) ⟨by omega, by omega⟩ (fun h71 => ?_) (fun h71 => ?_)
      · omega
      · refine ZV_aload_n dX4_takesYear_74 rfl ?_
        refine ZV_aload_n dX4_takesYear_75 rfl ?_
        refine ZV_getI fX4_takesYear_88 dX4_takesYear_76 (by assumption) rfl ?_
        rw [w3]
        refine ZV_bipush dX4_takesYear_79 (by decide) ?_
        refine ZV_imul dX4_takesYear_81 ?_
        refine ZV_iload_n dX4_takesYear_82 rfl ?_
        refine ZV_iadd dX4_takesYear_83 ?_
        refine ZV_bipush dX4_takesYear_84 (by decide) ?_
        refine ZV_isub dX4_takesYear_86 ?_
        refine ZV_putI fX4_takesYear_88 dX4_takesYear_87 (by assumption) rfl ?_
        refine ZV_aload_n dX4_takesYear_90 rfl ?_
        refine ZV_dup dX4_takesYear_91 rfl ?_
        rw [up2_a (fun e => hd.1 e.symm), e5]
        refine ZV_getI fX4_takesYear_49 dX4_takesYear_92 (by assumption) rfl ?_
        refine ZV_iconst dX4_takesYear_95 ?_
        refine ZV_iadd dX4_takesYear_96 ?_
        refine ZV_putI fX4_takesYear_49 dX4_takesYear_97 (by assumption) rfl ?_
        refine ZV_iload_n dX4_takesYear_100 rfl ?_
        refine ZV_zret dX4_takesYear_101 rfl (by first | exact Or.inl rfl | exact Or.inr rfl | assumption | omega) ?_
        refine h _ _ _ ⟨fun q hq => ⟨by rw [up2_row _ _ hq.1, up2_row _ _ hq.2.1], rfl⟩, ?_, ?_⟩ (Or.inl ⟨_, _, _, rfl, rfl, ?_, by rw [up2_same], w1, ?_, ?_, ?_⟩)
        · rw [up2_k (by decide), up2_a (fun e => hd.1 e.symm)]
        · rw [up2_k (by decide), up2_a (fun e => hd.1 e.symm)]
        · rw [up2_k (by decide), up2_a (fun e => hd.1 e.symm)]; exact e4
        · rw [up2_a hd.1, up2_k (by decide)]; exact w2
        · rw [up2_a hd.1, up2_same]
        · exact w4
    · rw [if_neg hv] at h
      refine ZV_istore3 dX4_takesYear_69 rfl (by decide) ?_
      refine ZV_iload_n dX4_takesYear_70 rfl ?_
      refine ZV_if_eq (tgt := 100) dX4_takesYear_71 (by decide) ⟨by omega, by omega⟩ (fun h71 => ?_) (fun h71 => ?_)
      · refine ZV_iload_n dX4_takesYear_100 rfl ?_
        refine ZV_zret dX4_takesYear_101 rfl (by first | exact Or.inl rfl | exact Or.inr rfl | assumption | omega) ?_
        exact h _ _ _ ⟨fun _ _ => ⟨rfl, rfl⟩, rfl, rfl⟩ (Or.inr ⟨rfl, rfl⟩)
      · omega
  refine ZV_aload_n dX4_takesYear_0 rfl ?_
  refine ZV_getI fX4_takesYear_49 dX4_takesYear_1 (by assumption) rfl ?_
  rw [e5]
  refine ZV_iconst dX4_takesYear_4 ?_
  refine ZV_icmp_ne (tgt := 25) dX4_takesYear_5 (by decide) ⟨by omega, by omega⟩ ⟨by omega, by omega⟩ (fun h5 => ?_) (fun h5 => ?_)
  · refine ZV_aload_n dX4_takesYear_25 rfl ?_
    refine ZV_getI fX4_takesYear_49 dX4_takesYear_26 (by assumption) rfl ?_
    rw [e5]
    refine ZV_if_ne (tgt := 52) dX4_takesYear_29 (by decide) ⟨by omega, by omega⟩ (fun h29 => ?_) (fun h29 => ?_)
    · refine ZV_iload_n dX4_takesYear_52 rfl ?_
      refine ZV_bipush dX4_takesYear_53 (by decide) ?_
      refine ZV_icmp_lt (tgt := 68) dX4_takesYear_55 (by decide) ⟨by omega, by omega⟩ ⟨by omega, by omega⟩ (fun h55 => ?_) (fun h55 => ?_)
      · refine ZV_iconst dX4_takesYear_68 ?_
        exact fin _ (by omega) (by omega)
      · refine ZV_iload_n dX4_takesYear_58 rfl ?_
        refine ZV_bipush dX4_takesYear_59 (by decide) ?_
        refine ZV_icmp_gt (tgt := 68) dX4_takesYear_61 (by decide) ⟨by omega, by omega⟩ ⟨by omega, by omega⟩ (fun h61 => ?_) (fun h61 => ?_)
        · refine ZV_iconst dX4_takesYear_68 ?_
          exact fin _ (by omega) (by omega)
        · refine ZV_iconst dX4_takesYear_64 ?_
          refine ZV_goto (tgt := 69) dX4_takesYear_65 (by decide) ?_
          exact fin _ (by omega) (by omega)
    · refine ZV_iload_n dX4_takesYear_32 rfl ?_
      refine ZV_bipush dX4_takesYear_33 (by decide) ?_
      refine ZV_icmp_eq (tgt := 44) dX4_takesYear_35 (by decide) ⟨by omega, by omega⟩ ⟨by omega, by omega⟩ (fun h35 => ?_) (fun h35 => ?_)
      · refine ZV_iconst dX4_takesYear_44 ?_
        refine ZV_goto (tgt := 69) dX4_takesYear_45 (by decide) ?_
        exact fin _ (by omega) (by omega)
      · refine ZV_iload_n dX4_takesYear_38 rfl ?_
        refine ZV_bipush dX4_takesYear_39 (by decide) ?_
        refine ZV_icmp_ne (tgt := 48) dX4_takesYear_41 (by decide) ⟨by omega, by omega⟩ ⟨by omega, by omega⟩ (fun h41 => ?_) (fun h41 => ?_)
        · refine ZV_iconst dX4_takesYear_48 ?_
          refine ZV_goto (tgt := 69) dX4_takesYear_49 (by decide) ?_
          exact fin _ (by omega) (by omega)
        · refine ZV_iconst dX4_takesYear_44 ?_
          refine ZV_goto (tgt := 69) dX4_takesYear_45 (by decide) ?_
          exact fin _ (by omega) (by omega)
  · refine ZV_aload_n dX4_takesYear_8 rfl ?_
    refine ZV_iconst dX4_takesYear_9 ?_
    refine cl_X4_begin kX4_takesYear_58 rfl dX4_takesYear_10 (by assumption) (Nat.le_of_ble_eq_true rfl) ?_
    rename_i h44
    rw [if_pos h44] at h
    refine sp_X4_begin hk ?_
    have fr : TF2 I (up2 (up2 I T 4 2) T 5 0) J J T w := ⟨fun q hq => ⟨by rw [up2_row _ _ hq.1, up2_row _ _ hq.1], rfl⟩, by rw [up2_k (by decide), up2_k (by decide)], by rw [up2_k (by decide), up2_k (by decide)]⟩
    refine ZV_iload_n dX4_takesYear_13 rfl ?_
    refine ZV_bipush dX4_takesYear_14 (by decide) ?_
    refine ZV_icmp_ne (tgt := 23) dX4_takesYear_16 (by decide) ⟨by omega, by omega⟩ ⟨by omega, by omega⟩ (fun h16 => ?_) (fun h16 => ?_)
    · rw [if_neg (by omega)] at h
      refine ZV_iconst dX4_takesYear_23 ?_
      refine ZV_zret dX4_takesYear_24 rfl (by first | exact Or.inl rfl | exact Or.inr rfl | assumption | omega) ?_
      exact h _ _ _ fr (Or.inr ⟨rfl, rfl⟩)
    · rw [if_pos (by omega)] at h
      refine ZV_iconst dX4_takesYear_19 ?_
      refine ZV_goto (tgt := 24) dX4_takesYear_20 (by decide) ?_
      refine ZV_zret dX4_takesYear_24 rfl (by first | exact Or.inl rfl | exact Or.inr rfl | assumption | omega) ?_
      refine h _ _ _ fr (Or.inl ⟨_, _, _, rfl, rfl, by rw [up2_k (by decide), up2_same], by rw [up2_same], w1, ?_, ?_, w4⟩)
      · rw [up2_a hd.1, up2_a hd.1]; exact w2
      · rw [up2_a hd.1, up2_a hd.1]; exact w3
theorem sp_X4_beginWork {T n : Nat} {ws : Nat → AWk} (hL : TL X g T) (e3 : I T 3 = (n : Int)) (hn : n ≤ 16) (hws : ∀ k, k < n → WkAt I J (T + 3 + 2 * k) (ws k)) (h : ∀ r I' J', (∀ q, q ≠ T ∧ (q < T + 3 ∨ T + 35 ≤ q) → I' q = I q ∧ J' q = J q) → I' T 1 = I T 1 → ((r = 1 ∧ n < 16 ∧ TxAt I' J' T (n + 1, 0, 0, setW ws n wk0)) ∨ (r = 0 ∧ ¬ n < 16)) → post (.inl (some (vi r))) g I' J') : ZV X E_X4_beginWork 0 [some (.ref T)] [] b g I J post := by
  obtain ⟨⟨l1, l2, l3, l4, l5⟩, l6⟩ := hL
  refine ZV_aload_n dX4_beginWork_0 rfl ?_
  refine ZV_getI fX4_beginWork_35 dX4_beginWork_1 (by assumption) rfl ?_
  rw [e3]
  refine ZV_bipush dX4_beginWork_4 (by decide) ?_
  refine ZV_icmp_lt (tgt := 11) dX4_beginWork_6 (by decide) ⟨by omega, by omega⟩ ⟨by omega, by omega⟩ (fun h6 => ?_) (fun h6 => ?_)
  · obtain ⟨m1, m2⟩ := l6 n (by omega)
    have m3 := m2.1
    refine ZV_aload_n dX4_beginWork_11 rfl ?_
    refine ZV_getR fX4_beginWork_17 dX4_beginWork_12 (by assumption) rfl (by assumption) ?_
    refine ZV_aload_n dX4_beginWork_15 rfl ?_
    refine ZV_getI fX4_beginWork_35 dX4_beginWork_16 (by assumption) rfl ?_
    rw [e3]
    first | refine ZV_aaldW (n) dX4_beginWork_19 (by assumption) (by first | rfl | omega) (by omega) (by omega) (by assumption) ?_ | refine ZV_aaldS (n) dX4_beginWork_19 (by assumption) (by first | rfl | omega) (by omega) (by omega) (by assumption) ?_
    refine cl_X5_empty kX4_beginWork_52 rfl dX4_beginWork_20 (by assumption) (Nat.le_of_ble_eq_true rfl) ?_
    refine sp_X5_empty m2 ?_
    intro I2 J2 hw2 hF
    have f3 : I2 T 3 = (n : Int) := by rw [(hF T (by omega)).1]; exact e3
    refine ZV_aload_n dX4_beginWork_23 rfl ?_
    refine ZV_getR fX4_beginWork_17 dX4_beginWork_24 (by assumption) rfl (by assumption) ?_
    refine ZV_aload_n dX4_beginWork_27 rfl ?_
    refine ZV_getI fX4_beginWork_35 dX4_beginWork_28 (by assumption) rfl ?_
    rw [f3]
    first | refine ZV_aaldW (n) dX4_beginWork_31 (by assumption) (by first | rfl | omega) (by omega) (by omega) (by assumption) ?_ | refine ZV_aaldS (n) dX4_beginWork_31 (by assumption) (by first | rfl | omega) (by omega) (by omega) (by assumption) ?_
    refine ZV_iconst dX4_beginWork_32 ?_
    refine ZV_putI fX4_beginWork_55 dX4_beginWork_33 (by assumption) rfl ?_
    refine ZV_aload_n dX4_beginWork_36 rfl ?_
    refine ZV_dup dX4_beginWork_37 rfl ?_
    refine ZV_getI fX4_beginWork_35 dX4_beginWork_38 (by assumption) rfl ?_
    rw [up2_a (by omega), f3]
    refine ZV_iconst dX4_beginWork_41 ?_
    refine ZV_iadd dX4_beginWork_42 ?_
    refine ZV_putI fX4_beginWork_35 dX4_beginWork_43 (by assumption) rfl ?_
    refine ZV_aload_n dX4_beginWork_46 rfl ?_
    refine ZV_iconst dX4_beginWork_47 ?_
    refine cl_X4_begin kX4_beginWork_58 rfl dX4_beginWork_48 (by assumption) (Nat.le_of_ble_eq_true rfl) ?_
    refine sp_X4_begin l1 ?_
    refine ZV_iconst dX4_beginWork_51 ?_
    refine ZV_zret dX4_beginWork_52 rfl (by first | exact Or.inl rfl | exact Or.inr rfl | assumption | omega) ?_
    refine h _ _ _ (fun q hq => ⟨?_, (hF q (by omega)).2⟩) ?_ (Or.inl ⟨rfl, by omega, ?_, ?_, ?_, fun k hk => ?_⟩)
    · rw [up2_row _ _ hq.1, up2_row _ _ hq.1, up2_row _ _ hq.1, up2_row _ _ (by omega)]; exact (hF q (by omega)).1
    · rw [up2_k (by decide), up2_k (by decide), up2_k (by decide), up2_a (by omega), (hF T (by omega)).1]
    · rw [up2_k (by decide), up2_k (by decide), up2_same]; rfl
    · rw [up2_k (by decide), up2_same]
    · rw [up2_same]
    · have hk' : k < n + 1 := hk
      have tw : ∀ Q, WkAt I2 J2 (T + 3 + 2 * k) Q → k ≠ n → WkAt (up2 (up2 (up2 (up2 I2 (T + 3 + 2 * n) 1 1) T 3 ((n : Int) + 1)) T 4 0) T 5 0) J2 (T + 3 + 2 * k) Q := by
        intro Q ⟨v1, v2, v3, v4⟩ hne
        refine ⟨v1, ?_, ?_, v4⟩
        · rw [up2_a (by omega), up2_a (by omega), up2_a (by omega), up2_a (by omega)]; exact v2
        · rw [up2_a (by omega), up2_a (by omega), up2_a (by omega), up2_a (by omega)]; exact v3
      show WkAt _ _ _ (if k = n then wk0 else ws k)
      by_cases e : k = n
      · rw [if_pos e, e]
        obtain ⟨v1, v2, v3, v4⟩ := hw2
        refine ⟨v1, ?_, ?_, v4⟩
        · rw [up2_a (by omega), up2_a (by omega), up2_a (by omega), up2_same]; rfl
        · rw [up2_a (by omega), up2_a (by omega), up2_a (by omega), up2_k (by decide)]; exact v3
      · rw [if_neg e]
        exact tw _ ((hws k (by omega)).fr hF (by omega)) e
  · refine ZV_iconst dX4_beginWork_9 ?_
    refine ZV_zret dX4_beginWork_10 rfl (by first | exact Or.inl rfl | exact Or.inr rfl | assumption | omega) ?_
    exact h _ _ _ (fun _ _ => ⟨rfl, rfl⟩) rfl (Or.inr ⟨rfl, by omega⟩)
theorem sp_X4_takesTitle {T n : Nat} {tk c : Int} {ws : Nat → AWk} {W : AWk} (hL : TL X g T) (e3 : I T 3 = ((n + 1 : Nat) : Int)) (hn : n < 16) (e4 : I T 4 = 2) (e5 : I T 5 = tk) (ht : 0 ≤ tk ∧ tk ≤ 8) (hws : ∀ k, k < n + 1 → WkAt I J (T + 3 + 2 * k) (ws k)) (hW : ws n = W) (hC : CIn 2 tk W) (hc : 0 ≤ c ∧ c < 256) (h : ∀ r I' J', (∀ q, q ≠ T ∧ (q < T + 3 ∨ T + 35 ≤ q) → I' q = I q ∧ J' q = J q) → I' T 1 = I T 1 → ((r = 1 ∧ ∃ s', stp (n + 1, 2, tk, ws) c = some s' ∧ TxAt I' J' T s') ∨ (r = 0 ∧ stp (n + 1, 2, tk, ws) c = none)) → post (.inl (some (vi r))) g I' J') : ZV X E_X4_takesTitle 0 [some (.ref T), some (.ref (T + 3 + 2 * n)), some (vi c)] [] b g I J post := by
  have hL' := hL
  obtain ⟨⟨l1, l2, l3, l4, l5⟩, l6⟩ := hL
  obtain ⟨m1, m2⟩ := l6 n hn
  obtain ⟨k1, k2, k3⟩ := m2
  have hWn := hws n (by omega)
  rw [hW] at hWn
  obtain ⟨w1, w2, w3, w4⟩ := hWn
  obtain ⟨⟨c1, c2, c3, c4⟩, c5, -, c6, -⟩ := hC
  unfold nmOK at c4
  have est : stp (n + 1, 2, tk, ws) c = if 97 ≤ c ∧ c ≤ 122 then lift (n + 1, 2, tk, ws) (tT tk W c) else if c = 59 ∧ 0 < tk ∧ n + 1 < 16 then some (n + 1 + 1, 0, 0, setW ws (n + 1) wk0) else none := by
    unfold stp
    rw [if_neg (by decide), if_neg (by decide)]
    show (if 97 ≤ c ∧ c ≤ 122 then lift (n + 1, 2, tk, ws) (tT tk (ws (n + 1 - 1)) c) else _) = _
    rw [Nat.add_sub_cancel, hW]
  rw [est] at h
  refine ZV_iload_n dX4_takesTitle_0 rfl ?_
  refine cl_X4_isLetter kX4_takesTitle_72 rfl dX4_takesTitle_1 (Nat.le_of_ble_eq_true rfl) ?_
  refine sp_X4_isLetter (by omega) ?_
  by_cases hl : 97 ≤ c ∧ c ≤ 122
  · rw [if_pos hl]
    rw [if_pos hl] at h
    unfold tT at h
    refine ZV_if_eq (tgt := 33) dX4_takesTitle_4 (by decide) ⟨by omega, by omega⟩ (fun h4 => ?_) (fun h4 => ?_)
    · omega
    · refine ZV_aload_n dX4_takesTitle_7 rfl ?_
      refine ZV_aload_n dX4_takesTitle_8 rfl ?_
      refine ZV_getJ fX4_takesTitle_91 dX4_takesTitle_9 (by assumption) rfl ?_
      rw [w4]
      refine ZV_aload_n dX4_takesTitle_12 rfl ?_
      refine ZV_getI fX4_takesTitle_49 dX4_takesTitle_13 (by assumption) rfl ?_
      rw [e5]
      refine ZV_iload_n dX4_takesTitle_16 rfl ?_
      refine ZV_bipush dX4_takesTitle_17 (by decide) ?_
      refine ZV_isub dX4_takesTitle_19 ?_
      refine ZV_iconst dX4_takesTitle_20 ?_
      refine ZV_iadd dX4_takesTitle_21 ?_
      refine cl_X2_with kX4_takesTitle_79 rfl dX4_takesTitle_22 (Nat.le_of_ble_eq_true rfl) ?_
      refine sp_X2_with c4.1 ⟨by omega, by omega⟩ ⟨by omega, by omega⟩ ⟨by omega, by omega⟩ (fun q => c6 rfl q.2) ?_
      refine ZV_putJ fX4_takesTitle_91 dX4_takesTitle_25 (by assumption) rfl ?_
      refine ZV_aload_n dX4_takesTitle_28 rfl ?_
      refine cl_X4_countLetter kX4_takesTitle_85 rfl dX4_takesTitle_29 (by assumption) (Nat.le_of_ble_eq_true rfl) ?_
      refine sp_X4_countLetter l1 e5 ht ?_
      refine ZV_zret dX4_takesTitle_32 rfl (by first | exact Or.inl rfl | exact Or.inr rfl | assumption | omega) ?_
      have fr : ∀ v, ∀ q, q ≠ T ∧ (q < T + 3 ∨ T + 35 ≤ q) → up2 I T 5 (tk + 1) q = I q ∧ up2 J (T + 3 + 2 * n) 3 v q = J q := fun v q hq => ⟨up2_row _ _ hq.1, up2_row _ _ (by omega)⟩
      by_cases h8 : tk < 8
      · rw [if_pos (show 0 ≤ tk ∧ tk < 8 from ⟨ht.1, h8⟩), if_pos h8]
        rw [if_pos h8] at h
        refine h _ _ _ (fr _) (by rw [up2_k (by decide)]) (Or.inl ⟨rfl, _, rfl, ?_, ?_, ?_, fun k hk => ?_⟩)
        · rw [up2_k (by decide)]; exact e3
        · rw [up2_k (by decide)]; exact e4
        · rw [up2_same]
        · have hk' : k < n + 1 := hk
          show WkAt _ _ _ (if k = n + 1 - 1 then (W.1, W.2.1, W.2.2.1, addL W.2.2.2 tk c) else ws k)
          by_cases e : k = n
          · rw [if_pos (by omega), e]
            refine ⟨fun a ha => ?_, ?_, ?_, ?_⟩
            · rw [up2_a (by omega)]; exact w1 a ha
            · rw [up2_a (by omega)]; exact w2
            · rw [up2_a (by omega)]; exact w3
            · rw [up2_same]
              show W.2.2.2 + (c - 97 + 1) * 2 ^ (5 * (7 - tk.toNat)) = addL W.2.2.2 tk c
              unfold addL
              rw [show c - 97 + 1 = c - 96 by omega]
          · rw [if_neg (by omega)]
            obtain ⟨v1, v2, v3, v4⟩ := hws k hk'
            refine ⟨fun a ha => ?_, ?_, ?_, ?_⟩
            · rw [up2_a (by omega)]; exact v1 a ha
            · rw [up2_a (by omega)]; exact v2
            · rw [up2_a (by omega)]; exact v3
            · rw [up2_a (by omega)]; exact v4
      · rw [if_neg (show ¬ (0 ≤ tk ∧ tk < 8) by omega), if_neg h8]
        rw [if_neg h8] at h
        exact h _ _ _ (fr _) (by rw [up2_k (by decide)]) (Or.inr ⟨rfl, rfl⟩)
  · rw [if_neg hl]
    rw [if_neg hl] at h
    have no : ¬ (c = 59 ∧ 0 < tk ∧ n + 1 < 16) → post (.inl (some (vi 0))) g I J := fun hne => by
      rw [if_neg hne] at h
      exact h _ _ _ (fun _ _ => ⟨rfl, rfl⟩) rfl (Or.inr ⟨rfl, rfl⟩)
    refine ZV_if_eq (tgt := 33) dX4_takesTitle_4 (by decide) ⟨by omega, by omega⟩ (fun h4 => ?_) (fun h4 => ?_)
    · refine ZV_iload_n dX4_takesTitle_33 rfl ?_
      refine ZV_bipush dX4_takesTitle_34 (by decide) ?_
      refine ZV_icmp_ne (tgt := 57) dX4_takesTitle_36 (by decide) ⟨by omega, by omega⟩ ⟨by omega, by omega⟩ (fun h36 => ?_) (fun h36 => ?_)
      · refine ZV_iconst dX4_takesTitle_57 ?_
        refine ZV_zret dX4_takesTitle_58 rfl (by first | exact Or.inl rfl | exact Or.inr rfl | assumption | omega) ?_
        exact no (by omega)
      · refine ZV_aload_n dX4_takesTitle_39 rfl ?_
        refine ZV_getI fX4_takesTitle_49 dX4_takesTitle_40 (by assumption) rfl ?_
        rw [e5]
        refine ZV_if_le (tgt := 57) dX4_takesTitle_43 (by decide) ⟨by omega, by omega⟩ (fun h43 => ?_) (fun h43 => ?_)
        · refine ZV_iconst dX4_takesTitle_57 ?_
          refine ZV_zret dX4_takesTitle_58 rfl (by first | exact Or.inl rfl | exact Or.inr rfl | assumption | omega) ?_
          exact no (by omega)
        · refine ZV_aload_n dX4_takesTitle_46 rfl ?_
          refine cl_X4_beginWork kX4_takesTitle_38 rfl dX4_takesTitle_47 (by assumption) (Nat.le_of_ble_eq_true rfl) ?_
          refine sp_X4_beginWork (n := n + 1) hL' e3 (by omega) hws ?_
          intro r I' J' hF h1 hr
          rcases hr with ⟨rfl, hr1, hr2⟩ | ⟨rfl, hr1⟩
          · rw [if_pos (by omega)] at h
            refine ZV_if_eq (tgt := 57) dX4_takesTitle_50 (by decide) ⟨by omega, by omega⟩ (fun h50 => ?_) (fun h50 => ?_)
            · omega
            · refine ZV_iconst dX4_takesTitle_53 ?_
              refine ZV_goto (tgt := 58) dX4_takesTitle_54 (by decide) ?_
              refine ZV_zret dX4_takesTitle_58 rfl (by first | exact Or.inl rfl | exact Or.inr rfl | assumption | omega) ?_
              exact h _ _ _ hF h1 (Or.inl ⟨rfl, _, rfl, hr2⟩)
          · rw [if_neg (by omega)] at h
            refine ZV_if_eq (tgt := 57) dX4_takesTitle_50 (by decide) ⟨by omega, by omega⟩ (fun h50 => ?_) (fun h50 => ?_)
            · refine ZV_iconst dX4_takesTitle_57 ?_
              refine ZV_zret dX4_takesTitle_58 rfl (by first | exact Or.inl rfl | exact Or.inr rfl | assumption | omega) ?_
              exact h _ _ _ hF h1 (Or.inr ⟨rfl, rfl⟩)
            · omega
    · omega
end ZTx

