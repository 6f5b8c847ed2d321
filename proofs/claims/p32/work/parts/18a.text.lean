/-! CitationKeys$Text: reading -/
def up1 (f : Nat → Int) (k : Nat) (v : Int) : Nat → Int := fun a => if a = k then v else f a
/-- a reading's state: works begun, part, taken, the works -/
abbrev PSt : Type := Nat × Int × Int × (Nat → AWk)
abbrev TStep : Type := Option (Int × Int × AWk)
def addL (v tk c : Int) : Int := v + (c - 96) * 2 ^ (5 * (7 - tk.toNat))
def tA (tk : Int) (W : AWk) (c : Int) : TStep :=
  if 97 ≤ c ∧ c ≤ 122 then (if tk < 8 then some (0, tk + 1, (up1 W.1 (W.2.1 - 1).toNat (addL (W.1 (W.2.1 - 1).toNat) tk c), W.2)) else none)
  else if c = 44 ∧ 0 < tk ∧ W.2.1 < 4 then some (0, 0, (W.1, W.2.1 + 1, W.2.2))
  else if c = 58 ∧ 0 < tk then some (1, 0, W) else none
def tY (tk : Int) (W : AWk) (c : Int) : TStep :=
  if tk = 4 then (if c = 58 then some (2, 0, W) else none)
  else if (tk = 0 ∧ (c = 49 ∨ c = 50)) ∨ (tk ≠ 0 ∧ 48 ≤ c ∧ c ≤ 57) then some (1, tk + 1, (W.1, W.2.1, W.2.2.1 * 10 + c - 48, W.2.2.2)) else none
def tT (tk : Int) (W : AWk) (c : Int) : TStep :=
  if tk < 8 then some (2, tk + 1, (W.1, W.2.1, W.2.2.1, addL W.2.2.2 tk c)) else none
def wk0 : AWk := (fun _ => 0, 1, 0, 0)
def setW (ws : Nat → AWk) (k : Nat) (W : AWk) : Nat → AWk := fun j => if j = k then W else ws j
def lift (s : PSt) (o : TStep) : Option PSt := match o with
  | some q => some (s.1, q.1, q.2.1, setW s.2.2.2 (s.1 - 1) q.2.2)
  | none => none
def stp (s : PSt) (c : Int) : Option PSt :=
  if s.2.1 = 0 then lift s (tA s.2.2.1 (s.2.2.2 (s.1 - 1)) c)
  else if s.2.1 = 1 then lift s (tY s.2.2.1 (s.2.2.2 (s.1 - 1)) c)
  else if 97 ≤ c ∧ c ≤ 122 then lift s (tT s.2.2.1 (s.2.2.2 (s.1 - 1)) c)
  else if c = 59 ∧ 0 < s.2.2.1 ∧ s.1 < 16 then some (s.1 + 1, 0, 0, setW s.2.2.2 s.1 wk0) else none
def ps0 (ws : Nat → AWk) : PSt := (1, 0, 0, setW ws 0 wk0)
/-- the cells of a text from T on -/
def TL (X : Xt) (g : Geo) (T : Nat) : Prop := (ksh X g T = some (.inl 2) ∧ g.2.1 T 0 = some (T + 1) ∧ g.2.1 T 2 = some (T + 2) ∧ ksh X g (T + 1) = some (.inr (2, 100)) ∧ ksh X g (T + 2) = some (.inr (5, 16))) ∧ ∀ k, k < 16 → g.2.1 (T + 2) k = some (T + 3 + 2 * k) ∧ WG X g (T + 3 + 2 * k)
def TxAt (I J : Mm) (T : Nat) (s : PSt) : Prop := I T 3 = (s.1 : Int) ∧ I T 4 = s.2.1 ∧ I T 5 = s.2.2.1 ∧ ∀ k, k < s.1 → WkAt I J (T + 3 + 2 * k) (s.2.2.2 k)
def TF2 (I I' J J' : Mm) (T w : Nat) : Prop := (∀ q, q ≠ T ∧ q ≠ w ∧ q ≠ w + 1 → I' q = I q ∧ J' q = J q) ∧ I' T 1 = I T 1 ∧ I' T 3 = I T 3
def RA (T w : Nat) (o : TStep) (r : Int) (I' J' : Mm) : Prop := (∃ (p t : Int) (W : AWk), o = some (p, t, W) ∧ r = 1 ∧ I' T 4 = p ∧ I' T 5 = t ∧ WkAt I' J' w W) ∨ (o = none ∧ r = 0)
/-- what a reading keeps to -/
def PIn (s : PSt) : Prop := (1 ≤ s.1 ∧ s.1 ≤ 16) ∧ (s.2.1 = 0 ∨ s.2.1 = 1 ∨ s.2.1 = 2) ∧ (0 ≤ s.2.2.1 ∧ s.2.2.1 ≤ 8) ∧ (s.2.1 = 1 → s.2.2.1 ≤ 4)
/-- the work that is being read -/
def CIn (part tk : Int) (W : AWk) : Prop := WkOK W ∧ (1 ≤ W.2.1 ∧ W.2.1 ≤ 4) ∧ (part = 0 → tk < 8 → W.1 (W.2.1 - 1).toNat % 2 ^ (5 * (8 - tk.toNat)) = 0) ∧ (part = 2 → tk < 8 → W.2.2.2 % 2 ^ (5 * (8 - tk.toNat)) = 0) ∧ (part = 1 → tk < 4 → W.2.2.1 ≤ 300)
section ZTx
variable {X : Xt} {b : Nat × Nat} {g : Geo} {I J : Mm} {post : Out → Geo → Mm → Mm → Prop}
theorem sp_X4_isLetter {c : Int} (hc : 0 ≤ c ∧ c < 65536) (h : post (.inl (some (vi (if 97 ≤ c ∧ c ≤ 122 then 1 else 0)))) g I J) : ZV X E_X4_isLetter 0 [some (vi c)] [] b g I J post := by
  refine ZV_iload_n dX4_isLetter_0 rfl ?_
  refine ZV_bipush dX4_isLetter_1 (by decide) ?_
  refine ZV_icmp_lt (tgt := 16) dX4_isLetter_3 (by decide) ⟨by omega, by omega⟩ ⟨by omega, by omega⟩ (fun h3 => ?_) (fun h3 => ?_)
  · refine ZV_iconst dX4_isLetter_16 ?_
    refine ZV_zret dX4_isLetter_17 rfl (by first | exact Or.inl rfl | exact Or.inr rfl | assumption | omega) ?_
    rw [if_neg (by omega)] at h
    exact h
  · refine ZV_iload_n dX4_isLetter_6 rfl ?_
    refine ZV_bipush dX4_isLetter_7 (by decide) ?_
    refine ZV_icmp_gt (tgt := 16) dX4_isLetter_9 (by decide) ⟨by omega, by omega⟩ ⟨by omega, by omega⟩ (fun h9 => ?_) (fun h9 => ?_)
    · refine ZV_iconst dX4_isLetter_16 ?_
      refine ZV_zret dX4_isLetter_17 rfl (by first | exact Or.inl rfl | exact Or.inr rfl | assumption | omega) ?_
      rw [if_neg (by omega)] at h
      exact h
    · refine ZV_iconst dX4_isLetter_12 ?_
      refine ZV_goto (tgt := 17) dX4_isLetter_13 (by decide) ?_
      refine ZV_zret dX4_isLetter_17 rfl (by first | exact Or.inl rfl | exact Or.inr rfl | assumption | omega) ?_
      rw [if_pos (by omega)] at h
      exact h
theorem sp_X4_countLetter {T : Nat} {tk : Int} (hk : ksh X g T = some (.inl 2)) (h5 : I T 5 = tk) (ht : 0 ≤ tk ∧ tk ≤ 8) (h : post (.inl (some (vi (if tk < 8 then 1 else 0)))) g (up2 I T 5 (tk + 1)) J) : ZV X E_X4_countLetter 0 [some (.ref T)] [] b g I J post := by
  refine ZV_aload_n dX4_countLetter_0 rfl ?_
  refine ZV_dup dX4_countLetter_1 rfl ?_
  refine ZV_getI fX4_countLetter_49 dX4_countLetter_2 (by assumption) rfl ?_
  rw [h5]
  refine ZV_iconst dX4_countLetter_5 ?_
  refine ZV_iadd dX4_countLetter_6 ?_
  refine ZV_putI fX4_countLetter_49 dX4_countLetter_7 (by assumption) rfl ?_
  refine ZV_aload_n dX4_countLetter_10 rfl ?_
  refine ZV_getI fX4_countLetter_49 dX4_countLetter_11 (by assumption) rfl ?_
  rw [up2_same]
  refine ZV_bipush dX4_countLetter_14 (by decide) ?_
  refine ZV_icmp_gt (tgt := 23) dX4_countLetter_16 (by decide) ⟨by omega, by omega⟩ ⟨by omega, by omega⟩ (fun h16 => ?_) (fun h16 => ?_)
  · rw [if_neg (by omega)] at h
    refine ZV_iconst dX4_countLetter_23 ?_
    refine ZV_zret dX4_countLetter_24 rfl (by first | exact Or.inl rfl | exact Or.inr rfl | assumption | omega) ?_
    exact h
  · rw [if_pos (by omega)] at h
    refine ZV_iconst dX4_countLetter_19 ?_
    refine ZV_goto (tgt := 24) dX4_countLetter_20 (by decide) ?_
    refine ZV_zret dX4_countLetter_24 rfl (by first | exact Or.inl rfl | exact Or.inr rfl | assumption | omega) ?_
    exact h
theorem sp_X4_begin {T : Nat} {p : Int} (hk : ksh X g T = some (.inl 2)) (h : post (.inl none) g (up2 (up2 I T 4 p) T 5 0) J) : ZV X E_X4_begin 0 [some (.ref T), some (vi p)] [] b g I J post := by
  refine ZV_aload_n dX4_begin_0 rfl ?_
  refine ZV_iload_n dX4_begin_1 rfl ?_
  refine ZV_putI fX4_begin_46 dX4_begin_2 (by assumption) rfl ?_
  refine ZV_aload_n dX4_begin_5 rfl ?_
  refine ZV_iconst dX4_begin_6 ?_
  refine ZV_putI fX4_begin_49 dX4_begin_7 (by assumption) rfl ?_
  refine ZV_vret dX4_begin_10 rfl ?_
  exact h
end ZTx

