/-! the reference: reading a text -/
def cur (i : Nat) (part tk : Int) (ws : Nat → AWk) (W : AWk) : PSt := (i + 1, part, tk, setW ws i W)
theorem setW_at (ws : Nat → AWk) (i : Nat) (W : AWk) : setW ws i W (i + 1 - 1) = W := by
  unfold setW
  rw [if_pos (by omega)]
theorem lift_cur (i : Nat) (part tk : Int) (ws : Nat → AWk) (W : AWk) (p t : Int) (W' : AWk) : lift (cur i part tk ws W) (some (p, t, W')) = some (cur i p t ws W') := by
  show some (i + 1, p, t, setW (setW ws i W) (i + 1 - 1) W') = some (i + 1, p, t, setW ws i W')
  have e : setW (setW ws i W) (i + 1 - 1) W' = setW ws i W' := by
    funext j
    unfold setW
    by_cases c : j = i
    · rw [if_pos (by omega), if_pos c]
    · rw [if_neg (by omega), if_neg c, if_neg c]
  rw [e]
theorem stpA (i : Nat) (tk : Int) (ws : Nat → AWk) (W : AWk) (c : Int) : stp (cur i 0 tk ws W) c = lift (cur i 0 tk ws W) (tA tk W c) := by
  show lift (cur i 0 tk ws W) (tA tk (setW ws i W (i + 1 - 1)) c) = _
  rw [setW_at]
theorem stpY (i : Nat) (tk : Int) (ws : Nat → AWk) (W : AWk) (c : Int) : stp (cur i 1 tk ws W) c = lift (cur i 1 tk ws W) (tY tk W c) := by
  show lift (cur i 1 tk ws W) (tY tk (setW ws i W (i + 1 - 1)) c) = _
  rw [setW_at]
theorem stpT (i : Nat) (tk : Int) (ws : Nat → AWk) (W : AWk) (c : Int) : stp (cur i 2 tk ws W) c = if isLt c then lift (cur i 2 tk ws W) (tT tk W c) else if c = 59 ∧ 0 < tk ∧ i + 1 < 16 then some (cur (i + 1) 0 0 (setW ws i W) wk0) else none := by
  show (if 97 ≤ c ∧ c ≤ 122 then lift (cur i 2 tk ws W) (tT tk (setW ws i W (i + 1 - 1)) c) else _) = _
  rw [setW_at]
  rfl
theorem cA_lt {i : Nat} {tk c : Int} {ws : Nat → AWk} {W : AWk} (h1 : isLt c) (h2 : tk < 8) : stp (cur i 0 tk ws W) c = some (cur i 0 (tk + 1) ws (up1 W.1 (W.2.1 - 1).toNat (addL (W.1 (W.2.1 - 1).toNat) tk c), W.2)) := by
  rw [stpA]; unfold tA; rw [if_pos h1, if_pos h2, lift_cur]
theorem cA_no {i : Nat} {tk c : Int} {ws : Nat → AWk} {W : AWk} (h1 : isLt c → ¬ tk < 8) (h2 : c = 44 → ¬ (0 < tk ∧ W.2.1 < 4)) (h3 : c = 58 → ¬ 0 < tk) : stp (cur i 0 tk ws W) c = none := by
  rw [stpA]; unfold tA
  by_cases e : 97 ≤ c ∧ c ≤ 122
  · rw [if_pos e, if_neg (h1 e)]; rfl
  · rw [if_neg e, if_neg (fun q => h2 q.1 q.2), if_neg (fun q => h3 q.1 q.2)]; rfl
theorem cA_comma {i : Nat} {tk : Int} {ws : Nat → AWk} {W : AWk} (h1 : 0 < tk) (h2 : W.2.1 < 4) : stp (cur i 0 tk ws W) 44 = some (cur i 0 0 ws (W.1, W.2.1 + 1, W.2.2)) := by
  rw [stpA]; unfold tA; rw [if_neg (by decide), if_pos ⟨rfl, h1, h2⟩, lift_cur]
theorem cA_colon {i : Nat} {tk : Int} {ws : Nat → AWk} {W : AWk} (h1 : 0 < tk) : stp (cur i 0 tk ws W) 58 = some (cur i 1 0 ws W) := by
  rw [stpA]; unfold tA; rw [if_neg (by decide), if_neg (fun q => absurd q.1 (by decide)), if_pos ⟨rfl, h1⟩, lift_cur]
theorem cY_dg {i k : Nat} {c : Int} {ws : Nat → AWk} {W : AWk} (hk : k < 4) (h1 : isDg k c) : stp (cur i 1 (k : Int) ws W) c = some (cur i 1 ((k + 1 : Nat) : Int) ws (W.1, W.2.1, W.2.2.1 * 10 + c - 48, W.2.2.2)) := by
  rw [stpY]; unfold tY; rw [if_neg (by omega), if_pos (by omega), lift_cur]; rfl
theorem cY_no {i k : Nat} {c : Int} {ws : Nat → AWk} {W : AWk} (hk : k < 4) (h1 : ¬ isDg k c) : stp (cur i 1 (k : Int) ws W) c = none := by
  rw [stpY]; unfold tY; rw [if_neg (by omega), if_neg (by omega)]; rfl
theorem cY_colon {i : Nat} {ws : Nat → AWk} {W : AWk} : stp (cur i 1 4 ws W) 58 = some (cur i 2 0 ws W) := by
  rw [stpY]; unfold tY; rw [if_pos rfl, if_pos rfl, lift_cur]
theorem cY_4 {i : Nat} {c : Int} {ws : Nat → AWk} {W : AWk} (h : c ≠ 58) : stp (cur i 1 4 ws W) c = none := by
  rw [stpY]; unfold tY; rw [if_pos rfl, if_neg h]; rfl
theorem cT_lt {i : Nat} {tk c : Int} {ws : Nat → AWk} {W : AWk} (h1 : isLt c) (h2 : tk < 8) : stp (cur i 2 tk ws W) c = some (cur i 2 (tk + 1) ws (W.1, W.2.1, W.2.2.1, addL W.2.2.2 tk c)) := by
  rw [stpT, if_pos h1]; unfold tT; rw [if_pos h2, lift_cur]
theorem cT_8 {i : Nat} {tk c : Int} {ws : Nat → AWk} {W : AWk} (h1 : isLt c) (h2 : ¬ tk < 8) : stp (cur i 2 tk ws W) c = none := by
  rw [stpT, if_pos h1]; unfold tT; rw [if_neg h2]; rfl
theorem cT_no {i : Nat} {tk c : Int} {ws : Nat → AWk} {W : AWk} (h1 : ¬ isLt c) (h2 : ¬ (c = 59 ∧ 0 < tk)) : stp (cur i 2 tk ws W) c = none := by
  rw [stpT, if_neg h1, if_neg (fun q => h2 ⟨q.1, q.2.1⟩)]
theorem cT_semi {i : Nat} {tk : Int} {ws : Nat → AWk} {W : AWk} (h1 : 0 < tk) (h2 : i + 1 < 16) : stp (cur i 2 tk ws W) 59 = some (cur (i + 1) 0 0 (setW ws i W) wk0) := by
  rw [stpT, if_neg (by decide), if_pos ⟨rfl, h1, h2⟩]
theorem rn_succ {ch : Nat → Int} {p : Nat} {s : PSt} (h : rn ch p = some s) : rn ch (p + 1) = stp s (ch p) := by
  show (match rn ch p with | some s => stp s (ch p) | none => none) = _
  rw [h]
theorem run_A {ch : Nat → Int} {p i a : Nat} {ws : Nat → AWk} {W : AWk} (h : rn ch p = some (cur i 0 0 ws W)) (ha : (W.2.1 - 1).toNat = a) (h0 : W.1 a = 0) : ∀ k : Nat, k ≤ 8 → (∀ j, j < k → isLt (ch (p + j))) → rn ch (p + k) = some (cur i 0 (k : Int) ws (up1 W.1 a (nmV ch p k), W.2)) := by
  intro k
  induction k with
  | zero =>
    intro _ _
    have e : up1 W.1 a (nmV ch p 0) = W.1 := by
      funext j
      unfold up1
      by_cases c : j = a
      · rw [if_pos c, c, h0]; rfl
      · rw [if_neg c]
    rw [e]
    exact h
  | succ k ih =>
    intro hk hl
    have h1 := rn_succ (ih (by omega) (fun j hj => hl j (by omega)))
    rw [cA_lt (hl k (by omega)) (by omega)] at h1
    show rn ch (p + k + 1) = _
    rw [h1]
    have e : up1 (up1 W.1 a (nmV ch p k)) a (addL (up1 W.1 a (nmV ch p k) a) k (ch (p + k))) = up1 W.1 a (nmV ch p (k + 1)) := by
      funext j
      unfold up1 addL
      by_cases c : j = a
      · rw [if_pos c, if_pos c, if_pos rfl]
        rw [show ((k : Int)).toNat = k by omega]; rfl
      · rw [if_neg c, if_neg c, if_neg c]
    show some (cur i 0 ((k : Int) + 1) ws (up1 (up1 W.1 a (nmV ch p k)) (W.2.1 - 1).toNat (addL (up1 W.1 a (nmV ch p k) (W.2.1 - 1).toNat) k (ch (p + k))), W.2)) = _
    rw [ha, e]; rfl
theorem run_Y {ch : Nat → Int} {p i : Nat} {ws : Nat → AWk} {W : AWk} (h : rn ch p = some (cur i 1 0 ws W)) (h0 : W.2.2.1 = 0) : ∀ k : Nat, k ≤ 4 → (∀ j, j < k → isDg j (ch (p + j))) → rn ch (p + k) = some (cur i 1 (k : Int) ws (W.1, W.2.1, yrV ch p k, W.2.2.2)) := by
  intro k
  induction k with
  | zero =>
    intro _ _
    have e : (W.1, W.2.1, yrV ch p 0, W.2.2.2) = W := by
      obtain ⟨w1, w2, w3, w4⟩ := W
      have : w3 = 0 := h0
      rw [this]; rfl
    rw [e]
    exact h
  | succ k ih =>
    intro hk hl
    have h1 := rn_succ (ih (by omega) (fun j hj => hl j (by omega)))
    rw [cY_dg (by omega) (hl k (by omega))] at h1
    show rn ch (p + k + 1) = _
    rw [h1]
    have e : yrV ch p k * 10 + ch (p + k) - 48 = yrV ch p (k + 1) := by simp only [yrV]; omega
    show some (cur i 1 ((k + 1 : Nat) : Int) ws (W.1, W.2.1, yrV ch p k * 10 + ch (p + k) - 48, W.2.2.2)) = _
    rw [e]
theorem run_T {ch : Nat → Int} {p i : Nat} {ws : Nat → AWk} {W : AWk} (h : rn ch p = some (cur i 2 0 ws W)) (h0 : W.2.2.2 = 0) : ∀ k : Nat, k ≤ 8 → (∀ j, j < k → isLt (ch (p + j))) → rn ch (p + k) = some (cur i 2 (k : Int) ws (W.1, W.2.1, W.2.2.1, nmV ch p k)) := by
  intro k
  induction k with
  | zero =>
    intro _ _
    have e : (W.1, W.2.1, W.2.2.1, nmV ch p 0) = W := by
      obtain ⟨w1, w2, w3, w4⟩ := W
      have : w4 = 0 := h0
      rw [this]; rfl
    rw [e]
    exact h
  | succ k ih =>
    intro hk hl
    have h1 := rn_succ (ih (by omega) (fun j hj => hl j (by omega)))
    rw [cT_lt (hl k (by omega)) (by omega)] at h1
    show rn ch (p + k + 1) = _
    rw [h1]
    have e : addL (nmV ch p k) k (ch (p + k)) = nmV ch p (k + 1) := by
      unfold addL
      rw [show ((k : Int)).toNat = k by omega]; rfl
    show some (cur i 2 ((k : Int) + 1) ws (W.1, W.2.1, W.2.2.1, addL (nmV ch p k) k (ch (p + k)))) = _
    rw [e]; rfl
/-- the text fails at q -/
def BadP (T : Nat × (Nat → Int)) (q : Nat) : Prop := ∃ s, rn T.2 q = some s ∧ ((q < T.1 ∧ stp s (T.2 q) = none) ∨ (q = T.1 ∧ ¬ (s.2.1 = 2 ∧ 0 < s.2.2.1)))
theorem rn_pre {ch : Nat → Int} {p : Nat} : ∀ d, rn ch (p + d) ≠ none → rn ch p ≠ none := by
  intro d
  induction d with
  | zero => intro h; exact h
  | succ d ih =>
    intro h
    refine ih fun e => h ?_
    show (match rn ch (p + d) with | some s => stp s (ch (p + d)) | none => none) = none
    rw [e]
theorem ok_zfst {ch : Nat → Int} {q : Nat} (h : rn ch q ≠ none) : ∀ n, n ≤ q → zfst (badAt ch) n = -9 := by
  intro n
  induction n with
  | zero => intro _; rfl
  | succ n ih =>
    intro hn
    refine zfst_miss (ih (by omega)) ?_
    have h1 : rn ch (n + 1) ≠ none := rn_pre (p := n + 1) (q - (n + 1)) (by rw [show n + 1 + (q - (n + 1)) = q by omega]; exact h)
    unfold badAt
    cases e : rn ch (n + 1) with
    | none => exact absurd e h1
    | some s => simp
theorem rdv_bad {T : Nat × (Nat → Int)} {q : Nat} (h : BadP T q) : rdv T.2 T.1 = q := by
  obtain ⟨s, h1, h2⟩ := h
  have hz := ok_zfst (ch := T.2) (q := q) (by rw [h1]; simp)
  rcases h2 with ⟨h2, h3⟩ | ⟨h2, h3⟩
  · have e : badAt T.2 q = 1 := by
      unfold badAt
      rw [rn_succ h1, h3]; rfl
    have e2 := zfst_hit (hz q (Nat.le_refl q)) e h2
    unfold rdv
    rw [e2, if_neg (by omega)]
  · unfold rdv
    rw [← h2, if_pos (hz q (Nat.le_refl q)), h1]
    exact if_neg h3
theorem rdv_ok {T : Nat × (Nat → Int)} {s : PSt} (h1 : rn T.2 T.1 = some s) (h2 : s.2.1 = 2) (h3 : 0 < s.2.2.1) : rdv T.2 T.1 = -9 := by
  have hz := ok_zfst (ch := T.2) (q := T.1) (by rw [h1]; simp) T.1 (Nat.le_refl _)
  unfold rdv
  rw [if_pos hz, h1]
  exact if_pos ⟨h2, h3⟩
/-- where the loop over the authors stands -/
def RWs (I I' : Mm) (m i : Nat) (ws : Nat → AWk) (T : Nat × (Nat → Int)) (q k na : Nat) (W : AWk) : Prop := (rn T.2 q = some (cur i 0 (k : Int) ws W) ∧ q ≤ T.1 ∧ (1 ≤ k ∧ k ≤ 8) ∧ (k = 8 ∨ q = T.1 ∨ ¬ isLt (T.2 q))) ∧ (W.2.1 = (na : Int) ∧ (∀ a : Nat, na ≤ a → W.1 a = 0) ∧ W.2.2.1 = 0 ∧ W.2.2.2 = 0) ∧ (I' m 3 = (q : Int) ∧ I' m 4 = 1 ∧ I' (m + 2) (4 + 47 * i + 1) = (na : Int) ∧ ∀ a : Nat, a < na → NmA (I' (m + 2)) (4 + 47 * i + 2 + 9 * a) (W.1 a)) ∧ (∀ c, (c < 4 + 47 * i ∨ 4 + 47 * i + 47 ≤ c) → I' (m + 2) c = I (m + 2) c) ∧ RFr I I' m
section ZM11
variable {X : Xt} {g : Geo} {I J : Mm} {b : Nat × Nat} {post : Out → Geo → Mm → Mm → Prop}
theorem sp_X7_readWork {m p i : Nat} {ws : Nat → AWk} {T : Nat × (Nat → Int)} (hL : ML X g m) (hT : MTx I m T) (hs : I m 3 = (p : Int)) (hg4 : I m 4 = 1) (hp : p ≤ T.1) (hi : i < 16) (h0 : I (m + 2) 0 = (i : Int)) (hrn : rn T.2 p = some (cur i 0 0 ws wk0)) (hB : ∀ I' q, q ≤ T.1 → BadP T q → I' m 3 = (q : Int) → I' m 4 = 0 → RFr I I' m → post (.inl none) g I' J) (hA : ∀ I' (q tk : Nat) (W : AWk), q ≤ T.1 → p + 8 ≤ q → rn T.2 q = some (cur i 2 (tk : Int) ws W) → 0 < tk → (tk = 8 ∨ q = T.1 ∨ ¬ isLt (T.2 q)) → I' m 3 = (q : Int) → I' m 4 = 1 → I' (m + 2) 0 = (i : Int) + 1 → WkA (I' (m + 2)) (4 + 47 * i) W → (∀ c, c ≠ 0 → (c < 4 + 47 * i ∨ 4 + 47 * i + 47 ≤ c) → I' (m + 2) c = I (m + 2) c) → RFr I I' m → post (.inl none) g I' J) : ZV X E_X7_readWork 0 [some (.ref m), none] [] b g I J post := by
  obtain ⟨l0, ⟨p1, p2, p3, p4, p5, p6, p7⟩, ⟨l1, l2, l3, l4, l5, l6⟩, ⟨j1, j2, j3, j4, j5, j6, j7⟩, ⟨k1, k2, k3, k4, k5, k6⟩⟩ := id hL
  have t100 := hT.2.1
  -- behind a failure
  have bad148 : ∀ (I' : Mm) (q : Nat), q ≤ T.1 → BadP T q → I' m 3 = (q : Int) → I' m 4 = 0 → (-20000 ≤ I' (m + 2) 0 ∧ I' (m + 2) 0 ≤ 20000) → RFr I I' m → ZV X E_X7_readWork 148 [some (.ref m), some (vi (i : Int))] [] b g I' J post := by
    intro I' q hq hbp h3 h4 hr hF
    refine ZV_aload_n dX7_readWork_148 rfl ?_
    refine ZV_getR fX7_readWork_13 dX7_readWork_149 (by assumption) rfl (by assumption) ?_
    refine ZV_iconst dX7_readWork_152 ?_
    first | refine ZV_dup2 dX7_readWork_153 rfl rfl ?_ | refine ZV_dup2l dX7_readWork_153 rfl ?_
    refine ZV_iald (0) dX7_readWork_154 (by assumption) (by first | rfl | omega) (by omega) (by omega) ?_
    refine ZV_aload_n dX7_readWork_155 rfl ?_
    refine ZV_getZ fX7_readWork_136 dX7_readWork_156 (by assumption) rfl ?_
    rw [h4]
    refine ZV_if_eq (tgt := 166) dX7_readWork_159 (by decide) ⟨by omega, by omega⟩ (fun h159 => ?_) (fun h159 => ?_)
    · refine ZV_iconst dX7_readWork_166 ?_
      refine ZV_iadd dX7_readWork_167 ?_
      refine ZV_iast (0) dX7_readWork_168 (by assumption) (by first | rfl | omega) (by omega) (by omega) ?_
      refine ZV_vret dX7_readWork_169 rfl ?_
      exact hB _ q hq hbp (by rw [up2_a (by omega)]; exact h3) (by rw [up2_a (by omega)]; exact h4) hF.ur
    · omega
  have bad131 : ∀ (I' : Mm) (q : Nat), q ≤ T.1 → BadP T q → I' m 3 = (q : Int) → I' m 4 = 0 → (-20000 ≤ I' (m + 2) 0 ∧ I' (m + 2) 0 ≤ 20000) → RFr I I' m → ZV X E_X7_readWork 131 [some (.ref m), some (vi (i : Int))] [] b g I' J post := by
    intro I' q hq hbp h3 h4 hr hF
    refine ZV_aload_n dX7_readWork_131 rfl ?_
    refine ZV_getZ fX7_readWork_136 dX7_readWork_132 (by assumption) rfl ?_
    rw [h4]
    refine ZV_if_eq (tgt := 148) dX7_readWork_135 (by decide) ⟨by omega, by omega⟩ (fun h135 => ?_) (fun h135 => ?_)
    · exact bad148 I' q hq hbp h3 h4 hr hF
    · omega
  have bad121 : ∀ (I' : Mm) (q : Nat), q ≤ T.1 → BadP T q → I' m 3 = (q : Int) → I' m 4 = 0 → (-20000 ≤ I' (m + 2) 0 ∧ I' (m + 2) 0 ≤ 20000) → RFr I I' m → ZV X E_X7_readWork 121 [some (.ref m), some (vi (i : Int))] [] b g I' J post := by
    intro I' q hq hbp h3 h4 hr hF
    refine ZV_aload_n dX7_readWork_121 rfl ?_
    refine ZV_aload_n dX7_readWork_122 rfl ?_
    refine ZV_bipush dX7_readWork_123 (by decide) ?_
    refine cl_X7_isNext kX7_readWork_155 rfl dX7_readWork_125 (by assumption) (Nat.le_of_ble_eq_true rfl) ?_
    refine sp_X7_isNext hL (hF.tx hT) h3 hq ⟨by decide, by decide⟩ ?_
    refine cl_X7_accept kX7_readWork_144 rfl dX7_readWork_128 (by assumption) (Nat.le_of_ble_eq_true rfl) ?_
    refine sp_X7_accept (p := q) hL h3 (by omega) h4 (Or.inl rfl) (by split <;> simp) (fun e => absurd e (by decide)) (fun _ => ?_)
    exact bad131 _ q hq hbp (up2_same _ _ _ _) (by rw [up2_k (by decide), up2_same]) (by rw [up2_a (by omega), up2_a (by omega)]; exact hr) ((hF.u4).u3)
  have bad112 : ∀ (I' : Mm) (q : Nat), q ≤ T.1 → BadP T q → I' m 3 = (q : Int) → I' m 4 = 0 → (-20000 ≤ I' (m + 2) 0 ∧ I' (m + 2) 0 ≤ 20000) → RFr I I' m → ZV X E_X7_readWork 112 [some (.ref m), some (vi (i : Int))] [] b g I' J post := by
    intro I' q hq hbp h3 h4 hr hF
    refine ZV_aload_n dX7_readWork_112 rfl ?_
    refine ZV_iload_n dX7_readWork_113 rfl ?_
    refine ZV_iconst dX7_readWork_114 ?_
    refine cl_X7_cell kX7_readWork_67 rfl dX7_readWork_115 (Nat.le_of_ble_eq_true rfl) ?_
    refine sp_X7_cell ?_
    rw [show 4 + 47 * (i : Int) + 0 = ((4 + 47 * i + 0 : Nat) : Int) by omega]
    refine cl_X7_readYear kX7_readWork_158 rfl dX7_readWork_118 (by assumption) (Nat.le_of_ble_eq_true rfl) ?_
    refine sp_X7_readYear hL (hF.tx hT) h3 h4 (Or.inl rfl) hq (by omega) (fun e => absurd e (by decide)) (fun e => absurd e (by decide)) ?_
    intro _ I2 i3 i4 ifr iF
    exact bad121 I2 q hq hbp i3 i4 (by rw [ifr 0 (by omega)]; exact hr) (hF.tr iF)
  have bad102 : ∀ (I' : Mm) (q : Nat), q ≤ T.1 → BadP T q → I' m 3 = (q : Int) → I' m 4 = 0 → (-20000 ≤ I' (m + 2) 0 ∧ I' (m + 2) 0 ≤ 20000) → RFr I I' m → ZV X E_X7_readWork 102 [some (.ref m), some (vi (i : Int))] [] b g I' J post := by
    intro I' q hq hbp h3 h4 hr hF
    refine ZV_aload_n dX7_readWork_102 rfl ?_
    refine ZV_aload_n dX7_readWork_103 rfl ?_
    refine ZV_bipush dX7_readWork_104 (by decide) ?_
    refine cl_X7_isNext kX7_readWork_155 rfl dX7_readWork_106 (by assumption) (Nat.le_of_ble_eq_true rfl) ?_
    refine sp_X7_isNext hL (hF.tx hT) h3 hq ⟨by decide, by decide⟩ ?_
    refine cl_X7_accept kX7_readWork_144 rfl dX7_readWork_109 (by assumption) (Nat.le_of_ble_eq_true rfl) ?_
    refine sp_X7_accept (p := q) hL h3 (by omega) h4 (Or.inl rfl) (by split <;> simp) (fun e => absurd e (by decide)) (fun _ => ?_)
    exact bad112 _ q hq hbp (up2_same _ _ _ _) (by rw [up2_k (by decide), up2_same]) (by rw [up2_a (by omega), up2_a (by omega)]; exact hr) ((hF.u4).u3)
  have bad27 : ∀ (I' : Mm) (q : Nat), q ≤ T.1 → BadP T q → I' m 3 = (q : Int) → I' m 4 = 0 → (-20000 ≤ I' (m + 2) 0 ∧ I' (m + 2) 0 ≤ 20000) → RFr I I' m → ZV X E_X7_readWork 27 [some (.ref m), some (vi (i : Int))] [] b g I' J post := by
    intro I' q hq hbp h3 h4 hr hF
    refine ZV_aload_n dX7_readWork_27 rfl ?_
    refine ZV_getZ fX7_readWork_136 dX7_readWork_28 (by assumption) rfl ?_
    rw [h4]
    refine ZV_if_eq (tgt := 102) dX7_readWork_31 (by decide) ⟨by omega, by omega⟩ (fun h31 => ?_) (fun h31 => ?_)
    · exact bad102 I' q hq hbp h3 h4 hr hF
    · omega
  -- behind the authors
  have good102 : ∀ (I' : Mm) (q k na : Nat) (W : AWk), RWs I I' m i ws T q k na W → p + 1 ≤ q → (1 ≤ na ∧ na ≤ 4) → (q < T.1 → T.2 q = 44 → 4 ≤ na) → ZV X E_X7_readWork 102 [some (.ref m), some (vi (i : Int))] [] b g I' J post := by
    intro I' q k na W hW hpq hna hcm
    obtain ⟨⟨w1, w2, w3, w4⟩, ⟨w5, w6, w7, w8⟩, ⟨w9, w10, w11, w12⟩, w13, w14⟩ := hW
    have hr0 : I' (m + 2) 0 = (i : Int) := by rw [w13 0 (by omega)]; exact h0
    refine ZV_aload_n dX7_readWork_102 rfl ?_
    refine ZV_aload_n dX7_readWork_103 rfl ?_
    refine ZV_bipush dX7_readWork_104 (by decide) ?_
    refine cl_X7_isNext kX7_readWork_155 rfl dX7_readWork_106 (by assumption) (Nat.le_of_ble_eq_true rfl) ?_
    refine sp_X7_isNext hL (w14.tx hT) w9 w2 ⟨by decide, by decide⟩ ?_
    refine cl_X7_accept kX7_readWork_144 rfl dX7_readWork_109 (by assumption) (Nat.le_of_ble_eq_true rfl) ?_
    by_cases hc : q < T.1 ∧ T.2 q = 58
    · rw [if_pos hc]
      refine sp_X7_accept (p := q) hL w9 (by omega) w10 (Or.inr rfl) (Or.inr rfl) (fun _ _ => ?_) (fun e => absurd ⟨rfl, rfl⟩ e)
      have rn1 : rn T.2 (q + 1) = some (cur i 1 0 ws W) := by rw [rn_succ w1, hc.2]; exact cA_colon (by omega)
      have F1 := (w14.u4 (v := 1)).u3 (v := (q : Int) + 1)
      have r1 : ∀ c, up2 (up2 I' m 4 1) m 3 ((q : Int) + 1) (m + 2) c = I' (m + 2) c := fun c => by rw [up2_a (by omega), up2_a (by omega)]
      refine ZV_aload_n dX7_readWork_112 rfl ?_
      refine ZV_iload_n dX7_readWork_113 rfl ?_
      refine ZV_iconst dX7_readWork_114 ?_
      refine cl_X7_cell kX7_readWork_67 rfl dX7_readWork_115 (Nat.le_of_ble_eq_true rfl) ?_
      refine sp_X7_cell ?_
      rw [show 4 + 47 * (i : Int) + 0 = ((4 + 47 * i + 0 : Nat) : Int) by omega]
      refine cl_X7_readYear kX7_readWork_158 rfl dX7_readWork_118 (by assumption) (Nat.le_of_ble_eq_true rfl) ?_
      refine sp_X7_readYear (p := q + 1) hL (F1.tx hT) (up2_same _ _ _ _) (by rw [up2_k (by decide), up2_same]) (Or.inr rfl) (by omega) (by omega) (fun _ => ?_) (fun _ => ?_) (fun e => absurd e (by decide))
      · intro I2 yd yn i3 i4 iy ifr iF
        have rn2 := run_Y rn1 w7 4 (by decide) yd
        refine ZV_aload_n dX7_readWork_121 rfl ?_
        refine ZV_aload_n dX7_readWork_122 rfl ?_
        refine ZV_bipush dX7_readWork_123 (by decide) ?_
        refine cl_X7_isNext kX7_readWork_155 rfl dX7_readWork_125 (by assumption) (Nat.le_of_ble_eq_true rfl) ?_
        refine sp_X7_isNext (p := q + 1 + 4) hL ((F1.tr iF).tx hT) i3 yn ⟨by decide, by decide⟩ ?_
        refine cl_X7_accept kX7_readWork_144 rfl dX7_readWork_128 (by assumption) (Nat.le_of_ble_eq_true rfl) ?_
        by_cases hc2 : q + 1 + 4 < T.1 ∧ T.2 (q + 1 + 4) = 58
        · rw [if_pos hc2]
          refine sp_X7_accept (p := q + 1 + 4) hL i3 (by omega) i4 (Or.inr rfl) (Or.inr rfl) (fun _ _ => ?_) (fun e => absurd ⟨rfl, rfl⟩ e)
          have rn3 : rn T.2 (q + 1 + 4 + 1) = some (cur i 2 0 ws (W.1, W.2.1, yrV T.2 (q + 1) 4, W.2.2.2)) := by rw [rn_succ rn2, hc2.2]; exact cY_colon
          have F2 := ((F1.tr iF).u4 (v := 1)).u3 (v := ((q + 1 + 4 : Nat) : Int) + 1)
          refine ZV_aload_n dX7_readWork_131 rfl ?_
          refine ZV_getZ fX7_readWork_136 dX7_readWork_132 (by assumption) rfl ?_
          rw [up2_k (by decide), up2_same]
          refine ZV_if_eq (tgt := 148) dX7_readWork_135 (by decide) ⟨by omega, by omega⟩ (fun h135 => ?_) (fun h135 => ?_)
          · omega
          · refine ZV_aload_n dX7_readWork_138 rfl ?_
            refine ZV_iload_n dX7_readWork_139 rfl ?_
            refine ZV_bipush dX7_readWork_140 (by decide) ?_
            refine cl_X7_cell kX7_readWork_67 rfl dX7_readWork_142 (Nat.le_of_ble_eq_true rfl) ?_
            refine sp_X7_cell ?_
            rw [show 4 + 47 * (i : Int) + 38 = ((4 + 47 * i + 38 : Nat) : Int) by omega]
            refine cl_X7_readName kX7_readWork_152 rfl dX7_readWork_145 (by assumption) (Nat.le_of_ble_eq_true rfl) ?_
            refine sp_X7_readName (p := q + 1 + 4 + 1) hL (F2.tx hT) (by rw [up2_same]; omega) (by rw [up2_k (by decide), up2_same]) (by omega) (by omega) ?_ ?_
            · intro I4 k4 a1 a2 a3 a4 a5 a6 a7 a8 a9
              have rn4 := run_T rn3 w8 k4 (by omega) a2
              have c0 : I4 (m + 2) 0 = (i : Int) := by rw [a8 0 (by omega), up2_a (by omega), up2_a (by omega), ifr 0 (by omega), r1]; exact hr0
              refine ZV_aload_n dX7_readWork_148 rfl ?_
              refine ZV_getR fX7_readWork_13 dX7_readWork_149 (by assumption) rfl (by assumption) ?_
              refine ZV_iconst dX7_readWork_152 ?_
              first | refine ZV_dup2 dX7_readWork_153 rfl rfl ?_ | refine ZV_dup2l dX7_readWork_153 rfl ?_
              refine ZV_iald (0) dX7_readWork_154 (by assumption) (by first | rfl | omega) (by omega) (by omega) ?_
              rw [c0]
              refine ZV_aload_n dX7_readWork_155 rfl ?_
              refine ZV_getZ fX7_readWork_136 dX7_readWork_156 (by assumption) rfl ?_
              rw [a6]
              refine ZV_if_eq (tgt := 166) dX7_readWork_159 (by decide) ⟨by omega, by omega⟩ (fun h159 => ?_) (fun h159 => ?_)
              · omega
              · refine ZV_iconst dX7_readWork_162 ?_
                refine ZV_goto (tgt := 167) dX7_readWork_163 (by decide) ?_
                refine ZV_iadd dX7_readWork_167 ?_
                refine ZV_iast (0) dX7_readWork_168 (by assumption) (by first | rfl | omega) (by omega) (by omega) ?_
                refine ZV_vret dX7_readWork_169 rfl ?_
                have cc : ∀ c, c ≠ 0 → c ≠ 4 + 47 * i + 0 → (c < 4 + 47 * i + 38 ∨ 4 + 47 * i + 38 + 9 ≤ c) → up2 I4 (m + 2) 0 ((i : Int) + 1) (m + 2) c = I' (m + 2) c := fun c e0 e1 e2 => by rw [up2_k e0, a8 c e2, up2_a (by omega), up2_a (by omega), ifr c e1, r1]
                refine hA _ (q + 1 + 4 + 1 + k4) k4 (W.1, W.2.1, yrV T.2 (q + 1) 4, nmV T.2 (q + 1 + 4 + 1) k4) a3 (by omega) rn4 (by omega) (by omega) (by rw [up2_a (by omega)]; exact a5) (by rw [up2_a (by omega)]; exact a6) (up2_same _ _ _ _) ⟨⟨?_, ?_⟩, fun a ha => ?_, ?_⟩ (fun c e0 e1 => ?_) ((F2.tr a9).ur)
                · rw [show 4 + 47 * i = 4 + 47 * i + 0 by omega, up2_k (by omega), a8 _ (by omega), up2_a (by omega), up2_a (by omega)]; exact iy
                · rw [cc _ (by omega) (by omega) (by omega)]
                  show I' (m + 2) (4 + 47 * i + 1) = W.2.1
                  rw [w11, w5]
                · have ha2 : (a : Int) < W.2.1 := ha
                  exact (w12 a (by omega)).move (p := 4 + 47 * i + 2 + 9 * a) (fun c hc9 => cc _ (by omega) (by omega) (by omega))
                · exact a7.move (p := 4 + 47 * i + 38) (fun c hc9 => up2_k (by omega))
                · rw [cc c e0 (by omega) (by omega)]; exact w13 c e1
            · intro I4 a1 a2 a3 a4 a5
              have c0 : I4 (m + 2) 0 = (i : Int) := by rw [a4 0 (by omega), up2_a (by omega), up2_a (by omega), ifr 0 (by omega), r1]; exact hr0
              refine bad148 I4 (q + 1 + 4 + 1) (by omega) ⟨_, rn3, ?_⟩ a2 a3 (by rw [c0]; omega) (F2.tr a5)
              by_cases e : q + 1 + 4 + 1 = T.1
              · exact Or.inr ⟨e, fun z => absurd z.2 (by show ¬ (0 : Int) < 0; decide)⟩
              · exact Or.inl ⟨by omega, cT_no (fun z => a1 ⟨by omega, z⟩) (fun z => absurd z.2 (by decide))⟩
        · rw [if_neg hc2]
          refine sp_X7_accept (p := q + 1 + 4) hL i3 (by omega) i4 (Or.inr rfl) (Or.inl rfl) (fun _ e => absurd e (by decide)) (fun _ => ?_)
          have c0 : I2 (m + 2) 0 = (i : Int) := by rw [ifr 0 (by omega), r1]; exact hr0
          refine bad131 _ (q + 1 + 4) yn ⟨_, rn2, ?_⟩ (up2_same _ _ _ _) (by rw [up2_k (by decide), up2_same]) (by rw [up2_a (by omega), up2_a (by omega), c0]; omega) (((F1.tr iF).u4).u3)
          by_cases e : q + 1 + 4 = T.1
          · exact Or.inr ⟨e, fun z => absurd z.1 (by show ¬ (1 : Int) = 2; decide)⟩
          · exact Or.inl ⟨by omega, cY_4 (fun z => hc2 ⟨by omega, z⟩)⟩
      · intro I2 k2 yk yd yn ynd i3 i4 ifr iF
        have rn2 := run_Y rn1 w7 k2 (by omega) yd
        have c0 : I2 (m + 2) 0 = (i : Int) := by rw [ifr 0 (by omega), r1]; exact hr0
        refine bad121 I2 (q + 1 + k2) yn ⟨_, rn2, ?_⟩ i3 i4 (by rw [c0]; omega) (F1.tr iF)
        by_cases e : q + 1 + k2 = T.1
        · exact Or.inr ⟨e, fun z => absurd z.1 (by show ¬ (1 : Int) = 2; decide)⟩
        · exact Or.inl ⟨by omega, cY_no yk (fun z => ynd ⟨by omega, z⟩)⟩
    · rw [if_neg hc]
      refine sp_X7_accept (p := q) hL w9 (by omega) w10 (Or.inr rfl) (Or.inl rfl) (fun _ e => absurd e (by decide)) (fun _ => ?_)
      refine bad112 _ q w2 ⟨_, w1, ?_⟩ (up2_same _ _ _ _) (by rw [up2_k (by decide), up2_same]) (by rw [up2_a (by omega), up2_a (by omega), hr0]; omega) ((w14.u4).u3)
      by_cases e : q = T.1
      · exact Or.inr ⟨e, fun z => absurd z.1 (by show ¬ (0 : Int) = 2; decide)⟩
      · exact Or.inl ⟨by omega, cA_no (fun z => by omega) (fun z => by have := hcm (by omega) z; omega) (fun z => absurd ⟨by omega, z⟩ hc)⟩
  -- the loop over the authors
  have loop : ∀ na : Nat, na ≤ 4 → 1 ≤ na → ∀ (I' : Mm) (q k : Nat) (W : AWk), RWs I I' m i ws T q k na W → p + 1 ≤ q → ZV X E_X7_readWork 27 [some (.ref m), some (vi (i : Int))] [] b g I' J post := by
    refine loop_up 4 ?_ ?_
    · intro hna I' q k W hW hpq
      have hW' := hW
      obtain ⟨⟨w1, w2, w3, w4⟩, ⟨w5, w6, w7, w8⟩, ⟨w9, w10, w11, w12⟩, w13, w14⟩ := hW'
      refine ZV_aload_n dX7_readWork_27 rfl ?_
      refine ZV_getZ fX7_readWork_136 dX7_readWork_28 (by assumption) rfl ?_
      rw [w10]
      refine ZV_if_eq (tgt := 102) dX7_readWork_31 (by decide) ⟨by omega, by omega⟩ (fun h31 => ?_) (fun h31 => ?_)
      · omega
      · refine ZV_aload_n dX7_readWork_34 rfl ?_
        refine ZV_bipush dX7_readWork_35 (by decide) ?_
        refine cl_X7_isNext kX7_readWork_155 rfl dX7_readWork_37 (by assumption) (Nat.le_of_ble_eq_true rfl) ?_
        refine sp_X7_isNext hL (w14.tx hT) w9 w2 ⟨by decide, by decide⟩ ?_
        have go := good102 I' q k 4 W hW hpq ⟨by decide, by decide⟩ (fun _ _ => Nat.le_refl 4)
        by_cases hc : q < T.1 ∧ T.2 q = 44
        · rw [if_pos hc]
          refine ZV_if_eq (tgt := 102) dX7_readWork_40 (by decide) ⟨by omega, by omega⟩ (fun h40 => ?_) (fun h40 => ?_)
          · omega
          · refine ZV_aload_n dX7_readWork_43 rfl ?_
            refine ZV_getR fX7_readWork_13 dX7_readWork_44 (by assumption) rfl (by assumption) ?_
            refine ZV_iload_n dX7_readWork_47 rfl ?_
            refine ZV_iconst dX7_readWork_48 ?_
            refine cl_X7_cell kX7_readWork_67 rfl dX7_readWork_49 (Nat.le_of_ble_eq_true rfl) ?_
            refine sp_X7_cell ?_
            refine ZV_iald (4 + 47 * i + 1) dX7_readWork_52 (by assumption) (by first | rfl | omega) (by omega) (by omega) ?_
            rw [w11]
            refine ZV_iconst dX7_readWork_53 ?_
            refine ZV_icmp_ge (tgt := 102) dX7_readWork_54 (by decide) ⟨by omega, by omega⟩ ⟨by omega, by omega⟩ (fun h54 => ?_) (fun h54 => ?_)
            · exact go
            · omega
        · rw [if_neg hc]
          refine ZV_if_eq (tgt := 102) dX7_readWork_40 (by decide) ⟨by omega, by omega⟩ (fun h40 => ?_) (fun h40 => ?_)
          · exact go
          · omega
    · intro na hna4 ih hna I' q k W hW hpq
      have hW' := hW
      obtain ⟨⟨w1, w2, w3, w4⟩, ⟨w5, w6, w7, w8⟩, ⟨w9, w10, w11, w12⟩, w13, w14⟩ := hW'
      have hr0 : I' (m + 2) 0 = (i : Int) := by rw [w13 0 (by omega)]; exact h0
      refine ZV_aload_n dX7_readWork_27 rfl ?_
      refine ZV_getZ fX7_readWork_136 dX7_readWork_28 (by assumption) rfl ?_
      rw [w10]
      refine ZV_if_eq (tgt := 102) dX7_readWork_31 (by decide) ⟨by omega, by omega⟩ (fun h31 => ?_) (fun h31 => ?_)
      · omega
      · refine ZV_aload_n dX7_readWork_34 rfl ?_
        refine ZV_bipush dX7_readWork_35 (by decide) ?_
        refine cl_X7_isNext kX7_readWork_155 rfl dX7_readWork_37 (by assumption) (Nat.le_of_ble_eq_true rfl) ?_
        refine sp_X7_isNext hL (w14.tx hT) w9 w2 ⟨by decide, by decide⟩ ?_
        by_cases hc : q < T.1 ∧ T.2 q = 44
        · rw [if_pos hc]
          have rn1 : rn T.2 (q + 1) = some (cur i 0 0 ws (W.1, W.2.1 + 1, W.2.2)) := by rw [rn_succ w1, hc.2]; exact cA_comma (by omega) (by omega)
          have F1 := w14.u3 (v := (q : Int) + 1)
          refine ZV_if_eq (tgt := 102) dX7_readWork_40 (by decide) ⟨by omega, by omega⟩ (fun h40 => ?_) (fun h40 => ?_)
          · omega
          · refine ZV_aload_n dX7_readWork_43 rfl ?_
            refine ZV_getR fX7_readWork_13 dX7_readWork_44 (by assumption) rfl (by assumption) ?_
            refine ZV_iload_n dX7_readWork_47 rfl ?_
            refine ZV_iconst dX7_readWork_48 ?_
            refine cl_X7_cell kX7_readWork_67 rfl dX7_readWork_49 (Nat.le_of_ble_eq_true rfl) ?_
            refine sp_X7_cell ?_
            refine ZV_iald (4 + 47 * i + 1) dX7_readWork_52 (by assumption) (by first | rfl | omega) (by omega) (by omega) ?_
            rw [w11]
            refine ZV_iconst dX7_readWork_53 ?_
            refine ZV_icmp_ge (tgt := 102) dX7_readWork_54 (by decide) ⟨by omega, by omega⟩ ⟨by omega, by omega⟩ (fun h54 => ?_) (fun h54 => ?_)
            · omega
            · refine ZV_aload_n dX7_readWork_57 rfl ?_
              refine ZV_dup dX7_readWork_58 rfl ?_
              refine ZV_getI fX7_readWork_129 dX7_readWork_59 (by assumption) rfl ?_
              rw [w9]
              refine ZV_iconst dX7_readWork_62 ?_
              refine ZV_iadd dX7_readWork_63 ?_
              refine ZV_putI fX7_readWork_129 dX7_readWork_64 (by assumption) rfl ?_
              refine ZV_aload_n dX7_readWork_67 rfl ?_
              refine ZV_iload_n dX7_readWork_68 rfl ?_
              refine ZV_aload_n dX7_readWork_69 rfl ?_
              refine ZV_getR fX7_readWork_13 dX7_readWork_70 (by assumption) rfl (by assumption) ?_
              refine ZV_iload_n dX7_readWork_73 rfl ?_
              refine ZV_iconst dX7_readWork_74 ?_
              refine cl_X7_cell kX7_readWork_67 rfl dX7_readWork_75 (Nat.le_of_ble_eq_true rfl) ?_
              refine sp_X7_cell ?_
              refine ZV_iald (4 + 47 * i + 1) dX7_readWork_78 (by assumption) (by first | rfl | omega) (by omega) (by omega) ?_
              rw [up2_a (by omega), w11]
              refine cl_X7_author kX7_readWork_71 rfl dX7_readWork_79 (Nat.le_of_ble_eq_true rfl) ?_
              refine sp_X7_author ?_
              rw [show 4 + 47 * (i : Int) + (2 + 9 * (na : Int)) = ((4 + 47 * i + 2 + 9 * na : Nat) : Int) by omega]
              refine cl_X7_readName kX7_readWork_152 rfl dX7_readWork_82 (by assumption) (Nat.le_of_ble_eq_true rfl) ?_
              refine sp_X7_readName (p := q + 1) hL (F1.tx hT) (by rw [up2_same]; omega) (by rw [up2_k (by decide)]; exact w10) (by omega) (by omega) ?_ ?_
              · intro I4 k4 a1 a2 a3 a4 a5 a6 a7 a8 a9
                have rn4 := run_A rn1 (a := na) (by show (W.2.1 + 1 - 1).toNat = na; omega) (w6 na (Nat.le_refl na)) k4 (by omega) a2
                have c1 : I4 (m + 2) (4 + 47 * i + 1) = (na : Int) := by rw [a8 _ (by omega), up2_a (by omega)]; exact w11
                refine ZV_aload_n dX7_readWork_85 rfl ?_
                refine ZV_getR fX7_readWork_13 dX7_readWork_86 (by assumption) rfl (by assumption) ?_
                refine ZV_iload_n dX7_readWork_89 rfl ?_
                refine ZV_iconst dX7_readWork_90 ?_
                refine cl_X7_cell kX7_readWork_67 rfl dX7_readWork_91 (Nat.le_of_ble_eq_true rfl) ?_
                refine sp_X7_cell ?_
                first | refine ZV_dup2 dX7_readWork_94 rfl rfl ?_ | refine ZV_dup2l dX7_readWork_94 rfl ?_
                refine ZV_iald (4 + 47 * i + 1) dX7_readWork_95 (by assumption) (by first | rfl | omega) (by omega) (by omega) ?_
                rw [c1]
                refine ZV_iconst dX7_readWork_96 ?_
                refine ZV_iadd dX7_readWork_97 ?_
                refine ZV_iast (4 + 47 * i + 1) dX7_readWork_98 (by assumption) (by first | rfl | omega) (by omega) (by omega) ?_
                refine ZV_goto (tgt := 27) dX7_readWork_99 (by decide) ?_
                refine ih (by omega) _ (q + 1 + k4) k4 (up1 W.1 na (nmV T.2 (q + 1) k4), W.2.1 + 1, W.2.2) ⟨⟨rn4, a3, a1, a4⟩, ⟨by show W.2.1 + 1 = ((na + 1 : Nat) : Int); omega, fun a ha => ?_, w7, w8⟩, ⟨by rw [up2_a (by omega)]; exact a5, by rw [up2_a (by omega)]; exact a6, by rw [up2_same]; rfl, fun a ha => ?_⟩, fun c hc9 => ?_, (F1.tr a9).ur⟩ (by omega)
                · show up1 W.1 na (nmV T.2 (q + 1) k4) a = 0
                  unfold up1
                  rw [if_neg (by omega)]
                  exact w6 a (by omega)
                · show NmA _ _ (up1 W.1 na (nmV T.2 (q + 1) k4) a)
                  unfold up1
                  by_cases e : a = na
                  · rw [if_pos e, e]
                    exact a7.move (p := 4 + 47 * i + 2 + 9 * na) (fun c hc9 => up2_k (by omega))
                  · rw [if_neg e]
                    exact (w12 a (by omega)).move (p := 4 + 47 * i + 2 + 9 * a) (fun c hc9 => by rw [up2_k (by omega), a8 _ (by omega), up2_a (by omega)])
                · rw [up2_k (by omega), a8 _ (by omega), up2_a (by omega)]; exact w13 c hc9
              · intro I4 a1 a2 a3 a4 a5
                have c1 : I4 (m + 2) (4 + 47 * i + 1) = (na : Int) := by rw [a4 _ (by omega), up2_a (by omega)]; exact w11
                have c0 : I4 (m + 2) 0 = (i : Int) := by rw [a4 _ (by omega), up2_a (by omega)]; exact hr0
                refine ZV_aload_n dX7_readWork_85 rfl ?_
                refine ZV_getR fX7_readWork_13 dX7_readWork_86 (by assumption) rfl (by assumption) ?_
                refine ZV_iload_n dX7_readWork_89 rfl ?_
                refine ZV_iconst dX7_readWork_90 ?_
                refine cl_X7_cell kX7_readWork_67 rfl dX7_readWork_91 (Nat.le_of_ble_eq_true rfl) ?_
                refine sp_X7_cell ?_
                first | refine ZV_dup2 dX7_readWork_94 rfl rfl ?_ | refine ZV_dup2l dX7_readWork_94 rfl ?_
                refine ZV_iald (4 + 47 * i + 1) dX7_readWork_95 (by assumption) (by first | rfl | omega) (by omega) (by omega) ?_
                rw [c1]
                refine ZV_iconst dX7_readWork_96 ?_
                refine ZV_iadd dX7_readWork_97 ?_
                refine ZV_iast (4 + 47 * i + 1) dX7_readWork_98 (by assumption) (by first | rfl | omega) (by omega) (by omega) ?_
                refine ZV_goto (tgt := 27) dX7_readWork_99 (by decide) ?_
                refine bad27 _ (q + 1) (by omega) ⟨_, rn1, ?_⟩ (by rw [up2_a (by omega)]; exact a2) (by rw [up2_a (by omega)]; exact a3) (by rw [up2_k (by omega), c0]; omega) ((F1.tr a5).ur)
                by_cases e : q + 1 = T.1
                · exact Or.inr ⟨e, fun z => absurd z.1 (by show ¬ (0 : Int) = 2; decide)⟩
                · exact Or.inl ⟨by omega, cA_no (fun z => absurd ⟨by omega, z⟩ a1) (fun _ z => absurd z.1 (by decide)) (fun _ => by decide)⟩
        · rw [if_neg hc]
          refine ZV_if_eq (tgt := 102) dX7_readWork_40 (by decide) ⟨by omega, by omega⟩ (fun h40 => ?_) (fun h40 => ?_)
          · exact good102 I' q k na W hW hpq ⟨hna, by omega⟩ (fun e1 e2 => absurd ⟨e1, e2⟩ hc)
          · omega
  have F0 := (RFr.rf I m).ur (k := 4 + 47 * i + 1) (v := 1)
  refine ZV_aload_n dX7_readWork_0 rfl ?_
  refine ZV_getR fX7_readWork_13 dX7_readWork_1 (by assumption) rfl (by assumption) ?_
  refine ZV_iconst dX7_readWork_4 ?_
  refine ZV_iald (0) dX7_readWork_5 (by assumption) (by first | rfl | omega) (by omega) (by omega) ?_
  rw [h0]
  refine ZV_istore1 dX7_readWork_6 rfl (by decide) ?_
  refine ZV_aload_n dX7_readWork_7 rfl ?_
  refine ZV_getR fX7_readWork_13 dX7_readWork_8 (by assumption) rfl (by assumption) ?_
  refine ZV_iload_n dX7_readWork_11 rfl ?_
  refine ZV_iconst dX7_readWork_12 ?_
  refine cl_X7_cell kX7_readWork_67 rfl dX7_readWork_13 (Nat.le_of_ble_eq_true rfl) ?_
  refine sp_X7_cell ?_
  refine ZV_iconst dX7_readWork_16 ?_
  refine ZV_iast (4 + 47 * i + 1) dX7_readWork_17 (by assumption) (by first | rfl | omega) (by omega) (by omega) ?_
  refine ZV_aload_n dX7_readWork_18 rfl ?_
  refine ZV_iload_n dX7_readWork_19 rfl ?_
  refine ZV_iconst dX7_readWork_20 ?_
  refine cl_X7_author kX7_readWork_71 rfl dX7_readWork_21 (Nat.le_of_ble_eq_true rfl) ?_
  refine sp_X7_author ?_
  rw [show 4 + 47 * (i : Int) + (2 + 9 * 0) = ((4 + 47 * i + 2 + 9 * 0 : Nat) : Int) by omega]
  refine cl_X7_readName kX7_readWork_152 rfl dX7_readWork_24 (by assumption) (Nat.le_of_ble_eq_true rfl) ?_
  refine sp_X7_readName (p := p) hL (F0.tx hT) (by rw [up2_a (by omega)]; exact hs) (by rw [up2_a (by omega)]; exact hg4) hp (by omega) ?_ ?_
  · intro I4 k4 a1 a2 a3 a4 a5 a6 a7 a8 a9
    have rn4 := run_A hrn (a := 0) rfl rfl k4 (by omega) a2
    refine loop 1 (by decide) (Nat.le_refl 1) I4 (p + k4) k4 (up1 wk0.1 0 (nmV T.2 p k4), wk0.2) ⟨⟨rn4, a3, a1, a4⟩, ⟨rfl, fun a ha => ?_, rfl, rfl⟩, ⟨a5, a6, by rw [a8 _ (by omega), up2_same]; rfl, fun a ha => ?_⟩, fun c hc9 => by rw [a8 _ (by omega), up2_k (by omega)], F0.tr a9⟩ (by omega)
    · show up1 wk0.1 0 (nmV T.2 p k4) a = 0
      unfold up1
      rw [if_neg (by omega)]; rfl
    · rw [show a = 0 by omega]
      exact a7
  · intro I4 a1 a2 a3 a4 a5
    have c0 : I4 (m + 2) 0 = (i : Int) := by rw [a4 _ (by omega), up2_k (by omega)]; exact h0
    refine bad27 I4 p hp ⟨_, hrn, ?_⟩ a2 a3 (by rw [c0]; omega) (F0.tr a5)
    by_cases e : p = T.1
    · exact Or.inr ⟨e, fun z => absurd z.1 (by show ¬ (0 : Int) = 2; decide)⟩
    · exact Or.inl ⟨by omega, cA_no (fun z => absurd ⟨by omega, z⟩ a1) (fun _ z => absurd z.1 (by decide)) (fun _ => by decide)⟩
end ZM11

