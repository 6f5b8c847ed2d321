/-! out of whole's rows: what speaks of no reference -/
theorem hlen {W : AWk} {s : Int} (hW : AWF W) (hs : 0 ≤ s ∧ s ≤ 3) : (hN W s : Int) + hS W s + hD s ≤ 11 := by
  have l0 := wfN_len (hW.2.1 0 (by have := hW.1; omega))
  have hn := hW.1
  have hc : s = 0 ∨ s = 1 ∨ s = 2 ∨ s = 3 := by omega
  rcases hc with rfl | rfl | rfl | rfl
  · have e : hN W 0 = min 3 (nlen (W.1 0)).toNat := rfl
    have e2 : hS W 0 = 0 := rfl
    have e3 : hD 0 = 2 := rfl
    omega
  · have e : hN W 1 = W.2.1.toNat := rfl
    have e2 : hS W 1 = 0 := rfl
    have e3 : hD 1 = 4 := rfl
    omega
  · have e : hN W 2 = (nlen (W.1 0)).toNat := rfl
    have e2 := hS_01 W 2
    have e3 : hD 2 = 2 := rfl
    omega
  · have e : hN W 3 = 2 := rfl
    have e2 : hS W 3 = 0 := rfl
    have e3 : hD 3 = 4 := rfl
    omega
theorem KWF.len {κ : Int} (h : KWF κ) : 3 ≤ klen κ ∧ klen κ ≤ 12 := by
  obtain ⟨W, s, l, hW, hs, hl, rfl⟩ := h
  have hy := hW.2.2.2.1
  obtain ⟨c1, -⟩ := stm_rd (l := l) hW hs (y := W.2.2.1) ⟨by omega, by omega⟩ ⟨by omega, by omega⟩
  have h1 := hlen hW hs
  have h2 := (hF_rng hW hs).1
  have h3 := hS_01 W s
  have h4 := hD_24 s
  rw [c1]
  split <;> omega
theorem acmp_zero {f f' : Nat → Int} {n : Nat} (h : acmp f f' n = 0) : ∀ m, n ≤ m → (∀ k, n ≤ k → k < m → f k = f' k) → acmp f f' m = 0 := by
  intro m
  induction m with
  | zero => intro q _; rw [show n = 0 by omega] at h; exact h
  | succ m ih =>
    intro q hk
    by_cases e : n = m + 1
    · rw [← e]; exact h
    · have h1 := ih (by omega) (fun k h1 h2 => hk k h1 (by omega))
      simp only [acmp]
      rw [if_pos h1, hk m (by omega) (by omega)]
      unfold zcmp
      rw [if_neg (by omega), if_pos rfl]
theorem zcmp_sg (x y : Int) : (zcmp x y < 0 ↔ x < y) ∧ (zcmp x y = 0 ↔ x = y) := by
  unfold zcmp
  split
  · exact ⟨⟨fun _ => by omega, fun _ => by decide⟩, ⟨fun q => absurd q (by decide), fun q => by omega⟩⟩
  · split
    · exact ⟨⟨fun q => absurd q (by decide), fun q => by omega⟩, ⟨fun _ => by omega, fun _ => rfl⟩⟩
    · exact ⟨⟨fun q => absurd q (by decide), fun q => by omega⟩, ⟨fun q => absurd q (by decide), fun q => by omega⟩⟩
theorem stemOf_KWF {B : ASt} (h : GoodSt B) {i : Nat} (hi : i < aN B) : KWF (stemOf B i) := ⟨aW B i, aS B, 0, h.2.1 i hi, h.1.2.2.1, ⟨by decide, by decide⟩, (Int.add_zero _).symm⟩
theorem keyOf_KWF {B : ASt} (h : GoodSt B) {i : Nat} (hi : i < aN B) : KWF (keyOf B i) := ⟨aW B i, aS B, letOf B i, h.2.1 i hi, h.1.2.2.1, letOf_rng h.1 i, rfl⟩
theorem acmp_self (f : Nat → Int) : ∀ n, acmp f f n = 0 := fun n => acmp_zero (n := 0) rfl n (Nat.zero_le n) (fun _ _ _ => rfl)
theorem bz_self (od : Int) (W : AWk) (i : Int) : bz od W W i i = 0 := by
  have e1 : ∀ x : Int, zcmp x x = 0 := fun x => (zcmp_sg x x).2.2 rfl
  unfold bz ch3
  rw [acmp_self, e1, e1]
  split <;> simp
theorem key_ext {W : AWk} {s y l : Int} (hW : AWF W) (hs : 0 ≤ s ∧ s ≤ 3) (hy : 0 ≤ y ∧ y < 4096) (hl : 0 < l ∧ l < 32) : klen (stm W s y + l) = klen (stm W s y) + 1 ∧ (∀ k : Nat, (k : Int) < klen (stm W s y) → kch (stm W s y + l) k = kch (stm W s y) k) ∧ kch (stm W s y + l) (klen (stm W s y)) = 96 + l := by
  obtain ⟨a1, a2, a3, a4, a5⟩ := stm_rd hW hs hy (l := l) ⟨by omega, by omega⟩
  have rd := stm_rd hW hs hy (l := 0) ⟨by omega, by omega⟩
  rw [Int.add_zero] at rd
  obtain ⟨b1, b2, b3, b4, b5⟩ := rd
  rw [if_pos hl.1] at a1
  rw [if_neg (by omega)] at b1
  have s1 := hS_01 W s
  refine ⟨by omega, fun k hk => ?_, by rw [b1, Int.add_zero]; exact a5 hl.1⟩
  by_cases c : k < hN W s
  · rw [a2 k c, b2 k c]
  · by_cases c2 : k = hN W s ∧ hS W s = 1
    · rw [c2.1, a3 c2.2, b3 c2.2]
    · have e : (k : Int) = (hN W s : Int) + hS W s + ((k - hN W s - (hS W s).toNat : Nat) : Int) := by omega
      rw [e, a4 _ (by omega), b4 _ (by omega)]
def F1 (B : ASt) (i j : Nat) : Int := if stemOf B j = stemOf B i then 1 else 0
def F2 (B : ASt) (i j : Nat) : Int := if stemOf B j = stemOf B i then bz (aO B) (aW B j) (aW B i) j i else 0
def F3 (B : ASt) (i j : Nat) : Int := bz (aO B) (aW B j) (aW B i) j i
theorem F1_01 (B : ASt) (i j : Nat) : F1 B i j = 0 ∨ F1 B i j = 1 := by unfold F1; split <;> simp
theorem F3_01 (B : ASt) (i j : Nat) : F3 B i j = 0 ∨ F3 B i j = 1 := bz_01 ..
theorem F2_01 (B : ASt) (i j : Nat) : F2 B i j = 0 ∨ F2 B i j = 1 := by
  unfold F2
  split
  · exact bz_01 ..
  · exact Or.inl rfl
theorem klet_key {B : ASt} (h : GoodSt B) {i : Nat} (hi : i < aN B) : klet (keyOf B i) = letOf B i := by
  have h1 := stemOf_rng h.1 hi
  have h2 := letOf_rng h.1 i
  unfold klet keyOf
  omega
theorem zsum_add (f f' : Nat → Int) : ∀ n, zsum (fun i => f i + f' i) n = zsum f n + zsum f' n := by
  intro n
  induction n with
  | zero => rfl
  | succ n ih => simp only [zsum]; rw [ih]; omega
theorem codeAt_wf {v k : Int} (h : wfN v) (hk : 0 ≤ k) : codeAt v k = if k < nlen v then 96 + dg v k.toNat else -9 := by
  obtain ⟨h1, h2, h3⟩ := wfN_len h
  unfold codeAt dgz
  by_cases c : k < nlen v
  · have := h1.2.2.2 k.toNat (by omega)
    have e : (if 0 ≤ k ∧ k < 8 then dg v k.toNat else 0) = dg v k.toNat := if_pos ⟨hk, by omega⟩
    rw [e, if_pos c, if_neg (by omega)]
  · have e : (if 0 ≤ k ∧ k < 8 then dg v k.toNat else 0) = 0 := by
      by_cases c2 : 0 ≤ k ∧ k < 8
      · rw [if_pos c2, nmW_out h1 (by omega) (by omega)]
      · rw [if_neg c2]
    rw [e, if_neg c, if_pos rfl]
theorem kch_out {κ k : Int} (h : klen κ ≤ k) : kch κ k = -9 := by
  have s1 := ksg_rng κ
  have s2 := kdg_rng κ
  have s3 := klet_rng κ
  have e : klen κ = nlen (khd κ) + ksg κ + kdg κ + (if 0 < klet κ then 1 else 0) := rfl
  unfold kch
  by_cases c : 0 < klet κ
  · rw [if_pos c] at e
    rw [if_neg (by omega), if_neg (by omega), if_neg (by omega), if_neg (by omega)]
  · rw [if_neg c] at e
    rw [if_neg (by omega), if_neg (by omega), if_neg (by omega), if_neg (by omega)]
abbrev isLt (c : Int) : Prop := 97 ≤ c ∧ c ≤ 122
abbrev isDg (k : Nat) (c : Int) : Prop := (k = 0 ∧ 49 ≤ c ∧ c ≤ 50) ∨ (k ≠ 0 ∧ 48 ≤ c ∧ c ≤ 57)
def cur (i : Nat) (part tk : Int) (ws : Nat → AWk) (W : AWk) : PSt := (i + 1, part, tk, setW ws i W)
theorem setW_at (ws : Nat → AWk) (i : Nat) (W : AWk) : setW ws i W (i + 1 - 1) = W := by
  unfold setW
  rw [if_pos (by omega)]
theorem lift_cur (i : Nat) (part tk : Int) (ws : Nat → AWk) (W : AWk) (p t : Int) (W' : AWk) : lift (cur i part tk ws W) (some (p, t, W')) = some (cur i p t ws W') := by
  show some (i + 1, p, t, setW (setW ws i W) (i + 1 - 1) W') = some (i + 1, p, t, setW ws i W')
  have e : setW (setW ws i W) (i + 1 - 1) W' = setW ws i W' := by
    funext j
    unfold setW
    by_cases c : j = i
    · rw [if_pos (by omega), if_pos c]
    · rw [if_neg (by omega), if_neg c, if_neg c]
  rw [e]
theorem stpA (i : Nat) (tk : Int) (ws : Nat → AWk) (W : AWk) (c : Int) : stp (cur i 0 tk ws W) c = lift (cur i 0 tk ws W) (tA tk W c) := by
  show lift (cur i 0 tk ws W) (tA tk (setW ws i W (i + 1 - 1)) c) = _
  rw [setW_at]
theorem stpY (i : Nat) (tk : Int) (ws : Nat → AWk) (W : AWk) (c : Int) : stp (cur i 1 tk ws W) c = lift (cur i 1 tk ws W) (tY tk W c) := by
  show lift (cur i 1 tk ws W) (tY tk (setW ws i W (i + 1 - 1)) c) = _
  rw [setW_at]
theorem stpT (i : Nat) (tk : Int) (ws : Nat → AWk) (W : AWk) (c : Int) : stp (cur i 2 tk ws W) c = if isLt c then lift (cur i 2 tk ws W) (tT tk W c) else if c = 59 ∧ 0 < tk ∧ i + 1 < 16 then some (cur (i + 1) 0 0 (setW ws i W) wk0) else none := by
  show (if 97 ≤ c ∧ c ≤ 122 then lift (cur i 2 tk ws W) (tT tk (setW ws i W (i + 1 - 1)) c) else _) = _
  rw [setW_at]
  rfl
theorem cA_lt {i : Nat} {tk c : Int} {ws : Nat → AWk} {W : AWk} (h1 : isLt c) (h2 : tk < 8) : stp (cur i 0 tk ws W) c = some (cur i 0 (tk + 1) ws (up1 W.1 (W.2.1 - 1).toNat (addL (W.1 (W.2.1 - 1).toNat) tk c), W.2)) := by
  rw [stpA]; unfold tA; rw [if_pos h1, if_pos h2, lift_cur]
theorem cA_comma {i : Nat} {tk : Int} {ws : Nat → AWk} {W : AWk} (h1 : 0 < tk) (h2 : W.2.1 < 4) : stp (cur i 0 tk ws W) 44 = some (cur i 0 0 ws (W.1, W.2.1 + 1, W.2.2)) := by
  rw [stpA]; unfold tA; rw [if_neg (by decide), if_pos ⟨rfl, h1, h2⟩, lift_cur]
theorem cA_colon {i : Nat} {tk : Int} {ws : Nat → AWk} {W : AWk} (h1 : 0 < tk) : stp (cur i 0 tk ws W) 58 = some (cur i 1 0 ws W) := by
  rw [stpA]; unfold tA; rw [if_neg (by decide), if_neg (fun q => absurd q.1 (by decide)), if_pos ⟨rfl, h1⟩, lift_cur]
theorem cY_dg {i k : Nat} {c : Int} {ws : Nat → AWk} {W : AWk} (hk : k < 4) (h1 : isDg k c) : stp (cur i 1 (k : Int) ws W) c = some (cur i 1 ((k + 1 : Nat) : Int) ws (W.1, W.2.1, W.2.2.1 * 10 + c - 48, W.2.2.2)) := by
  rw [stpY]; unfold tY; rw [if_neg (by omega), if_pos (by omega), lift_cur]; rfl
theorem cY_colon {i : Nat} {ws : Nat → AWk} {W : AWk} : stp (cur i 1 4 ws W) 58 = some (cur i 2 0 ws W) := by
  rw [stpY]; unfold tY; rw [if_pos rfl, if_pos rfl, lift_cur]
theorem cT_lt {i : Nat} {tk c : Int} {ws : Nat → AWk} {W : AWk} (h1 : isLt c) (h2 : tk < 8) : stp (cur i 2 tk ws W) c = some (cur i 2 (tk + 1) ws (W.1, W.2.1, W.2.2.1, addL W.2.2.2 tk c)) := by
  rw [stpT, if_pos h1]; unfold tT; rw [if_pos h2, lift_cur]
theorem cT_semi {i : Nat} {tk : Int} {ws : Nat → AWk} {W : AWk} (h1 : 0 < tk) (h2 : i + 1 < 16) : stp (cur i 2 tk ws W) 59 = some (cur (i + 1) 0 0 (setW ws i W) wk0) := by
  rw [stpT, if_neg (by decide), if_pos ⟨rfl, h1, h2⟩]
theorem rn_succ {ch : Nat → Int} {p : Nat} {s : PSt} (h : rn ch p = some s) : rn ch (p + 1) = stp s (ch p) := by
  show (match rn ch p with | some s => stp s (ch p) | none => none) = _
  rw [h]
theorem rn_pre {ch : Nat → Int} {p : Nat} : ∀ d, rn ch (p + d) ≠ none → rn ch p ≠ none := by
  intro d
  induction d with
  | zero => intro h; exact h
  | succ d ih =>
    intro h
    refine ih fun e => h ?_
    show (match rn ch (p + d) with | some s => stp s (ch (p + d)) | none => none) = none
    rw [e]
theorem ok_zfst {ch : Nat → Int} {q : Nat} (h : rn ch q ≠ none) : ∀ n, n ≤ q → zfst (badAt ch) n = -9 := by
  intro n
  induction n with
  | zero => intro _; rfl
  | succ n ih =>
    intro hn
    refine zfst_miss (ih (by omega)) ?_
    have h1 : rn ch (n + 1) ≠ none := rn_pre (p := n + 1) (q - (n + 1)) (by rw [show n + 1 + (q - (n + 1)) = q by omega]; exact h)
    unfold badAt
    cases e : rn ch (n + 1) with
    | none => exact absurd e h1
    | some s => simp
theorem rdv_ok {T : Nat × (Nat → Int)} {s : PSt} (h1 : rn T.2 T.1 = some s) (h2 : s.2.1 = 2) (h3 : 0 < s.2.2.1) : rdv T.2 T.1 = -9 := by
  have hz := ok_zfst (ch := T.2) (q := T.1) (by rw [h1]; simp) T.1 (Nat.le_refl _)
  unfold rdv
  rw [if_pos hz, h1]
  exact if_pos ⟨h2, h3⟩
theorem aList_W (A : ASt) (ws : Nat → AWk) : ∀ n k, k < n → aW (aList A ws n) k = ws k := by
  intro n
  induction n with
  | zero => intro k hk; exact absurd hk (Nat.not_lt_zero k)
  | succ n ih =>
    intro k hk
    show (if k = aN (aList A ws n) then ws n else aW (aList A ws n) k) = ws k
    rw [aList_n]
    by_cases e : k = n
    · rw [if_pos e, e]
    · rw [if_neg e]; exact ih k (by omega)
theorem aList_S (A : ASt) (ws : Nat → AWk) : ∀ n, aS (aList A ws n) = 0 ∧ aO (aList A ws n) = 0 ∧ aPn (aList A ws n) = 0
  | 0 => ⟨rfl, rfl, rfl⟩
  | n + 1 => aList_S A ws n
theorem aList_G {A : ASt} (h : GoodSt A) (ws : Nat → AWk) : ∀ n, n ≤ 16 → (∀ k, k < n → AWF (ws k)) → GoodSt (aList A ws n) := by
  intro n
  induction n with
  | zero => intro _ _; exact h.emp
  | succ n ih =>
    intro hn hw
    exact (ih (by omega) (fun k hk => hw k (by omega))).place (hw n (by omega)) (by rw [aList_n]; omega)
theorem SIn_all {s : PSt} (h : SIn s) (h1 : s.2.1 = 2) (h2 : 0 < s.2.2.1) : ∀ k, k < s.1 → AWF (s.2.2.2 k) := by
  intro k hk
  by_cases e : k = s.1 - 1
  · have := h.2.1
    rw [h1, ← e] at this
    exact CWF_AWF this h2
  · exact h.2.2 k (by omega)
theorem wtF_pos (A : ASt) : ∀ n, 1 ≤ n → 0 ≤ (wtF A n).1 := by
  intro n
  induction n with
  | zero => intro h; omega
  | succ n ih =>
    intro _
    simp only [wtF]
    split
    · show (0 : Int) ≤ n; omega
    · by_cases e : n = 0
      · subst e
        rename_i h
        exact absurd (Or.inl rfl) h
      · exact ih (by omega)
theorem vi_rep (v : Int) : ∃ w, r32 w ∧ vi v = vi w := by
  refine ⟨(i32 v).toInt, ⟨Int32.le_toInt _, by have := Int32.toInt_lt (i32 v); omega⟩, ?_⟩
  show Value.int (i32 v) = Value.int (i32 (i32 v).toInt)
  unfold i32
  rw [Int32.ofInt_toInt]
theorem CInv.out {X : Xt} {g : Geo} {I I' J J' : Mm} {c : Nat} {Q : AC} (h : CInv X g I J c Q) (hr : ∀ q, c ≤ q → q < c + 726 → I' q = I q ∧ J' q = J q) : CInv X g I' J' c Q := by
  obtain ⟨hL, hg, hT, hN, hH, hV⟩ := h
  exact ⟨hL, hg, hT.rw' (fun q q1 q2 => (hr q (by omega) (by omega)).1), hN.rw' hL.2.2.1 rfl (fun q q1 q2 => hr q (by omega) (by omega)), hH.rw' hL (fun _ _ _ => rfl) (fun q q1 q2 => hr q (by omega) (by omega)), hV.rw' hL (fun _ _ _ => rfl) (fun q q1 q2 => hr q (by omega) (by omega))⟩
theorem ksh_g {X : Xt} {g g' : Geo} {a : Nat} {k : Kd} (h : ksh X g a = some k) (e : g'.1 = g.1) : ksh X g' a = some k := by unfold ksh at h ⊢; rw [e]; exact h
theorem zH_thr {X : Xt} {E : Me} {pc0 pc hpc : Nat} {L : List (Option Value)} {S : List Value} {b : Nat × Nat} {g : Geo} {I J : Mm} {post : Out → Geo → Mm → Mm → Prop} {Ex : String} (h : CK E pc0 Ex hpc) (k : ∀ q, ZV X E hpc L [.ref q] b g I J post) : zH X E pc0 pc L S b post (.inr Ex) g I J := ⟨hpc, h, k⟩
theorem ZV_loose {X : Xt} {E : Me} {pc : Nat} {L : List (Option Value)} {S : List Value} {b : Nat × Nat} {g : Geo} {I J : Mm} {post : Out → Geo → Mm → Mm → Prop} (h : ZV X E pc L S b (g.1, g.2.1, false) I J post) : ZV X E pc L S b g I J post := by
  intro p e s m args below meth c C H locs cells slots ls hH
  exact h p e s m args below meth c C H locs cells slots ls ⟨hH.1, fun q => absurd q Bool.false_ne_true⟩
