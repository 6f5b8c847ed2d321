/-! the texts that the law tells, and how they are read -/
abbrev Txt : Type := Nat × (Nat → Int)
theorem rn_congr {c c' : Nat → Int} : ∀ n, (∀ p, p < n → c p = c' p) → rn c n = rn c' n := by
  intro n
  induction n with
  | zero => intro _; rfl
  | succ n ih =>
    intro h
    show (match rn c n with | some s => stp s (c n) | none => none) = (match rn c' n with | some s => stp s (c' n) | none => none)
    rw [ih (fun p hp => h p (by omega)), h n (by omega)]
theorem rn_add {T : Txt} {z : Int} {s : PSt} (h : rn T.2 T.1 = some s) : rn (txAdd T z).2 (txAdd T z).1 = stp s z := by
  have e : rn (txAdd T z).2 T.1 = some s := by
    rw [← h]
    refine rn_congr T.1 (fun p hp => ?_)
    show (if p = T.1 then z else T.2 p) = T.2 p
    rw [if_neg (by omega)]
  have e2 := rn_succ e
  have e3 : (txAdd T z).2 T.1 = z := if_pos rfl
  rw [e3] at e2
  exact e2
def PA (T : Txt) (i : Nat) (part tk na : Int) : Prop := ∃ (ws : Nat → AWk) (W : AWk), rn T.2 T.1 = some (cur i part tk ws W) ∧ W.2.1 = na
theorem PA.start (f : Nat → Int) : PA (0, f) 0 0 0 1 := ⟨fun _ => wk0, wk0, rfl, rfl⟩
theorem PA.ltA {T : Txt} {i : Nat} {tk na z : Int} (h : PA T i 0 tk na) (h1 : isLt z) (h2 : tk < 8) : PA (txAdd T z) i 0 (tk + 1) na := by
  obtain ⟨ws, W, h3, h4⟩ := h
  exact ⟨ws, _, (rn_add h3).trans (cA_lt h1 h2), h4⟩
theorem PA.ltT {T : Txt} {i : Nat} {tk na z : Int} (h : PA T i 2 tk na) (h1 : isLt z) (h2 : tk < 8) : PA (txAdd T z) i 2 (tk + 1) na := by
  obtain ⟨ws, W, h3, h4⟩ := h
  exact ⟨ws, _, (rn_add h3).trans (cT_lt h1 h2), h4⟩
theorem PA.comma {T : Txt} {i : Nat} {tk na : Int} (h : PA T i 0 tk na) (h1 : 0 < tk) (h2 : na < 4) : PA (txAdd T 44) i 0 0 (na + 1) := by
  obtain ⟨ws, W, h3, h4⟩ := h
  exact ⟨ws, _, (rn_add h3).trans (cA_comma h1 (by omega)), by show W.2.1 + 1 = na + 1; omega⟩
theorem PA.colon {T : Txt} {i : Nat} {tk na : Int} (h : PA T i 0 tk na) (h1 : 0 < tk) : PA (txAdd T 58) i 1 0 na := by
  obtain ⟨ws, W, h3, h4⟩ := h
  exact ⟨ws, W, (rn_add h3).trans (cA_colon h1), h4⟩
theorem PA.dg {T : Txt} {i k : Nat} {na z : Int} (h : PA T i 1 (k : Int) na) (hk : k < 4) (h1 : isDg k z) : PA (txAdd T z) i 1 ((k + 1 : Nat) : Int) na := by
  obtain ⟨ws, W, h3, h4⟩ := h
  exact ⟨ws, _, (rn_add h3).trans (cY_dg hk h1), h4⟩
theorem PA.colon2 {T : Txt} {i : Nat} {na : Int} (h : PA T i 1 4 na) : PA (txAdd T 58) i 2 0 na := by
  obtain ⟨ws, W, h3, h4⟩ := h
  exact ⟨ws, W, (rn_add h3).trans cY_colon, h4⟩
theorem PA.semi {T : Txt} {i : Nat} {tk na : Int} (h : PA T i 2 tk na) (h1 : 0 < tk) (h2 : i + 1 < 16) : PA (txAdd T 59) (i + 1) 0 0 1 := by
  obtain ⟨ws, W, h3, h4⟩ := h
  exact ⟨_, wk0, (rn_add h3).trans (cT_semi h1 h2), rfl⟩
theorem PA.list {T : Txt} {i : Nat} {tk na : Int} (h : PA T i 2 tk na) (h1 : 0 < tk) : rdv T.2 T.1 = -9 ∧ ∃ s, rn T.2 T.1 = some s ∧ s.1 = i + 1 := by
  obtain ⟨ws, W, h3, h4⟩ := h
  exact ⟨rdv_ok h3 rfl h1, _, h3, rfl⟩
/-- the letters of a name, how many, the text behind them -/
def nmc (x : Int) (k : Nat) : Int := 97 + x / 32 / 2 ^ k % 2
def nmn (x : Int) : Nat := if x % 4 = 0 then (1 + x / 4 % 8).toNat else (1 + x / 4 % 2).toNat
def nmT (x : Int) (T : Txt) : Nat → Txt
  | 0 => T
  | k + 1 => txAdd (nmT x T k) (nmc x k)
theorem nmn_rng (x : Int) : 1 ≤ nmn x ∧ nmn x ≤ 8 := by unfold nmn; split <;> omega
theorem nmc_rng (x : Int) (k : Nat) : 97 ≤ nmc x k ∧ nmc x k ≤ 98 := by
  unfold nmc
  omega
theorem nmT_len (x : Int) (T : Txt) : ∀ k, (nmT x T k).1 = T.1 + k := by
  intro k
  induction k with
  | zero => rfl
  | succ k ih => show (nmT x T k).1 + 1 = T.1 + (k + 1); omega
theorem nmT_A {x : Int} {T : Txt} {i : Nat} {na : Int} (h : PA T i 0 0 na) : ∀ k : Nat, k ≤ 8 → PA (nmT x T k) i 0 (k : Int) na := by
  intro k
  induction k with
  | zero => intro _; exact h
  | succ k ih =>
    intro hk
    have r := nmc_rng x k
    have q := (ih (by omega)).ltA (z := nmc x k) ⟨by omega, by omega⟩ (by omega)
    have e : ((k + 1 : Nat) : Int) = (k : Int) + 1 := by omega
    rw [e]
    exact q
theorem nmT_T {x : Int} {T : Txt} {i : Nat} {na : Int} (h : PA T i 2 0 na) : ∀ k : Nat, k ≤ 8 → PA (nmT x T k) i 2 (k : Int) na := by
  intro k
  induction k with
  | zero => intro _; exact h
  | succ k ih =>
    intro hk
    have r := nmc_rng x k
    have q := (ih (by omega)).ltT (z := nmc x k) ⟨by omega, by omega⟩ (by omega)
    have e : ((k + 1 : Nat) : Int) = (k : Int) + 1 := by omega
    rw [e]
    exact q
/-- a name, whole -/
def nmX (x : Int) (T : Txt) : Txt := nmT x T (nmn x)
theorem nmX_len (x : Int) (T : Txt) : (nmX x T).1 ≤ T.1 + 8 := by
  unfold nmX
  rw [nmT_len]
  have := nmn_rng x
  omega
def tlN (x : Int) : Nat := if x % 3 = 0 then (x / 3 % 4).toNat else 0
theorem tlN_rng (x : Int) : tlN x ≤ 3 := by unfold tlN; split <;> omega
def tlA (y : Int) (T : Txt) : Nat → Txt
  | 0 => nmX y T
  | a + 1 => nmX (y / 5 + 7 * (a : Int)) (txAdd (tlA y T a) 44)
theorem tlA_len (y : Int) (T : Txt) : ∀ a, (tlA y T a).1 ≤ T.1 + 8 + 9 * a := by
  intro a
  induction a with
  | zero => have := nmX_len y T; exact this
  | succ a ih =>
    have h := nmX_len (y / 5 + 7 * (a : Int)) (txAdd (tlA y T a) 44)
    have e : (txAdd (tlA y T a) 44).1 = (tlA y T a).1 + 1 := rfl
    show (nmX (y / 5 + 7 * (a : Int)) (txAdd (tlA y T a) 44)).1 ≤ _
    omega
theorem tlA_P {y : Int} {T : Txt} {i : Nat} (h : PA T i 0 0 1) : ∀ a : Nat, a ≤ 3 → ∃ tk, 0 < tk ∧ PA (tlA y T a) i 0 tk (1 + (a : Int)) := by
  intro a
  induction a with
  | zero =>
    intro _
    have r := nmn_rng y
    exact ⟨(nmn y : Int), by omega, nmT_A h (nmn y) r.2⟩
  | succ a ih =>
    intro ha
    obtain ⟨tk, t1, t2⟩ := ih (by omega)
    have c := t2.comma t1 (by omega)
    have r := nmn_rng (y / 5 + 7 * (a : Int))
    have q := nmT_A (x := y / 5 + 7 * (a : Int)) c (nmn (y / 5 + 7 * (a : Int))) r.2
    have e : (1 + ((a + 1 : Nat) : Int)) = 1 + (a : Int) + 1 := by omega
    rw [e]
    exact ⟨_, by omega, q⟩
def tlY (x : Int) : Int := if x % 4 = 0 then 1000 + x / 4 % 2000 else 1990 + x / 4 % 3 * 10 + x % 2
theorem tlY_rng (x : Int) : 1000 ≤ tlY x ∧ tlY x ≤ 2999 := by unfold tlY; split <;> omega
/-- the divisors 1000, 100, 10, 1 -/
def tlD : Nat → Int
  | 0 => 1000
  | k + 1 => tlD k / 10
def tlG (y : Int) (T : Txt) : Nat → Txt
  | 0 => T
  | k + 1 => txAdd (tlG y T k) (48 + y / tlD k % 10)
theorem tlG_len (y : Int) (T : Txt) : ∀ k, (tlG y T k).1 = T.1 + k := by
  intro k
  induction k with
  | zero => rfl
  | succ k ih => show (tlG y T k).1 + 1 = T.1 + (k + 1); omega
theorem tlG_P {y : Int} {T : Txt} {i : Nat} {na : Int} (hy : 1000 ≤ y ∧ y ≤ 2999) (h : PA T i 1 0 na) : PA (tlG y T 4) i 1 4 na := by
  have d0 : tlD 0 = 1000 := rfl
  have d1 : tlD 1 = 100 := rfl
  have d2 : tlD 2 = 10 := rfl
  have d3 : tlD 3 = 1 := rfl
  have a0 := PA.dg (k := 0) (z := 48 + y / tlD 0 % 10) h (by decide) (Or.inl ⟨rfl, by rw [d0]; omega, by rw [d0]; omega⟩)
  have a1 := PA.dg (k := 1) (z := 48 + y / tlD 1 % 10) a0 (by decide) (Or.inr ⟨by decide, by rw [d1]; omega, by rw [d1]; omega⟩)
  have a2 := PA.dg (k := 2) (z := 48 + y / tlD 2 % 10) a1 (by decide) (Or.inr ⟨by decide, by rw [d2]; omega, by rw [d2]; omega⟩)
  exact PA.dg (k := 3) (z := 48 + y / tlD 3 % 10) a2 (by decide) (Or.inr ⟨by decide, by rw [d3]; omega, by rw [d3]; omega⟩)
def tlT (x y : Int) (T : Txt) : Txt := nmX (x / 7) (txAdd (tlG (tlY x) (txAdd (tlA y T (tlN x)) 58) 4) 58)
theorem tlT_len (x y : Int) (T : Txt) : (tlT x y T).1 ≤ T.1 + 49 := by
  have h1 := tlA_len y T (tlN x)
  have h2 := tlN_rng x
  have h3 := tlG_len (tlY x) (txAdd (tlA y T (tlN x)) 58) 4
  have h4 := nmX_len (x / 7) (txAdd (tlG (tlY x) (txAdd (tlA y T (tlN x)) 58) 4) 58)
  have e1 : (txAdd (tlA y T (tlN x)) 58).1 = (tlA y T (tlN x)).1 + 1 := rfl
  have e2 : (txAdd (tlG (tlY x) (txAdd (tlA y T (tlN x)) 58) 4) 58).1 = (tlG (tlY x) (txAdd (tlA y T (tlN x)) 58) 4).1 + 1 := rfl
  unfold tlT
  omega
theorem tlT_P {x y : Int} {T : Txt} {i : Nat} (h : PA T i 0 0 1) : ∃ tk na, 0 < tk ∧ PA (tlT x y T) i 2 tk na := by
  obtain ⟨tk, t1, t2⟩ := tlA_P (y := y) h (tlN x) (tlN_rng x)
  have c := tlG_P (tlY_rng x) (t2.colon t1)
  have r := nmn_rng (x / 7)
  exact ⟨_, _, by omega, nmT_T (x := x / 7) c.colon2 (nmn (x / 7)) r.2⟩
/-- the list of two that is loaded -/
theorem tl_two (x y : Int) (f : Nat → Int) : ∃ s, rdv (tlT y x (txAdd (tlT x y (0, f)) 59)).2 (tlT y x (txAdd (tlT x y (0, f)) 59)).1 = -9 ∧ rn (tlT y x (txAdd (tlT x y (0, f)) 59)).2 (tlT y x (txAdd (tlT x y (0, f)) 59)).1 = some s ∧ s.1 = 2 := by
  obtain ⟨tk, na, t1, t2⟩ := tlT_P (x := x) (y := y) (PA.start f)
  obtain ⟨tk', na', u1, u2⟩ := tlT_P (x := y) (y := x) (t2.semi t1 (by decide))
  obtain ⟨e1, s, e2, e3⟩ := u2.list u1
  exact ⟨s, e1, e2, e3⟩
