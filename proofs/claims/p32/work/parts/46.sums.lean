/-! sums, first places, orders -/
theorem zsum_le {f g : Nat → Int} : ∀ n, (∀ i, i < n → f i ≤ g i) → zsum f n ≤ zsum g n := by
  intro n
  induction n with
  | zero => intro _; exact Int.le_refl _
  | succ n ih =>
    intro h
    have h1 := ih (fun i hi => h i (by omega))
    have h2 := h n (by omega)
    simp only [zsum]
    omega
theorem zsum_lt {f g : Nat → Int} {q : Nat} : ∀ n, q < n → (∀ i, i < n → f i ≤ g i) → f q < g q → zsum f n < zsum g n := by
  intro n
  induction n with
  | zero => intro hq; omega
  | succ n ih =>
    intro hq h hl
    have h2 := h n (by omega)
    simp only [zsum]
    by_cases e : q = n
    · rw [e] at hl
      have h1 := zsum_le (f := f) (g := g) n (fun i hi => h i (by omega))
      omega
    · have h1 := ih (by omega) (fun i hi => h i (by omega)) hl
      omega
theorem zsum_all0 {f : Nat → Int} : ∀ n, (∀ i, i < n → f i = 0) → zsum f n = 0 := by
  intro n
  induction n with
  | zero => intro _; rfl
  | succ n ih =>
    intro h
    simp only [zsum]
    rw [ih (fun i hi => h i (by omega)), h n (by omega)]; rfl
theorem zsum_ones : ∀ n : Nat, zsum (fun _ => (1 : Int)) n = (n : Int) := by
  intro n
  induction n with
  | zero => rfl
  | succ n ih => simp only [zsum]; rw [ih]; omega
theorem zsum_swap (F : Nat → Nat → Int) (m : Nat) : ∀ n, zsum (fun i => zsum (F i) m) n = zsum (fun p => zsum (fun i => F i p) n) m := by
  intro n
  induction n with
  | zero => exact (zsum_all0 m (fun _ _ => rfl)).symm
  | succ n ih =>
    show zsum (fun i => zsum (F i) m) n + zsum (F n) m = _
    rw [ih, ← zsum_add]; rfl
theorem zsum_uniq {f : Nat → Int} {q : Nat} : ∀ n, q < n → (∀ i, i < n → i ≠ q → f i = 0) → zsum f n = f q := by
  intro n
  induction n with
  | zero => intro hq; omega
  | succ n ih =>
    intro hq h
    simp only [zsum]
    by_cases e : q = n
    · rw [zsum_all0 n (fun i hi => h i (by omega) (by omega)), e]; omega
    · rw [ih (by omega) (fun i hi hne => h i (by omega) hne), h n (by omega) (by omega)]; omega
theorem zsum_skip {f : Nat → Int} {i : Nat} : ∀ n, i < n + 1 → zsum (fun j => f (if j < i then j else j + 1)) n + f i = zsum f (n + 1) := by
  intro n
  induction n with
  | zero =>
    intro hi
    have e : i = 0 := by omega
    subst e
    rfl
  | succ n ih =>
    intro hi
    by_cases e : i = n + 1
    · have h1 : zsum (fun j => f (if j < i then j else j + 1)) (n + 1) = zsum f (n + 1) := zsum_congr (n + 1) (fun j hj => by
        show f (if j < i then j else j + 1) = f j
        rw [if_pos (by omega)])
      rw [h1, e]; rfl
    · have h1 := ih (by omega)
      have h2 : zsum (fun j => f (if j < i then j else j + 1)) (n + 1) = zsum (fun j => f (if j < i then j else j + 1)) n + f (n + 1) := by
        show zsum (fun j => f (if j < i then j else j + 1)) n + f (if n < i then n else n + 1) = _
        rw [if_neg (by omega)]
      have h3 : zsum f (n + 1 + 1) = zsum f (n + 1) + f (n + 1) := rfl
      rw [h2, h3, ← h1]; omega
theorem zsum_ex {f : Nat → Int} : ∀ n, 0 < zsum f n → ∃ i, i < n ∧ 0 < f i := by
  intro n
  induction n with
  | zero => intro h; exact absurd h (Int.lt_irrefl 0)
  | succ n ih =>
    intro h
    simp only [zsum] at h
    by_cases e : 0 < f n
    · exact ⟨n, by omega, e⟩
    · obtain ⟨i, h1, h2⟩ := ih (by omega)
      exact ⟨i, by omega, h2⟩
theorem zsum_most1 {f : Nat → Int} : ∀ n, (∀ i, i < n → f i = 0 ∨ f i = 1) → (∀ i j, i < j → j < n → f i = 1 → f j = 1 → False) → zsum f n ≤ 1 := by
  intro n
  induction n with
  | zero => intro _ _; exact (by decide : (0 : Int) ≤ 1)
  | succ n ih =>
    intro h1 h2
    simp only [zsum]
    rcases h1 n (by omega) with e | e
    · have := ih (fun i hi => h1 i (by omega)) (fun i j a b => h2 i j a (by omega))
      omega
    · rw [zsum_all0 n (fun i hi => by
        rcases h1 i (by omega) with q | q
        · exact q
        · exact (h2 i n hi (by omega) q e).elim)]
      omega
theorem zsum_two {f : Nat → Int} {i j n : Nat} (h : ∀ k, k < n → 0 ≤ f k) (hi : i < n) (hj : j < n) (hij : i ≠ j) (h1 : 1 ≤ f i) (h2 : 1 ≤ f j) : 1 < zsum f n := by
  have a := zsum_uniq (f := fun k => if k = i then 1 else 0) (q := i) n hi (fun k _ hne => by show (if k = i then (1 : Int) else 0) = 0; rw [if_neg hne])
  have b := zsum_lt (f := fun k => if k = i then 1 else 0) (g := f) (q := j) n hj (fun k hk => by
    show (if k = i then (1 : Int) else 0) ≤ f k
    by_cases e : k = i
    · rw [if_pos e, e]; exact h1
    · rw [if_neg e]; exact h k hk) (by
    show (if j = i then (1 : Int) else 0) < f j
    rw [if_neg (fun e => hij e.symm)]; omega)
  rw [a] at b
  have b2 : (if i = i then (1 : Int) else 0) < zsum f n := b
  rw [if_pos rfl] at b2
  exact b2
theorem zfst_none {f : Nat → Int} : ∀ n, (∀ i, i < n → f i ≠ 1) → zfst f n = -9 := by
  intro n
  induction n with
  | zero => intro _; rfl
  | succ n ih => intro h; exact zfst_miss (ih (fun i hi => h i (by omega))) (h n (by omega))
theorem zfst_one {f : Nat → Int} {i n : Nat} (hi : i < n) (h1 : f i = 1) (hu : ∀ j, j < i → f j ≠ 1) : zfst f n = (i : Int) := zfst_hit (zfst_none i hu) h1 hi
/-! comparing three ways -/
theorem zcmp_anti (x y : Int) : zcmp y x = - zcmp x y := by
  unfold zcmp
  repeat' split
  all_goals omega
def TT (a b c : Int) : Prop := (a ≤ 0 → b ≤ 0 → c ≤ 0) ∧ (a < 0 → b ≤ 0 → c < 0) ∧ (a ≤ 0 → b < 0 → c < 0) ∧ (a = 0 → b = 0 → c = 0)
theorem zcmp_tt (x y z : Int) : TT (zcmp x y) (zcmp y z) (zcmp x z) := by
  have a := zcmp_sg x y
  have b := zcmp_sg y z
  have c := zcmp_sg x z
  refine ⟨fun p q => ?_, fun p q => ?_, fun p q => ?_, fun p q => ?_⟩ <;> omega
theorem acmp_anti (f g : Nat → Int) : ∀ n, acmp g f n = - acmp f g n := by
  intro n
  induction n with
  | zero => rfl
  | succ n ih =>
    simp only [acmp]
    have z := zcmp_anti (f n) (g n)
    by_cases e : acmp f g n = 0
    · rw [if_pos (by omega), if_pos e, z]
    · rw [if_neg (by omega), if_neg e, ih]
theorem acmp_tt (f g h : Nat → Int) : ∀ n, TT (acmp f g n) (acmp g h n) (acmp f h n) := by
  intro n
  induction n with
  | zero => exact ⟨fun a _ => a, fun a _ => a, fun _ a => a, fun a _ => a⟩
  | succ n ih =>
    simp only [acmp]
    obtain ⟨i1, i2, i3, i4⟩ := ih
    obtain ⟨z1, z2, z3, z4⟩ := zcmp_tt (f n) (g n) (h n)
    by_cases c1 : acmp f g n = 0
    · rw [if_pos c1]
      by_cases c2 : acmp g h n = 0
      · rw [if_pos c2, if_pos (i4 c1 c2)]
        exact ⟨z1, z2, z3, z4⟩
      · rw [if_neg c2]
        refine ⟨fun p q => ?_, fun p q => ?_, fun p q => ?_, fun p q => absurd q c2⟩
        · have := i3 (by omega) (show acmp g h n < 0 by omega)
          rw [if_neg (by omega)]; omega
        · have := i3 (by omega) (show acmp g h n < 0 by omega)
          rw [if_neg (by omega)]; omega
        · have := i3 (by omega) q
          rw [if_neg (by omega)]; omega
    · rw [if_neg c1]
      by_cases c2 : acmp g h n = 0
      · rw [if_pos c2]
        refine ⟨fun p q => ?_, fun p q => ?_, fun p q => ?_, fun p q => absurd p c1⟩
        · have := i2 (show acmp f g n < 0 by omega) (by omega)
          rw [if_neg (by omega)]; omega
        · have := i2 p (by omega)
          rw [if_neg (by omega)]; omega
        · have := i2 (show acmp f g n < 0 by omega) (by omega)
          rw [if_neg (by omega)]; omega
      · rw [if_neg c2]
        refine ⟨fun p q => ?_, fun p q => ?_, fun p q => ?_, fun p q => absurd p c1⟩
        · have := i2 (show acmp f g n < 0 by omega) q
          rw [if_neg (by omega)]; omega
        · have := i2 p q
          rw [if_neg (by omega)]; omega
        · have := i3 p q
          rw [if_neg (by omega)]; omega
theorem TT.lex {a b c : Int} {p q r : Prop} (h : TT a b c) (hp : a < 0 ∨ (a = 0 ∧ p)) (hq : b < 0 ∨ (b = 0 ∧ q)) (hr : p → q → r) : c < 0 ∨ (c = 0 ∧ r) := by
  obtain ⟨-, h2, h3, h4⟩ := h
  have hb : b ≤ 0 := by
    rcases hq with e | e
    · omega
    · have := e.1; omega
  rcases hp with e | ⟨e, hp⟩
  · exact Or.inl (h2 e hb)
  · rcases hq with e2 | ⟨e2, hq⟩
    · exact Or.inl (h3 (by omega) e2)
    · exact Or.inr ⟨h4 e e2, hr hp hq⟩
theorem ch3_iff (f s t i j : Int) : ch3 f s t i j = 1 ↔ (f < 0 ∨ (f = 0 ∧ (s < 0 ∨ (s = 0 ∧ (t < 0 ∨ (t = 0 ∧ i < j)))))) := by
  unfold ch3 neg1
  repeat' split
  all_goals omega
theorem ch3_tr {f1 f2 f3 s1 s2 s3 t1 t2 t3 i j k : Int} (hf : TT f1 f2 f3) (hs : TT s1 s2 s3) (ht : TT t1 t2 t3) (h1 : ch3 f1 s1 t1 i j = 1) (h2 : ch3 f2 s2 t2 j k = 1) : ch3 f3 s3 t3 i k = 1 :=
  (ch3_iff _ _ _ _ _).mpr (hf.lex ((ch3_iff _ _ _ _ _).mp h1) ((ch3_iff _ _ _ _ _).mp h2) (fun a b => hs.lex a b (fun a b => ht.lex a b (fun a b => Int.lt_trans a b))))
theorem ch3_tot {f s t f' s' t' i j : Int} (hf : f' = -f) (hs : s' = -s) (ht : t' = -t) (h : i ≠ j) : ch3 f s t i j = 1 ∨ ch3 f' s' t' j i = 1 := by
  rw [ch3_iff, ch3_iff]
  omega
theorem bz_tr {od : Int} {P Q R : AWk} {i j k : Int} (h1 : bz od P Q i j = 1) (h2 : bz od Q R j k = 1) : bz od P R i k = 1 := by
  unfold bz at h1 h2 ⊢
  by_cases e : od = 0
  · rw [if_pos e] at h1 h2 ⊢
    exact ch3_tr (acmp_tt _ _ _ _) (zcmp_tt _ _ _) (zcmp_tt _ _ _) h1 h2
  · rw [if_neg e] at h1 h2 ⊢
    exact ch3_tr (zcmp_tt _ _ _) (acmp_tt _ _ _ _) (zcmp_tt _ _ _) h1 h2
theorem bz_tot (od : Int) (P Q : AWk) {i j : Int} (h : i ≠ j) : bz od P Q i j = 1 ∨ bz od Q P j i = 1 := by
  unfold bz
  by_cases e : od = 0
  · rw [if_pos e, if_pos e]
    exact ch3_tot (acmp_anti _ _ _) (zcmp_anti _ _) (zcmp_anti _ _) h
  · rw [if_neg e, if_neg e]
    exact ch3_tot (zcmp_anti _ _) (acmp_anti _ _ _) (zcmp_anti _ _) h
/-! places in the order of works -/
theorem pl_lt {A : ASt} {i j : Nat} (hj : j < aN A) (h : bz (aO A) (aW A j) (aW A i) j i = 1) : plN A j < plN A i := by
  unfold plN
  refine zsum_lt (q := j) (aN A) hj (fun k _ => ?_) ?_
  · rcases bz_01 (aO A) (aW A k) (aW A j) k j with e | e
    · rw [e]
      have := bz_01 (aO A) (aW A k) (aW A i) k i
      omega
    · rw [e, bz_tr e h]; exact Int.le_refl _
  · rw [bz_self, h]; decide
theorem pl_rng {A : ASt} {i : Nat} (hi : i < aN A) : 0 ≤ plN A i ∧ plN A i < aN A := by
  refine ⟨(zsum_01 (aN A) (fun j _ => bz_01 _ _ _ _ _)).1, ?_⟩
  have h := zsum_lt (f := fun j => bz (aO A) (aW A j) (aW A i) j i) (g := fun _ => 1) (q := i) (aN A) hi (fun k _ => by
    have := bz_01 (aO A) (aW A k) (aW A i) k i
    show bz (aO A) (aW A k) (aW A i) k i ≤ 1
    omega) (by show bz (aO A) (aW A i) (aW A i) i i < 1; rw [bz_self]; decide)
  rw [zsum_ones] at h
  exact h
theorem pl_inj {A : ASt} {i j : Nat} (hi : i < aN A) (hj : j < aN A) (h : plN A i = plN A j) : i = j := by
  by_cases e : i = j
  · exact e
  · rcases bz_tot (aO A) (aW A i) (aW A j) (i := (i : Int)) (j := (j : Int)) (by omega) with q | q
    · have := pl_lt hi q
      omega
    · have := pl_lt hj q
      omega
theorem pl_iff {A : ASt} {i j : Nat} (hi : i < aN A) (hj : j < aN A) : plN A j < plN A i ↔ bz (aO A) (aW A j) (aW A i) j i = 1 := by
  refine ⟨fun h => ?_, fun h => pl_lt hj h⟩
  by_cases e : i = j
  · rw [e] at h; omega
  · rcases bz_tot (aO A) (aW A j) (aW A i) (i := (j : Int)) (j := (i : Int)) (by omega) with q | q
    · exact q
    · have := pl_lt hi q
      omega
theorem pl_surj {A : ASt} {p : Nat} (hp : p < aN A) : ∃ i, i < aN A ∧ plN A i = (p : Int) := by
  by_cases hno : ∃ i, i < aN A ∧ plN A i = (p : Int)
  · exact hno
  · exfalso
    have T : zsum (fun p : Nat => zsum (fun i => if plN A i = (p : Int) then 1 else 0) (aN A)) (aN A) = (aN A : Int) := by
      rw [← zsum_swap (fun i p : Nat => if plN A i = (p : Int) then 1 else 0), ← zsum_ones (aN A)]
      refine zsum_congr (aN A) (fun i hi => ?_)
      have r := pl_rng hi
      have u := zsum_uniq (f := fun p : Nat => if plN A i = (p : Int) then 1 else 0) (q := (plN A i).toNat) (aN A) (by omega) (fun k _ hk => by
        show (if plN A i = (k : Int) then (1 : Int) else 0) = 0
        rw [if_neg (by omega)])
      rw [u]
      show (if plN A i = (((plN A i).toNat : Nat) : Int) then (1 : Int) else 0) = 1
      rw [if_pos (by omega)]
    have L := zsum_lt (f := fun p : Nat => zsum (fun i => if plN A i = (p : Int) then 1 else 0) (aN A)) (g := fun _ => 1) (q := p) (aN A) hp (fun k _ => by
      refine zsum_most1 (aN A) (fun i _ => ?_) (fun i j hij hj h1 h2 => ?_)
      · by_cases e : plN A i = (k : Int)
        · exact Or.inr (by show (if plN A i = (k : Int) then (1 : Int) else 0) = 1; rw [if_pos e])
        · exact Or.inl (by show (if plN A i = (k : Int) then (1 : Int) else 0) = 0; rw [if_neg e])
      · have a1 : plN A i = (k : Int) := by
          by_cases e : plN A i = (k : Int)
          · exact e
          · rw [if_neg e] at h1; exact absurd h1 (by decide)
        have a2 : plN A j = (k : Int) := by
          by_cases e : plN A j = (k : Int)
          · exact e
          · rw [if_neg e] at h2; exact absurd h2 (by decide)
        have := pl_inj (A := A) (i := i) (j := j) (by omega) hj (a1.trans a2.symm)
        omega) (by
      show zsum (fun i => if plN A i = (p : Int) then 1 else 0) (aN A) < 1
      rw [zsum_all0 (aN A) (fun i hi => by
        show (if plN A i = (p : Int) then (1 : Int) else 0) = 0
        rw [if_neg (fun e => hno ⟨i, hi, e⟩)])]
      decide)
    rw [T, zsum_ones] at L
    omega
def atN (A : ASt) (k : Int) : Int := zfst (fun i => if plN A i = k then 1 else 0) (aN A)
theorem at_pl {A : ASt} {i : Nat} (hi : i < aN A) : atN A (plN A i) = (i : Int) := by
  refine zfst_one hi (if_pos rfl) (fun j hj => ?_)
  by_cases e : plN A j = plN A i
  · have := pl_inj (A := A) (i := j) (j := i) (by omega) hi e
    omega
  · rw [if_neg e]; decide
theorem at_out {A : ASt} {k : Int} (hk : (aN A : Int) ≤ k) : atN A k = -9 := by
  refine zfst_none (aN A) (fun i hi => ?_)
  have := pl_rng hi
  rw [if_neg (by omega)]
  decide
