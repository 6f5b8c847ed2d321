/-! free years, printed keys, what a text means -/
theorem sum_split {f h : Nat → Int} {i n : Nat} (hi : i < n) (h1 : f i = 1) (h2 : h i = 0) (h3 : ∀ j, j < n → j ≠ i → f j = h j) : zsum f n = 1 + zsum h n := by
  have e : zsum f n = zsum (fun j => (if j = i then (1 : Int) else 0) + h j) n := zsum_congr n (fun j hj => by
    show f j = (if j = i then (1 : Int) else 0) + h j
    by_cases c : j = i
    · rw [if_pos c, c, h1, h2]; rfl
    · rw [if_neg c, h3 j hj c, Int.zero_add])
  have u := zsum_uniq (f := fun j => if j = i then (1 : Int) else 0) (q := i) n hi (fun k _ hk => by show (if k = i then (1 : Int) else 0) = 0; rw [if_neg hk])
  have u2 : zsum (fun j => if j = i then (1 : Int) else 0) n = 1 := by
    rw [u]
    show (if i = i then (1 : Int) else 0) = 1
    rw [if_pos rfl]
  rw [e, zsum_add, u2]
def frN (A : ASt) (i : Nat) (y : Int) : Int := zsum (fun j => if j ≠ i ∧ stemOf A j = stm (aW A i) (aS A) y then 1 else 0) (aN A)
theorem fr_01 (A : ASt) (i : Nat) (y : Int) (j : Nat) : (if j ≠ i ∧ stemOf A j = stm (aW A i) (aS A) y then (1 : Int) else 0) = 0 ∨ (if j ≠ i ∧ stemOf A j = stm (aW A i) (aS A) y then (1 : Int) else 0) = 1 := by
  split
  · exact Or.inr rfl
  · exact Or.inl rfl
theorem frN_rng (A : ASt) (i : Nat) (y : Int) : 0 ≤ frN A i y ∧ frN A i y ≤ aN A := zsum_01 (aN A) (fun j _ => fr_01 A i y j)
theorem own_shr {A : ASt} {i : Nat} (hi : i < aN A) : zsum (F1 A i) (aN A) = 1 + frN A i (aW A i).2.2.1 := by
  refine sum_split hi (F1_self A i) (if_neg (fun q => q.1 rfl)) (fun j _ hji => ?_)
  show (if stemOf A j = stemOf A i then (1 : Int) else 0) = if j ≠ i ∧ stemOf A j = stm (aW A i) (aS A) (aW A i).2.2.1 then 1 else 0
  by_cases c : stemOf A j = stemOf A i
  · rw [if_pos c, if_pos ⟨hji, c⟩]
  · rw [if_neg c, if_neg (fun q => c q.2)]
theorem set_i (A : ASt) (i : Nat) (y : Int) : stemOf (aSet A i (yrW (aW A i) y)) i = stm (aW A i) (aS A) y := by
  show stm (if i = i then yrW (aW A i) y else aW A i) (aS A) (if i = i then yrW (aW A i) y else aW A i).2.2.1 = _
  rw [if_pos rfl]; rfl
theorem set_j (A : ASt) {i j : Nat} (y : Int) (h : j ≠ i) : stemOf (aSet A i (yrW (aW A i) y)) j = stemOf A j := by
  show stm (if j = i then yrW (aW A i) y else aW A j) (aS A) (if j = i then yrW (aW A i) y else aW A j).2.2.1 = _
  rw [if_neg h]; rfl
theorem set_shr {A : ASt} {i : Nat} (y : Int) (hi : i < aN A) : zsum (F1 (aSet A i (yrW (aW A i) y)) i) (aN A) = 1 + frN A i y := by
  refine sum_split hi (F1_self _ i) (if_neg (fun q => q.1 rfl)) (fun j _ hji => ?_)
  show (if stemOf (aSet A i (yrW (aW A i) y)) j = stemOf (aSet A i (yrW (aW A i) y)) i then (1 : Int) else 0) = if j ≠ i ∧ stemOf A j = stm (aW A i) (aS A) y then 1 else 0
  rw [set_i, set_j A y hji]
  by_cases c : stemOf A j = stm (aW A i) (aS A) y
  · rw [if_pos c, if_pos ⟨hji, c⟩]
  · rw [if_neg c, if_neg (fun q => c q.2)]
theorem stm_yr {W : AWk} {s y y' : Int} (h : stm W s y = stm W s y') : y % 100 = y' % 100 := by
  unfold stm at h
  by_cases c0 : s = 0
  · rw [if_pos c0, if_pos c0] at h
    unfold kst2 at h
    omega
  · by_cases c1 : s = 1
    · rw [if_neg c0, if_neg c0, if_pos c1, if_pos c1] at h
      unfold kst4 at h
      omega
    · by_cases c2 : s = 2
      · rw [if_neg c0, if_neg c0, if_neg c1, if_neg c1, if_pos c2, if_pos c2] at h
        unfold kst2 at h
        omega
      · rw [if_neg c0, if_neg c0, if_neg c1, if_neg c1, if_neg c2, if_neg c2] at h
        unfold kst4 at h
        omega
/-- of seventeen years one is free -/
theorem pig {A : ASt} {i : Nat} (Y : Nat → Int) (hY : ∀ d d', d < d' → d' < 17 → Y d % 100 ≠ Y d' % 100) (h16 : aN A ≤ 16) : ∃ d, d < 17 ∧ frN A i (Y d) = 0 := by
  by_cases hno : ∃ d, d < 17 ∧ frN A i (Y d) = 0
  · exact hno
  · exfalso
    have a := zsum_le (f := fun _ => 1) (g := fun d => frN A i (Y d)) 17 (fun d hd => by
      have r := frN_rng A i (Y d)
      have n0 : frN A i (Y d) ≠ 0 := fun e => hno ⟨d, hd, e⟩
      show (1 : Int) ≤ frN A i (Y d)
      omega)
    rw [zsum_ones] at a
    have sw := zsum_swap (fun d j : Nat => if j ≠ i ∧ stemOf A j = stm (aW A i) (aS A) (Y d) then (1 : Int) else 0) (aN A) 17
    have a2 : ((17 : Nat) : Int) ≤ zsum (fun d => zsum (fun j => if j ≠ i ∧ stemOf A j = stm (aW A i) (aS A) (Y d) then (1 : Int) else 0) (aN A)) 17 := a
    rw [sw] at a2
    have b := zsum_le (f := fun j => zsum (fun d => if j ≠ i ∧ stemOf A j = stm (aW A i) (aS A) (Y d) then (1 : Int) else 0) 17) (g := fun _ => 1) (aN A) (fun j _ => by
      refine zsum_most1 17 (fun d _ => fr_01 A i (Y d) j) (fun d d' hd hd' q1 q2 => ?_)
      have c1 : stemOf A j = stm (aW A i) (aS A) (Y d) := by
        by_cases c : j ≠ i ∧ stemOf A j = stm (aW A i) (aS A) (Y d)
        · exact c.2
        · rw [if_neg c] at q1; exact absurd q1 (by decide)
      have c2 : stemOf A j = stm (aW A i) (aS A) (Y d') := by
        by_cases c : j ≠ i ∧ stemOf A j = stm (aW A i) (aS A) (Y d')
        · exact c.2
        · rw [if_neg c] at q2; exact absurd q2 (by decide)
      exact hY d d' hd hd' (stm_yr (c1.symm.trans c2)))
    rw [zsum_ones] at b
    omega
theorem fyAt_free {A : ASt} {i : Nat} {d : Int} (h : fyAt A i d = -9) : ¬ freeZ A i ((aW A i).2.2.1 - d) ∧ ¬ freeZ A i ((aW A i).2.2.1 + d) := by
  unfold fyAt at h
  by_cases c1 : freeZ A i ((aW A i).2.2.1 - d)
  · rw [if_pos c1] at h
    have := c1.1
    omega
  · rw [if_neg c1] at h
    by_cases c2 : freeZ A i ((aW A i).2.2.1 + d)
    · rw [if_pos c2] at h
      have := c2.1
      omega
    · exact ⟨c1, c2⟩
theorem fyAt_hit {A : ASt} {i : Nat} {d : Int} (h : fyAt A i d ≠ -9) : freeZ A i (fyAt A i d) ∧ (fyAt A i d = (aW A i).2.2.1 - d ∨ fyAt A i d = (aW A i).2.2.1 + d) := by
  unfold fyAt at h ⊢
  by_cases c1 : freeZ A i ((aW A i).2.2.1 - d)
  · rw [if_pos c1]; exact ⟨c1, Or.inl rfl⟩
  · rw [if_neg c1] at h ⊢
    by_cases c2 : freeZ A i ((aW A i).2.2.1 + d)
    · rw [if_pos c2]; exact ⟨c2, Or.inr rfl⟩
    · rw [if_neg c2] at h; exact absurd rfl h
theorem fy_first (A : ASt) (i : Nat) : ∀ n, (fyF A i n = -9 ∧ ∀ d : Nat, d < n → fyAt A i d = -9) ∨ ∃ d : Nat, d < n ∧ fyF A i n = fyAt A i d ∧ fyAt A i d ≠ -9 ∧ ∀ d' : Nat, d' < d → fyAt A i d' = -9 := by
  intro n
  induction n with
  | zero => exact Or.inl ⟨rfl, fun d hd => absurd hd (Nat.not_lt_zero d)⟩
  | succ n ih =>
    simp only [fyF]
    rcases ih with ⟨h1, h2⟩ | ⟨d, h1, h2, h3, h4⟩
    · rw [if_pos h1]
      by_cases c : fyAt A i n = -9
      · refine Or.inl ⟨c, fun d hd => ?_⟩
        by_cases e : d = n
        · rw [e]; exact c
        · exact h2 d (by omega)
      · exact Or.inr ⟨n, by omega, rfl, c, h2⟩
    · rw [if_neg (by rw [h2]; exact h3)]
      exact Or.inr ⟨d, by omega, h2, h3, h4⟩
theorem fy_facts {A : ASt} (hG : GoodSt A) {i : Nat} (hi : i < aN A) : ∃ d : Nat, (fyF A i 2000 = (aW A i).2.2.1 - d ∨ fyF A i 2000 = (aW A i).2.2.1 + d) ∧ (1000 ≤ fyF A i 2000 ∧ fyF A i 2000 ≤ 2999) ∧ frN A i (fyF A i 2000) = 0 ∧ ∀ z : Int, 1000 ≤ z → z ≤ 2999 → (aW A i).2.2.1 - d < z → z < (aW A i).2.2.1 + d → frN A i z ≠ 0 := by
  have hy := (hG.2.1 i hi).2.2.2.1
  have h16 := hG.1.1
  rcases fy_first A i 2000 with ⟨-, h2⟩ | ⟨d, h1, h2, h3, h4⟩
  · exfalso
    by_cases c : (aW A i).2.2.1 + 16 ≤ 2999
    · obtain ⟨d, d1, d2⟩ := pig (A := A) (i := i) (fun d => (aW A i).2.2.1 + d) (fun d d' a b => by
        show ((aW A i).2.2.1 + (d : Int)) % 100 ≠ ((aW A i).2.2.1 + (d' : Int)) % 100
        omega) h16
      exact (fyAt_free (h2 d (by omega))).2 ⟨⟨by omega, by omega⟩, d2⟩
    · obtain ⟨d, d1, d2⟩ := pig (A := A) (i := i) (fun d => (aW A i).2.2.1 - d) (fun d d' a b => by
        show ((aW A i).2.2.1 - (d : Int)) % 100 ≠ ((aW A i).2.2.1 - (d' : Int)) % 100
        omega) h16
      exact (fyAt_free (h2 d (by omega))).1 ⟨⟨by omega, by omega⟩, d2⟩
  · obtain ⟨⟨f1, f2⟩, f3⟩ := fyAt_hit h3
    rw [h2]
    refine ⟨d, f3, f1, f2, fun z z1 z2 z3 z4 => ?_⟩
    intro e
    by_cases c : z ≤ (aW A i).2.2.1
    · have h := (fyAt_free (h4 ((aW A i).2.2.1 - z).toNat (by omega))).1
      have e2 : (aW A i).2.2.1 - ((((aW A i).2.2.1 - z).toNat : Nat) : Int) = z := by omega
      rw [e2] at h
      exact h ⟨⟨z1, z2⟩, e⟩
    · have h := (fyAt_free (h4 (z - (aW A i).2.2.1).toNat (by omega))).2
      have e2 : (aW A i).2.2.1 + (((z - (aW A i).2.2.1).toNat : Nat) : Int) = z := by omega
      rw [e2] at h
      exact h ⟨⟨z1, z2⟩, e⟩
/-! printed keys -/
theorem pr_still {A : ASt} (hG : GoodSt A) : prStill (aPrint A (keyOf A)) = (aN A : Int) := by
  rw [← zsum_ones (aN A)]
  unfold prStill
  refine zsum_congr (aN A) (fun p hp => ?_)
  have h : holdK (keyOf A) (aN A) (keyOf A p) = (p : Int) := (hold_iff hG hp _).mpr rfl
  exact if_pos h
theorem pr_gone {A : ASt} : zsum (fun p => if aPo (aPrint A (keyOf A)) p = -2 then (1 : Int) else 0) (aPn (aPrint A (keyOf A))) = 0 :=
  zsum_all0 _ (fun p _ => if_neg (by show ((p : Nat) : Int) ≠ -2; omega))
theorem disw_ne {i z : Int} (h0 : 0 ≤ z) (h : z ≠ i) : disw i z ≠ -2 := by
  unfold disw
  rw [if_neg h]
  split <;> omega
theorem tk_gone {A : ASt} {i : Nat} (hi : i < aN A) : zsum (fun p => if aPo (aTake (aPrint A (keyOf A)) i) p = -2 then (1 : Int) else 0) (aN A) = 1 := by
  rw [zsum_uniq (q := i) (aN A) hi (fun k _ hk => by
    show (if disw (i : Int) (k : Int) = -2 then (1 : Int) else 0) = 0
    exact if_neg (disw_ne (by omega) (by omega)))]
  show (if disw (i : Int) (i : Int) = -2 then (1 : Int) else 0) = 1
  unfold disw
  rw [if_pos rfl, if_pos rfl]
theorem disw_odx (i k : Nat) : disw (i : Int) (odx i k) = (k : Int) := by
  unfold disw odx
  by_cases c : k < i
  · rw [if_pos c, if_neg (by omega), if_neg (by omega)]
  · rw [if_neg c, if_neg (by omega), if_pos (by omega)]; omega
theorem tk_still {A : ASt} (hG : GoodSt A) {i : Nat} (hi : i < aN A) : prStill (aTake (aPrint A (keyOf A)) i) + hangN A i = (aN A : Int) - 1 := by
  have hR : GoodSt (aTake (aPrint A (keyOf A)) i) := hG.print.take hi
  have a := tk_sum hi (fun p => if holdK (keyOf (aTake (aPrint A (keyOf A)) i)) (aN A - 1) (keyOf A p) = disw (i : Int) (p : Int) then (1 : Int) else 0)
  have b : prStill (aTake (aPrint A (keyOf A)) i) = zsum (fun p => if holdK (keyOf (aTake (aPrint A (keyOf A)) i)) (aN A - 1) (keyOf A p) = disw (i : Int) (p : Int) then (1 : Int) else 0) (aN A) := rfl
  have z : (if holdK (keyOf (aTake (aPrint A (keyOf A)) i)) (aN A - 1) (keyOf A i) = disw (i : Int) (i : Int) then (1 : Int) else 0) = 0 := by
    have e : disw (i : Int) (i : Int) = -2 := by unfold disw; rw [if_pos rfl]
    rw [e]
    exact if_neg (by rcases hold_cases (keyOf (aTake (aPrint A (keyOf A)) i)) (aN A - 1) (keyOf A i) with q | q <;> omega)
  have c : zsum (fun k => if holdK (keyOf (aTake (aPrint A (keyOf A)) i)) (aN A - 1) (keyOf A (odx i k)) = disw (i : Int) (odx i k : Int) then (1 : Int) else 0) (aN A - 1) + hangN A i = zsum (fun _ => 1) (aN A - 1) := by
    have h : hangN A i = zsum (fun k => if keyOf (aTake (aPrint A (keyOf A)) i) k = keyOf A (odx i k) then (0 : Int) else 1) (aN A - 1) := by
      unfold hangN chgN
      refine zsum_congr (aN A - 1) (fun k _ => ?_)
      show (if keyOf (aTake A i) k = (if k < i then keyOf A k else keyOf A (k + 1)) then (0 : Int) else 1) = if keyOf (aTake (aPrint A (keyOf A)) i) k = keyOf A (odx i k) then (0 : Int) else 1
      rw [old_key]; rfl
    rw [h, ← zsum_add]
    refine zsum_congr (aN A - 1) (fun k hk => ?_)
    show (if holdK (keyOf (aTake (aPrint A (keyOf A)) i)) (aN A - 1) (keyOf A (odx i k)) = disw (i : Int) (odx i k : Int) then (1 : Int) else 0) + (if keyOf (aTake (aPrint A (keyOf A)) i) k = keyOf A (odx i k) then (0 : Int) else 1) = 1
    rw [disw_odx]
    have q := hold_iff hR (p := k) hk (keyOf A (odx i k))
    by_cases w : keyOf (aTake (aPrint A (keyOf A)) i) k = keyOf A (odx i k)
    · have q2 : holdK (keyOf (aTake (aPrint A (keyOf A)) i)) (aN A - 1) (keyOf A (odx i k)) = (k : Int) := q.mpr w
      rw [if_pos w, if_pos q2]; rfl
    · have q2 : ¬ holdK (keyOf (aTake (aPrint A (keyOf A)) i)) (aN A - 1) (keyOf A (odx i k)) = (k : Int) := fun r => w (q.mp r)
      rw [if_neg w, if_neg q2]; rfl
  rw [zsum_ones] at c
  rw [b, ← a]
  show zsum (fun k => if holdK (keyOf (aTake (aPrint A (keyOf A)) i)) (aN A - 1) (keyOf A (odx i k)) = disw (i : Int) (odx i k : Int) then (1 : Int) else 0) (aN A - 1) + (if holdK (keyOf (aTake (aPrint A (keyOf A)) i)) (aN A - 1) (keyOf A i) = disw (i : Int) (i : Int) then (1 : Int) else 0) + hangN A i = (aN A : Int) - 1
  rw [z]
  omega
/-- printed keys of a good state: those that mean their work, those that belong to none -/
theorem pr_two {A : ASt} : prStill A + zsum (fun p => if aPo A p = -2 then (1 : Int) else 0) (aPn A) ≤ aPn A := by
  unfold prStill
  rw [← zsum_add, ← zsum_ones (aPn A)]
  refine zsum_le (aPn A) (fun p _ => ?_)
  show (if holdK (keyOf A) (aN A) (aPk A p) = aPo A p then (1 : Int) else 0) + (if aPo A p = -2 then (1 : Int) else 0) ≤ 1
  by_cases c : aPo A p = -2
  · rw [if_pos c, if_neg (by rcases hold_cases (keyOf A) (aN A) (aPk A p) with q | q <;> omega)]; decide
  · rw [if_neg c]
    split <;> decide
/-! what a text means -/
theorem spl_inj {T : Nat × (Nat → Int)} {κ κ' : Int} (h1 : KWF κ) (h2 : KWF κ') (a : spl T κ) (b : spl T κ') : κ = κ' :=
  KWF_inj h1 h2 (a.1.symm.trans b.1) (fun k hk => by
    have e := a.1
    rw [← a.2 k (by omega), ← b.2 k (by omega)])
theorem mean_is {A : ASt} (hG : GoodSt A) {T : Nat × (Nat → Int)} {i : Nat} (hi : i < aN A) (h : spl T (keyOf A i)) : meanF T A = (i : Int) := by
  unfold meanF
  refine zfst_one hi (if_pos h) (fun j hj => ?_)
  rw [if_neg (fun q => by
    have := key_inj hG (i := j) (j := i) (by omega) hi (spl_inj (keyOf_KWF hG (by omega)) (keyOf_KWF hG hi) q h)
    omega)]
  decide
theorem pmean_is {A B : ASt} (hG : GoodSt A) {T : Nat × (Nat → Int)} {i : Nat} (hi : i < aN A) (h : spl T (keyOf A i)) (hk : ∀ p, p < aN A → aPk B p = keyOf A p) (hn : aPn B = aN A) : pmeanF T B = aPo B i := by
  have e : pfst T B (aPn B) = (i : Int) := by
    rw [hn]
    unfold pfst
    refine zfst_one hi (if_pos (by rw [hk i hi]; exact h)) (fun j hj => ?_)
    rw [if_neg (fun q => by
      rw [hk j (by omega)] at q
      have := key_inj hG (i := j) (j := i) (by omega) hi (spl_inj (keyOf_KWF hG (by omega)) (keyOf_KWF hG hi) q h)
      omega)]
    decide
  unfold pmeanF
  rw [e, if_neg (by omega)]
  rfl
