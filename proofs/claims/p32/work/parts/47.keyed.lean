/-! keys, stems, letters of a good state -/
theorem zfst_at {f : Nat → Int} {p : Nat} : ∀ n, zfst f n = (p : Int) → p < n ∧ f p = 1 := by
  intro n
  induction n with
  | zero => intro h; have h2 : (-9 : Int) = (p : Int) := h; omega
  | succ n ih =>
    intro h
    simp only [zfst] at h
    by_cases c : zfst f n = -9
    · rw [if_pos c] at h
      by_cases c2 : f n = 1
      · rw [if_pos c2] at h
        have e : n = p := by omega
        exact ⟨by omega, by rw [← e]; exact c2⟩
      · rw [if_neg c2] at h; omega
    · rw [if_neg c] at h
      have := ih h
      exact ⟨by omega, this.2⟩
theorem zfst_cases (f : Nat → Int) (n : Nat) : zfst f n = -9 ∨ 0 ≤ zfst f n := by
  induction n with
  | zero => exact Or.inl rfl
  | succ n ih =>
    simp only [zfst]
    by_cases c : zfst f n = -9
    · rw [if_pos c]
      by_cases c2 : f n = 1
      · rw [if_pos c2]; exact Or.inr (by omega)
      · rw [if_neg c2]; exact Or.inl rfl
    · rw [if_neg c]; exact ih
theorem let_F (A : ASt) (i : Nat) : letOf A i = if 1 < zsum (F1 A i) (aN A) then zsum (F2 A i) (aN A) + 1 else 0 := rfl
theorem F1_self (A : ASt) (i : Nat) : F1 A i i = 1 := if_pos rfl
theorem F1_pos {A : ASt} {i : Nat} (hi : i < aN A) : 1 ≤ zsum (F1 A i) (aN A) := by
  have := zsum_one (f := F1 A i) (fun k => F1_01 A i k) (q := i) (n := aN A) hi
  rw [F1_self] at this
  exact this
theorem two_same {A : ASt} {i j : Nat} (hi : i < aN A) (hj : j < aN A) (hij : i ≠ j) (hs : stemOf A j = stemOf A i) : 1 < zsum (F1 A i) (aN A) :=
  zsum_two (i := i) (j := j) (fun k _ => by rcases F1_01 A i k with e | e <;> omega) hi hj hij (by rw [F1_self]; exact Int.le_refl 1) (by
    have e : F1 A i j = 1 := if_pos hs
    omega)
theorem F2_lt {A : ASt} {i j : Nat} (hi : i < aN A) (hs : stemOf A i = stemOf A j) (h : bz (aO A) (aW A i) (aW A j) i j = 1) : zsum (F2 A i) (aN A) < zsum (F2 A j) (aN A) := by
  refine zsum_lt (q := i) (aN A) hi (fun k _ => ?_) ?_
  · unfold F2
    rw [hs]
    by_cases e : stemOf A k = stemOf A j
    · rw [if_pos e, if_pos e]
      rcases bz_01 (aO A) (aW A k) (aW A i) k i with q | q
      · rw [q]
        have := bz_01 (aO A) (aW A k) (aW A j) k j
        omega
      · rw [q, bz_tr q h]; exact Int.le_refl _
    · rw [if_neg e, if_neg e]; exact Int.le_refl _
  · have a : F2 A i i = 0 := by unfold F2; rw [if_pos rfl, bz_self]
    have b : F2 A j i = 1 := by unfold F2; rw [if_pos hs, h]
    omega
theorem key_inj {A : ASt} (hG : GoodSt A) {i j : Nat} (hi : i < aN A) (hj : j < aN A) (h : keyOf A i = keyOf A j) : i = j := by
  by_cases e : i = j
  · exact e
  · exfalso
    have s1 := stemOf_rng hG.1 hi
    have s2 := stemOf_rng hG.1 hj
    have l1 := letOf_rng hG.1 i
    have l2 := letOf_rng hG.1 j
    unfold keyOf at h
    have hs : stemOf A i = stemOf A j := by omega
    have hl : letOf A i = letOf A j := by omega
    rw [let_F, let_F, if_pos (two_same hi hj e hs.symm), if_pos (two_same hj hi (fun q => e q.symm) hs)] at hl
    rcases bz_tot (aO A) (aW A i) (aW A j) (i := (i : Int)) (j := (j : Int)) (by omega) with q | q
    · have := F2_lt hi hs q
      omega
    · have := F2_lt hj hs.symm q
      omega
theorem hold_iff {A : ASt} (hG : GoodSt A) {p : Nat} (hp : p < aN A) (κ : Int) : holdK (keyOf A) (aN A) κ = (p : Int) ↔ keyOf A p = κ := by
  unfold holdK
  constructor
  · intro h
    have h2 := (zfst_at (aN A) h).2
    by_cases e : keyOf A p = κ
    · exact e
    · rw [if_neg e] at h2; exact absurd h2 (by decide)
  · intro h
    refine zfst_one hp (if_pos h) (fun j hj => ?_)
    by_cases e : keyOf A j = κ
    · have := key_inj hG (i := j) (j := p) (by omega) hp (e.trans h.symm)
      omega
    · rw [if_neg e]; decide
theorem hold_cases (K : Nat → Int) (n : Nat) (κ : Int) : holdK K n κ = -9 ∨ 0 ≤ holdK K n κ := zfst_cases _ n
/-! the characters of keys -/
theorem GoodSt.wk {A : ASt} (hG : GoodSt A) {i : Nat} (hi : i < aN A) : AWF (aW A i) ∧ (0 ≤ aS A ∧ aS A ≤ 3) ∧ (0 ≤ (aW A i).2.2.1 ∧ (aW A i).2.2.1 < 4096) := by
  have h := hG.2.1 i hi
  have hy := h.2.2.2.1
  exact ⟨h, hG.1.2.2.1, by omega, by omega⟩
theorem key_parts {A : ASt} (hG : GoodSt A) {i : Nat} (hi : i < aN A) : klen (keyOf A i) = klen (stemOf A i) + (if 0 < letOf A i then 1 else 0) ∧ (∀ k : Nat, (k : Int) < klen (stemOf A i) → kch (keyOf A i) k = kch (stemOf A i) k) ∧ (0 < letOf A i → kch (keyOf A i) (klen (stemOf A i)) = 96 + letOf A i) := by
  obtain ⟨hW, hs, hy⟩ := hG.wk hi
  have l1 := letOf_rng hG.1 i
  by_cases c : 0 < letOf A i
  · have h := key_ext hW hs hy (l := letOf A i) ⟨c, by omega⟩
    rw [if_pos c]
    exact ⟨h.1, h.2.1, fun _ => h.2.2⟩
  · have e : keyOf A i = stemOf A i := by unfold keyOf; omega
    rw [if_neg c, e]
    exact ⟨(Int.add_zero _).symm, fun _ _ => rfl, fun q => absurd q c⟩
theorem stem_parts {A : ASt} (hG : GoodSt A) {i : Nat} (hi : i < aN A) : kch (stemOf A i) 0 = codeAt (nmAt (aW A i) 0) 0 ∧ kch (stemOf A i) (klen (stemOf A i) - 1) = 48 + (aW A i).2.2.1 % 10 := by
  obtain ⟨hW, hs, hy⟩ := hG.wk hi
  have rd := stm_rd hW hs hy (l := 0) ⟨by omega, by omega⟩
  rw [Int.add_zero] at rd
  obtain ⟨b1, b2, b3, b4, b5⟩ := rd
  rw [if_neg (by omega)] at b1
  have hn := (hF_rng hW hs).1
  have h1 := hW.1
  have w0 := hW.2.1 0 (by omega)
  have hd := hD_24 (aS A)
  have e0 : nmAt (aW A i) 0 = (aW A i).1 0 := by
    unfold nmAt
    rw [if_pos ⟨by omega, by omega, by omega⟩]; rfl
  refine ⟨?_, ?_⟩
  · have b := b2 0 (by omega)
    have c := codeAt_wf (k := 0) w0 (by omega)
    rw [if_pos (by have := (wfN_len w0).2; omega)] at c
    rw [e0, c]
    refine b.trans ?_
    unfold hF
    by_cases q1 : aS A = 1
    · rw [if_pos q1]; rfl
    · by_cases q3 : aS A = 3
      · rw [if_neg q1, if_pos q3, if_pos rfl]; rfl
      · rw [if_neg q1, if_neg q3]; rfl
  · have b := b4 (hD (aS A) - 1) (by omega)
    rw [show hD (aS A) - 1 - (hD (aS A) - 1) = 0 by omega] at b
    have e : klen (stemOf A i) - 1 = (hN (aW A i) (aS A) : Int) + hS (aW A i) (aS A) + ((hD (aS A) - 1 : Nat) : Int) := by
      show klen (stm (aW A i) (aS A) (aW A i).2.2.1) - 1 = _
      rw [b1]; omega
    rw [e]
    refine b.trans ?_
    show 48 + hY (aS A) (aW A i).2.2.1 % 10 = _
    unfold hY
    by_cases q : aS A = 0 ∨ aS A = 2
    · rw [if_pos q]; omega
    · rw [if_neg q]
theorem stem_same {A : ASt} (hG : GoodSt A) {i j : Nat} (hi : i < aN A) (hj : j < aN A) (hl : klen (stemOf A i) = klen (stemOf A j)) (hc : ∀ k : Nat, (k : Int) < klen (stemOf A i) → kch (keyOf A i) k = kch (keyOf A j) k) : stemOf A i = stemOf A j :=
  KWF_inj (stemOf_KWF hG hi) (stemOf_KWF hG hj) hl (fun k hk => by
    have a := (key_parts hG hi).2.1 k hk
    have b := (key_parts hG hj).2.1 k (by omega)
    rw [← a, ← b]
    exact hc k hk)
theorem kch_rng (κ k : Int) : kch κ k = -9 ∨ (0 ≤ kch κ k ∧ kch κ k < 256) := by
  have h1 : codeAt (khd κ) k = -9 ∨ (0 ≤ codeAt (khd κ) k ∧ codeAt (khd κ) k < 256) := by
    unfold codeAt
    have := dgz_rng (khd κ) k
    split
    · exact Or.inl rfl
    · exact Or.inr ⟨by omega, by omega⟩
  have h2 := klet_rng κ
  unfold kch
  repeat' split
  · exact h1
  · exact Or.inr ⟨by decide, by decide⟩
  · exact Or.inr ⟨by omega, by omega⟩
  · exact Or.inr ⟨by omega, by omega⟩
  · exact Or.inl rfl
theorem codeAt_rng (v k : Int) : codeAt v k = -9 ∨ (96 < codeAt v k ∧ codeAt v k < 128) := by
  unfold codeAt
  have := dgz_rng v k
  split
  · exact Or.inl rfl
  · exact Or.inr ⟨by omega, by omega⟩
/-- inside a key there are characters -/
theorem kch_in {κ k : Int} (h : KWF κ) (h0 : 0 ≤ k) (hk : k < klen κ) : 0 ≤ kch κ k ∧ kch κ k < 256 := by
  obtain ⟨W, s, l, hW, hs, hl, rfl⟩ := h
  have hy := hW.2.2.2.1
  obtain ⟨b1, b2, b3, b4, b5⟩ := stm_rd hW hs (y := W.2.2.1) ⟨by omega, by omega⟩ (l := l) ⟨by omega, by omega⟩
  have s1 := hS_01 W s
  obtain ⟨q, rfl⟩ : ∃ q : Nat, k = (q : Int) := ⟨k.toNat, by omega⟩
  by_cases c : q < hN W s
  · rw [b2 q c]
    have := (hF_rng hW hs).2 q c
    omega
  · by_cases c2 : q = hN W s ∧ hS W s = 1
    · rw [c2.1, b3 c2.2]; decide
    · by_cases c3 : (q : Int) < hN W s + hS W s + hD s
      · have e : (q : Int) = (hN W s : Int) + hS W s + ((q - hN W s - (hS W s).toNat : Nat) : Int) := by omega
        rw [e, b4 _ (by omega)]
        omega
      · by_cases c4 : 0 < l
        · rw [if_pos c4] at b1
          have e : (q : Int) = (hN W s : Int) + hS W s + hD s := by omega
          rw [e, b5 c4]
          omega
        · rw [if_neg c4] at b1
          omega
/-! the state without a work -/
def odx (i j : Nat) : Nat := if j < i then j else j + 1
theorem odx_ne (i j : Nat) : odx i j ≠ i := by unfold odx; split <;> omega
theorem odx_lt {n i j : Nat} (hj : j < n - 1) : odx i j < n := by unfold odx; split <;> omega
theorem tk_W (A : ASt) (i j : Nat) : aW (aTake A i) j = aW A (odx i j) := by
  show (if j < i then aW A j else aW A (j + 1)) = aW A (if j < i then j else j + 1)
  split <;> rfl
theorem tk_stem (A : ASt) (i j : Nat) : stemOf (aTake A i) j = stemOf A (odx i j) := by
  show stm (aW (aTake A i) j) (aS A) (aW (aTake A i) j).2.2.1 = stm (aW A (odx i j)) (aS A) (aW A (odx i j)).2.2.1
  rw [tk_W]
theorem bz_ix (od : Int) (P Q : AWk) {i j i' j' : Int} (h : i < j ↔ i' < j') : bz od P Q i j = bz od P Q i' j' := by
  have e : (if i < j then (1 : Int) else 0) = (if i' < j' then 1 else 0) := by
    by_cases c : i < j
    · rw [if_pos c, if_pos (h.mp c)]
    · rw [if_neg c, if_neg (fun q => c (h.mpr q))]
  unfold bz ch3
  rw [e]
theorem tk_F1 (A : ASt) (i j k : Nat) : F1 (aTake A i) j k = F1 A (odx i j) (odx i k) := by
  unfold F1
  rw [tk_stem, tk_stem]
theorem tk_F2 (A : ASt) (i j k : Nat) : F2 (aTake A i) j k = F2 A (odx i j) (odx i k) := by
  unfold F2
  rw [tk_stem, tk_stem, tk_W, tk_W]
  have e : bz (aO (aTake A i)) (aW A (odx i k)) (aW A (odx i j)) k j = bz (aO A) (aW A (odx i k)) (aW A (odx i j)) (odx i k) (odx i j) := bz_ix _ _ _ (by
    unfold odx
    split <;> split <;> omega)
  rw [e]
theorem tk_sum {A : ASt} {i : Nat} (hi : i < aN A) (f : Nat → Int) : zsum (fun k => f (odx i k)) (aN A - 1) + f i = zsum f (aN A) := by
  have h := zsum_skip (f := f) (i := i) (aN A - 1) (by omega)
  rw [show aN A - 1 + 1 = aN A by omega] at h
  exact h
/-- who shares no stem with the work that goes keeps its key -/
theorem tk_key {A : ASt} {i j : Nat} (hi : i < aN A) (hs : stemOf A i ≠ stemOf A (odx i j)) : keyOf (aTake A i) j = keyOf A (odx i j) := by
  have a : zsum (F1 (aTake A i) j) (aN A - 1) = zsum (F1 A (odx i j)) (aN A) := by
    rw [← tk_sum hi (F1 A (odx i j))]
    have e : F1 A (odx i j) i = 0 := if_neg hs
    rw [e, Int.add_zero]
    exact zsum_congr _ (fun k _ => tk_F1 A i j k)
  have b : zsum (F2 (aTake A i) j) (aN A - 1) = zsum (F2 A (odx i j)) (aN A) := by
    rw [← tk_sum hi (F2 A (odx i j))]
    have e : F2 A (odx i j) i = 0 := if_neg hs
    rw [e, Int.add_zero]
    exact zsum_congr _ (fun k _ => tk_F2 A i j k)
  have hl : letOf (aTake A i) j = letOf A (odx i j) := by
    rw [let_F, let_F]
    show (if 1 < zsum (F1 (aTake A i) j) (aN A - 1) then zsum (F2 (aTake A i) j) (aN A - 1) + 1 else 0) = _
    rw [a, b]
  unfold keyOf
  rw [tk_stem, hl]
theorem old_key (A : ASt) (i j : Nat) : (if j < i then keyOf A j else keyOf A (j + 1)) = keyOf A (odx i j) := by
  unfold odx
  split <;> rfl
theorem hang_le {A : ASt} {i : Nat} (hi : i < aN A) : hangN A i + 1 ≤ zsum (F1 A i) (aN A) := by
  rw [← tk_sum hi (F1 A i), F1_self]
  have h : hangN A i ≤ zsum (fun k => F1 A i (odx i k)) (aN A - 1) := by
    unfold hangN chgN
    refine zsum_le (aN A - 1) (fun j _ => ?_)
    show (if keyOf (aTake A i) j = (if j < i then keyOf A j else keyOf A (j + 1)) then (0 : Int) else 1) ≤ F1 A i (odx i j)
    rw [old_key]
    have f01 := F1_01 A i (odx i j)
    by_cases c : keyOf (aTake A i) j = keyOf A (odx i j)
    · rw [if_pos c]; omega
    · rw [if_neg c]
      by_cases s : stemOf A i = stemOf A (odx i j)
      · have e : F1 A i (odx i j) = 1 := if_pos s.symm
        omega
      · exact absurd (tk_key hi s) c
  omega
theorem hang_0 (A : ASt) (i : Nat) : 0 ≤ hangN A i ∧ hangN A i ≤ (aN A - 1 : Nat) := chgN_rng (aTake A i) _
/-! the work on which most keys hang; the best style -/
theorem wt_max (A : ASt) : ∀ m, (1 ≤ m → ∃ q : Nat, q < m ∧ (wtF A m).1 = (q : Int) ∧ (wtF A m).2 = hangN A q) ∧ ∀ i, i < m → hangN A i ≤ (wtF A m).2 := by
  intro m
  induction m with
  | zero => exact ⟨fun h => absurd h (by decide), fun i hi => absurd hi (Nat.not_lt_zero i)⟩
  | succ m ih =>
    obtain ⟨h1, h2⟩ := ih
    simp only [wtF]
    by_cases c : (wtF A m).1 = -9 ∨ (wtF A m).2 < hangN A m
    · rw [if_pos c]
      refine ⟨fun _ => ⟨m, by omega, rfl, rfl⟩, fun i hi => ?_⟩
      show hangN A i ≤ hangN A m
      by_cases e : i = m
      · rw [e]; exact Int.le_refl _
      · rcases c with c | c
        · obtain ⟨q, -, q2, -⟩ := h1 (by omega)
          omega
        · have := h2 i (by omega)
          omega
    · rw [if_neg c]
      have hm : 1 ≤ m := by
        by_cases e : m = 0
        · subst e; exact absurd (Or.inl rfl) c
        · omega
      obtain ⟨q, q1, q2, q3⟩ := h1 hm
      refine ⟨fun _ => ⟨q, by omega, q2, q3⟩, fun i hi => ?_⟩
      by_cases e : i = m
      · rw [e]; omega
      · exact h2 i (by omega)
theorem bs_min (A : ASt) : ∀ n, (1 ≤ n → ∃ q : Nat, q < n ∧ (bsF A n).1 = (q : Int) ∧ (bsF A n).2.1 = letdN (aSty A (q : Int))) ∧ ∀ s : Nat, s < n → (bsF A n).2.1 ≤ letdN (aSty A (s : Int)) := by
  intro n
  induction n with
  | zero => exact ⟨fun h => absurd h (by decide), fun i hi => absurd hi (Nat.not_lt_zero i)⟩
  | succ n ih =>
    obtain ⟨h1, h2⟩ := ih
    simp only [bsF]
    by_cases c : n = 0 ∨ letdN (aSty A n) < (bsF A n).2.1 ∨ (letdN (aSty A n) = (bsF A n).2.1 ∧ lgst (aSty A n) < (bsF A n).2.2)
    · rw [if_pos c]
      refine ⟨fun _ => ⟨n, by omega, rfl, rfl⟩, fun s hs => ?_⟩
      show letdN (aSty A n) ≤ letdN (aSty A s)
      by_cases e : s = n
      · rw [e]; exact Int.le_refl _
      · have := h2 s (by omega)
        rcases c with c | c | c
        · omega
        · omega
        · omega
    · rw [if_neg c]
      have hn : 1 ≤ n := by
        by_cases e : n = 0
        · exact absurd (Or.inl e) c
        · omega
      obtain ⟨q, q1, q2, q3⟩ := h1 hn
      refine ⟨fun _ => ⟨q, by omega, q2, q3⟩, fun s hs => ?_⟩
      by_cases e : s = n
      · rw [e]
        have : ¬ letdN (aSty A n) < (bsF A n).2.1 := fun q => c (Or.inr (Or.inl q))
        omega
      · exact h2 s (by omega)
