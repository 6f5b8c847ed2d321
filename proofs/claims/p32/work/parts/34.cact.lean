/-! CitationKeys: what an action leaves -/
def hpush (H : Nat × (Nat → ASt)) (A : ASt) : Nat × (Nat → ASt) := if H.1 = 14 then (14, fun k => if k = 13 then A else H.2 (k + 1)) else (H.1 + 1, fun k => if k = H.1 then A else H.2 k)
def aSet (A : ASt) (i : Nat) (P : AWk) : ASt := (aN A, (fun j => if j = i then P else aW A j), aS A, aO A, aPn A, aPk A, aPo A)
def aSty (A : ASt) (s : Int) : ASt := (aN A, aW A, s, aO A, aPn A, aPk A, aPo A)
def aOrd (A : ASt) (o : Int) : ASt := (aN A, aW A, aS A, o, aPn A, aPk A, aPo A)
def yrW (W : AWk) (y : Int) : AWk := (W.1, W.2.1, y, W.2.2.2)
/-- CInv but for the present state's caches -/
def CPre (X : Xt) (g : Geo) (I J : Mm) (c : Nat) (T : Nat × (Nat → Int)) (A : ASt) (K : Nat → Int) (H : Nat × (Nat → ASt)) (V : Nat → Option ASt) : Prop := CL X g c ∧ g.2.2 = false ∧ CTx I c T ∧ (StAt g I J (c + 36) A ∧ GoodSt A ∧ KyAt J (c + 36) (aN A) K ∧ ∀ i, i < aN A → r64 (K i)) ∧ CHs g I J c H ∧ CSl g I J c V
theorem AWF.yr {W : AWk} {y : Int} (h : AWF W) (hy : 1000 ≤ y ∧ y ≤ 2999) : AWF (yrW W y) := ⟨h.1, h.2.1, h.2.2.1, hy, h.2.2.2.2⟩
theorem GoodSt.place {A : ASt} {P : AWk} (h : GoodSt A) (hP : AWF P) (hn : aN A < 16) : GoodSt (aPlace A P) := by
  obtain ⟨⟨h1, h2, h3, h4, h5⟩, h6, h7⟩ := h
  have hw : ∀ i, i < aN A + 1 → AWF (aW (aPlace A P) i) := fun i hi => by
    show AWF (if i = aN A then P else aW A i)
    by_cases e : i = aN A
    · rw [if_pos e]; exact hP
    · rw [if_neg e]; exact h6 i (by omega)
  refine ⟨⟨hn, h2, h3, h4, fun i hi => (hw i hi).ok⟩, hw, fun p hp => ⟨(h7 p hp).1, ?_⟩⟩
  have hx := (h7 p hp).2
  show aPo A p = -2 ∨ (0 ≤ aPo A p ∧ aPo A p < ((aN A + 1 : Nat) : Int))
  omega
theorem GoodSt.set {A : ASt} {P : AWk} {i : Nat} (h : GoodSt A) (hP : AWF P) : GoodSt (aSet A i P) := by
  obtain ⟨⟨h1, h2, h3, h4, h5⟩, h6, h7⟩ := h
  have hw : ∀ j, j < aN A → AWF (aW (aSet A i P) j) := fun j hj => by
    show AWF (if j = i then P else aW A j)
    by_cases e : j = i
    · rw [if_pos e]; exact hP
    · rw [if_neg e]; exact h6 j hj
  exact ⟨⟨h1, h2, h3, h4, fun i hi => (hw i hi).ok⟩, hw, h7⟩
theorem GoodSt.sty {A : ASt} {s : Int} (h : GoodSt A) (hs : 0 ≤ s ∧ s ≤ 3) : GoodSt (aSty A s) := ⟨⟨h.1.1, h.1.2.1, hs, h.1.2.2.2⟩, h.2⟩
theorem GoodSt.ord {A : ASt} {o : Int} (h : GoodSt A) (ho : o = 0 ∨ o = 1) : GoodSt (aOrd A o) := ⟨⟨h.1.1, h.1.2.1, h.1.2.2.1, ho, h.1.2.2.2.2⟩, h.2⟩
theorem GoodSt.emp {A : ASt} (h : GoodSt A) : GoodSt (aEmpty A) := ⟨⟨Nat.zero_le _, Nat.zero_le _, ⟨Int.le_refl 0, show (0 : Int) ≤ 3 by decide⟩, Or.inl rfl, fun i hi => absurd hi (Nat.not_lt_zero i)⟩, fun i hi => absurd hi (Nat.not_lt_zero i), fun i hi => absurd hi (Nat.not_lt_zero i)⟩
theorem GoodSt.take {A : ASt} {i : Nat} (h : GoodSt A) (hi : i < aN A) : GoodSt (aTake A i) := by
  obtain ⟨⟨h1, h2, h3, h4, h5⟩, h6, h7⟩ := h
  have hw : ∀ j, j < aN A - 1 → AWF (aW (aTake A i) j) := fun j hj => by
    show AWF (if j < i then aW A j else aW A (j + 1))
    by_cases e : j < i
    · rw [if_pos e]; exact h6 j (by omega)
    · rw [if_neg e]; exact h6 (j + 1) (by omega)
  refine ⟨⟨show aN A - 1 ≤ 16 by omega, h2, h3, h4, fun i hi => (hw i hi).ok⟩, hw, fun p hp => ⟨(h7 p hp).1, ?_⟩⟩
  have hx := (h7 p hp).2
  show disw i (aPo A p) = -2 ∨ (0 ≤ disw i (aPo A p) ∧ disw i (aPo A p) < ((aN A - 1 : Nat) : Int))
  unfold disw
  repeat' split
  all_goals omega
theorem GoodSt.print {A : ASt} (h : GoodSt A) : GoodSt (aPrint A (keyOf A)) := by
  obtain ⟨⟨h1, h2, h3, h4, h5⟩, h6, h7⟩ := id h
  refine ⟨⟨h1, h1, h3, h4, h5⟩, h6, fun p hp => ⟨⟨aW A p, aS A, letOf A p, h6 p hp, h3, letOf_rng h.1 p, rfl⟩, Or.inr ⟨?_, ?_⟩⟩⟩
  · show (0 : Int) ≤ (p : Int); omega
  · show (p : Int) < (aN A : Int)
    have : p < aN A := hp
    omega
theorem CFr.rf (g : Geo) (I J : Mm) (c : Nat) : CFr g g I I J J c := ⟨rfl, fun _ _ => ⟨rfl, rfl, rfl⟩⟩
theorem CFr.tr {g g' g'' : Geo} {I I' I'' J J' J'' : Mm} {c : Nat} (h1 : CFr g g' I I' J J' c) (h2 : CFr g' g'' I' I'' J' J'' c) : CFr g g'' I I'' J J'' c := ⟨h2.1.trans h1.1, fun q hq => ⟨(h2.2 q hq).1.trans (h1.2 q hq).1, (h2.2 q hq).2.1.trans (h1.2 q hq).2.1, (h2.2 q hq).2.2.trans (h1.2 q hq).2.2⟩⟩
theorem FrO.cf {I I' J J' : Mm} {lo hi c : Nat} (h : FrO I I' J J' lo hi) (g : Geo) (h1 : c ≤ lo) (h2 : hi ≤ c + 726) : CFr g g I I' J J' c := ⟨rfl, fun q hq => ⟨rfl, h q (by omega)⟩⟩
theorem FrO.cfg {g g' : Geo} {I I' J J' : Mm} {lo hi c t : Nat} (h : FrO I I' J J' lo hi) (hg : GeoFr g g' t) (h1 : c ≤ lo) (h2 : hi ≤ c + 726) (h3 : c ≤ t) (h4 : t + 1 < c + 726) : CFr g g' I I' J J' c := ⟨hg.1, fun q hq => ⟨hg.2.2 q (by omega), h q (by omega)⟩⟩
theorem CL.geo {X : Xt} {g g' : Geo} {c t : Nat} (hL : CL X g c) (h : GeoFr g g' t) (ht : t = c + 36 ∨ t = c + 74) (hS : SL X g' t) : CL X g' c := by
  have hm : ∀ a k, ksh X g a = some k → ksh X g' a = some k := fun a k e => by rw [GeoFr_ksh h]; exact e
  have hr : ∀ a, a ≠ t + 1 → g'.2.1 a = g.2.1 a := h.2.2
  obtain ⟨⟨l0, l1, l2, l3, l4, l5, l6, l7⟩, lT, lN, lR, lD, lH, ⟨lS, lV⟩, lB⟩ := hL
  have e0 := hr c (by omega)
  have e1 := hr (c + 648) (by omega)
  refine ⟨⟨hm _ _ l0, by rw [e0]; exact l1, by rw [e0]; exact l2, by rw [e0]; exact l3, by rw [e0]; exact l4, by rw [e0]; exact l5, by rw [e0]; exact l6, by rw [e0]; exact l7⟩, lT.rw' hm (fun a q1 q2 => hr a (by omega)), ?_, ?_, lD.rw' hm (hr _ (by omega)), lH.rw' hm (fun a q1 q2 => hr a (by omega)), ⟨hm _ _ lS, fun s hs => ⟨by rw [e1]; exact (lV s hs).1, GeoFr_SL h (lV s hs).2 (by omega)⟩⟩, hm _ _ lB⟩
  · rcases ht with e | e
    · rw [← e]; exact hS
    · exact GeoFr_SL h lN (by omega)
  · rcases ht with e | e
    · exact GeoFr_SL h lR (by omega)
    · rw [← e]; exact hS
theorem GeoFr.rf (g : Geo) (t : Nat) : GeoFr g g t := ⟨rfl, rfl, fun _ _ => rfl⟩
section ZA
variable {X : Xt} {g g' : Geo} {I I' J J' : Mm} {c : Nat} {T : Nat × (Nat → Int)} {A A' : ASt} {K K' : Nat → Int} {H : Nat × (Nat → ASt)} {V : Nat → Option ASt} {Q : AC} {b : Nat × Nat} {post : Out → Geo → Mm → Mm → Prop}
theorem CTx.rw' (h : CTx I c T) (hr : ∀ q, c + 1 ≤ q → q ≤ c + 2 → I' q = I q) : CTx I' c T := by
  obtain ⟨t1, t2, t3⟩ := h
  refine ⟨by rw [hr (c + 1) (by omega) (by omega)]; exact t1, t2, fun p hp => ?_⟩
  rw [hr (c + 2) (by omega) (by omega)]
  exact t3 p hp
theorem CInv.pre (h : CInv X g I J c Q) : CPre X g I J c Q.1 Q.2.1 (keyOf Q.2.1) Q.2.2.1 Q.2.2.2 := by
  obtain ⟨hL, hg, hT, ⟨⟨hA, hK, hS⟩, hG⟩, hH, hV⟩ := h
  exact ⟨hL, hg, hT, ⟨hA, hG, hK, fun i hi => (hG.ky i hi).2⟩, hH, hV⟩
theorem CPre.now (h : CPre X g I J c T A K H V) (hg : GeoFr g g' (c + 36)) (hS : SL X g' (c + 36)) (hF : FrO I I' J J' (c + 36) (c + 74)) (hA : StAt g' I' J' (c + 36) A') (hGd : GoodSt A') (hK : KyAt J' (c + 36) (aN A') K') (hKr : ∀ i, i < aN A' → r64 (K' i)) : CPre X g' I' J' c T A' K' H V := by
  obtain ⟨hL, ht, hT, -, hH, hV⟩ := h
  exact ⟨hL.geo hg (Or.inl rfl) hS, hg.2.1.trans ht, hT.rw' (fun q q1 q2 => (hF q (by omega)).1), ⟨hA, hGd, hK, hKr⟩, hH.rw' hL (fun q q1 q2 => hg.2.2 q (by omega)) (fun q q1 q2 => hF q (by omega)), hV.rw' hL (fun q q1 q2 => hg.2.2 q (by omega)) (fun q q1 q2 => hF q (by omega))⟩
theorem CPre.rekey (h : CPre X g I J c T A K H V) (hp : ∀ J', FrO I I J J' (c + 36) (c + 74) → CInv X g I J' c (T, A, H, V) → post (.inl (some (vi (zsum (fun i => if keyOf A i = K i then 0 else 1) (aN A))))) g I J') : ZV X E_X3_rekey 0 [some (.ref (c + 36)), none, none, none, none] [] b g I J post := by
  obtain ⟨hL, ht, hT, ⟨hA, hG, hK, hKr⟩, hH, hV⟩ := h
  refine sp_X3_rekey hL.2.2.1 hA hG.1 hK hKr ?_
  intro J' a1 a2 a3 a4
  have hF : FrO I I J J' (c + 36) (c + 74) := fun q hq => ⟨rfl, a4 q (by omega)⟩
  exact hp J' hF ⟨hL, ht, hT, ⟨⟨a1, a3, a2⟩, hG⟩, hH.rw' hL (fun q q1 q2 => rfl) (fun q q1 q2 => hF q (by omega)), hV.rw' hL (fun q q1 q2 => rfl) (fun q q1 q2 => hF q (by omega))⟩
theorem CInv.trial (h : CInv X g I J c Q) (hg : GeoFr g g' (c + 74)) (hS : SL X g' (c + 74)) (hF : FrO I I' J J' (c + 74) (c + 112)) : CInv X g' I' J' c Q := by
  obtain ⟨hL, ht, hT, hN, hH, hV⟩ := h
  exact ⟨hL.geo hg (Or.inr rfl) hS, hg.2.1.trans ht, hT.rw' (fun q q1 q2 => (hF q (by omega)).1), hN.rw' hL.2.2.1 (hg.2.2 _ (by omega)) (fun q q1 q2 => hF q (by omega)), hH.rw' hL (fun q q1 q2 => hg.2.2 q (by omega)) (fun q q1 q2 => hF q (by omega)), hV.rw' hL (fun q q1 q2 => hg.2.2 q (by omega)) (fun q q1 q2 => hF q (by omega))⟩
theorem CInv.remember (hC : CInv X g I J c Q) (h : ∀ I' J', (∀ q, q < c + 114 ∨ c + 648 ≤ q → I' q = I q ∧ J' q = J q) → CInv X g I' J' c (Q.1, Q.2.1, hpush Q.2.2.1 Q.2.1, Q.2.2.2) → post (.inl none) g I' J') : ZV X E_X0_remember 0 [some (.ref (c + 114)), some (.ref (c + 36))] [] b g I J post := by
  obtain ⟨hL, hg, hT, ⟨hN, hG⟩, ⟨o, o1, o2, o3, o4, o5⟩, hV⟩ := hC
  refine sp_X0_remember hL.2.2.2.2.2.1 hL.2.2.1 (by omega) o2 o1 o3 o4 hN hG.1 ?_
  intro I' J' o' k' hc e1 e2 hs hf hj
  have hm : (o' + k') % 14 < 14 := Nat.mod_lt _ (by decide)
  obtain ⟨j, ej⟩ : ∃ j, j = (o' + k') % 14 := ⟨_, rfl⟩
  rw [← ej] at hs hf hm
  have ea : c + 114 + 2 + 38 * j = c + 116 + 38 * j := by omega
  rw [ea] at hs hf
  have old : ∀ k, k < Q.2.2.1.1 → (o + k) % 14 ≠ j → StF g I' J' (c + 116 + 38 * ((o + k) % 14)) (Q.2.2.1.2 k) := by
    intro k hk hne
    have hm2 : (o + k) % 14 < 14 := Nat.mod_lt _ (by decide)
    have hS : SL X g (c + 116 + 38 * ((o + k) % 14)) := (hL.2.2.2.2.2.1.2 _ hm2).2
    exact (o5 k hk).rw' hS rfl (fun q q1 q2 => hf q (by omega))
  refine h I' J' (fun q hq => hf q (by omega)) ⟨hL, hg, hT.rw' (fun q q1 q2 => (hf q (by omega)).1), StF.rw' hL.2.2.1 ⟨hN, hG⟩ rfl (fun q q1 q2 => hf q (by omega)), ⟨o', by omega, e1, ?_, ?_, ?_⟩, hV.rw' hL (fun _ _ _ => rfl) (fun q q1 q2 => hf q (by omega))⟩
  · show I' (c + 114) 2 = ((hpush Q.2.2.1 Q.2.1).1 : Int)
    unfold hpush
    split
    · show _ = ((14 : Nat) : Int); omega
    · show _ = ((Q.2.2.1.1 + 1 : Nat) : Int); omega
  · show (hpush Q.2.2.1 Q.2.1).1 ≤ 14
    unfold hpush
    split
    · exact Nat.le_refl 14
    · show Q.2.2.1.1 + 1 ≤ 14; omega
  · intro k hk
    show StF g I' J' (c + 116 + 38 * ((o' + k) % 14)) ((hpush Q.2.2.1 Q.2.1).2 k)
    have hk0 : k < (hpush Q.2.2.1 Q.2.1).1 := hk
    unfold hpush at hk0 ⊢
    by_cases e : Q.2.2.1.1 = 14
    · rw [if_pos e] at hk0 ⊢
      have hk2 : k < 14 := hk0
      show StF g I' J' (c + 116 + 38 * ((o' + k) % 14)) (if k = 13 then Q.2.1 else Q.2.2.1.2 (k + 1))
      by_cases e3 : k = 13
      · rw [if_pos e3, show (o' + k) % 14 = j by omega]
        exact ⟨hs, hG⟩
      · rw [if_neg e3, show (o' + k) % 14 = (o + (k + 1)) % 14 by omega]
        exact old (k + 1) (by omega) (by omega)
    · rw [if_neg e] at hk0 ⊢
      have hk2 : k < Q.2.2.1.1 + 1 := hk0
      show StF g I' J' (c + 116 + 38 * ((o' + k) % 14)) (if k = Q.2.2.1.1 then Q.2.1 else Q.2.2.1.2 k)
      by_cases e3 : k = Q.2.2.1.1
      · rw [if_pos e3, show (o' + k) % 14 = j by omega]
        exact ⟨hs, hG⟩
      · rw [if_neg e3, show (o' + k) % 14 = (o + k) % 14 by omega]
        exact old k (by omega) (by omega)
end ZA

