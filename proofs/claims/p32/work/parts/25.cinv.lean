/-! the class as a whole: what holds between two calls -/
/-- text; present state; remembered states, oldest first; save slots -/
abbrev AC : Type := (Nat × (Nat → Int)) × ASt × (Nat × (Nat → ASt)) × (Nat → Option ASt)
/-- a key as a state makes it -/
def KWF (κ : Int) : Prop := ∃ (W : AWk) (s l : Int), AWF W ∧ (0 ≤ s ∧ s ≤ 3) ∧ (0 ≤ l ∧ l ≤ 17) ∧ κ = stm W s W.2.2.1 + l
def GoodSt (A : ASt) : Prop := StOK A ∧ (∀ i, i < aN A → AWF (aW A i)) ∧ ∀ p, p < aPn A → KWF (aPk A p) ∧ (aPo A p = -2 ∨ (0 ≤ aPo A p ∧ aPo A p < aN A))
def StF (g : Geo) (I J : Mm) (t : Nat) (A : ASt) : Prop := StK g I J t A (keyOf A) (stemOf A) ∧ GoodSt A
def CTx (I : Mm) (c : Nat) (T : Nat × (Nat → Int)) : Prop := I (c + 1) 1 = (T.1 : Int) ∧ T.1 ≤ 100 ∧ ∀ p, p < T.1 → I (c + 2) p = T.2 p ∧ 0 ≤ T.2 p ∧ T.2 p < 256
def CHs (g : Geo) (I J : Mm) (c : Nat) (H : Nat × (Nat → ASt)) : Prop := ∃ o : Nat, o < 14 ∧ I (c + 114) 1 = (o : Int) ∧ I (c + 114) 2 = (H.1 : Int) ∧ H.1 ≤ 14 ∧ ∀ k, k < H.1 → StF g I J (c + 116 + 38 * ((o + k) % 14)) (H.2 k)
def CSl (g : Geo) (I J : Mm) (c : Nat) (V : Nat → Option ASt) : Prop := ∀ s, s < 2 → (V s = none ∧ I (c + 725) s = 0) ∨ ∃ A, V s = some A ∧ I (c + 725) s = 1 ∧ StF g I J (c + 649 + 38 * s) A
def CInv (X : Xt) (g : Geo) (I J : Mm) (c : Nat) (Q : AC) : Prop := CL X g c ∧ g.2.2 = false ∧ CTx I c Q.1 ∧ StF g I J (c + 36) Q.2.1 ∧ CHs g I J c Q.2.2.1 ∧ CSl g I J c Q.2.2.2
theorem StF.rw' {X : Xt} {g g' : Geo} {I I' J J' : Mm} {t : Nat} {A : ASt} (hL : SL X g t) (h : StF g I J t A) (hg : g'.2.1 (t + 1) = g.2.1 (t + 1)) (hr : ∀ q, t ≤ q → q < t + 38 → I' q = I q ∧ J' q = J q) : StF g' I' J' t A := by
  obtain ⟨⟨⟨⟨h1, h2, h3, h4⟩, h5, h6⟩, h7, h8⟩, hG⟩ := h
  have hn := hG.1.1
  have e1 := (hr t (by omega) (by omega)).1
  refine ⟨⟨⟨⟨by rw [e1]; exact h1, by rw [e1]; exact h2, by rw [e1]; exact h3, by rw [e1]; exact h4⟩, fun i hi => ?_, fun p hp => ?_⟩, fun i hi => ?_, fun i hi => ?_⟩, hG⟩
  · have hw := (SL_sw hL (i := i) (by omega)).2.2
    have es : swk g' t i = swk g t i := by unfold swk; rw [hg]
    rw [es]
    obtain ⟨w1, w2, w3, w4⟩ := h5 i hi
    obtain ⟨f1, f2⟩ := hr (swk g t i) (by omega) (by omega)
    obtain ⟨f3, f4⟩ := hr (swk g t i + 1) (by omega) (by omega)
    exact ⟨fun a ha => by rw [f4]; exact w1 a ha, by rw [f1]; exact w2, by rw [f1]; exact w3, by rw [f2]; exact w4⟩
  · rw [(hr (t + 36) (by omega) (by omega)).2, (hr (t + 37) (by omega) (by omega)).1]; exact h6 p hp
  · rw [(hr (t + 35) (by omega) (by omega)).2]; exact h7 i hi
  · rw [(hr (t + 34) (by omega) (by omega)).2]; exact h8 i hi
theorem CHs.rw' {X : Xt} {g g' : Geo} {I I' J J' : Mm} {c : Nat} {H : Nat × (Nat → ASt)} (hL : CL X g c) (h : CHs g I J c H) (hg : ∀ q, c + 114 ≤ q → q < c + 648 → g'.2.1 q = g.2.1 q) (hr : ∀ q, c + 114 ≤ q → q < c + 648 → I' q = I q ∧ J' q = J q) : CHs g' I' J' c H := by
  obtain ⟨o, h1, h2, h3, h4, h5⟩ := h
  have e1 := (hr (c + 114) (by omega) (by omega)).1
  refine ⟨o, h1, by rw [e1]; exact h2, by rw [e1]; exact h3, h4, fun k hk => ?_⟩
  have hm : (o + k) % 14 < 14 := Nat.mod_lt _ (by decide)
  have hS : SL X g (c + 116 + 38 * ((o + k) % 14)) := (hL.2.2.2.2.2.1.2 _ hm).2
  exact StF.rw' hS (h5 k hk) (hg _ (by omega) (by omega)) (fun q h1 h2 => hr q (by omega) (by omega))
theorem CSl.rw' {X : Xt} {g g' : Geo} {I I' J J' : Mm} {c : Nat} {V : Nat → Option ASt} (hL : CL X g c) (h : CSl g I J c V) (hg : ∀ q, c + 649 ≤ q → q < c + 725 → g'.2.1 q = g.2.1 q) (hr : ∀ q, c + 649 ≤ q → q < c + 726 → I' q = I q ∧ J' q = J q) : CSl g' I' J' c V := by
  intro s hs
  have e1 := (hr (c + 725) (by omega) (by omega)).1
  rcases h s hs with ⟨h1, h2⟩ | ⟨A, h1, h2, h3⟩
  · exact Or.inl ⟨h1, by rw [e1]; exact h2⟩
  · have hS : SL X g (c + 649 + 38 * s) := (hL.2.2.2.2.2.2.1.2 s hs).2
    exact Or.inr ⟨A, h1, by rw [e1]; exact h2, StF.rw' hS h3 (hg _ (by omega) (by omega)) (fun q h1 h2 => hr q (by omega) (by omega))⟩
section ZC
variable {X : Xt} {g : Geo} {I J : Mm} {b : Nat × Nat} {post : Out → Geo → Mm → Mm → Prop}
theorem sp_X6_isYear {y : Int} (hy : r32 y) (h : post (.inl (some (vi (if 1000 ≤ y ∧ y ≤ 2999 then 1 else 0)))) g I J) : ZV X E_X6_isYear 0 [some (vi y)] [] b g I J post := by
  obtain ⟨y1, y2⟩ := hy
  refine ZV_iload_n dX6_isYear_0 rfl ?_
  refine ZV_sipush dX6_isYear_1 (by decide) ?_
  refine ZV_icmp_lt (tgt := 18) dX6_isYear_4 (by decide) ⟨by omega, by omega⟩ ⟨by omega, by omega⟩ (fun h4 => ?_) (fun h4 => ?_)
  · refine ZV_iconst dX6_isYear_18 ?_
    refine ZV_zret dX6_isYear_19 rfl (by first | exact Or.inl rfl | exact Or.inr rfl | assumption | omega) ?_
    rw [if_neg (by omega)] at h
    exact h
  · refine ZV_iload_n dX6_isYear_7 rfl ?_
    refine ZV_sipush dX6_isYear_8 (by decide) ?_
    refine ZV_icmp_gt (tgt := 18) dX6_isYear_11 (by decide) ⟨by omega, by omega⟩ ⟨by omega, by omega⟩ (fun h11 => ?_) (fun h11 => ?_)
    · refine ZV_iconst dX6_isYear_18 ?_
      refine ZV_zret dX6_isYear_19 rfl (by first | exact Or.inl rfl | exact Or.inr rfl | assumption | omega) ?_
      rw [if_neg (by omega)] at h
      exact h
    · refine ZV_iconst dX6_isYear_14 ?_
      refine ZV_goto (tgt := 19) dX6_isYear_15 (by decide) ?_
      refine ZV_zret dX6_isYear_19 rfl (by first | exact Or.inl rfl | exact Or.inr rfl | assumption | omega) ?_
      rw [if_pos ⟨by omega, by omega⟩] at h
      exact h
theorem sp_X6_isStyle {y : Int} (hy : r32 y) (h : post (.inl (some (vi (if 0 ≤ y ∧ y < 4 then 1 else 0)))) g I J) : ZV X E_X6_isStyle 0 [some (vi y)] [] b g I J post := by
  obtain ⟨y1, y2⟩ := hy
  refine ZV_iload_n dX6_isStyle_0 rfl ?_
  refine ZV_if_lt (tgt := 13) dX6_isStyle_1 (by decide) ⟨by omega, by omega⟩ (fun h1 => ?_) (fun h1 => ?_)
  · refine ZV_iconst dX6_isStyle_13 ?_
    refine ZV_zret dX6_isStyle_14 rfl (by first | exact Or.inl rfl | exact Or.inr rfl | assumption | omega) ?_
    rw [if_neg (by omega)] at h
    exact h
  · refine ZV_iload_n dX6_isStyle_4 rfl ?_
    refine ZV_iconst dX6_isStyle_5 ?_
    refine ZV_icmp_ge (tgt := 13) dX6_isStyle_6 (by decide) ⟨by omega, by omega⟩ ⟨by omega, by omega⟩ (fun h6 => ?_) (fun h6 => ?_)
    · refine ZV_iconst dX6_isStyle_13 ?_
      refine ZV_zret dX6_isStyle_14 rfl (by first | exact Or.inl rfl | exact Or.inr rfl | assumption | omega) ?_
      rw [if_neg (by omega)] at h
      exact h
    · refine ZV_iconst dX6_isStyle_9 ?_
      refine ZV_goto (tgt := 14) dX6_isStyle_10 (by decide) ?_
      refine ZV_zret dX6_isStyle_14 rfl (by first | exact Or.inl rfl | exact Or.inr rfl | assumption | omega) ?_
      rw [if_pos ⟨by omega, by omega⟩] at h
      exact h
theorem sp_X6_needStyle {y : Int} (hy : r32 y) (hg : g.2.2 = false) (hb : 1 ≤ b.1 ∧ 6 ≤ b.2) (h : (0 ≤ y ∧ y < 4 ∧ post (.inl none) g I J) ∨ (¬ (0 ≤ y ∧ y < 4) ∧ post (.inr zIAE) g I J)) : ZV X E_X6_needStyle 0 [some (vi y)] [] b g I J post := by
  refine ZV_iload_n dX6_needStyle_0 rfl ?_
  refine cl_X6_isStyle kX6_needStyle_286 rfl dX6_needStyle_1 (Nat.le_of_ble_eq_true rfl) ?_
  refine sp_X6_isStyle hy ?_
  rcases h with ⟨q1, q2, h⟩ | ⟨q1, h⟩
  · rw [if_pos ⟨q1, q2⟩]
    refine ZV_if_ne (tgt := 18) dX6_needStyle_4 (by decide) ⟨by omega, by omega⟩ (fun h4 => ?_) (fun h4 => ?_)
    · refine ZV_vret dX6_needStyle_18 rfl ?_
      exact h
    · omega
  · rw [if_neg q1]
    refine ZV_if_ne (tgt := 18) dX6_needStyle_4 (by decide) ⟨by omega, by omega⟩ (fun h4 => ?_) (fun h4 => ?_)
    · omega
    · refine ZV_throwW tX6_needStyle_7 rfl dX6_needStyle_7 dX6_needStyle_10 dX6_needStyle_11 dX6_needStyle_14 dX6_needStyle_17 ⟨by decide, by decide⟩ hb (by assumption) ?_
      exact h
theorem sp_X6_needWork {c : Nat} {i : Int} {Q : AC} (hC : CInv X g I J c Q) (hi : r32 i) (hb : 1 ≤ b.1 ∧ 6 ≤ b.2) (h : (0 ≤ i ∧ i < aN Q.2.1 ∧ post (.inl none) g I J) ∨ (¬ (0 ≤ i ∧ i < aN Q.2.1) ∧ post (.inr zIOB) g I J)) : ZV X E_X6_needWork 0 [some (.ref c), some (vi i)] [] b g I J post := by
  obtain ⟨hL, hg, hT, hN, -⟩ := hC
  obtain ⟨⟨l0, l1, l2, l3, l4, l5, l6, l7⟩, lT, lN, -⟩ := hL
  have ln := lN.1.1
  have hn := hN.2.1.1
  have en := hN.1.1.1.1
  refine ZV_aload_n dX6_needWork_0 rfl ?_
  refine ZV_getR fX6_needWork_19 dX6_needWork_1 (by assumption) rfl (by assumption) ?_
  refine ZV_iload_n dX6_needWork_4 rfl ?_
  refine cl_X3_has kX6_needWork_278 rfl dX6_needWork_5 (by assumption) (Nat.le_of_ble_eq_true rfl) ?_
  refine sp_X3_has ln hi ⟨by omega, by omega⟩ ?_
  rw [en]
  rcases h with ⟨q1, q2, h⟩ | ⟨q1, h⟩
  · rw [if_pos ⟨q1, q2⟩]
    refine ZV_if_ne (tgt := 22) dX6_needWork_8 (by decide) ⟨by omega, by omega⟩ (fun h8 => ?_) (fun h8 => ?_)
    · refine ZV_vret dX6_needWork_22 rfl ?_
      exact h
    · omega
  · rw [if_neg q1]
    refine ZV_if_ne (tgt := 22) dX6_needWork_8 (by decide) ⟨by omega, by omega⟩ (fun h8 => ?_) (fun h8 => ?_)
    · omega
    · refine ZV_throwW tX6_needWork_11 rfl dX6_needWork_11 dX6_needWork_14 dX6_needWork_15 dX6_needWork_18 dX6_needWork_21 ⟨by decide, by decide⟩ hb (by assumption) ?_
      exact h
end ZC

