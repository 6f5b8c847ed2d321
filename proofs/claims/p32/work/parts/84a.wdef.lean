/-! what the law's own calls answer, and what they leave: functions of the state -/
abbrev RS : Type := ASt × (Nat × (Nat → ASt)) × (Nat → Option ASt)
abbrev hasW (A : ASt) (i : Int) : Prop := 0 ≤ i ∧ i < aN A
def abL (A : ASt) (k : Int) : Int := if 0 ≤ k ∧ k ≤ 7 then abF A k else -9000000000000000002
def wkL (A : ASt) (i k : Int) : Int := if hasW A i then (if 0 ≤ k ∧ k ≤ 6 then wkF A i.toNat k else -9000000000000000002) else -9000000000000000001
def ltL (A : ASt) (i a k : Int) : Int := if hasW A i then (if 0 ≤ a ∧ a ≤ (aW A i.toNat).2.1 ∧ 0 ≤ k then codeAt (nmAt (aW A i.toNat) a) k else -9000000000000000002) else -9000000000000000001
def kyL (A : ASt) (i k : Int) : Int := if hasW A i then (if k < 0 then -9000000000000000002 else kch (keyOf A i.toNat) k) else -9000000000000000001
def atL (A : ASt) (k : Int) : Int := if 0 ≤ k then atN A k else -9000000000000000002
def prL (A : ASt) (k : Int) : Int := if 0 ≤ k ∧ k ≤ 2 then prF A k else -9000000000000000002
def frL (A : ASt) (i : Int) : Int := if hasW A i then fyF A i.toNat 2000 else -9000000000000000001
def ifL (A : ASt) (i : Int) : Int := if hasW A i then hangN A i.toNat else -9000000000000000001
def lwL (A : ASt) (s : Int) : Int := if 0 ≤ s ∧ s < 4 then letdN (aSty A s) else -9000000000000000002
def scL (A : ASt) (n s : Int) : Int := if (1 ≤ n ∧ n ≤ 4) ∧ (0 ≤ s ∧ s < un n.toNat) then scF A s n.toNat else -9000000000000000002
def smL (A : ASt) (s m : Int) : Int := if 1 ≤ m ∧ m ≤ 99 then (i32 (100 * (aN (smS A s m.toNat) : Int) + letdN (smS A s m.toNat))).toInt else -9000000000000000002
def apL (T : Txt) (z : Int) : Int × Txt := if 0 ≤ z ∧ z ≤ 255 then (if T.1 < 100 then ((T.1 : Int) + 1, txAdd T z) else (-9000000000000000003, T)) else (-9000000000000000002, T)
def ldL (T : Txt) (R : RS) : Int × RS := if rdv T.2 T.1 = -9 then (match rn T.2 T.1 with
  | some s => ((s.1 : Int), (aList R.1 s.2.2.2 s.1, (0, R.2.1.2), fun _ => none))
  | none => (-9000000000000000003, R)) else (-9000000000000000003, R)
/-- the one work that a text tells -/
def oneP (T : Txt) : Option AWk := if rdv T.2 T.1 = -9 then (match rn T.2 T.1 with
  | some s => if s.1 = 1 then some (s.2.2.2 0) else none
  | none => none) else none
def adL (T : Txt) (R : RS) : Int × RS := match oneP T with
  | some P => if aN R.1 < 16 then ((aN R.1 : Int), (aPlace R.1 P, hpush R.2.1 R.1, R.2.2)) else (-9000000000000000003, R)
  | none => (-9000000000000000003, R)
def chL (T : Txt) (R : RS) (i : Int) : Int × RS := if hasW R.1 i then (match oneP T with
  | some P => (chgN (aSet R.1 i.toNat P) (keyOf R.1), (aSet R.1 i.toNat P, hpush R.2.1 R.1, R.2.2))
  | none => (-9000000000000000003, R)) else (-9000000000000000001, R)
def syL (R : RS) (i y : Int) : Int × RS := if hasW R.1 i then (if 1000 ≤ y ∧ y ≤ 2999 then (chgN (aSet R.1 i.toNat (yrW (aW R.1 i.toNat) y)) (keyOf R.1), (aSet R.1 i.toNat (yrW (aW R.1 i.toNat) y), hpush R.2.1 R.1, R.2.2)) else (-9000000000000000002, R)) else (-9000000000000000001, R)
def rmL (R : RS) (i : Int) : Int × RS := if hasW R.1 i then (hangN R.1 i.toNat, (aTake R.1 i.toNat, hpush R.2.1 R.1, R.2.2)) else (-9000000000000000001, R)
def ssL (R : RS) (s : Int) : Int × RS := if 0 ≤ s ∧ s < 4 then (aS R.1, (aSty R.1 s, hpush R.2.1 R.1, R.2.2)) else (-9000000000000000002, R)
def soL (R : RS) (s : Int) : Int × RS := if 0 ≤ s ∧ s < 2 then (chgN (aOrd R.1 s) (keyOf R.1), (aOrd R.1 s, hpush R.2.1 R.1, R.2.2)) else (-9000000000000000002, R)
def unL (R : RS) : Int × RS := if R.2.1.1 = 0 then (-9000000000000000003, R) else (((R.2.1.1 - 1 : Nat) : Int), (R.2.1.2 (R.2.1.1 - 1), (R.2.1.1 - 1, R.2.1.2), R.2.2))
def svL (R : RS) (s : Int) : Int × RS := if 0 ≤ s ∧ s < 2 then ((aN R.1 : Int), (R.1, R.2.1, fun k => if k = s.toNat then some R.1 else R.2.2 k)) else (-9000000000000000001, R)
def rsL (R : RS) (s : Int) : Int × RS := if 0 ≤ s ∧ s < 2 then (match R.2.2 s.toNat with
  | some B => ((aN B : Int), (B, (0, R.2.1.2), R.2.2))
  | none => (-9000000000000000003, R)) else (-9000000000000000001, R)
def ptR (R : RS) : RS := (aPrint R.1 (keyOf R.1), hpush R.2.1 R.1, R.2.2)
/-! ranges -/
theorem abF_rng {A : ASt} (hG : GoodSt A) (k : Int) : 0 ≤ abF A k ∧ abF A k ≤ 100 := by
  have h1 := hG.1
  have e1 := h1.1
  have e2 := h1.2.1
  have e3 := h1.2.2.1
  have e4 := h1.2.2.2.1
  have l := letdN_rng A
  have s := zsum_01 (f := fun i => if klet (keyOf A i) ≤ 1 then (1 : Int) else 0) (aN A) (fun i _ => by
    by_cases c : klet (keyOf A i) ≤ 1
    · exact Or.inr (if_pos c)
    · exact Or.inl (if_neg c))
  have m := zmx_rng (f := fun i => klen (keyOf A i)) (m := 14) (by decide) (fun i => klen_rng (keyOf A i)) (aN A)
  have q := zsum_01 (f := fun p => if aPo A p = -2 then (1 : Int) else 0) (aPn A) (fun i _ => by
    by_cases c : aPo A i = -2
    · exact Or.inr (if_pos c)
    · exact Or.inl (if_neg c))
  unfold abF
  repeat' split
  all_goals omega
theorem wkF_rng {A : ASt} (hG : GoodSt A) {i : Nat} (hi : i < aN A) (k : Int) : 0 ≤ wkF A i k ∧ wkF A i k ≤ 3000 := by
  have h := hG.2.1 i hi
  have h16 := hG.1.1
  have y := h.2.2.2.1
  have n := h.1
  have l := nlen_rng (aW A i).2.2.2
  have k1 := klen_rng (keyOf A i)
  have k2 := klet_rng (keyOf A i)
  have p := pl_rng hi
  have s := zsum_01 (f := fun j => if stemOf A j = stemOf A i then (1 : Int) else 0) (aN A) (fun j _ => by
    by_cases c : stemOf A j = stemOf A i
    · exact Or.inr (if_pos c)
    · exact Or.inl (if_neg c))
  unfold wkF
  repeat' split
  all_goals omega
theorem prF_rng {A : ASt} (hG : GoodSt A) (k : Int) : -100 ≤ prF A k ∧ prF A k ≤ 100 := by
  have e2 := hG.1.2.1
  have s1 := zsum_01 (f := fun p => if holdK (keyOf A) (aN A) (aPk A p) = aPo A p then (1 : Int) else 0) (aPn A) (fun p _ => by
    by_cases c : holdK (keyOf A) (aN A) (aPk A p) = aPo A p
    · exact Or.inr (if_pos c)
    · exact Or.inl (if_neg c))
  have s2 := zsum_01 (f := fun p => if holdK (keyOf A) (aN A) (aPk A p) = -9 then (1 : Int) else 0) (aPn A) (fun p _ => by
    by_cases c : holdK (keyOf A) (aN A) (aPk A p) = -9
    · exact Or.inr (if_pos c)
    · exact Or.inl (if_neg c))
  have s3 : 0 ≤ prStill A ∧ prStill A ≤ aPn A := s1
  have s4 : 0 ≤ prNone A ∧ prNone A ≤ aPn A := s2
  unfold prF
  repeat' split
  all_goals omega
theorem atN_rng {A : ASt} (hG : GoodSt A) (k : Int) : -9 ≤ atN A k ∧ atN A k ≤ 16 := by
  have := zfst_rng (fun i => if plN A i = k then (1 : Int) else 0) (aN A)
  have h := hG.1.1
  unfold atN
  omega
theorem chgN_rng2 {A : ASt} (hG : GoodSt A) (K : Nat → Int) : 0 ≤ chgN A K ∧ chgN A K ≤ 16 := by
  have := chgN_rng A K
  have h := hG.1.1
  omega
theorem oneP_some {T : Txt} {P : AWk} (h : oneP T = some P) : ∃ s, rdv T.2 T.1 = -9 ∧ rn T.2 T.1 = some s ∧ s.1 = 1 ∧ s.2.2.2 0 = P := by
  unfold oneP at h
  by_cases c : rdv T.2 T.1 = -9
  · rw [if_pos c] at h
    cases e : rn T.2 T.1 with
    | none => rw [e] at h; cases h
    | some s =>
      rw [e] at h
      have h2 : (if s.1 = 1 then some (s.2.2.2 0) else none) = some P := h
      by_cases c2 : s.1 = 1
      · rw [if_pos c2] at h2
        exact ⟨s, c, rfl, c2, Option.some.inj h2⟩
      · rw [if_neg c2] at h2; cases h2
  · rw [if_neg c] at h; cases h
theorem oneP_of {T : Txt} {s : PSt} (h1 : rdv T.2 T.1 = -9) (h2 : rn T.2 T.1 = some s) (h3 : s.1 = 1) : oneP T = some (s.2.2.2 0) := by
  unfold oneP
  rw [if_pos h1, h2]
  exact if_pos h3
theorem oneP_no {T : Txt} (h : ¬ oneW T) : oneP T = none := by
  cases e : oneP T with
  | none => rfl
  | some P =>
    obtain ⟨s, h1, h2, h3, -⟩ := oneP_some e
    exact absurd ⟨h1, s, h2, h3⟩ h
