/-! what a reading keeps to, step by step -/
/-- a packed name with its first n letters -/
def nmW (v : Int) (n : Nat) : Prop := n ≤ 8 ∧ nmOK v ∧ v % 2 ^ (5 * (8 - n)) = 0 ∧ ∀ k, k < n → 1 ≤ dg v k ∧ dg v k ≤ 26
def wfN (v : Int) : Prop := ∃ n, 1 ≤ n ∧ nmW v n
def yrB (tk y : Int) : Prop := (tk = 0 ∧ y = 0) ∨ (tk = 1 ∧ 1 ≤ y ∧ y ≤ 2) ∨ (tk = 2 ∧ 10 ≤ y ∧ y ≤ 29) ∨ (tk = 3 ∧ 100 ≤ y ∧ y ≤ 299) ∨ (tk = 4 ∧ 1000 ≤ y ∧ y ≤ 2999)
/-- a whole work -/
def AWF (W : AWk) : Prop := (1 ≤ W.2.1 ∧ W.2.1 ≤ 4) ∧ (∀ a : Nat, (a : Int) < W.2.1 → wfN (W.1 a)) ∧ (∀ a : Nat, W.2.1 ≤ (a : Int) → W.1 a = 0) ∧ (1000 ≤ W.2.2.1 ∧ W.2.2.1 ≤ 2999) ∧ wfN W.2.2.2
/-- the work that is being read -/
def CWF (part tk : Int) (W : AWk) : Prop := (1 ≤ W.2.1 ∧ W.2.1 ≤ 4) ∧ (0 ≤ tk ∧ tk ≤ 8) ∧ (∀ a : Nat, W.2.1 ≤ (a : Int) → W.1 a = 0) ∧ (∀ a : Nat, (a : Int) < W.2.1 - 1 → wfN (W.1 a)) ∧
  ((part = 0 ∧ nmW (W.1 (W.2.1 - 1).toNat) tk.toNat ∧ W.2.2.1 = 0 ∧ W.2.2.2 = 0) ∨ (part = 1 ∧ tk ≤ 4 ∧ wfN (W.1 (W.2.1 - 1).toNat) ∧ yrB tk W.2.2.1 ∧ W.2.2.2 = 0) ∨ (part = 2 ∧ wfN (W.1 (W.2.1 - 1).toNat) ∧ (1000 ≤ W.2.2.1 ∧ W.2.2.1 ≤ 2999) ∧ nmW W.2.2.2 tk.toNat))
def SIn (s : PSt) : Prop := (1 ≤ s.1 ∧ s.1 ≤ 16) ∧ CWF s.2.1 s.2.2.1 (s.2.2.2 (s.1 - 1)) ∧ ∀ k, k < s.1 - 1 → AWF (s.2.2.2 k)
theorem nmW_zero : nmW 0 0 := ⟨by decide, ⟨by decide, by decide⟩, by decide, fun k hk => absurd hk (Nat.not_lt_zero k)⟩
theorem dg_split {m P d : Int} (hP : 0 < P) (hd : 0 ≤ d ∧ d < 32) : (32 * P * m + d * P) / P = 32 * m + d := by
  rw [show 32 * P * m + d * P = (32 * m + d) * P by rw [Int.add_mul, Int.mul_right_comm]]
  exact Int.mul_ediv_cancel _ (by omega)
theorem nmW_add {v d : Int} {n : Nat} (h : nmW v n) (hn : n < 8) (hd : 1 ≤ d ∧ d ≤ 26) : nmW (v + d * 2 ^ (5 * (7 - n))) (n + 1) := by
  obtain ⟨h1, ⟨h2, h3⟩, h4, h5⟩ := h
  have e5 : (2 : Int) ^ (5 * (8 - n)) = 2 ^ (5 * (7 - n)) * 32 := by
    rw [show 5 * (8 - n) = 5 * (7 - n) + 5 by omega, p2add]; rfl
  have hp := p2pos (5 * (7 - n))
  have hb : (2 : Int) ^ (5 * n) * 2 ^ (5 * (8 - n)) = 1099511627776 := by
    rw [← p2add, show 5 * n + 5 * (8 - n) = 40 by omega]; rfl
  have hp2 := p2pos (5 * n)
  have hdg : ∀ k, k < n → dg (v + d * 2 ^ (5 * (7 - n))) k = dg v k := by
    intro k hk
    unfold dg
    congr 1
    have ek : (2 : Int) ^ (5 * (7 - k)) = 2 ^ (5 * (8 - n)) * 2 ^ (5 * (n - 1 - k)) := by
      rw [← p2add, show 5 * (7 - k) = 5 * (8 - n) + 5 * (n - 1 - k) by omega]
    have hq0 := p2pos (5 * (8 - n))
    have dd : ∀ x : Int, x / (2 ^ (5 * (8 - n)) * 2 ^ (5 * (n - 1 - k))) = x / 2 ^ (5 * (8 - n)) / 2 ^ (5 * (n - 1 - k)) := fun x => by
      rw [Int.ediv_ediv, if_neg (fun q => by have := q.1; omega), Int.sub_zero]
    rw [ek, dd, dd]
    congr 1
    obtain ⟨m, hm⟩ : ∃ m, v = 2 ^ (5 * (8 - n)) * m := ⟨v / 2 ^ (5 * (8 - n)), by have := Int.mul_ediv_add_emod v (2 ^ (5 * (8 - n))); omega⟩
    rw [hm]
    have hq := p2pos (5 * (8 - n))
    rw [Int.mul_ediv_cancel_left _ (by omega), Int.add_comm, Int.add_mul_ediv_left _ _ (by omega)]
    rw [show d * 2 ^ (5 * (7 - n)) / 2 ^ (5 * (8 - n)) = 0 from Int.ediv_eq_zero_of_lt (Int.mul_nonneg (by omega) (by omega)) (by rw [e5, Int.mul_comm]; exact Int.mul_lt_mul_of_pos_left (by omega) hp)]
    omega
  have hdn : dg (v + d * 2 ^ (5 * (7 - n))) n = d := by
    unfold dg
    obtain ⟨P, hP⟩ : ∃ P : Int, P = 2 ^ (5 * (7 - n)) := ⟨_, rfl⟩
    rw [← hP] at hp e5 ⊢
    obtain ⟨m, hm⟩ : ∃ m, v = P * 32 * m := ⟨v / (P * 32), by rw [e5] at h4; have := Int.mul_ediv_add_emod v (P * 32); omega⟩
    rw [hm, Int.mul_comm P 32, dg_split hp (by omega)]
    show (32 * m + d) % 32 = d
    omega
  refine ⟨by omega, ?_, ?_, fun k hk => ?_⟩
  · obtain ⟨P, hP⟩ : ∃ P : Int, P = 2 ^ (5 * (7 - n)) := ⟨_, rfl⟩
    obtain ⟨Q, hQ⟩ : ∃ Q : Int, Q = 2 ^ (5 * n) := ⟨_, rfl⟩
    rw [e5] at h4 hb
    rw [← hP] at hp h4 hb ⊢
    rw [← hQ] at hb hp2
    obtain ⟨m, hm⟩ : ∃ m, v = P * 32 * m := ⟨v / (P * 32), by have := Int.mul_ediv_add_emod v (P * 32); omega⟩
    have hmq : m < Q := by
      have : P * 32 * m < P * 32 * Q := by rw [← hm, Int.mul_comm (P * 32) Q, hb]; exact h3
      exact Int.lt_of_mul_lt_mul_left this (by omega)
    have hmq2 : P * 32 * (m + 1) ≤ P * 32 * Q := Int.mul_le_mul_of_nonneg_left (by omega) (by omega)
    rw [Int.mul_comm (P * 32) Q, hb, Int.mul_add, ← hm] at hmq2
    have hdP : d * P ≤ 26 * P := Int.mul_le_mul_of_nonneg_right (by omega) (by omega)
    have hdP0 : 0 ≤ d * P := Int.mul_nonneg (by omega) (by omega)
    exact ⟨by omega, by omega⟩
  · rw [show 8 - (n + 1) = 7 - n by omega]
    obtain ⟨P, hP⟩ : ∃ P : Int, P = 2 ^ (5 * (7 - n)) := ⟨_, rfl⟩
    rw [e5] at h4
    rw [← hP] at h4 ⊢
    have d1 : P ∣ v := Int.dvd_trans ⟨32, rfl⟩ (Int.dvd_of_emod_eq_zero h4)
    exact Int.emod_eq_zero_of_dvd (Int.dvd_add d1 ⟨d, Int.mul_comm _ _⟩)
  · by_cases e : k = n
    · rw [e, hdn]; exact hd
    · rw [hdg k (by omega)]; exact h5 k (by omega)
theorem wfN_ok {v : Int} (h : wfN v) : nmOK v := by
  obtain ⟨n, -, -, h1, -⟩ := h
  exact h1
theorem AWF_ok {W : AWk} (h : AWF W) : WkOK W := by
  obtain ⟨⟨h1, h2⟩, h3, h4, h5, h6⟩ := h
  refine ⟨fun a _ => ?_, ⟨by omega, by omega⟩, ⟨by omega, by omega⟩, wfN_ok h6⟩
  by_cases e : (a : Int) < W.2.1
  · exact wfN_ok (h3 a e)
  · rw [h4 a (by omega)]; exact ⟨by decide, by decide⟩
theorem CWF_ok {part tk : Int} {W : AWk} (h : CWF part tk W) : WkOK W ∧ CIn part tk W := by
  obtain ⟨⟨h1, h2⟩, h3, h4, h5, h6⟩ := h
  have hn : ∃ n : Nat, W.2.1 - 1 = (n : Int) ∧ n < 4 := ⟨(W.2.1 - 1).toNat, by omega, by omega⟩
  obtain ⟨n, n1, n2⟩ := hn
  have nT : (W.2.1 - 1).toNat = n := by omega
  rw [nT] at h6
  have hau : ∀ a, nmOK (W.1 n) → a < 4 → nmOK (W.1 a) := by
    intro a ha _
    by_cases e : (a : Int) < W.2.1 - 1
    · exact wfN_ok (h5 a e)
    · by_cases e2 : a = n
      · rw [e2]; exact ha
      · rw [h4 a (by omega)]; exact ⟨by decide, by decide⟩
  have hok : WkOK W := by
    rcases h6 with ⟨p0, p1, p2, p3⟩ | ⟨p0, p1, p2, p3, p4⟩ | ⟨p0, p1, p2, p3⟩
    · exact ⟨fun a ha => hau a p1.2.1 ha, ⟨by omega, by omega⟩, ⟨by omega, by omega⟩, by rw [p3]; exact ⟨by decide, by decide⟩⟩
    · exact ⟨fun a ha => hau a (wfN_ok p2) ha, ⟨by omega, by omega⟩, by unfold yrB at p3; exact ⟨by omega, by omega⟩, by rw [p4]; exact ⟨by decide, by decide⟩⟩
    · exact ⟨fun a ha => hau a (wfN_ok p1) ha, ⟨by omega, by omega⟩, ⟨by omega, by omega⟩, p3.2.1⟩
  refine ⟨hok, hok, ⟨h1, h2⟩, fun q ht => ?_, fun q ht => ?_, fun q ht => ?_⟩
  · rw [nT]
    rcases h6 with ⟨p0, p1, p2, p3⟩ | ⟨p0, -⟩ | ⟨p0, -⟩
    · exact p1.2.2.1
    · omega
    · omega
  · rcases h6 with ⟨p0, -⟩ | ⟨p0, -⟩ | ⟨p0, p1, p2, p3⟩
    · omega
    · omega
    · exact p3.2.2.1
  · rcases h6 with ⟨p0, -⟩ | ⟨p0, p1, p2, p3, p4⟩ | ⟨p0, -⟩
    · omega
    · unfold yrB at p3; omega
    · omega
theorem wk0_CWF : CWF 0 0 wk0 := ⟨⟨by decide, by decide⟩, ⟨by decide, by decide⟩, fun _ _ => rfl, fun a ha => absurd ha (by show ¬ (a : Int) < 1 - 1; omega), Or.inl ⟨rfl, nmW_zero, rfl, rfl⟩⟩
theorem tA_CWF {tk c : Int} {W : AWk} (h : CWF 0 tk W) {p t : Int} {W' : AWk} (e : tA tk W c = some (p, t, W')) : CWF p t W' := by
  obtain ⟨⟨h1, h2⟩, h3, h4, h5, h6⟩ := h
  have p1 : nmW (W.1 (W.2.1 - 1).toNat) tk.toNat ∧ W.2.2.1 = 0 ∧ W.2.2.2 = 0 := by
    rcases h6 with ⟨-, p⟩ | ⟨p, -⟩ | ⟨p, -⟩
    · exact p
    · omega
    · omega
  unfold tA at e
  by_cases hl : 97 ≤ c ∧ c ≤ 122
  · rw [if_pos hl] at e
    by_cases h8 : tk < 8
    · rw [if_pos h8] at e
      cases e
      refine ⟨⟨h1, h2⟩, ⟨by omega, by omega⟩, fun a ha => ?_, fun a ha => ?_, Or.inl ⟨rfl, ?_, p1.2.1, p1.2.2⟩⟩
      · have ha' : W.2.1 ≤ (a : Int) := ha
        show up1 _ _ _ a = 0
        unfold up1
        rw [if_neg (by omega)]; exact h4 a ha'
      · have ha' : (a : Int) < W.2.1 - 1 := ha
        show wfN (up1 _ _ _ a)
        unfold up1
        rw [if_neg (by omega)]; exact h5 a ha'
      · show nmW (up1 W.1 (W.2.1 - 1).toNat (addL (W.1 (W.2.1 - 1).toNat) tk c) (W.2.1 - 1).toNat) (tk + 1).toNat
        unfold up1 addL
        rw [if_pos rfl, show (tk + 1).toNat = tk.toNat + 1 by omega]
        exact nmW_add p1.1 (by omega) (by omega)
    · rw [if_neg h8] at e; cases e
  · rw [if_neg hl] at e
    have hw : 0 < tk → wfN (W.1 (W.2.1 - 1).toNat) := fun q => ⟨tk.toNat, by omega, p1.1⟩
    by_cases hc : c = 44 ∧ 0 < tk ∧ W.2.1 < 4
    · rw [if_pos hc] at e
      cases e
      refine ⟨⟨by show 1 ≤ W.2.1 + 1; omega, by show W.2.1 + 1 ≤ 4; omega⟩, ⟨by decide, by decide⟩, fun a ha => h4 a (by have : W.2.1 + 1 ≤ (a : Int) := ha; omega), fun a ha => ?_, Or.inl ⟨rfl, ?_, p1.2.1, p1.2.2⟩⟩
      · have ha' : (a : Int) < W.2.1 + 1 - 1 := ha
        by_cases e2 : (a : Int) < W.2.1 - 1
        · exact h5 a e2
        · have := hw hc.2.1
          rw [show (W.2.1 - 1).toNat = a by omega] at this
          exact this
      · show nmW (W.1 (W.2.1 + 1 - 1).toNat) 0
        rw [h4 _ (by omega)]; exact nmW_zero
    · rw [if_neg hc] at e
      by_cases hd : c = 58 ∧ 0 < tk
      · rw [if_pos hd] at e
        cases e
        exact ⟨⟨h1, h2⟩, ⟨by decide, by decide⟩, h4, h5, Or.inr (Or.inl ⟨rfl, by decide, hw hd.2, Or.inl ⟨rfl, p1.2.1⟩, p1.2.2⟩)⟩
      · rw [if_neg hd] at e; cases e
theorem tY_CWF {tk c : Int} {W : AWk} (h : CWF 1 tk W) {p t : Int} {W' : AWk} (e : tY tk W c = some (p, t, W')) : CWF p t W' := by
  obtain ⟨⟨h1, h2⟩, h3, h4, h5, h6⟩ := h
  have p1 : tk ≤ 4 ∧ wfN (W.1 (W.2.1 - 1).toNat) ∧ yrB tk W.2.2.1 ∧ W.2.2.2 = 0 := by
    rcases h6 with ⟨p, -⟩ | ⟨-, p⟩ | ⟨p, -⟩
    · omega
    · exact p
    · omega
  obtain ⟨q1, q2, q3, q4⟩ := p1
  unfold tY at e
  by_cases h8 : tk = 4
  · rw [if_pos h8] at e
    by_cases hc : c = 58
    · rw [if_pos hc] at e
      cases e
      exact ⟨⟨h1, h2⟩, ⟨by decide, by decide⟩, h4, h5, Or.inr (Or.inr ⟨rfl, q2, by unfold yrB at q3; omega, by rw [q4]; exact nmW_zero⟩)⟩
    · rw [if_neg hc] at e; cases e
  · rw [if_neg h8] at e
    by_cases hc : (tk = 0 ∧ (c = 49 ∨ c = 50)) ∨ (tk ≠ 0 ∧ 48 ≤ c ∧ c ≤ 57)
    · rw [if_pos hc] at e
      cases e
      refine ⟨⟨h1, h2⟩, ⟨by omega, by omega⟩, h4, h5, Or.inr (Or.inl ⟨rfl, by omega, q2, ?_, q4⟩)⟩
      show yrB (tk + 1) (W.2.2.1 * 10 + c - 48)
      unfold yrB at q3 ⊢
      omega
    · rw [if_neg hc] at e; cases e
theorem tT_CWF {tk c : Int} {W : AWk} (h : CWF 2 tk W) (hl : 97 ≤ c ∧ c ≤ 122) {p t : Int} {W' : AWk} (e : tT tk W c = some (p, t, W')) : CWF p t W' := by
  obtain ⟨⟨h1, h2⟩, h3, h4, h5, h6⟩ := h
  have p1 : wfN (W.1 (W.2.1 - 1).toNat) ∧ (1000 ≤ W.2.2.1 ∧ W.2.2.1 ≤ 2999) ∧ nmW W.2.2.2 tk.toNat := by
    rcases h6 with ⟨p, -⟩ | ⟨p, -⟩ | ⟨-, p⟩
    · omega
    · omega
    · exact p
  unfold tT at e
  by_cases h8 : tk < 8
  · rw [if_pos h8] at e
    cases e
    refine ⟨⟨h1, h2⟩, ⟨by omega, by omega⟩, h4, h5, Or.inr (Or.inr ⟨rfl, p1.1, p1.2.1, ?_⟩)⟩
    show nmW (addL W.2.2.2 tk c) (tk + 1).toNat
    unfold addL
    rw [show (tk + 1).toNat = tk.toNat + 1 by omega]
    exact nmW_add p1.2.2 (by omega) (by omega)
  · rw [if_neg h8] at e; cases e
theorem CWF_AWF {tk : Int} {W : AWk} (h : CWF 2 tk W) (ht : 0 < tk) : AWF W := by
  obtain ⟨⟨h1, h2⟩, h3, h4, h5, h6⟩ := h
  have p1 : wfN (W.1 (W.2.1 - 1).toNat) ∧ (1000 ≤ W.2.2.1 ∧ W.2.2.1 ≤ 2999) ∧ nmW W.2.2.2 tk.toNat := by
    rcases h6 with ⟨p, -⟩ | ⟨p, -⟩ | ⟨-, p⟩
    · omega
    · omega
    · exact p
  refine ⟨⟨h1, h2⟩, fun a ha => ?_, h4, p1.2.1, ⟨tk.toNat, by omega, p1.2.2⟩⟩
  by_cases e2 : (a : Int) < W.2.1 - 1
  · exact h5 a e2
  · have := p1.1
    rw [show (W.2.1 - 1).toNat = a by omega] at this
    exact this
theorem lift_SIn {s s' : PSt} {o : TStep} (h : SIn s) (e : lift s o = some s') (ho : ∀ p t W', o = some (p, t, W') → CWF p t W') : SIn s' := by
  obtain ⟨h1, h2, h3⟩ := h
  cases o with
  | none => cases e
  | some q =>
    obtain ⟨p, t, W'⟩ := q
    cases e
    refine ⟨h1, ?_, fun k hk => ?_⟩
    · show CWF p t (setW s.2.2.2 (s.1 - 1) W' (s.1 - 1))
      unfold setW
      rw [if_pos rfl]
      exact ho _ _ _ rfl
    · have hk' : k < s.1 - 1 := hk
      show AWF (setW s.2.2.2 (s.1 - 1) W' k)
      unfold setW
      rw [if_neg (by omega)]
      exact h3 k hk'
theorem stp_SIn {s s' : PSt} {c : Int} (h : SIn s) (e : stp s c = some s') : SIn s' := by
  have h' := h
  obtain ⟨h1, h2, h3⟩ := h
  unfold stp at e
  by_cases e0 : s.2.1 = 0
  · rw [if_pos e0] at e
    rw [e0] at h2
    exact lift_SIn h' e (fun p t W' q => tA_CWF h2 q)
  · rw [if_neg e0] at e
    by_cases e1 : s.2.1 = 1
    · rw [if_pos e1] at e
      rw [e1] at h2
      exact lift_SIn h' e (fun p t W' q => tY_CWF h2 q)
    · rw [if_neg e1] at e
      have e2 : s.2.1 = 2 := by
        rcases h2.2.2.2.2 with ⟨p, -⟩ | ⟨p, -⟩ | ⟨p, -⟩
        · exact absurd p e0
        · exact absurd p e1
        · exact p
      rw [e2] at h2
      by_cases hl : 97 ≤ c ∧ c ≤ 122
      · rw [if_pos hl] at e
        exact lift_SIn h' e (fun p t W' q => tT_CWF h2 hl q)
      · rw [if_neg hl] at e
        by_cases hc : c = 59 ∧ 0 < s.2.2.1 ∧ s.1 < 16
        · rw [if_pos hc] at e
          cases e
          refine ⟨⟨by show 1 ≤ s.1 + 1; omega, by show s.1 + 1 ≤ 16; omega⟩, ?_, fun k hk => ?_⟩
          · show CWF 0 0 (setW s.2.2.2 s.1 wk0 (s.1 + 1 - 1))
            unfold setW
            rw [Nat.add_sub_cancel, if_pos rfl]
            exact wk0_CWF
          · have hk' : k < s.1 + 1 - 1 := hk
            show AWF (setW s.2.2.2 s.1 wk0 k)
            unfold setW
            rw [if_neg (by omega)]
            by_cases e4 : k = s.1 - 1
            · rw [e4]; exact CWF_AWF h2 hc.2.1
            · exact h3 k (by omega)
        · rw [if_neg hc] at e; cases e

