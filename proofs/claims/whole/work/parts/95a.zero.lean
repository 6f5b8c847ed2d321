/-! the start: what empty memory says -/
theorem CL.rw' {X : Xt} {g g' : Geo} {c : Nat} (h : CL X g c) (hm : ∀ a k, ksh X g a = some k → ksh X g' a = some k) (hr : ∀ a, c ≤ a → a < c + 726 → g'.2.1 a = g.2.1 a) : CL X g' c := by
  obtain ⟨⟨l0, l1, l2, l3, l4, l5, l6, l7⟩, lT, lN, lR, lD, lH, ⟨lS, lV⟩, lB⟩ := h
  have e0 := hr c (by omega) (by omega)
  have e1 := hr (c + 648) (by omega) (by omega)
  exact ⟨⟨hm _ _ l0, by rw [e0]; exact l1, by rw [e0]; exact l2, by rw [e0]; exact l3, by rw [e0]; exact l4, by rw [e0]; exact l5, by rw [e0]; exact l6, by rw [e0]; exact l7⟩, lT.rw' hm (fun a q1 q2 => hr a (by omega) (by omega)), lN.rw' hm (fun a q1 q2 => hr a (by omega) (by omega)), lR.rw' hm (fun a q1 q2 => hr a (by omega) (by omega)), lD.rw' hm (hr _ (by omega) (by omega)), lH.rw' hm (fun a q1 q2 => hr a (by omega) (by omega)), ⟨hm _ _ lS, fun s hs => ⟨by rw [e1]; exact (lV s hs).1, (lV s hs).2.rw' hm (fun a q1 q2 => hr a (by omega) (by omega))⟩⟩, hm _ _ lB⟩
theorem ML.rw' {X : Xt} {g g' : Geo} {m : Nat} (h : ML X g m) (hm : ∀ a k, ksh X g a = some k → ksh X g' a = some k) (hr : g'.2.1 m = g.2.1 m) : ML X g' m := by
  obtain ⟨l0, ⟨p1, p2, p3, p4, p5, p6, p7⟩, ⟨l1, l2, l3, l4, l5, l6⟩, ⟨j1, j2, j3, j4, j5, j6, j7⟩, ⟨k1, k2, k3, k4, k5, k6⟩⟩ := h
  refine ⟨hm _ _ l0, ?_, ?_, ⟨hm _ _ j1, hm _ _ j2, hm _ _ j3, hm _ _ j4, hm _ _ j5, hm _ _ j6, hm _ _ j7⟩, ⟨hm _ _ k1, hm _ _ k2, hm _ _ k3, hm _ _ k4, hm _ _ k5, hm _ _ k6⟩⟩
  · rw [hr]; exact ⟨p1, p2, p3, p4, p5, p6, p7⟩
  · rw [hr]; exact ⟨l1, l2, l3, l4, l5, l6⟩
def A00 : ASt := (0, fun _ => wk0, 0, 0, 0, fun _ => 0, fun _ => 0)
def Q00 : AC := ((0, fun _ => 0), A00, (0, fun _ => A00), fun _ => none)
theorem A00_good : GoodSt A00 := ⟨⟨Nat.zero_le _, Nat.zero_le _, ⟨Int.le_refl 0, show (0 : Int) ≤ 3 by decide⟩, Or.inl rfl, fun i hi => absurd hi (Nat.not_lt_zero i)⟩, fun i hi => absurd hi (Nat.not_lt_zero i), fun i hi => absurd hi (Nat.not_lt_zero i)⟩
theorem CInv_zero {X : Xt} {g : Geo} {I J : Mm} {c : Nat} (hL : CL X g c) (hg : g.2.2 = false) (hz : ∀ q, c + 1 ≤ q → q < c + 726 → I q = fun _ => 0) : CInv X g I J c Q00 := by
  have z1 : ∀ q k, c + 1 ≤ q → q < c + 726 → I q k = 0 := fun q k h1 h2 => by rw [hz q h1 h2]
  have none0 : ∀ {P : Nat → Prop} (i : Nat), i < 0 → P i := fun i hi => absurd hi (Nat.not_lt_zero i)
  refine ⟨hL, hg, ⟨by rw [z1 _ _ (by omega) (by omega)]; rfl, Nat.zero_le _, fun p hp => absurd hp (Nat.not_lt_zero p)⟩, ⟨⟨⟨⟨by rw [z1 _ _ (by omega) (by omega)]; rfl, by rw [z1 _ _ (by omega) (by omega)]; rfl, by rw [z1 _ _ (by omega) (by omega)]; rfl, by rw [z1 _ _ (by omega) (by omega)]; rfl⟩, fun i hi => absurd hi (Nat.not_lt_zero i), fun i hi => absurd hi (Nat.not_lt_zero i)⟩, fun i hi => absurd hi (Nat.not_lt_zero i), fun i hi => absurd hi (Nat.not_lt_zero i)⟩, A00_good⟩, ⟨0, by decide, by rw [z1 _ _ (by omega) (by omega)]; rfl, by rw [z1 _ _ (by omega) (by omega)]; rfl, Nat.zero_le _, fun k hk => absurd hk (Nat.not_lt_zero k)⟩, fun s hs => Or.inl ⟨rfl, z1 _ _ (by omega) (by omega)⟩⟩
theorem MInv_zero {X : Xt} {g : Geo} {I : Mm} {m : Nat} (hL : ML X g m) (hz : ∀ q k, m ≤ q → q < m + 14 → k < 980 → I q k = 0) : MInv X g I m Q00 := by
  refine ⟨hL, ⟨by rw [hz _ _ (by omega) (by omega) (by omega)]; rfl, Nat.zero_le _, fun p hp => absurd hp (Nat.not_lt_zero p)⟩, ⟨⟨⟨by rw [hz _ _ (by omega) (by omega) (by omega)]; rfl, by rw [hz _ _ (by omega) (by omega) (by omega)]; rfl, by rw [hz _ _ (by omega) (by omega) (by omega)]; rfl, by rw [hz _ _ (by omega) (by omega) (by omega)]; rfl⟩, fun i hi => absurd hi (Nat.not_lt_zero i), fun i hi => absurd hi (Nat.not_lt_zero i)⟩, A00_good⟩, ⟨by rw [hz _ _ (by omega) (by omega) (by omega)]; rfl, Nat.zero_le _, fun k hk => absurd hk (Nat.not_lt_zero k)⟩, fun s hs => Or.inl ⟨rfl, hz _ _ (by omega) (by omega) (by omega)⟩⟩

