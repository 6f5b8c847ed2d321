/-! packed names and keys: what they say as texts -/
def pfx (v : Int) (k : Nat) : Int := v / 2 ^ (5 * (8 - k))
theorem pfx_zero {v : Int} (h : nmOK v) : pfx v 0 = 0 := Int.ediv_eq_zero_of_lt h.1 h.2
theorem pfx_8 (v : Int) : pfx v 8 = v := Int.ediv_one v
theorem pfx_succ (v : Int) {k : Nat} (hk : k < 8) : pfx v (k + 1) = 32 * pfx v k + dg v k := by
  unfold pfx dg
  have e5 : (2 : Int) ^ (5 * (8 - k)) = 2 ^ (5 * (7 - k)) * 32 := by
    rw [show 5 * (8 - k) = 5 * (7 - k) + 5 by omega, p2add]; rfl
  rw [show 8 - (k + 1) = 7 - k by omega, e5]
  have hp := p2pos (5 * (7 - k))
  have dd : v / (2 ^ (5 * (7 - k)) * 32) = v / 2 ^ (5 * (7 - k)) / 32 := by
    rw [Int.ediv_ediv, if_neg (fun q => by have := q.1; omega), Int.sub_zero]
  rw [dd]
  show v / 2 ^ (5 * (7 - k)) = 32 * (v / 2 ^ (5 * (7 - k)) / 32) + v / 2 ^ (5 * (7 - k)) % 32
  omega
theorem pfx_eq {u v : Int} (hu : nmOK u) (hv : nmOK v) : ∀ k, k ≤ 8 → (∀ j, j < k → dg u j = dg v j) → pfx u k = pfx v k := by
  intro k
  induction k with
  | zero => intro _ _; rw [pfx_zero hu, pfx_zero hv]
  | succ k ih =>
    intro hk h
    rw [pfx_succ u (by omega), pfx_succ v (by omega), ih (by omega) (fun j hj => h j (by omega)), h k (by omega)]
theorem nm_eq {u v : Int} (hu : nmOK u) (hv : nmOK v) (h : ∀ j, j < 8 → dg u j = dg v j) : u = v := by
  have := pfx_eq hu hv 8 (Nat.le_refl 8) h
  rwa [pfx_8, pfx_8] at this
theorem nm_lt {u v : Int} (hu : nmOK u) (hv : nmOK v) {k : Nat} (hk : k < 8) (h : ∀ j, j < k → dg u j = dg v j) (hl : dg u k < dg v k) : u < v := by
  have e := pfx_eq hu hv k (by omega) h
  have e1 := pfx_succ u hk
  have e2 := pfx_succ v hk
  have hlt : pfx u (k + 1) < pfx v (k + 1) := by omega
  by_cases q : u < v
  · exact q
  · have := Int.ediv_le_ediv (p2pos (5 * (8 - (k + 1)))) (show v ≤ u by omega)
    unfold pfx at hlt
    omega
theorem nmW_out {v : Int} {n k : Nat} (h : nmW v n) (h1 : n ≤ k) (h2 : k < 8) : dg v k = 0 := by
  obtain ⟨-, -, h4, -⟩ := h
  unfold dg
  obtain ⟨P, hP⟩ : ∃ P : Int, P = 2 ^ (5 * (7 - k)) := ⟨_, rfl⟩
  obtain ⟨R, hR⟩ : ∃ R : Int, R = 2 ^ (5 * (k - n)) := ⟨_, rfl⟩
  have e : (2 : Int) ^ (5 * (8 - n)) = P * (32 * R) := by
    rw [show 5 * (8 - n) = 5 * (7 - k) + (5 + 5 * (k - n)) by omega, p2add, p2add, ← hP, ← hR]; rfl
  have hp := p2pos (5 * (7 - k))
  rw [← hP] at hp ⊢
  rw [e] at h4
  obtain ⟨m, hm⟩ := Int.dvd_of_emod_eq_zero h4
  rw [hm, Int.mul_assoc, Int.mul_ediv_cancel_left _ (by omega), Int.mul_assoc]
  show (32 * (R * m)) % 32 = 0
  omega
theorem nmW_len {v : Int} {n : Nat} (h : nmW v n) : nlen v = n := by
  have key : ∀ m, m ≤ 8 → zsum (fun k => if dg v k = 0 then 0 else 1) m = ((min m n : Nat) : Int) := by
    intro m
    induction m with
    | zero => intro _; simp [zsum]
    | succ m ih =>
      intro hm
      simp only [zsum]
      rw [ih (by omega)]
      by_cases e : m < n
      · have := h.2.2.2 m e
        rw [if_neg (by omega)]
        omega
      · rw [if_pos (nmW_out h (by omega) (by omega))]
        omega
  have := key 8 (Nat.le_refl 8)
  have h8 := h.1
  unfold nlen
  rw [this]
  omega
theorem wfN_len {v : Int} (h : wfN v) : nmW v (nlen v).toNat ∧ 1 ≤ nlen v ∧ nlen v ≤ 8 := by
  obtain ⟨n, h1, h2⟩ := h
  have e := nmW_len h2
  have h8 := h2.1
  rw [e]
  exact ⟨h2, by omega, by omega⟩
theorem wfN_pos {v : Int} (h : wfN v) : 0 < v := by
  obtain ⟨n, h1, h2⟩ := h
  have h3 := h2.2.2.2 0 (by omega)
  have h4 := h2.2.1.1
  by_cases e : v = 0
  · rw [e] at h3
    have : dg 0 0 = 0 := by decide
    omega
  · omega
/-- the letters of a packed name -/
def HD (h : Int) (n : Nat) (f : Nat → Int) : Prop := nmW h n ∧ ∀ k, k < n → dg h k = f k
theorem dg_low {v d : Int} {n k : Nat} (h : nmW v n) (hn : n < 8) (hd : 1 ≤ d ∧ d ≤ 26) (hk : k < n) : dg (v + d * 2 ^ (5 * (7 - n))) k = dg v k := by
  obtain ⟨h1, ⟨h2, h3⟩, h4, h5⟩ := h
  have e5 : (2 : Int) ^ (5 * (8 - n)) = 2 ^ (5 * (7 - n)) * 32 := by
    rw [show 5 * (8 - n) = 5 * (7 - n) + 5 by omega, p2add]; rfl
  have hp := p2pos (5 * (7 - n))
  unfold dg
  congr 1
  have ek : (2 : Int) ^ (5 * (7 - k)) = 2 ^ (5 * (8 - n)) * 2 ^ (5 * (n - 1 - k)) := by
    rw [← p2add, show 5 * (7 - k) = 5 * (8 - n) + 5 * (n - 1 - k) by omega]
  have hq0 := p2pos (5 * (8 - n))
  have dd : ∀ x : Int, x / (2 ^ (5 * (8 - n)) * 2 ^ (5 * (n - 1 - k))) = x / 2 ^ (5 * (8 - n)) / 2 ^ (5 * (n - 1 - k)) := fun x => by
    rw [Int.ediv_ediv, if_neg (fun q => by have := q.1; omega), Int.sub_zero]
  rw [ek, dd, dd]
  congr 1
  obtain ⟨m, hm⟩ : ∃ m, v = 2 ^ (5 * (8 - n)) * m := ⟨v / 2 ^ (5 * (8 - n)), by have := Int.mul_ediv_add_emod v (2 ^ (5 * (8 - n))); omega⟩
  rw [hm]
  rw [Int.mul_ediv_cancel_left _ (by omega), Int.add_comm, Int.add_mul_ediv_left _ _ (by omega)]
  rw [show d * 2 ^ (5 * (7 - n)) / 2 ^ (5 * (8 - n)) = 0 from Int.ediv_eq_zero_of_lt (Int.mul_nonneg (by omega) (by omega)) (by rw [e5, Int.mul_comm]; exact Int.mul_lt_mul_of_pos_left (by omega) hp)]
  omega
theorem dg_here {v d : Int} {n : Nat} (h : nmW v n) (hn : n < 8) (hd : 1 ≤ d ∧ d ≤ 26) : dg (v + d * 2 ^ (5 * (7 - n))) n = d := by
  obtain ⟨h1, ⟨h2, h3⟩, h4, h5⟩ := h
  have e5 : (2 : Int) ^ (5 * (8 - n)) = 2 ^ (5 * (7 - n)) * 32 := by
    rw [show 5 * (8 - n) = 5 * (7 - n) + 5 by omega, p2add]; rfl
  have hp := p2pos (5 * (7 - n))
  unfold dg
  obtain ⟨P, hP⟩ : ∃ P : Int, P = 2 ^ (5 * (7 - n)) := ⟨_, rfl⟩
  rw [← hP] at hp e5 ⊢
  obtain ⟨m, hm⟩ : ∃ m, v = P * 32 * m := ⟨v / (P * 32), by rw [e5] at h4; have := Int.mul_ediv_add_emod v (P * 32); omega⟩
  rw [hm, Int.mul_comm P 32, dg_split hp (by omega)]
  show (32 * m + d) % 32 = d
  omega
theorem HD_add {v : Int} {n : Nat} {f : Nat → Int} (h : HD v n f) (hn : n < 8) (hd : 1 ≤ f n ∧ f n ≤ 26) : HD (v + f n * 2 ^ (5 * (7 - n))) (n + 1) f := by
  refine ⟨nmW_add h.1 hn hd, fun k hk => ?_⟩
  by_cases e : k = n
  · rw [e]; exact dg_here h.1 hn hd
  · rw [dg_low h.1 hn hd (by omega)]; exact h.2 k (by omega)
theorem HD_hsum {f : Nat → Int} {n m : Nat} (hn : n ≤ 8) (hf : ∀ k, k < n → 1 ≤ f k ∧ f k ≤ 26) (hz : ∀ k, n ≤ k → k < m → f k = 0) : ∀ q, q ≤ m → HD (hsum f q) (min q n) f := by
  intro q
  induction q with
  | zero =>
    intro _
    rw [Nat.zero_min]
    exact ⟨nmW_zero, fun k hk => absurd hk (Nat.not_lt_zero k)⟩
  | succ q ih =>
    intro hq
    have h := ih (by omega)
    have e : hsum f (q + 1) = hsum f q + f q * 2 ^ (5 * (7 - q)) := rfl
    rw [e]
    by_cases c : q < n
    · rw [show min q n = q by omega] at h
      rw [show min (q + 1) n = q + 1 by omega]
      exact HD_add h (by omega) (hf q c)
    · rw [hz q (by omega) (by omega), Int.zero_mul, Int.add_zero, show min (q + 1) n = min q n by omega]
      exact h
def hN (W : AWk) (s : Int) : Nat := if s = 0 then min 3 (nlen (W.1 0)).toNat else if s = 1 then W.2.1.toNat else if s = 2 then (nlen (W.1 0)).toNat else 2
def hF (W : AWk) (s : Int) (k : Nat) : Int := if s = 1 then dg (W.1 k) 0 else if s = 3 then (if k = 0 then dg (W.1 0) 0 else dg W.2.2.2 0) else dg (W.1 0) k
def hS (W : AWk) (s : Int) : Int := if s = 2 ∧ 1 < W.2.1 then 1 else 0
def hD (s : Int) : Nat := if s = 0 ∨ s = 2 then 2 else 4
def hY (s y : Int) : Int := if s = 0 ∨ s = 2 then y % 100 else y
theorem nm_d0 {v : Int} (h : wfN v) : 1 ≤ dg v 0 ∧ dg v 0 ≤ 26 := by
  obtain ⟨n, h1, h2⟩ := h
  exact h2.2.2.2 0 (by omega)
theorem hF_rng {W : AWk} {s : Int} (hW : AWF W) (hs : 0 ≤ s ∧ s ≤ 3) : (1 ≤ hN W s ∧ hN W s ≤ 8) ∧ ∀ k, k < hN W s → 1 ≤ hF W s k ∧ hF W s k ≤ 26 := by
  obtain ⟨h1, h2, h3, h4, h5⟩ := hW
  have w0 := h2 0 (by omega)
  have l0 := wfN_len w0
  have d0 := nm_d0 w0
  have dt := nm_d0 h5
  have hc : s = 0 ∨ s = 1 ∨ s = 2 ∨ s = 3 := by omega
  rcases hc with rfl | rfl | rfl | rfl
  · have e : hN W 0 = min 3 (nlen (W.1 0)).toNat := rfl
    have e2 : ∀ k, hF W 0 k = dg (W.1 0) k := fun k => rfl
    rw [e]
    refine ⟨⟨by omega, by omega⟩, fun k hk => ?_⟩
    rw [e2]
    exact l0.1.2.2.2 k (by omega)
  · have e : hN W 1 = W.2.1.toNat := rfl
    have e2 : ∀ k, hF W 1 k = dg (W.1 k) 0 := fun k => rfl
    rw [e]
    refine ⟨⟨by omega, by omega⟩, fun k hk => ?_⟩
    rw [e2]
    exact nm_d0 (h2 k (by omega))
  · have e : hN W 2 = (nlen (W.1 0)).toNat := rfl
    have e2 : ∀ k, hF W 2 k = dg (W.1 0) k := fun k => rfl
    rw [e]
    refine ⟨⟨by omega, by omega⟩, fun k hk => ?_⟩
    rw [e2]
    exact l0.1.2.2.2 k (by omega)
  · have e : hN W 3 = 2 := rfl
    have e2 : ∀ k, hF W 3 k = if k = 0 then dg (W.1 0) 0 else dg W.2.2.2 0 := fun k => rfl
    rw [e]
    refine ⟨⟨by omega, by omega⟩, fun k hk => ?_⟩
    rw [e2]
    split
    · exact d0
    · exact dt
theorem stm_dec {W : AWk} {s y l : Int} (hW : AWF W) (hs : 0 ≤ s ∧ s ≤ 3) (hy : 0 ≤ y ∧ y < 4096) (hl : 0 ≤ l ∧ l < 32) : HD (khd (stm W s y + l)) (hN W s) (hF W s) ∧ ksg (stm W s y + l) = hS W s ∧ kdg (stm W s y + l) = (hD s : Int) ∧ knum (stm W s y + l) = hY s y ∧ klet (stm W s y + l) = l := by
  obtain ⟨h1, h2, h3, h4, h5⟩ := id hW
  have w0 := h2 0 (by omega)
  have l0 := wfN_len w0
  have hc : s = 0 ∨ s = 1 ∨ s = 2 ∨ s = 3 := by omega
  have d2 : ∀ hd pl : Int, (pl = 0 ∨ pl = 1) → khd (kst2 hd pl y + l) = hd ∧ ksg (kst2 hd pl y + l) = pl ∧ kdg (kst2 hd pl y + l) = 2 ∧ knum (kst2 hd pl y + l) = y % 100 ∧ klet (kst2 hd pl y + l) = l := by
    intro hd pl hp
    unfold khd ksg kdg knum klet kst2
    refine ⟨by omega, by omega, ?_, by omega, by omega⟩
    rw [if_pos (by omega)]
  have d4 : ∀ hd : Int, khd (kst4 hd y + l) = hd ∧ ksg (kst4 hd y + l) = 0 ∧ kdg (kst4 hd y + l) = 4 ∧ knum (kst4 hd y + l) = y ∧ klet (kst4 hd y + l) = l := by
    intro hd
    unfold khd ksg kdg knum klet kst4
    refine ⟨by omega, by omega, ?_, by omega, by omega⟩
    rw [if_neg (by omega)]
  have hr := (hF_rng hW hs).2
  rcases hc with rfl | rfl | rfl | rfl
  · have e : stm W 0 y = kst2 (pre3 (W.1 0)) 0 y := rfl
    obtain ⟨a1, a2, a3, a4, a5⟩ := d2 (pre3 (W.1 0)) 0 (Or.inl rfl)
    rw [e, a1, a2, a3, a4, a5]
    refine ⟨?_, rfl, rfl, rfl, rfl⟩
    exact HD_hsum (f := fun k => dg (W.1 0) k) (n := (nlen (W.1 0)).toNat) (m := 3) (by omega) (fun k hk => l0.1.2.2.2 k hk) (fun k hk1 hk2 => nmW_out l0.1 hk1 (by omega)) 3 (Nat.le_refl 3)
  · have e : stm W 1 y = kst4 (inits W.1) y := rfl
    obtain ⟨a1, a2, a3, a4, a5⟩ := d4 (inits W.1)
    rw [e, a1, a2, a3, a4, a5]
    refine ⟨?_, rfl, rfl, rfl, rfl⟩
    have := HD_hsum (f := fun a => dg (W.1 a) 0) (n := W.2.1.toNat) (m := 4) (by omega) (fun k hk => nm_d0 (h2 k (by omega))) (fun k hk1 hk2 => by show dg (W.1 k) 0 = 0; rw [h3 k (by omega)]; decide) 4 (Nat.le_refl 4)
    rw [show min 4 W.2.1.toNat = W.2.1.toNat by omega] at this
    exact this
  · have e : stm W 2 y = kst2 (W.1 0) (if 1 < W.2.1 then 1 else 0) y := rfl
    obtain ⟨a1, a2, a3, a4, a5⟩ := d2 (W.1 0) (if 1 < W.2.1 then 1 else 0) (by split <;> simp)
    rw [e, a1, a2, a3, a4, a5]
    refine ⟨⟨l0.1, fun k _ => rfl⟩, ?_, rfl, rfl, rfl⟩
    unfold hS
    by_cases c : 1 < W.2.1
    · rw [if_pos c, if_pos ⟨rfl, c⟩]
    · rw [if_neg c, if_neg (fun q => c q.2)]
  · have e : stm W 3 y = kst4 (aut2 (W.1 0) W.2.2.2) y := rfl
    obtain ⟨a1, a2, a3, a4, a5⟩ := d4 (aut2 (W.1 0) W.2.2.2)
    rw [e, a1, a2, a3, a4, a5]
    refine ⟨?_, rfl, rfl, rfl, rfl⟩
    have := HD_hsum (f := hF W 3) (n := 2) (m := 2) (by omega) (fun k hk => hr k hk) (fun k hk1 hk2 => absurd hk2 (by omega)) 2 (Nat.le_refl 2)
    have e2 : hsum (hF W 3) 2 = aut2 (W.1 0) W.2.2.2 := by
      show (0 + dg (W.1 0) 0 * 34359738368) + dg W.2.2.2 0 * 1073741824 = dg (W.1 0) 0 * 34359738368 + dg W.2.2.2 0 * 1073741824
      omega
    rw [e2] at this
    exact this
/-- how a key reads: its letters, its sign, its digits, its own letter -/
def RD (κ : Int) (n : Nat) (f : Nat → Int) (σ : Int) (d : Nat) (num l : Int) : Prop := klen κ = n + σ + d + (if 0 < l then 1 else 0) ∧ (∀ k : Nat, k < n → kch κ k = 96 + f k) ∧ (σ = 1 → kch κ n = 43) ∧ (∀ j : Nat, j < d → kch κ (n + σ + j) = 48 + dfe num (d - 1 - j) % 10) ∧ (0 < l → kch κ (n + σ + d) = 96 + l)
theorem HD_rd {κ : Int} {n d : Nat} {f : Nat → Int} {σ num l : Int} (hh : HD (khd κ) n f) (h1 : ksg κ = σ) (h2 : kdg κ = (d : Int)) (h3 : knum κ = num) (h4 : klet κ = l) (hf : ∀ k, k < n → 1 ≤ f k ∧ f k ≤ 26) : RD κ n f σ d num l := by
  have hl := nmW_len hh.1
  have h8 := hh.1.1
  have s1 := ksg_rng κ
  have s2 := kdg_rng κ
  have s3 := klet_rng κ
  refine ⟨?_, fun k hk => ?_, fun hs => ?_, fun j hj => ?_, fun hl0 => ?_⟩
  · unfold klen
    rw [hl, h1, h2, h4]
  · unfold kch
    rw [hl, if_pos (by omega)]
    unfold codeAt
    have e : dgz (khd κ) k = dg (khd κ) k := dgz_nat rfl (by omega)
    rw [e, hh.2 k hk, if_neg (by have := hf k hk; omega)]
  · unfold kch
    rw [hl, h1, if_neg (by omega), if_pos (by omega)]
  · unfold kch
    rw [hl, h1, h2, h3, if_neg (by omega), if_neg (by omega), if_pos (by omega)]
    rw [show ((n : Int) + σ + (d : Int) - 1 - ((n : Int) + σ + (j : Int))).toNat = d - 1 - j by omega]
  · unfold kch
    rw [hl, h1, h2, h4, if_neg (by omega), if_neg (by omega), if_neg (by omega), if_pos ⟨rfl, hl0⟩]
    omega
theorem stm_rd {W : AWk} {s y l : Int} (hW : AWF W) (hs : 0 ≤ s ∧ s ≤ 3) (hy : 0 ≤ y ∧ y < 4096) (hl : 0 ≤ l ∧ l < 32) : RD (stm W s y + l) (hN W s) (hF W s) (hS W s) (hD s) (hY s y) l := by
  obtain ⟨h1, h2, h3, h4, h5⟩ := stm_dec hW hs hy hl
  exact HD_rd h1 h2 h3 h4 h5 (hF_rng hW hs).2
theorem key_eq {κ κ' : Int} (h1 : khd κ = khd κ') (h2 : ksg κ = ksg κ') (h3 : kdg κ = kdg κ') (h4 : knum κ = knum κ') (h5 : klet κ = klet κ') : κ = κ' := by
  unfold khd ksg kdg knum klet at *
  have h6 : κ / 131072 % 2 = κ' / 131072 % 2 := by
    by_cases a : κ / 131072 % 2 = 0
    · rw [if_pos a] at h3
      by_cases b : κ' / 131072 % 2 = 0
      · omega
      · rw [if_neg b] at h3; omega
    · rw [if_neg a] at h3
      by_cases b : κ' / 131072 % 2 = 0
      · rw [if_pos b] at h3; omega
      · omega
  omega
theorem dfe_rng2 {n : Int} (h : 0 ≤ n) (p : Nat) : 0 ≤ dfe n p % 10 ∧ dfe n p % 10 < 10 := by omega
theorem num_eq {d : Nat} {a b : Int} (hd : d = 2 ∨ d = 4) (ha : 0 ≤ a ∧ a < 10000 ∧ (d = 2 → a < 100)) (hb : 0 ≤ b ∧ b < 10000 ∧ (d = 2 → b < 100)) (h : ∀ j : Nat, j < d → dfe a (d - 1 - j) % 10 = dfe b (d - 1 - j) % 10) : a = b := by
  rcases hd with rfl | rfl
  · have h0 := h 0 (by decide)
    have h1 := h 1 (by decide)
    have a1 := ha.2.2 rfl
    have b1 := hb.2.2 rfl
    simp only [dfe, Nat.reduceSub] at h0 h1
    omega
  · have h0 := h 0 (by decide)
    have h1 := h 1 (by decide)
    have h2 := h 2 (by decide)
    have h3 := h 3 (by decide)
    simp only [dfe, Nat.reduceSub] at h0 h1 h2 h3
    omega
theorem RD_low {κ : Int} {n d : Nat} {f : Nat → Int} {σ u l : Int} (h : RD κ n f σ d u l) (p1 : σ = 0 ∨ σ = 1) (p2 : d = 2 ∨ d = 4) : kch κ n < 58 ∧ (n : Int) < klen κ := by
  obtain ⟨c1, c2, c3, c4, c5⟩ := h
  refine ⟨?_, by rw [c1]; split <;> omega⟩
  rcases p1 with p1 | p1
  · have := c4 0 (by omega)
    rw [p1, show (n : Int) + 0 + ((0 : Nat) : Int) = n by omega] at this
    omega
  · have := c3 p1; omega
theorem RD_inj {κ κ' : Int} {n n' d d' : Nat} {f f' : Nat → Int} {σ σ' u u' l l' : Int} (h : RD κ n f σ d u l) (h' : RD κ' n' f' σ' d' u' l') (f2 : ∀ k, k < n → 1 ≤ f k ∧ f k ≤ 26) (g2 : ∀ k, k < n' → 1 ≤ f' k ∧ f' k ≤ 26) (s1 : σ = 0 ∨ σ = 1) (s1' : σ' = 0 ∨ σ' = 1) (d1 : d = 2 ∨ d = 4) (d1' : d' = 2 ∨ d' = 4) (y1 : 0 ≤ u ∧ u < 10000 ∧ (d = 2 → u < 100)) (y1' : 0 ≤ u' ∧ u' < 10000 ∧ (d' = 2 → u' < 100)) (l0 : 0 ≤ l) (l0' : 0 ≤ l') (hl : klen κ = klen κ') (hc : ∀ k : Nat, (k : Int) < klen κ → kch κ k = kch κ' k) : n = n' ∧ (∀ k, k < n → f k = f' k) ∧ σ = σ' ∧ d = d' ∧ u = u' ∧ l = l' := by
  have q0 := RD_low h s1 d1
  have q0' := RD_low h' s1' d1'
  obtain ⟨c1, c2, c3, c4, c5⟩ := h
  obtain ⟨e1, e2, e3, e4, e5⟩ := h'
  have en : n = n' := by
    rcases Nat.lt_trichotomy n n' with q | q | q
    · have q2 := e2 n q
      have q3 := g2 n q
      have q4 := hc n q0.2
      omega
    · exact q
    · have q2 := c2 n' q
      have q3 := f2 n' q
      have q4 := hc n' (by omega)
      omega
  subst en
  have hn := hc n q0.2
  have ef : ∀ k, k < n → f k = f' k := fun k hk => by
    have q1 := c2 k hk
    have q2 := e2 k hk
    have q3 := hc k (by omega)
    omega
  have eσ : σ = σ' := by
    rcases s1 with p | p <;> rcases s1' with p' | p'
    · omega
    · have q1 := c4 0 (by omega)
      have q2 := e3 p'
      rw [p, show (n : Int) + 0 + ((0 : Nat) : Int) = n by omega] at q1
      omega
    · have q1 := e4 0 (by omega)
      have q2 := c3 p
      rw [p', show (n : Int) + 0 + ((0 : Nat) : Int) = n by omega] at q1
      omega
    · omega
  subst eσ
  have ed : d = d' ∧ (0 < l ↔ 0 < l') := by
    rw [c1, e1] at hl
    by_cases p : 0 < l
    · by_cases p' : 0 < l'
      · rw [if_pos p, if_pos p'] at hl; omega
      · rw [if_pos p, if_neg p'] at hl; omega
    · by_cases p' : 0 < l'
      · rw [if_neg p, if_pos p'] at hl; omega
      · rw [if_neg p, if_neg p'] at hl; omega
  obtain ⟨ed, ep⟩ := ed
  subst ed
  have hlen : (n : Int) + σ + d ≤ klen κ := by rw [c1]; split <;> omega
  have eu : u = u' := num_eq d1 y1 y1' fun j hj => by
    have q1 := c4 j hj
    have q2 := e4 j hj
    have q3 := hc (n + σ.toNat + j) (by omega)
    rw [show ((n + σ.toNat + j : Nat) : Int) = (n : Int) + σ + (j : Int) by omega] at q3
    omega
  have el : l = l' := by
    by_cases p : 0 < l
    · have q1 := c5 p
      have q2 := e5 (ep.1 p)
      rw [if_pos p] at c1
      have q3 := hc (n + σ.toNat + d) (by omega)
      rw [show ((n + σ.toNat + d : Nat) : Int) = (n : Int) + σ + (d : Int) by omega] at q3
      omega
    · omega
  exact ⟨rfl, ef, rfl, rfl, eu, el⟩
theorem hS_01 (W : AWk) (s : Int) : hS W s = 0 ∨ hS W s = 1 := by unfold hS; split <;> simp
theorem hD_24 (s : Int) : hD s = 2 ∨ hD s = 4 := by unfold hD; split <;> simp
theorem hY_rng {s y : Int} (hy : 1000 ≤ y ∧ y ≤ 2999) : 0 ≤ hY s y ∧ hY s y < 10000 ∧ (hD s = 2 → hY s y < 100) := by
  unfold hY hD
  split
  · exact ⟨by omega, by omega, fun _ => by omega⟩
  · exact ⟨by omega, by omega, fun q => by omega⟩
/-- two keys that read alike are one -/
theorem KWF_inj {κ κ' : Int} (h : KWF κ) (h' : KWF κ') (hl : klen κ = klen κ') (hc : ∀ k : Nat, (k : Int) < klen κ → kch κ k = kch κ' k) : κ = κ' := by
  obtain ⟨W, s, l, hW, hs, hl0, rfl⟩ := h
  obtain ⟨W', s', l', hW', hs', hl0', rfl⟩ := h'
  have hy := hW.2.2.2.1
  have hy' := hW'.2.2.2.1
  obtain ⟨a1, a2, a3, a4, a5⟩ := stm_dec (l := l) hW hs (y := W.2.2.1) ⟨by omega, by omega⟩ ⟨by omega, by omega⟩
  obtain ⟨b1, b2, b3, b4, b5⟩ := stm_dec (l := l') hW' hs' (y := W'.2.2.1) ⟨by omega, by omega⟩ ⟨by omega, by omega⟩
  have hr := stm_rd (l := l) hW hs (y := W.2.2.1) ⟨by omega, by omega⟩ ⟨by omega, by omega⟩
  have hr' := stm_rd (l := l') hW' hs' (y := W'.2.2.1) ⟨by omega, by omega⟩ ⟨by omega, by omega⟩
  obtain ⟨e1, e2, e3, e4, e5, e6⟩ := RD_inj hr hr' (hF_rng hW hs).2 (hF_rng hW' hs').2 (hS_01 W s) (hS_01 W' s') (hD_24 s) (hD_24 s') (hY_rng hy) (hY_rng hy') hl0.1 hl0'.1 hl hc
  refine key_eq (nm_eq a1.1.2.1 b1.1.2.1 fun j hj => ?_) (by rw [a2, b2, e3]) (by rw [a3, b3, e4]) (by rw [a4, b4, e5]) (by rw [a5, b5, e6])
  by_cases q : j < hN W s
  · rw [a1.2 j q, b1.2 j (by omega), e2 j q]
  · rw [nmW_out a1.1 (by omega) hj, nmW_out b1.1 (by omega) hj]
