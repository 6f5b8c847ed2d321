/-! names and keys as packed numbers: CitationKeys$Name, CitationKeys$Key -/
theorem p2pos (n : Nat) : (0 : Int) < 2 ^ n := Int.pow_pos (by decide)
theorem p2add (n m : Nat) : (2 : Int) ^ (n + m) = 2 ^ n * 2 ^ m := Int.pow_add ..
/-- letter k of a packed name: 1 to 26, 0 for none -/
def dg (v : Int) (k : Nat) : Int := v / 2 ^ (5 * (7 - k)) % 2 ^ 5
def dgz (v k : Int) : Int := if 0 ≤ k ∧ k < 8 then dg v k.toNat else 0
theorem dgz_nat {v j : Int} {i : Nat} (hj : j = (i : Int)) (hi : i < 8) : dgz v j = dg v i := by
  subst hj
  unfold dgz
  rw [if_pos ⟨by omega, by omega⟩]
  rfl
theorem dg_rng (v : Int) (k : Nat) : 0 ≤ dg v k ∧ dg v k < 32 := by
  unfold dg
  have e : (2 : Int) ^ 5 = 32 := by decide
  rw [e]
  exact ⟨Int.emod_nonneg _ (by decide), Int.emod_lt_of_pos _ (by decide)⟩
theorem dgz_rng (v k : Int) : 0 ≤ dgz v k ∧ dgz v k < 32 := by
  unfold dgz
  split
  · exact dg_rng _ _
  · omega
def nlen (v : Int) : Int := zsum (fun k => if dg v k = 0 then 0 else 1) 8
theorem nlen_rng (v : Int) : 0 ≤ nlen v ∧ nlen v ≤ 8 := by
  unfold nlen
  have key : ∀ n, 0 ≤ zsum (fun k => if dg v k = 0 then 0 else 1) n ∧ zsum (fun k => if dg v k = 0 then 0 else 1) n ≤ n := by
    intro n
    induction n with
    | zero => simp [zsum]
    | succ n ih => simp only [zsum]; split <;> omega
  exact key 8
def codeAt (v k : Int) : Int := if dgz v k = 0 then -9 else 96 + dgz v k
section ZN
variable {X : Xt} {b : Nat × Nat} {g : Geo} {I J : Mm} {post : Out → Geo → Mm → Mm → Prop}
theorem sp_X2_numberAt {v k : Int} (hv : 0 ≤ v) (hr : r64 v) (hk : r32 k) (h : post (.inl (some (vi (dgz v k)))) g I J) : ZV X E_X2_numberAt 0 [some (vl v), none, some (vi k)] [] b g I J post := by
  obtain ⟨hk1, hk2⟩ := hk
  obtain ⟨hr1, hr2⟩ := hr
  have e0 : ¬ (0 ≤ k ∧ k < 8) → dgz v k = 0 := fun q => if_neg q
  refine ZV_iload_n dX2_numberAt_0 rfl ?_
  refine ZV_if_lt (tgt := 10) dX2_numberAt_1 (by decide) ⟨by omega, by omega⟩ (fun h1 => ?_) (fun h1 => ?_)
  · refine ZV_iconst dX2_numberAt_10 ?_
    refine ZV_iret dX2_numberAt_11 rfl ?_
    rw [e0 (by omega)] at h
    exact h
  · refine ZV_iload_n dX2_numberAt_4 rfl ?_
    refine ZV_bipush dX2_numberAt_5 (by decide) ?_
    refine ZV_icmp_lt (tgt := 12) dX2_numberAt_7 (by decide) ⟨by omega, by omega⟩ ⟨by omega, by omega⟩ (fun h7 => ?_) (fun h7 => ?_)
    · refine ZV_lload_n dX2_numberAt_12 rfl ?_
      refine ZV_iconst dX2_numberAt_13 ?_
      refine ZV_bipush dX2_numberAt_14 (by decide) ?_
      refine ZV_iload_n dX2_numberAt_16 rfl ?_
      refine ZV_isub dX2_numberAt_17 ?_
      refine ZV_imul dX2_numberAt_18 ?_
      refine ZV_lshr dX2_numberAt_19 (5 * (7 - k.toNat)) (by omega) (by omega) ⟨by omega, by omega⟩ (by omega) ?_
      refine ZV_l2i dX2_numberAt_20 ?_
      refine ZV_bipush dX2_numberAt_21 (by decide) ?_
      refine ZV_iand dX2_numberAt_23 5 (by decide) (by decide) ?_
      refine ZV_iret dX2_numberAt_24 rfl ?_
      have e1 : dgz v k = v / 2 ^ (5 * (7 - k.toNat)) % 2 ^ 5 := by
        unfold dgz dg
        rw [if_pos ⟨by omega, by omega⟩]
      rw [e1] at h
      exact h
    · refine ZV_iconst dX2_numberAt_10 ?_
      refine ZV_iret dX2_numberAt_11 rfl ?_
      rw [e0 (by omega)] at h
      exact h
theorem sp_X2_codeAt {v k : Int} (hv : 0 ≤ v) (hr : r64 v) (hk : r32 k) (h : post (.inl (some (vi (codeAt v k)))) g I J) : ZV X E_X2_codeAt 0 [some (vl v), none, some (vi k), none] [] b g I J post := by
  have hq := dgz_rng v k
  unfold codeAt at h
  refine ZV_lload_n dX2_codeAt_0 rfl ?_
  refine ZV_iload_n dX2_codeAt_1 rfl ?_
  refine cl_X2_numberAt kX2_codeAt_11 rfl dX2_codeAt_2 (Nat.le_of_ble_eq_true rfl) ?_
  refine sp_X2_numberAt hv hr hk ?_
  refine ZV_istore3 dX2_codeAt_5 rfl (by decide) ?_
  refine ZV_iload_n dX2_codeAt_6 rfl ?_
  refine ZV_if_ne (tgt := 15) dX2_codeAt_7 (by decide) ⟨by omega, by omega⟩ (fun h7 => ?_) (fun h7 => ?_)
  · refine ZV_bipush dX2_codeAt_15 (by decide) ?_
    refine ZV_iload_n dX2_codeAt_17 rfl ?_
    refine ZV_iadd dX2_codeAt_18 ?_
    refine ZV_iconst dX2_codeAt_19 ?_
    refine ZV_isub dX2_codeAt_20 ?_
    refine ZV_iret dX2_codeAt_21 rfl ?_
    rw [if_neg h7] at h
    rw [show 97 + dgz v k - 1 = 96 + dgz v k by omega]
    exact h
  · refine ZV_bipush dX2_codeAt_10 (by decide) ?_
    refine ZV_goto (tgt := 21) dX2_codeAt_12 (by decide) ?_
    refine ZV_iret dX2_codeAt_21 rfl ?_
    rw [if_pos h7] at h
    exact h
theorem sp_X2_length {v : Int} (hv : 0 ≤ v) (hr : r64 v) (h : post (.inl (some (vi (nlen v)))) g I J) : ZV X E_X2_length 0 [some (vl v), none, none, none] [] b g I J post := by
  have key : ∀ i : Nat, i ≤ 8 → ∀ a j : Int, j = (i : Int) → a = zsum (fun k => if dg v k = 0 then 0 else 1) i → ZV X E_X2_length 4 [some (vl v), none, some (vi a), some (vi j)] [] b g I J post := by
    refine loop_up 8 ?_ ?_
    · intro a j hj ha
      refine ZV_iload_n dX2_length_4 rfl ?_
      refine ZV_bipush dX2_length_5 (by decide) ?_
      refine ZV_icmp_ge (tgt := 27) dX2_length_7 (by decide) ⟨by omega, by omega⟩ ⟨by omega, by omega⟩ (fun h7 => ?_) (fun h7 => ?_)
      · refine ZV_iload_n dX2_length_27 rfl ?_
        refine ZV_iret dX2_length_28 rfl ?_
        rw [ha]
        exact h
      · omega
    · intro i hi ih a j hj ha
      refine ZV_iload_n dX2_length_4 rfl ?_
      refine ZV_bipush dX2_length_5 (by decide) ?_
      refine ZV_icmp_ge (tgt := 27) dX2_length_7 (by decide) ⟨by omega, by omega⟩ ⟨by omega, by omega⟩ (fun h7 => ?_) (fun h7 => ?_)
      · omega
      · refine ZV_lload_n dX2_length_10 rfl ?_
        refine ZV_iload_n dX2_length_11 rfl ?_
        refine cl_X2_numberAt kX2_length_11 rfl dX2_length_12 (Nat.le_of_ble_eq_true rfl) ?_
        refine sp_X2_numberAt hv hr ⟨by omega, by omega⟩ ?_
        have hq := dgz_rng v j
        have e := dgz_nat (v := v) hj hi
        refine ZV_if_eq (tgt := 21) dX2_length_15 (by decide) ⟨by omega, by omega⟩ (fun h15 => ?_) (fun h15 => ?_)
        · refine ZV_jinc3 dX2_length_21 rfl (by decide) ?_
          refine ZV_goto (tgt := 4) dX2_length_24 (by decide) ?_
          exact ih _ _ (by omega) (by rw [e] at h15; simp only [zsum]; rw [if_pos h15]; omega)
        · refine ZV_jinc2 dX2_length_18 rfl (by decide) ?_
          refine ZV_jinc3 dX2_length_21 rfl (by decide) ?_
          refine ZV_goto (tgt := 4) dX2_length_24 (by decide) ?_
          exact ih _ _ (by omega) (by rw [e] at h15; simp only [zsum]; rw [if_neg h15]; omega)
  refine ZV_iconst dX2_length_0 ?_
  refine ZV_istore2 dX2_length_1 rfl (by decide) ?_
  refine ZV_iconst dX2_length_2 ?_
  refine ZV_istore3 dX2_length_3 rfl (by decide) ?_
  exact key 0 (by omega) _ _ rfl rfl
theorem sp_X2_with {v k n : Int} (hv : 0 ≤ v) (hr : r64 v) (hk : r32 k) (hn : 0 ≤ n ∧ n < 32) (hz : 0 ≤ k ∧ k < 8 → v % 2 ^ (5 * (8 - k.toNat)) = 0) (h : post (.inl (some (vl (if 0 ≤ k ∧ k < 8 then v + n * 2 ^ (5 * (7 - k.toNat)) else v)))) g I J) : ZV X E_X2_with 0 [some (vl v), none, some (vi k), some (vi n)] [] b g I J post := by
  obtain ⟨hk1, hk2⟩ := hk
  refine ZV_iload_n dX2_with_0 rfl ?_
  refine ZV_if_lt (tgt := 10) dX2_with_1 (by decide) ⟨by omega, by omega⟩ (fun h1 => ?_) (fun h1 => ?_)
  · refine ZV_lload_n dX2_with_10 rfl ?_
    refine ZV_lret dX2_with_11 rfl ?_
    rw [if_neg (by omega)] at h
    exact h
  · refine ZV_iload_n dX2_with_4 rfl ?_
    refine ZV_bipush dX2_with_5 (by decide) ?_
    refine ZV_icmp_lt (tgt := 12) dX2_with_7 (by decide) ⟨by omega, by omega⟩ ⟨by omega, by omega⟩ (fun h7 => ?_) (fun h7 => ?_)
    · rw [if_pos ⟨by omega, by omega⟩] at h
      have hz := hz ⟨by omega, by omega⟩
      have hp := p2pos (5 * (7 - k.toNat))
      have e5 : (2 : Int) ^ (5 * (8 - k.toNat)) = 2 ^ (5 * (7 - k.toNat)) * 32 := by
        rw [show 5 * (8 - k.toNat) = 5 * (7 - k.toNat) + 5 by omega, p2add]; rfl
      have h0 : 0 ≤ n * 2 ^ (5 * (7 - k.toNat)) := Int.mul_nonneg hn.1 (by omega)
      have h1 : n * 2 ^ (5 * (7 - k.toNat)) < 2 ^ (5 * (8 - k.toNat)) := by
        rw [e5, Int.mul_comm]
        exact Int.mul_lt_mul_of_pos_left (by omega) hp
      refine ZV_lload_n dX2_with_12 rfl ?_
      refine ZV_iload_n dX2_with_13 rfl ?_
      refine ZV_i2l dX2_with_14 ⟨by omega, by omega⟩ ?_
      refine ZV_iconst dX2_with_15 ?_
      refine ZV_bipush dX2_with_16 (by decide) ?_
      refine ZV_iload_n dX2_with_18 rfl ?_
      refine ZV_isub dX2_with_19 ?_
      refine ZV_imul dX2_with_20 ?_
      refine ZV_lshl dX2_with_21 (5 * (7 - k.toNat)) (by omega) (by omega) ?_
      refine ZV_lor dX2_with_22 (5 * (8 - k.toNat)) (by omega) hz h0 h1 ?_
      refine ZV_lret dX2_with_23 rfl ?_
      exact h
    · refine ZV_lload_n dX2_with_10 rfl ?_
      refine ZV_lret dX2_with_11 rfl ?_
      rw [if_neg (by omega)] at h
      exact h
end ZN

