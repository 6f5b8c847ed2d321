/-! more rules: straight ways, a shift of ints -/
section ZRR
variable {X : Xt} {E : Me} {pc : Nat} {L : List (Option Value)} {S : List Value} {b : Nat × Nat} {g : Geo} {I J : Mm} {post : Out → Geo → Mm → Mm → Prop}
theorem ZV_lsame_ne {z off : Int} {tgt : Nat} (hd : decode (mC E) pc = .ok (.lcmp, 1)) (hd2 : decode (mC E) (pc + 1) = .ok (.ifCond .ne off, 3)) (ht : ((pc + 1 : Nat) : Int) + off = (tgt : Int)) (h : ZV X E (pc + 4) L S b g I J post) : ZV X E pc L (vl z :: vl z :: S) b g I J post := by
  have e : vl z = vl (i64 z).toInt := congrArg Value.long (i64_of (i64 z)).symm
  rw [e]
  exact ZV_lif_ne hd hd2 ht (r64_of _) (r64_of _) (fun q => absurd rfl q) (fun _ => h)
theorem ZV_one_eq {off : Int} {tgt : Nat} (hd : decode (mC E) pc = .ok (.ifCond .eq off, 3)) (ht : (pc : Int) + off = (tgt : Int)) (h : ZV X E (pc + 3) L S b g I J post) : ZV X E pc L (vi 1 :: S) b g I J post :=
  ZV_if_eq hd ht ⟨by decide, by decide⟩ (fun q => absurd q (by decide)) (fun _ => h)
theorem i32_shr (x : Int) (n : Nat) (hn : n ≤ 31) (hx : r32 x) (h0 : 0 ≤ x) : i32 x >>> (i32 (n : Int) &&& 31) = i32 (x / 2 ^ n) := by
  have e31 : (i32 (n : Int) &&& 31) = i32 (n : Int) := by
    have h := i32_mask (n : Int) 5 (by decide)
    have e : (31 : Int32) = i32 ((2 : Int) ^ 5 - 1) := by decide
    rw [e, h]
    congr 1
    exact Int.emod_eq_of_lt (by omega) (by omega)
  rw [e31]
  apply Int32.toBitVec_inj.1
  rw [Int32.toBitVec_shiftRight]
  have e0 : ((i32 (n : Int)).toBitVec.smod 32).toNat = n := by
    have : ∀ m : Nat, m ≤ 31 → ((BitVec.ofInt 32 (m : Int)).smod 32).toNat = m := by decide
    exact this n hn
  rw [BitVec.sshiftRight_eq', e0]
  have hm : (i32 x).toBitVec.msb = false := by
    rw [BitVec.msb_eq_false_iff_two_mul_lt, i32_bits]
    have := hx.2; omega
  rw [BitVec.sshiftRight_eq_of_msb_false hm]
  apply BitVec.eq_of_toNat_eq
  rw [BitVec.toNat_ushiftRight, i32_bits, i32_bits, Nat.shiftRight_eq_div_pow]
  obtain ⟨P, hP⟩ : ∃ P : Nat, P = 2 ^ n := ⟨_, rfl⟩
  have hPi : ((2 : Int) ^ n) = (P : Int) := by rw [hP]; simp
  have hp0 : 0 < P := by rw [hP]; exact Nat.pow_pos (by decide)
  obtain ⟨a, rfl⟩ : ∃ a : Nat, x = (a : Int) := ⟨x.toNat, (Int.toNat_of_nonneg h0).symm⟩
  rw [hPi, ← hP]
  have h1 : (a : Int) % 4294967296 = a := Int.emod_eq_of_lt (by omega) (by have := hx.2; omega)
  have h2 : (a : Int) / (P : Int) = ((a / P : Nat) : Int) := by push_cast; rfl
  have h3 : a / P ≤ a := Nat.div_le_self _ _
  have hx2 := hx.2
  rw [h1, h2]
  show a / P = _
  generalize a / P = d at h3
  have h4 : (d : Int) % 4294967296 = (d : Int) := Int.emod_eq_of_lt (by omega) (by omega)
  rw [h4]
  rfl
theorem ZV_ishr {x z : Int} (hd : decode (mC E) pc = .ok (.ishr, 1)) (n : Nat) (hz : z = (n : Int)) (hn : n ≤ 31) (hx : r32 x) (h0 : 0 ≤ x) (h : ZV X E (pc + 1) L (vi (x / 2 ^ n) :: S) b g I J post) : ZV X E (pc) L (vi z :: vi x :: S) b g I J post := by
  intro p e s m args below meth c C H locs cells slots ls hH hS hc hs hl
  subst hz
  refine lv_ishr C.1 C.2.1 hd ?_
  rw [i32_shr x n hn hx h0]
  exact h p e s m args below meth c C H locs cells slots ls hH hS hc hs hl
end ZRR
/-! what is refused -/
theorem has_0 {A : ASt} (h : 0 < aN A) : hasW A 0 := ⟨Int.le_refl 0, by omega⟩
theorem has_n (A : ASt) : ¬ hasW A (aN A : Int) := fun q => by have := q.2; omega
theorem has_m (A : ASt) : ¬ hasW A (-1) := fun q => absurd q.1 (by decide)
theorem rf_ab1 (A : ASt) : abL A (-1) = -9000000000000000002 := if_neg (by decide)
theorem rf_ab8 (A : ASt) : abL A 8 = -9000000000000000002 := if_neg (by decide)
theorem rf_wk9 (A : ASt) : wkL A (aN A : Int) 9 = -9000000000000000001 := if_neg (has_n A)
theorem rf_wk7 {A : ASt} (h : 0 < aN A) : wkL A 0 7 = -9000000000000000002 := (if_pos (has_0 h)).trans (if_neg (by decide))
theorem rf_lta {A : ASt} (h : 0 < aN A) : ltL A 0 (-1) 0 = -9000000000000000002 := (if_pos (has_0 h)).trans (if_neg (fun q => absurd q.1 (by decide)))
theorem rf_ltb {A : ASt} (h : 0 < aN A) : ltL A 0 ((aW A 0).2.1 + 1) 0 = -9000000000000000002 := (if_pos (has_0 h)).trans (if_neg (fun q => by
  have q2 : (aW A 0).2.1 + 1 ≤ (aW A 0).2.1 := q.2.1
  omega))
theorem rf_ltc {A : ASt} (h : 0 < aN A) : ltL A 0 0 (-1) = -9000000000000000002 := (if_pos (has_0 h)).trans (if_neg (fun q => absurd q.2.2 (by decide)))
theorem rf_ky {A : ASt} (h : 0 < aN A) : kyL A 0 (-1) = -9000000000000000002 := (if_pos (has_0 h)).trans (if_pos (by decide))
theorem rf_ltn (A : ASt) : ltL A (aN A : Int) 9 0 = -9000000000000000001 := if_neg (has_n A)
theorem rf_kym (A : ASt) : kyL A (-1) (-1) = -9000000000000000001 := if_neg (has_m A)
theorem rf_at (A : ASt) : atL A (-1) = -9000000000000000002 := if_neg (by decide)
theorem rf_pr (A : ASt) : prL A 3 = -9000000000000000002 := if_neg (by decide)
theorem rf_ch (T : Txt) (R : RS) : chL T R (aN R.1 : Int) = (-9000000000000000001, R) := if_neg (has_n R.1)
theorem rf_sy (R : RS) : syL R (aN R.1 : Int) 0 = (-9000000000000000001, R) := if_neg (has_n R.1)
theorem rf_sy0 {R : RS} (h : 0 < aN R.1) : syL R 0 999 = (-9000000000000000002, R) := (if_pos (has_0 h)).trans (if_neg (by decide))
theorem rf_sy1 {R : RS} (h : 0 < aN R.1) : syL R ((aN R.1 : Int) - 1) 3000 = (-9000000000000000002, R) := (if_pos ⟨by omega, by omega⟩).trans (if_neg (by decide))
theorem rf_rm (R : RS) : rmL R (-1) = (-9000000000000000001, R) := if_neg (has_m R.1)
theorem rf_ss (R : RS) : ssL R 4 = (-9000000000000000002, R) := if_neg (by decide)
theorem rf_so (R : RS) : soL R (-1) = (-9000000000000000002, R) := if_neg (by decide)
theorem rf_if (A : ASt) : ifL A (aN A : Int) = -9000000000000000001 := if_neg (has_n A)
theorem rf_fr (A : ASt) : frL A (-1) = -9000000000000000001 := if_neg (has_m A)
theorem rf_lw (A : ASt) : lwL A 4 = -9000000000000000002 := if_neg (by decide)
theorem rf_sc0 (A : ASt) : scL A 0 0 = -9000000000000000002 := if_neg (fun q => absurd q.1.1 (by decide))
theorem rf_sc4 (A : ASt) : scL A 4 10000000000000000 = -9000000000000000002 := if_neg (fun q => absurd q.2.2 (by decide))
theorem rf_sm (A : ASt) : smL A 1 0 = -9000000000000000002 := if_neg (by decide)
theorem rf_sv (R : RS) : svL R 2 = (-9000000000000000001, R) := if_neg (by decide)
theorem rf_rs (R : RS) : rsL R 2 = (-9000000000000000001, R) := if_neg (by decide)
theorem rf_ap (T : Txt) : apL T (-1) = (-9000000000000000002, T) := if_neg (by decide)
theorem rf_ld {T : Txt} (R : RS) (h : rdv T.2 T.1 ≠ -9) : ldL T R = (-9000000000000000003, R) := if_neg h
theorem rf_one {T : Txt} (h : rdv T.2 T.1 ≠ -9) : oneP T = none := if_neg h
theorem rf_ad {T : Txt} (R : RS) (h : rdv T.2 T.1 ≠ -9) : adL T R = (-9000000000000000003, R) := by unfold adL; rw [rf_one h]
theorem rf_ch0 {T : Txt} {R : RS} (hn : 0 < aN R.1) (h : rdv T.2 T.1 ≠ -9) : chL T R 0 = (-9000000000000000003, R) := by
  unfold chL
  rw [rf_one h]
  exact if_pos (has_0 hn)
theorem rf_full (T : Txt) {R : RS} (h : 16 ≤ aN R.1) : adL T R = (-9000000000000000003, R) := by
  unfold adL
  cases oneP T with
  | none => rfl
  | some P => exact if_neg (by omega)
