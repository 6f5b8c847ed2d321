/-! the law: its loop, its start -/
def okv : Out → Geo → Mm → Mm → Prop := fun o _ _ _ => o = .inl (some (vi 1))
/-- what each round of the loop may cost, what is left of it -/
def cst (k : Nat) : Nat := if k % 24 = 0 then 210 else 120 + (if k % 6 = 0 then 50810 else 0) + (if k % 12 = 11 then 21103 else 0)
def rbl : Nat → Nat
  | 0 => 5210
  | n + 1 => rbl n + cst (47 - n)
theorem rbl_at {k : Nat} (hk : k < 48) : rbl (48 - k) = rbl (48 - (k + 1)) + cst k := by
  obtain ⟨n, hn⟩ : ∃ n, n = 47 - k := ⟨_, rfl⟩
  have e1 : 48 - k = n + 1 := by omega
  have e2 : 48 - (k + 1) = n := by omega
  have e3 : 47 - n = k := by omega
  rw [e1, e2]
  show rbl n + cst (47 - n) = _
  rw [e3]
section ZLaw
variable {X : Xt} {c : Nat}
theorem lw_loop (hl : X.2.2.2.2.2.1 ≤ 260) : ∀ q : Nat, q ≤ 48 → ∀ (z : Int) (g : Geo) (I J : Mm) (Tp Tq : Txt) (R : RS) (o5 o6 : Option Value) (b : Nat × Nat), z = (q : Int) → rbl (48 - q) ≤ b.1 → 6 * rbl (48 - q) ≤ b.2 → CInv X g I J c (Tp, R) → CInv X g I J (c + 726) (Tq, R) → ZV X E_L_law 52 [some (.ref X.2.2.2.2.1), some (.ref c), some (.ref (c + 726)), some (vi 1), some (vi z), o5, o6] [] b g I J okv := by
  refine loop_up 48 ?_ ?_
  · intro z g I J Tp Tq R o5 o6 b hz hb1 hb2 hP hQ
    have r0 : rbl (48 - 48) = 5210 := rfl
    rw [r0] at hb1 hb2
    refine ZV_iload dL_law_52 rfl ?_
    refine ZV_bipush dL_law_54 (by decide) ?_
    refine ZV_icmp_ge (tgt := 345) dL_law_56 (by decide) ⟨by omega, by omega⟩ ⟨by omega, by omega⟩ (fun h56 => ?_) (fun h56 => ?_)
    · refine ZV_iload_n dL_law_345 rfl ?_
      refine ZV_one_eq (tgt := 363) dL_law_346 (by decide) ?_
      refine ZV_aload_n dL_law_349 rfl ?_
      refine ZV_aload_n dL_law_350 rfl ?_
      refine ZV_ldc (z := 83003) dL_law_351 lL_law_248 ?_
      refine cl_L_alike kL_law_231 rfl dL_law_353 ⟨by first | omega | (dsimp only; omega), by first | omega | (dsimp only; omega)⟩ (Nat.le_of_ble_eq_true rfl) ?_
      refine sp_L_alike hP hQ (Nat.le_refl _) ⟨by decide, by decide⟩ ⟨by decide, by decide⟩ ?_
      intro g' I' J' _ _
      refine ZV_one_eq (tgt := 363) dL_law_356 (by decide) ?_
      refine ZV_iconst dL_law_359 ?_
      refine ZV_goto (tgt := 364) dL_law_360 (by decide) ?_
      refine ZV_zret dL_law_364 rfl (by first | exact Or.inl rfl | exact Or.inr rfl | assumption | omega) ?_
      rfl
    · omega
  · intro k hk ih z g I J Tp Tq R o5 o6 b hz hb1 hb2 hP hQ
    have hr := rbl_at hk
    obtain ⟨W, hW⟩ : ∃ W, W = rbl (48 - (k + 1)) := ⟨_, rfl⟩
    rw [← hW] at hr ih
    obtain ⟨Ck, hCk⟩ : ∃ Ck, Ck = cst k := ⟨_, rfl⟩
    rw [hr, ← hCk] at hb1 hb2
    have hc1 : Unit → ¬ k % 24 = 0 → Ck = 120 + (if k % 6 = 0 then 50810 else 0) + (if k % 12 = 11 then 21103 else 0) := fun _ q => hCk.trans (if_neg q)
    have hc2 : Unit → k % 24 = 0 → Ck = 210 := fun _ q => hCk.trans (if_pos q)
    clear hr hW hCk
    have m24 : z.tmod 24 = z % 24 := Int.tmod_eq_emod_of_nonneg (by omega)
    have m12 : z.tmod 12 = z % 12 := Int.tmod_eq_emod_of_nonneg (by omega)
    have m6 : z.tmod 6 = z % 6 := Int.tmod_eq_emod_of_nonneg (by omega)
    have p339 : ∀ (g : Geo) (I J : Mm) (Tp Tq : Txt) (R : RS) (o5 o6 : Option Value) (b' : Nat × Nat), W ≤ b'.1 → 6 * W ≤ b'.2 → CInv X g I J c (Tp, R) → CInv X g I J (c + 726) (Tq, R) → ZV X E_L_law 339 [some (.ref X.2.2.2.2.1), some (.ref c), some (.ref (c + 726)), some (vi 1), some (vi z), o5, o6] [] b' g I J okv := by
      intro g I J Tp Tq R o5 o6 b' hb1 hb2 hP hQ
      refine ZV_jinc4 dL_law_339 rfl (by decide) ?_
      refine ZV_goto (tgt := 52) dL_law_342 (by decide) ?_
      exact ih _ g I J Tp Tq R _ _ _ (by omega) hb1 hb2 hP hQ
    have p311 : ∀ (x y : Int) (g : Geo) (I J : Mm) (Tp Tq : Txt) (R : RS) (b' : Nat × Nat), (0 ≤ y ∧ y ≤ 2147483647) → W + (if k % 6 = 0 then 5210 else 0) ≤ b'.1 → 6 * (W + (if k % 6 = 0 then 5210 else 0)) ≤ b'.2 → CInv X g I J c (Tp, R) → CInv X g I J (c + 726) (Tq, R) → ZV X E_L_law 311 [some (.ref X.2.2.2.2.1), some (.ref c), some (.ref (c + 726)), some (vi 1), some (vi z), some (vi x), some (vi y)] [] b' g I J okv := by
      intro x y g I J Tp Tq R b' hy hb1 hb2 hP hQ
      refine ZV_iload_n dL_law_311 rfl ?_
      refine ZV_one_eq (tgt := 337) dL_law_312 (by decide) ?_
      refine ZV_iload dL_law_315 rfl ?_
      refine ZV_bipush dL_law_317 (by decide) ?_
      refine ZV_irem dL_law_319 ⟨by omega, by omega⟩ ⟨by omega, by omega⟩ (by omega) ?_
      rw [m6]
      refine ZV_if_gt (tgt := 333) dL_law_320 (by decide) ⟨by omega, by omega⟩ (fun h320 => ?_) (fun h320 => ?_)
      · refine ZV_iconst dL_law_333 ?_
        refine ZV_goto (tgt := 338) dL_law_334 (by decide) ?_
        refine ZV_istore3 dL_law_338 rfl (by decide) ?_
        exact p339 g I J Tp Tq R _ _ _ (by omega) (by omega) hP hQ
      · have h6 : k % 6 = 0 := by omega
        rw [if_pos h6] at hb1 hb2
        have q1 : 5210 ≤ b'.1 := Nat.le_trans (Nat.le_add_left 5210 W) hb1
        have q2 : 31260 ≤ b'.2 := Nat.le_trans (Nat.mul_le_mul_left 6 (Nat.le_add_left 5210 W)) hb2
        refine ZV_aload_n dL_law_323 rfl ?_
        refine ZV_aload_n dL_law_324 rfl ?_
        refine ZV_iload dL_law_325 rfl ?_
        refine cl_L_alike kL_law_231 rfl dL_law_327 ⟨by assumption, by assumption⟩ (Nat.le_of_ble_eq_true rfl) ?_
        refine sp_L_alike hP hQ (Nat.le_refl _) hy ⟨by decide, by decide⟩ ?_
        intro g' I' J' hP2 hQ2
        refine ZV_one_eq (tgt := 337) dL_law_330 (by decide) ?_
        refine ZV_iconst dL_law_333 ?_
        refine ZV_goto (tgt := 338) dL_law_334 (by decide) ?_
        refine ZV_istore3 dL_law_338 rfl (by decide) ?_
        exact p339 g' I' J' Tp Tq R _ _ _ (by first | omega | (dsimp only; omega)) (by first | omega | (dsimp only; omega)) hP2 hQ2
    have p262 : ∀ (x y : Int) (g : Geo) (I J : Mm) (Tp Tq : Txt) (R : RS) (b' : Nat × Nat), (0 ≤ y ∧ y ≤ 2147483647) → W + (if k % 6 = 0 then 5210 else 0) + (if k % 12 = 11 then 21103 else 0) ≤ b'.1 → 6 * (W + (if k % 6 = 0 then 5210 else 0) + (if k % 12 = 11 then 21103 else 0)) ≤ b'.2 → CInv X g I J c (Tp, R) → CInv X g I J (c + 726) (Tq, R) → ZV X E_L_law 262 [some (.ref X.2.2.2.2.1), some (.ref c), some (.ref (c + 726)), some (vi 1), some (vi z), some (vi x), some (vi y)] [] b' g I J okv := by
      intro x y g I J Tp Tq R b' hy hb1 hb2 hP hQ
      refine ZV_iload dL_law_262 rfl ?_
      refine ZV_bipush dL_law_264 (by decide) ?_
      refine ZV_irem dL_law_266 ⟨by omega, by omega⟩ ⟨by omega, by omega⟩ (by omega) ?_
      rw [m12]
      refine ZV_bipush dL_law_267 (by decide) ?_
      refine ZV_icmp_ne (tgt := 311) dL_law_269 (by decide) ⟨by omega, by omega⟩ ⟨by omega, by omega⟩ (fun h269 => ?_) (fun h269 => ?_)
      · exact p311 x y g I J Tp Tq R _ hy (by omega) (by omega) hP hQ
      · have h11 : k % 12 = 11 := by omega
        rw [if_pos h11] at hb1 hb2
        obtain ⟨A, H, V⟩ := R
        have h16 : aN A ≤ 16 := hP.good.1.1
        have e1 : svL (A, H, V) 1 = ((aN A : Int), (A, H, sl1 A V)) := rfl
        have e2 : rsL (A, H, sl1 A V) 1 = ((aN A : Int), (A, (0, H.2), sl1 A V)) := rfl
        have q1 : 21100 ≤ b'.1 := Nat.le_trans (Nat.le_trans (Nat.le_of_ble_eq_true rfl : 21100 ≤ 21103) (Nat.le_add_left 21103 _)) hb1
        have q2 : 126600 ≤ b'.2 := Nat.le_trans (Nat.le_trans (Nat.le_of_ble_eq_true rfl : 126600 ≤ 6 * 21103) (Nat.mul_le_mul_left 6 (Nat.le_add_left 21103 _))) hb2
        refine ZV_iload_n dL_law_272 rfl ?_
        refine ZV_one_eq (tgt := 309) dL_law_273 (by decide) ?_
        refine ZV_aload_n dL_law_276 rfl ?_
        refine ZV_iload dL_law_277 rfl ?_
        refine cl_L_follows kL_law_245 rfl dL_law_279 ⟨by assumption, by assumption⟩ (Nat.le_of_ble_eq_true rfl) ?_
        refine sp_L_follows hQ hy ⟨by decide, by decide⟩ ?_
        intro g1 I1 J1 T1 f1 hF1 hC1
        have hP1 := hP.other hF1 hC1 (Or.inr (Nat.le_refl _))
        refine ZV_one_eq (tgt := 309) dL_law_282 (by decide) ?_
        refine ZV_aload_n dL_law_285 rfl ?_
        refine ZV_iconst dL_law_286 ?_
        refine cl_L_save kL_law_152 rfl dL_law_287 ⟨by first | omega | (dsimp only; omega), by first | omega | (dsimp only; omega)⟩ (Nat.le_of_ble_eq_true rfl) ?_
        refine sp_L_save hP1 ⟨by omega, by omega⟩ ⟨by decide, by decide⟩ ?_
        intro g2 I2 J2 hF2 hC2
        replace hC2 : CInv X g2 I2 J2 c (Tp, (svL (A, H, V) 1).2) := hC2
        show ZV X E_L_law _ _ (vl (svL (A, H, V) 1).1 :: _) _ _ _ _ _
        rw [e1] at hC2 ⊢
        have hQ2 := hC1.other hF2 hC2 (Or.inl (Nat.le_refl _))
        refine ZV_lconst (z := 0) dL_law_290 (by decide) ?_
        refine ZV_lif_lt (tgt := 309) dL_law_291 dL_law_292 (by decide) ⟨by omega, by omega⟩ ⟨by omega, by omega⟩ (fun h291 => ?_) (fun h291 => ?_)
        · omega
        · refine ZV_aload_n dL_law_295 rfl ?_
          refine ZV_iconst dL_law_296 ?_
          refine cl_L_restore kL_law_154 rfl dL_law_297 ⟨by first | omega | (dsimp only; omega), by first | omega | (dsimp only; omega)⟩ (Nat.le_of_ble_eq_true rfl) ?_
          refine sp_L_restore hC2 ⟨by omega, by omega⟩ ⟨by decide, by decide⟩ ?_
          intro g3 I3 J3 hF3 hC3
          replace hC3 : CInv X g3 I3 J3 c (Tp, (rsL (A, H, sl1 A V) 1).2) := hC3
          show ZV X E_L_law _ _ (vl (rsL (A, H, sl1 A V) 1).1 :: _) _ _ _ _ _
          rw [e2] at hC3 ⊢
          have hQ3 := (hQ2.other hF3 hC3 (Or.inl (Nat.le_refl _))).hist0 (k := 0) (f' := H.2)
          refine ZV_lconst (z := 0) dL_law_300 (by decide) ?_
          refine ZV_lif_lt (tgt := 309) dL_law_301 dL_law_302 (by decide) ⟨by omega, by omega⟩ ⟨by omega, by omega⟩ (fun h301 => ?_) (fun h301 => ?_)
          · omega
          · refine ZV_iconst dL_law_305 ?_
            refine ZV_goto (tgt := 310) dL_law_306 (by decide) ?_
            refine ZV_istore3 dL_law_310 rfl (by decide) ?_
            exact p311 x y g3 I3 J3 Tp T1 (A, (0, H.2), sl1 A V) _ hy (by first | omega | (dsimp only; omega)) (by first | omega | (dsimp only; omega)) hC3 hQ3
    have p230 : ∀ (x y : Int) (g : Geo) (I J : Mm) (Tp Tq : Txt) (R : RS) (b' : Nat × Nat), (0 ≤ y ∧ y ≤ 2147483647) → W + (if k % 6 = 0 then 50810 else 0) + (if k % 12 = 11 then 21103 else 0) ≤ b'.1 → 6 * (W + (if k % 6 = 0 then 50810 else 0) + (if k % 12 = 11 then 21103 else 0)) ≤ b'.2 → CInv X g I J c (Tp, R) → CInv X g I J (c + 726) (Tq, R) → ZV X E_L_law 230 [some (.ref X.2.2.2.2.1), some (.ref c), some (.ref (c + 726)), some (vi 1), some (vi z), some (vi x), some (vi y)] [] b' g I J okv := by
      intro x y g I J Tp Tq R b' hy hb1 hb2 hP hQ
      refine ZV_iload dL_law_230 rfl ?_
      refine ZV_bipush dL_law_232 (by decide) ?_
      refine ZV_irem dL_law_234 ⟨by omega, by omega⟩ ⟨by omega, by omega⟩ (by omega) ?_
      rw [m6]
      refine ZV_if_ne (tgt := 262) dL_law_235 (by decide) ⟨by omega, by omega⟩ (fun h235 => ?_) (fun h235 => ?_)
      · exact p262 x y g I J Tp Tq R _ hy (by split <;> omega) (by split <;> omega) hP hQ
      · have h6 : k % 6 = 0 := by omega
        rw [if_pos h6] at hb1 hb2
        refine ZV_iload_n dL_law_238 rfl ?_
        refine ZV_one_eq (tgt := 260) dL_law_239 (by decide) ?_
        refine ZV_aload_n dL_law_242 rfl ?_
        refine cl_L_errors kL_law_235 rfl dL_law_243 ⟨by first | omega | (dsimp only; omega), by first | omega | (dsimp only; omega)⟩ (Nat.le_of_ble_eq_true rfl) ?_
        refine sp_L_errors hQ ⟨by decide, by decide⟩ ?_
        intro g1 I1 J1 hF1 hC1
        have hP1 := hP.other hF1 hC1 (Or.inr (Nat.le_refl _))
        refine ZV_one_eq (tgt := 260) dL_law_246 (by decide) ?_
        refine ZV_aload_n dL_law_249 rfl ?_
        refine cl_L_kept kL_law_239 rfl dL_law_250 ⟨by first | omega | (dsimp only; omega), by first | omega | (dsimp only; omega)⟩ (Nat.le_of_ble_eq_true rfl) ?_
        refine sp_L_kept hC1 ⟨by decide, by decide⟩ ?_
        intro g2 I2 J2 hF2 hC2
        have hP2 := hP1.other hF2 hC2 (Or.inr (Nat.le_refl _))
        refine ZV_one_eq (tgt := 260) dL_law_253 (by decide) ?_
        refine ZV_iconst dL_law_256 ?_
        refine ZV_goto (tgt := 261) dL_law_257 (by decide) ?_
        refine ZV_istore3 dL_law_261 rfl (by decide) ?_
        exact p262 x y g2 I2 J2 Tp Tq R _ hy (by rw [if_pos h6]; first | omega | (dsimp only; omega)) (by rw [if_pos h6]; first | omega | (dsimp only; omega)) hP2 hC2
    refine ZV_iload dL_law_52 rfl ?_
    refine ZV_bipush dL_law_54 (by decide) ?_
    refine ZV_icmp_ge (tgt := 345) dL_law_56 (by decide) ⟨by omega, by omega⟩ ⟨by omega, by omega⟩ (fun h56 => ?_) (fun h56 => ?_)
    · omega
    · refine ZV_iload_n dL_law_59 rfl ?_
      refine ZV_one_eq (tgt := 345) dL_law_60 (by decide) ?_
      refine ZV_aload_n dL_law_63 rfl ?_
      refine ZV_iconst dL_law_64 ?_
      refine ZV_iload dL_law_65 rfl ?_
      refine ZV_imul dL_law_67 ?_
      refine cl_L_draw kL_law_227 rfl dL_law_68 (Nat.le_of_ble_eq_true rfl) ?_
      refine sp_L_draw ⟨by omega, by omega⟩ hl ?_
      intro x hx
      refine ZV_istore5 dL_law_71 rfl (by decide) ?_
      refine ZV_aload_n dL_law_73 rfl ?_
      refine ZV_iconst dL_law_74 ?_
      refine ZV_iload dL_law_75 rfl ?_
      refine ZV_imul dL_law_77 ?_
      refine ZV_iconst dL_law_78 ?_
      refine ZV_iadd dL_law_79 ?_
      refine cl_L_draw kL_law_227 rfl dL_law_80 (Nat.le_of_ble_eq_true rfl) ?_
      refine sp_L_draw ⟨by omega, by omega⟩ hl ?_
      intro y hy
      refine ZV_istore6 dL_law_83 rfl (by decide) ?_
      refine ZV_iload dL_law_85 rfl ?_
      refine ZV_bipush dL_law_87 (by decide) ?_
      refine ZV_irem dL_law_89 ⟨by omega, by omega⟩ ⟨by omega, by omega⟩ (by omega) ?_
      rw [m24]
      have kp := hP.1.1.1
      have kq := hQ.1.1.1
      have tp := hP.2.2.1.2.1
      have tq := hQ.2.2.1.2.1
      refine ZV_if_ne (tgt := 204) dL_law_90 (by decide) ⟨by omega, by omega⟩ (fun h90 => ?_) (fun h90 => ?_)
      · have hc := hc1 () (by omega)
        rw [hc] at hb1 hb2
        refine ZV_aload_n dL_law_204 rfl ?_
        refine ZV_iload dL_law_205 rfl ?_
        refine ZV_iload dL_law_207 rfl ?_
        refine cl_L_act kL_law_242 rfl dL_law_209 ⟨by first | omega | (dsimp only; omega), by first | omega | (dsimp only; omega)⟩ (Nat.le_of_ble_eq_true rfl) ?_
        refine sp_L_act hP hx hy ⟨by decide, by decide⟩ ?_
        intro g1 I1 J1 T1 hF1 hC1
        have hQ1 := hQ.other hF1 hC1 (Or.inl (Nat.le_refl _))
        refine ZV_aload_n dL_law_212 rfl ?_
        refine ZV_iload dL_law_213 rfl ?_
        refine ZV_iload dL_law_215 rfl ?_
        refine cl_L_act kL_law_242 rfl dL_law_217 ⟨by first | omega | (dsimp only; omega), by first | omega | (dsimp only; omega)⟩ (Nat.le_of_ble_eq_true rfl) ?_
        refine sp_L_act hQ1 hx hy ⟨by decide, by decide⟩ ?_
        intro g2 I2 J2 T2 hF2 hC2
        have hP2 := hC1.other hF2 hC2 (Or.inr (Nat.le_refl _))
        show ZV X E_L_law _ _ (vl (acR R x y).1 :: vl (acR R x y).1 :: _) _ _ _ _ _
        refine ZV_lsame_ne (tgt := 228) dL_law_220 dL_law_221 (by decide) ?_
        refine ZV_iconst dL_law_224 ?_
        refine ZV_goto (tgt := 229) dL_law_225 (by decide) ?_
        refine ZV_istore3 dL_law_229 rfl (by decide) ?_
        exact p230 x y g2 I2 J2 _ _ _ _ hy (by first | omega | (dsimp only; omega)) (by first | omega | (dsimp only; omega)) hP2 hC2
      · have hc := hc2 () (by omega)
        rw [hc] at hb1 hb2
        have l0 := tlT_len x y tx0
        have t00 : tx0.1 = 0 := rfl
        have e59 : apL (tlT x y tx0) 59 = (((tlT x y tx0).1 : Int) + 1, txAdd (tlT x y tx0) 59) := (if_pos ⟨by omega, by omega⟩).trans (if_pos (by omega))
        have l1 : (txAdd (tlT x y tx0) 59).1 = (tlT x y tx0).1 + 1 := rfl
        obtain ⟨s, s1, s2, s3⟩ := tl_two x y (fun _ => 0)
        obtain ⟨Ts, hTs⟩ : ∃ Ts : Txt, Ts = tlT y x (txAdd (tlT x y tx0) 59) := ⟨_, rfl⟩
        have ev : (ldL Ts R).1 = 2 := by
          rw [hTs]
          unfold ldL
          have s1' : rdv (tlT y x (txAdd (tlT x y tx0) 59)).2 (tlT y x (txAdd (tlT x y tx0) 59)).1 = -9 := s1
          have s2' : rn (tlT y x (txAdd (tlT x y tx0) 59)).2 (tlT y x (txAdd (tlT x y tx0) 59)).1 = some s := s2
          rw [if_pos s1', s2']
          show (s.1 : Int) = 2
          rw [s3]; rfl
        refine ZV_aload_n dL_law_93 rfl ?_
        refine cl_X6_clearText kL_law_208 rfl dL_law_94 (by assumption) (Nat.le_of_ble_eq_true rfl) ?_
        refine sp_X6_clearText hP ?_
        intro I1 J1 hF1 hC0
        have hP1 := hC0.text0
        have hQ1 := hQ.other hF1 hC0 (Or.inl (Nat.le_refl _))
        have kq1 := hQ1.1.1.1
        refine ZV_if_lt (tgt := 199) dL_law_97 (by decide) ⟨by omega, by omega⟩ (fun h97 => ?_) (fun h97 => ?_)
        · omega
        · refine ZV_aload_n dL_law_100 rfl ?_
          refine cl_X6_clearText kL_law_208 rfl dL_law_101 (by assumption) (Nat.le_of_ble_eq_true rfl) ?_
          refine sp_X6_clearText hQ1 ?_
          intro I2 J2 hF2 hD0
          have hQ2 := hD0.text0
          have hP2 := hP1.other hF2 hD0 (Or.inr (Nat.le_refl _))
          refine ZV_if_lt (tgt := 199) dL_law_104 (by decide) ⟨by omega, by omega⟩ (fun h104 => ?_) (fun h104 => ?_)
          · omega
          · refine ZV_aload_n dL_law_107 rfl ?_
            refine ZV_iload dL_law_108 rfl ?_
            refine ZV_iload dL_law_110 rfl ?_
            refine cl_L_tells kL_law_223 rfl dL_law_112 ⟨by first | omega | (dsimp only; omega), by first | omega | (dsimp only; omega)⟩ (Nat.le_of_ble_eq_true rfl) ?_
            refine sp_L_tells hP2 hx hy (by show tx0.1 + 49 ≤ 100; omega) ⟨by decide, by decide⟩ ?_
            intro g3 I3 J3 hF3 hP3
            have hQ3 := hQ2.other hF3 hP3 (Or.inl (Nat.le_refl _))
            refine ZV_one_eq (tgt := 199) dL_law_115 (by decide) ?_
            refine ZV_aload_n dL_law_118 rfl ?_
            refine ZV_iload dL_law_119 rfl ?_
            refine ZV_iload dL_law_121 rfl ?_
            refine cl_L_tells kL_law_223 rfl dL_law_123 ⟨by first | omega | (dsimp only; omega), by first | omega | (dsimp only; omega)⟩ (Nat.le_of_ble_eq_true rfl) ?_
            refine sp_L_tells hQ3 hx hy (by show tx0.1 + 49 ≤ 100; omega) ⟨by decide, by decide⟩ ?_
            intro g4 I4 J4 hF4 hQ4
            have hP4 := hP3.other hF4 hQ4 (Or.inr (Nat.le_refl _))
            refine ZV_one_eq (tgt := 199) dL_law_126 (by decide) ?_
            refine ZV_aload_n dL_law_129 rfl ?_
            refine ZV_bipush dL_law_130 (by decide) ?_
            refine cl_L_append kL_law_156 rfl dL_law_132 ⟨by first | omega | (dsimp only; omega), by first | omega | (dsimp only; omega)⟩ (Nat.le_of_ble_eq_true rfl) ?_
            refine sp_L_append hP4 ⟨by omega, by omega⟩ ⟨by decide, by decide⟩ ?_
            intro g5 I5 J5 hF5 hP5
            replace hP5 : CInv X g5 I5 J5 c ((apL (tlT x y tx0) 59).2, R) := hP5
            show ZV X E_L_law _ _ (vl (apL (tlT x y tx0) 59).1 :: _) _ _ _ _ _
            rw [e59] at hP5 ⊢
            have hQ5 := hQ4.other hF5 hP5 (Or.inl (Nat.le_refl _))
            refine ZV_lconst (z := 0) dL_law_135 (by decide) ?_
            refine ZV_lif_le (tgt := 199) dL_law_136 dL_law_137 (by decide) ⟨by omega, by omega⟩ ⟨by omega, by omega⟩ (fun h136 => ?_) (fun h136 => ?_)
            · omega
            · refine ZV_aload_n dL_law_140 rfl ?_
              refine ZV_bipush dL_law_141 (by decide) ?_
              refine cl_L_append kL_law_156 rfl dL_law_143 ⟨by first | omega | (dsimp only; omega), by first | omega | (dsimp only; omega)⟩ (Nat.le_of_ble_eq_true rfl) ?_
              refine sp_L_append hQ5 ⟨by omega, by omega⟩ ⟨by decide, by decide⟩ ?_
              intro g6 I6 J6 hF6 hQ6
              replace hQ6 : CInv X g6 I6 J6 (c + 726) ((apL (tlT x y tx0) 59).2, R) := hQ6
              show ZV X E_L_law _ _ (vl (apL (tlT x y tx0) 59).1 :: _) _ _ _ _ _
              rw [e59] at hQ6 ⊢
              have hP6 := hP5.other hF6 hQ6 (Or.inr (Nat.le_refl _))
              refine ZV_lconst (z := 0) dL_law_146 (by decide) ?_
              refine ZV_lif_le (tgt := 199) dL_law_147 dL_law_148 (by decide) ⟨by omega, by omega⟩ ⟨by omega, by omega⟩ (fun h147 => ?_) (fun h147 => ?_)
              · omega
              · refine ZV_aload_n dL_law_151 rfl ?_
                refine ZV_iload dL_law_152 rfl ?_
                refine ZV_iload dL_law_154 rfl ?_
                refine cl_L_tells kL_law_223 rfl dL_law_156 ⟨by first | omega | (dsimp only; omega), by first | omega | (dsimp only; omega)⟩ (Nat.le_of_ble_eq_true rfl) ?_
                refine sp_L_tells hP6 hy hx (by show (txAdd (tlT x y tx0) 59).1 + 49 ≤ 100; omega) ⟨by decide, by decide⟩ ?_
                intro g7 I7 J7 hF7 hP7
                replace hP7 : CInv X g7 I7 J7 c (tlT y x (txAdd (tlT x y tx0) 59), R) := hP7
                rw [← hTs] at hP7
                have hQ7 := hQ6.other hF7 hP7 (Or.inl (Nat.le_refl _))
                refine ZV_one_eq (tgt := 199) dL_law_159 (by decide) ?_
                refine ZV_aload_n dL_law_162 rfl ?_
                refine ZV_iload dL_law_163 rfl ?_
                refine ZV_iload dL_law_165 rfl ?_
                refine cl_L_tells kL_law_223 rfl dL_law_167 ⟨by first | omega | (dsimp only; omega), by first | omega | (dsimp only; omega)⟩ (Nat.le_of_ble_eq_true rfl) ?_
                refine sp_L_tells hQ7 hy hx (by show (txAdd (tlT x y tx0) 59).1 + 49 ≤ 100; omega) ⟨by decide, by decide⟩ ?_
                intro g8 I8 J8 hF8 hQ8
                replace hQ8 : CInv X g8 I8 J8 (c + 726) (tlT y x (txAdd (tlT x y tx0) 59), R) := hQ8
                rw [← hTs] at hQ8
                have hP8 := hP7.other hF8 hQ8 (Or.inr (Nat.le_refl _))
                refine ZV_one_eq (tgt := 199) dL_law_170 (by decide) ?_
                refine ZV_aload_n dL_law_173 rfl ?_
                refine cl_L_load kL_law_139 rfl dL_law_174 ⟨by first | omega | (dsimp only; omega), by first | omega | (dsimp only; omega)⟩ (Nat.le_of_ble_eq_true rfl) ?_
                refine sp_L_load hP8 ⟨by decide, by decide⟩ ?_
                intro g9 I9 J9 hF9 hP9
                replace hP9 : CInv X g9 I9 J9 c (Ts, (ldL Ts R).2) := hP9
                show ZV X E_L_law _ _ (vl (ldL Ts R).1 :: _) _ _ _ _ _
                rw [ev]
                have hQ9 := hQ8.other hF9 hP9 (Or.inl (Nat.le_refl _))
                refine ZV_ldc2 (z := 2) dL_law_177 lL_law_181 ?_
                refine ZV_lsame_ne (tgt := 199) dL_law_180 dL_law_181 (by decide) ?_
                refine ZV_aload_n dL_law_184 rfl ?_
                refine cl_L_load kL_law_139 rfl dL_law_185 ⟨by first | omega | (dsimp only; omega), by first | omega | (dsimp only; omega)⟩ (Nat.le_of_ble_eq_true rfl) ?_
                refine sp_L_load hQ9 ⟨by decide, by decide⟩ ?_
                intro g10 I10 J10 hF10 hQ10
                replace hQ10 : CInv X g10 I10 J10 (c + 726) (Ts, (ldL Ts R).2) := hQ10
                show ZV X E_L_law _ _ (vl (ldL Ts R).1 :: _) _ _ _ _ _
                rw [ev]
                have hP10 := hP9.other hF10 hQ10 (Or.inr (Nat.le_refl _))
                refine ZV_ldc2 (z := 2) dL_law_188 lL_law_181 ?_
                refine ZV_lsame_ne (tgt := 199) dL_law_191 dL_law_192 (by decide) ?_
                refine ZV_iconst dL_law_195 ?_
                refine ZV_goto (tgt := 200) dL_law_196 (by decide) ?_
                refine ZV_istore3 dL_law_200 rfl (by decide) ?_
                refine ZV_goto (tgt := 339) dL_law_201 (by decide) ?_
                exact p339 g10 I10 J10 _ _ _ _ _ _ (by first | omega | (dsimp only; omega)) (by first | omega | (dsimp only; omega)) hP10 hQ10
theorem law_start (hl : X.2.2.2.2.2.1 ≤ 260) (I J : Mm) : ZV X E_L_law 0 [some (.ref X.2.2.2.2.1), none, none, none, none, none, none] [] (603858, 7289893) ([], fun _ _ => none, true) I J okv := by
  have t0 : (([], fun _ _ => none, true) : Geo).2.2 = true := rfl
  obtain ⟨c, hc⟩ : ∃ c, c = xB X + ([] : List Kd).length := ⟨_, rfl⟩
  refine ZV_new nL_law_10 dL_law_0 (by assumption) ⟨by decide, by decide⟩ ?_
  refine ZV_dup dL_law_3 rfl ?_
  have k1 := ksh_new X ([], fun _ _ => none, true) (.inl 4)
  have G1 := push_Gr (X := X) (lo := c) (g := ([], fun _ _ => none, true)) (.inl 4) I J hc (Nat.le_refl c)
  have l1 : (geoPush X ([], fun _ _ => none, true) (.inl 4)).1.length = 1 := rfl
  have t1 : (geoPush X ([], fun _ _ => none, true) (.inl 4)).2.2 = true := rfl
  rw [← hc] at k1
  show ZV X E_L_law _ _ (.ref (xB X + ([] : List Kd).length) :: .ref (xB X + ([] : List Kd).length) :: _) _ _ (rowZ I (xB X + ([] : List Kd).length)) (rowZ J (xB X + ([] : List Kd).length)) _
  rw [← hc]
  generalize geoPush X ([], fun _ _ => none, true) (.inl 4) = g1 at k1 G1 l1 t1 ⊢
  have hc0 : c = xB X := by rw [hc]; rfl
  refine cl_X6_init kL_law_226 rfl dL_law_4 ⟨by decide, by decide⟩ (Nat.le_of_ble_eq_true rfl) ?_
  refine sp_X6_init k1 (by omega) t1 ?_
  intro g2 I2 J2 G2 l2 hL2
  have t2 : g2.2.2 = true := by rw [G2.1.2]; exact t1
  refine ZV_astore1 dL_law_7 rfl (by decide) ?_
  refine ZV_new nL_law_10 dL_law_8 (by assumption) ⟨by decide, by decide⟩ ?_
  refine ZV_dup dL_law_11 rfl ?_
  have top2 : c + 726 = xB X + g2.1.length := by omega
  rw [← top2]
  have k3 := ksh_new X g2 (.inl 4)
  have G3 := push_Gr (X := X) (lo := c + 726) (.inl 4) I2 J2 top2 (Nat.le_refl _)
  have l3 := push_len X g2 (.inl 4)
  rw [← top2] at k3
  have t3 : (geoPush X g2 (.inl 4)).2.2 = true := t2
  generalize geoPush X g2 (.inl 4) = g3 at k3 G3 l3 t3 ⊢
  refine cl_X6_init kL_law_226 rfl dL_law_12 ⟨by decide, by decide⟩ (Nat.le_of_ble_eq_true rfl) ?_
  refine sp_X6_init k3 (by omega) t3 ?_
  intro g4 I4 J4 G4 l4 hL4
  refine ZV_astore2 dL_law_15 rfl (by decide) ?_
  refine ZV_loose ?_
  have hCL : CL X (g4.1, g4.2.1, false) c := hL2.rw' (fun a k e => G4.2.1 a k (G3.2.1 a k e)) (fun a q1 q2 => by show g4.2.1 a = _; rw [G4.2.2.1 a (by omega), G3.2.2.1 a (by omega)])
  have hDL : CL X (g4.1, g4.2.1, false) (c + 726) := hL4.rw' (fun a k e => e) (fun a q1 q2 => rfl)
  have zC : ∀ q, c + 1 ≤ q → q < c + 726 → I4 q = fun _ => 0 := fun q h1 h2 => by
    rw [(G4.2.2.2.1 q (by omega)).1, (G3.2.2.2.1 q (by omega)).1]
    exact (G2.2.2.2.2 q (by omega) (by omega)).1
  have zD : ∀ q, c + 726 + 1 ≤ q → q < c + 726 + 726 → I4 q = fun _ => 0 := fun q h1 h2 => (G4.2.2.2.2 q (by omega) (by omega)).1
  have hP := CInv_zero (J := J4) hCL rfl zC
  have hQ := CInv_zero (J := J4) hDL rfl zD
  refine ZV_aload_n dL_law_16 rfl ?_
  refine ZV_aload_n dL_law_17 rfl ?_
  refine ZV_aload_n dL_law_18 rfl ?_
  refine ZV_iconst dL_law_19 ?_
  refine cl_L_draw kL_law_227 rfl dL_law_20 (Nat.le_of_ble_eq_true rfl) ?_
  refine sp_L_draw ⟨by omega, by omega⟩ hl ?_
  intro x hx
  refine cl_L_alike kL_law_231 rfl dL_law_23 ⟨by first | omega | decide | (dsimp only; omega), by first | omega | decide | (dsimp only; omega)⟩ (Nat.le_of_ble_eq_true rfl) ?_
  refine sp_L_alike (R := Q00.2) hP hQ (Nat.le_refl _) hx ⟨by decide, by decide⟩ ?_
  intro g5 I5 J5 hP5 hQ5
  refine ZV_one_eq (tgt := 47) dL_law_26 (by decide) ?_
  refine ZV_aload_n dL_law_29 rfl ?_
  refine cl_L_errors kL_law_235 rfl dL_law_30 ⟨by first | omega | decide | (dsimp only; omega), by first | omega | decide | (dsimp only; omega)⟩ (Nat.le_of_ble_eq_true rfl) ?_
  refine sp_L_errors hP5 ⟨by decide, by decide⟩ ?_
  intro g6 I6 J6 hF6 hP6
  have hQ6 := hQ5.other hF6 hP6 (Or.inl (Nat.le_refl _))
  refine ZV_one_eq (tgt := 47) dL_law_33 (by decide) ?_
  refine ZV_aload_n dL_law_36 rfl ?_
  refine cl_L_kept kL_law_239 rfl dL_law_37 ⟨by first | omega | decide | (dsimp only; omega), by first | omega | decide | (dsimp only; omega)⟩ (Nat.le_of_ble_eq_true rfl) ?_
  refine sp_L_kept hP6 ⟨by decide, by decide⟩ ?_
  intro g7 I7 J7 hF7 hP7
  have hQ7 := hQ6.other hF7 hP7 (Or.inl (Nat.le_refl _))
  refine ZV_one_eq (tgt := 47) dL_law_40 (by decide) ?_
  refine ZV_iconst dL_law_43 ?_
  refine ZV_goto (tgt := 48) dL_law_44 (by decide) ?_
  refine ZV_istore3 dL_law_48 rfl (by decide) ?_
  refine ZV_iconst dL_law_49 ?_
  refine ZV_istore4 dL_law_50 rfl (by decide) ?_
  exact lw_loop hl 0 (by omega) _ g7 I7 J7 _ _ Q00.2 _ _ _ rfl (Nat.le_of_ble_eq_true rfl) (Nat.le_of_ble_eq_true rfl) hP7 hQ7
end ZLaw

