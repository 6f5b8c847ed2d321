/-! calls that must be refused -/
section ZL3
variable {X : Xt} {g : Geo} {I J : Mm} {b : Nat × Nat} {post : Out → Geo → Mm → Mm → Prop}
theorem sp_L_errors {c : Nat} {Q : AC} (hC : CInv X g I J c Q) (hb : 5300 ≤ b.1 ∧ 31800 ≤ b.2) (h : ∀ g' I' J', CFr g g' I I' J J' c → CInv X g' I' J' c Q → post (.inl (some (vi 1))) g' I' J') : ZV X E_L_errors 0 [some (.ref c), none, none, none, none] [] b g I J post := by
  have hG := hC.good
  have h16 := hG.1.1
  have t100 := hC.2.2.1.2.1
  have t405 : ∀ (g1 : Geo) (I1 J1 : Mm) (o4 : Option Value) (b' : Nat × Nat), CFr g g1 I I1 J J1 c → CInv X g1 I1 J1 c Q → 2615 ≤ b'.1 → 15690 ≤ b'.2 → ZV X E_L_errors 405 [some (.ref c), some (vl (nowV Q.2.1)), none, some (vi (aN Q.2.1 : Int)), o4] [] b' g1 I1 J1 post := by
    intro g1 I1 J1 o4 b' hF1 hC1 hb1 hb2
    have kc1 := hC1.1.1.1
    refine ZV_aload_n dL_errors_405 rfl ?_
    refine ZV_iconst dL_errors_406 ?_
    refine ZV_lconst (z := 0) dL_errors_407 (by decide) ?_
    refine cl_L_script kL_errors_143 rfl dL_errors_408 ⟨by first | omega | (dsimp only; omega), by first | omega | (dsimp only; omega)⟩ (Nat.le_of_ble_eq_true rfl) ?_
    refine sp_L_script hC1 ⟨by omega, by omega⟩ ⟨by omega, by omega⟩ ⟨by decide, by decide⟩ ?_
    intro g2 I2 J2 hF2 hC2
    rw [rf_sc0]
    replace hF2 := hF1.tr hF2
    refine ZV_ldc2 (z := -9000000000000000002) dL_errors_411 lL_errors_17 ?_
    refine ZV_lsame_ne (tgt := 495) dL_errors_414 dL_errors_415 (by decide) ?_
    refine ZV_aload_n dL_errors_418 rfl ?_
    refine ZV_iconst dL_errors_419 ?_
    refine ZV_ldc2 (z := 10000000000000000) dL_errors_420 lL_errors_147 ?_
    refine cl_L_script kL_errors_143 rfl dL_errors_423 ⟨by first | omega | (dsimp only; omega), by first | omega | (dsimp only; omega)⟩ (Nat.le_of_ble_eq_true rfl) ?_
    refine sp_L_script hC2 ⟨by omega, by omega⟩ ⟨by omega, by omega⟩ ⟨by decide, by decide⟩ ?_
    intro g3 I3 J3 hF3 hC3
    rw [rf_sc4]
    replace hF3 := hF2.tr hF3
    refine ZV_ldc2 (z := -9000000000000000002) dL_errors_426 lL_errors_17 ?_
    refine ZV_lsame_ne (tgt := 495) dL_errors_429 dL_errors_430 (by decide) ?_
    refine ZV_aload_n dL_errors_433 rfl ?_
    refine ZV_lconst (z := 1) dL_errors_434 (by decide) ?_
    refine ZV_iconst dL_errors_435 ?_
    refine cl_L_simulate kL_errors_149 rfl dL_errors_436 ⟨by first | omega | (dsimp only; omega), by first | omega | (dsimp only; omega)⟩ (Nat.le_of_ble_eq_true rfl) ?_
    refine sp_L_simulate hC3 ⟨by omega, by omega⟩ ⟨by omega, by omega⟩ ⟨by decide, by decide⟩ ?_
    intro g4 I4 J4 hF4 hC4
    rw [rf_sm]
    replace hF4 := hF3.tr hF4
    refine ZV_ldc2 (z := -9000000000000000002) dL_errors_439 lL_errors_17 ?_
    refine ZV_lsame_ne (tgt := 495) dL_errors_442 dL_errors_443 (by decide) ?_
    refine ZV_aload_n dL_errors_446 rfl ?_
    refine ZV_iconst dL_errors_447 ?_
    refine cl_L_save kL_errors_152 rfl dL_errors_448 ⟨by first | omega | (dsimp only; omega), by first | omega | (dsimp only; omega)⟩ (Nat.le_of_ble_eq_true rfl) ?_
    refine sp_L_save hC4 ⟨by omega, by omega⟩ ⟨by decide, by decide⟩ ?_
    intro g5 I5 J5 hF5 hC5
    rw [rf_sv] at hC5 ⊢
    replace hC5 : CInv X g5 I5 J5 c Q := hC5
    replace hF5 := hF4.tr hF5
    refine ZV_ldc2 (z := -9000000000000000001) dL_errors_451 lL_errors_36 ?_
    refine ZV_lsame_ne (tgt := 495) dL_errors_454 dL_errors_455 (by decide) ?_
    refine ZV_aload_n dL_errors_458 rfl ?_
    refine ZV_iconst dL_errors_459 ?_
    refine cl_L_restore kL_errors_154 rfl dL_errors_460 ⟨by first | omega | (dsimp only; omega), by first | omega | (dsimp only; omega)⟩ (Nat.le_of_ble_eq_true rfl) ?_
    refine sp_L_restore hC5 ⟨by omega, by omega⟩ ⟨by decide, by decide⟩ ?_
    intro g6 I6 J6 hF6 hC6
    rw [rf_rs] at hC6 ⊢
    replace hC6 : CInv X g6 I6 J6 c Q := hC6
    replace hF6 := hF5.tr hF6
    refine ZV_ldc2 (z := -9000000000000000001) dL_errors_463 lL_errors_36 ?_
    refine ZV_lsame_ne (tgt := 495) dL_errors_466 dL_errors_467 (by decide) ?_
    refine ZV_aload_n dL_errors_470 rfl ?_
    refine ZV_iconst dL_errors_471 ?_
    refine cl_L_append kL_errors_156 rfl dL_errors_472 ⟨by first | omega | (dsimp only; omega), by first | omega | (dsimp only; omega)⟩ (Nat.le_of_ble_eq_true rfl) ?_
    refine sp_L_append hC6 ⟨by omega, by omega⟩ ⟨by decide, by decide⟩ ?_
    intro g7 I7 J7 hF7 hC7
    rw [rf_ap] at hC7 ⊢
    replace hC7 : CInv X g7 I7 J7 c Q := hC7
    replace hF7 := hF6.tr hF7
    refine ZV_ldc2 (z := -9000000000000000002) dL_errors_475 lL_errors_17 ?_
    refine ZV_lsame_ne (tgt := 495) dL_errors_478 dL_errors_479 (by decide) ?_
    refine ZV_aload_n dL_errors_482 rfl ?_
    refine cl_L_now kL_errors_114 rfl dL_errors_483 ⟨by first | omega | (dsimp only; omega), by first | omega | (dsimp only; omega)⟩ (Nat.le_of_ble_eq_true rfl) ?_
    refine sp_L_now hC7 ⟨by decide, by decide⟩ ?_
    refine ZV_lload_n dL_errors_486 rfl ?_
    refine ZV_lsame_ne (tgt := 495) dL_errors_487 dL_errors_488 (by decide) ?_
    refine ZV_iconst dL_errors_491 ?_
    refine ZV_goto (tgt := 496) dL_errors_492 (by decide) ?_
    refine ZV_zret dL_errors_496 rfl (by first | exact Or.inl rfl | exact Or.inr rfl | assumption | omega) ?_
    exact h g7 I7 J7 hF7 hC7
  have t388 : ∀ (g1 : Geo) (I1 J1 : Mm) (o4 : Option Value) (b' : Nat × Nat), CFr g g1 I I1 J J1 c → CInv X g1 I1 J1 c Q → 2620 ≤ b'.1 → 15720 ≤ b'.2 → ZV X E_L_errors 388 [some (.ref c), some (vl (nowV Q.2.1)), none, some (vi (aN Q.2.1 : Int)), o4] [] b' g1 I1 J1 post := by
    intro g1 I1 J1 o4 b' hF1 hC1 hb1 hb2
    have kc1 := hC1.1.1.1
    refine ZV_iload_n dL_errors_388 rfl ?_
    refine ZV_bipush dL_errors_389 (by decide) ?_
    refine ZV_icmp_lt (tgt := 405) dL_errors_391 (by decide) ⟨by omega, by omega⟩ ⟨by omega, by omega⟩ (fun h391 => ?_) (fun h391 => ?_)
    · exact t405 g1 I1 J1 _ _ hF1 hC1 (by first | omega | (dsimp only; omega)) (by first | omega | (dsimp only; omega))
    · refine ZV_aload_n dL_errors_394 rfl ?_
      refine cl_L_add kL_errors_141 rfl dL_errors_395 ⟨by first | omega | (dsimp only; omega), by first | omega | (dsimp only; omega)⟩ (Nat.le_of_ble_eq_true rfl) ?_
      refine sp_L_add hC1  ⟨by decide, by decide⟩ ?_
      intro g2 I2 J2 hF2 hC2
      rw [rf_full Q.1 (R := Q.2) (by show 16 ≤ aN Q.2.1; omega)] at hC2 ⊢
      replace hC2 : CInv X g2 I2 J2 c Q := hC2
      replace hF2 := hF1.tr hF2
      refine ZV_ldc2 (z := -9000000000000000003) dL_errors_398 lL_errors_21 ?_
      refine ZV_lsame_ne (tgt := 495) dL_errors_401 dL_errors_402 (by decide) ?_
      exact t405 g2 I2 J2 _ _ hF2 hC2 (by first | omega | (dsimp only; omega)) (by first | omega | (dsimp only; omega))
  have t336 : ∀ (g1 : Geo) (I1 J1 : Mm) (b' : Nat × Nat), CFr g g1 I I1 J J1 c → CInv X g1 I1 J1 c Q → 2630 ≤ b'.1 → 15780 ≤ b'.2 → ZV X E_L_errors 336 [some (.ref c), some (vl (nowV Q.2.1)), none, some (vi (aN Q.2.1 : Int)), some (vi 1)] [] b' g1 I1 J1 post := by
    intro g1 I1 J1 b' hF1 hC1 hb1 hb2
    have kc1 := hC1.1.1.1
    refine ZV_iload dL_errors_336 rfl ?_
    refine ZV_one_eq (tgt := 495) dL_errors_338 (by decide) ?_
    refine ZV_aload_n dL_errors_341 rfl ?_
    refine cl_X6_errorPosition kL_errors_136 rfl dL_errors_342 (by assumption) (Nat.le_of_ble_eq_true rfl) ?_
    refine sp_X6_errorPosition hC1 ?_
    intro g2x J2x hF2 hC2
    have rr := rdv_rng Q.1
    replace hF2 := hF1.tr hF2
    refine ZV_bipush dL_errors_345 (by decide) ?_
    refine ZV_icmp_eq (tgt := 388) dL_errors_347 (by decide) ⟨by omega, by omega⟩ ⟨by omega, by omega⟩ (fun h347 => ?_) (fun h347 => ?_)
    · exact t388 g1 _ _ _ _ hF2 hC2 (by first | omega | (dsimp only; omega)) (by first | omega | (dsimp only; omega))
    · have hne : rdv Q.1.2 Q.1.1 ≠ -9 := by assumption
      refine ZV_aload_n dL_errors_350 rfl ?_
      refine cl_L_load kL_errors_139 rfl dL_errors_351 ⟨by first | omega | (dsimp only; omega), by first | omega | (dsimp only; omega)⟩ (Nat.le_of_ble_eq_true rfl) ?_
      refine sp_L_load hC2  ⟨by decide, by decide⟩ ?_
      intro g3 I3 J3 hF3 hC3
      rw [rf_ld Q.2 hne] at hC3 ⊢
      replace hC3 : CInv X g3 I3 J3 c Q := hC3
      replace hF3 := hF2.tr hF3
      refine ZV_ldc2 (z := -9000000000000000003) dL_errors_354 lL_errors_21 ?_
      refine ZV_lsame_ne (tgt := 495) dL_errors_357 dL_errors_358 (by decide) ?_
      refine ZV_aload_n dL_errors_361 rfl ?_
      refine cl_L_add kL_errors_141 rfl dL_errors_362 ⟨by first | omega | (dsimp only; omega), by first | omega | (dsimp only; omega)⟩ (Nat.le_of_ble_eq_true rfl) ?_
      refine sp_L_add hC3  ⟨by decide, by decide⟩ ?_
      intro g4 I4 J4 hF4 hC4
      rw [rf_ad Q.2 hne] at hC4 ⊢
      replace hC4 : CInv X g4 I4 J4 c Q := hC4
      replace hF4 := hF3.tr hF4
      refine ZV_ldc2 (z := -9000000000000000003) dL_errors_365 lL_errors_21 ?_
      refine ZV_lsame_ne (tgt := 495) dL_errors_368 dL_errors_369 (by decide) ?_
      refine ZV_iload_n dL_errors_372 rfl ?_
      refine ZV_if_eq (tgt := 388) dL_errors_373 (by decide) ⟨by omega, by omega⟩ (fun h373 => ?_) (fun h373 => ?_)
      · exact t388 g4 I4 J4 _ _ hF4 hC4 (by first | omega | (dsimp only; omega)) (by first | omega | (dsimp only; omega))
      · refine ZV_aload_n dL_errors_376 rfl ?_
        refine ZV_iconst dL_errors_377 ?_
        refine cl_L_change kL_errors_120 rfl dL_errors_378 ⟨by first | omega | (dsimp only; omega), by first | omega | (dsimp only; omega)⟩ (Nat.le_of_ble_eq_true rfl) ?_
        refine sp_L_change hC4 ⟨by omega, by omega⟩ ⟨by decide, by decide⟩ ?_
        intro g5 I5 J5 hF5 hC5
        rw [rf_ch0 (R := Q.2) (by show 0 < aN Q.2.1; omega) hne] at hC5 ⊢
        replace hC5 : CInv X g5 I5 J5 c Q := hC5
        replace hF5 := hF4.tr hF5
        refine ZV_ldc2 (z := -9000000000000000003) dL_errors_381 lL_errors_21 ?_
        refine ZV_lsame_ne (tgt := 495) dL_errors_384 dL_errors_385 (by decide) ?_
        exact t388 g5 I5 J5 _ _ hF5 hC5 (by first | omega | (dsimp only; omega)) (by first | omega | (dsimp only; omega))
  have t257 : ∀ (g1 : Geo) (I1 J1 : Mm) (b' : Nat × Nat), CFr g g1 I I1 J J1 c → CInv X g1 I1 J1 c Q → 2645 ≤ b'.1 → 15870 ≤ b'.2 → ZV X E_L_errors 257 [some (.ref c), some (vl (nowV Q.2.1)), none, some (vi (aN Q.2.1 : Int)), some (vi 1)] [] b' g1 I1 J1 post := by
    intro g1 I1 J1 b' hF1 hC1 hb1 hb2
    have kc1 := hC1.1.1.1
    refine ZV_aload_n dL_errors_257 rfl ?_
    refine ZV_iconst dL_errors_258 ?_
    refine cl_L_remove kL_errors_124 rfl dL_errors_259 ⟨by first | omega | (dsimp only; omega), by first | omega | (dsimp only; omega)⟩ (Nat.le_of_ble_eq_true rfl) ?_
    refine sp_L_remove hC1 ⟨by omega, by omega⟩ ⟨by decide, by decide⟩ ?_
    intro g2 I2 J2 hF2 hC2
    rw [rf_rm] at hC2 ⊢
    replace hC2 : CInv X g2 I2 J2 c Q := hC2
    replace hF2 := hF1.tr hF2
    refine ZV_ldc2 (z := -9000000000000000001) dL_errors_262 lL_errors_36 ?_
    refine ZV_lsame_ne (tgt := 333) dL_errors_265 dL_errors_266 (by decide) ?_
    refine ZV_aload_n dL_errors_269 rfl ?_
    refine ZV_iconst dL_errors_270 ?_
    refine cl_L_setStyle kL_errors_126 rfl dL_errors_271 ⟨by first | omega | (dsimp only; omega), by first | omega | (dsimp only; omega)⟩ (Nat.le_of_ble_eq_true rfl) ?_
    refine sp_L_setStyle hC2 ⟨by omega, by omega⟩ ⟨by decide, by decide⟩ ?_
    intro g3 I3 J3 hF3 hC3
    rw [rf_ss] at hC3 ⊢
    replace hC3 : CInv X g3 I3 J3 c Q := hC3
    replace hF3 := hF2.tr hF3
    refine ZV_ldc2 (z := -9000000000000000002) dL_errors_274 lL_errors_17 ?_
    refine ZV_lsame_ne (tgt := 333) dL_errors_277 dL_errors_278 (by decide) ?_
    refine ZV_aload_n dL_errors_281 rfl ?_
    refine ZV_iconst dL_errors_282 ?_
    refine cl_L_setOrder kL_errors_128 rfl dL_errors_283 ⟨by first | omega | (dsimp only; omega), by first | omega | (dsimp only; omega)⟩ (Nat.le_of_ble_eq_true rfl) ?_
    refine sp_L_setOrder hC3 ⟨by omega, by omega⟩ ⟨by decide, by decide⟩ ?_
    intro g4 I4 J4 hF4 hC4
    rw [rf_so] at hC4 ⊢
    replace hC4 : CInv X g4 I4 J4 c Q := hC4
    replace hF4 := hF3.tr hF4
    refine ZV_ldc2 (z := -9000000000000000002) dL_errors_286 lL_errors_17 ?_
    refine ZV_lsame_ne (tgt := 333) dL_errors_289 dL_errors_290 (by decide) ?_
    refine ZV_aload_n dL_errors_293 rfl ?_
    refine ZV_iload_n dL_errors_294 rfl ?_
    refine cl_L_ifRemoved kL_errors_130 rfl dL_errors_295 ⟨by first | omega | (dsimp only; omega), by first | omega | (dsimp only; omega)⟩ (Nat.le_of_ble_eq_true rfl) ?_
    refine sp_L_ifRemoved hC4 ⟨by omega, by omega⟩ ⟨by decide, by decide⟩ ?_
    intro g5 I5 J5 hF5 hC5
    rw [rf_if]
    replace hF5 := hF4.tr hF5
    refine ZV_ldc2 (z := -9000000000000000001) dL_errors_298 lL_errors_36 ?_
    refine ZV_lsame_ne (tgt := 333) dL_errors_301 dL_errors_302 (by decide) ?_
    refine ZV_aload_n dL_errors_305 rfl ?_
    refine ZV_iconst dL_errors_306 ?_
    refine cl_L_freeYear kL_errors_132 rfl dL_errors_307 ⟨by first | omega | (dsimp only; omega), by first | omega | (dsimp only; omega)⟩ (Nat.le_of_ble_eq_true rfl) ?_
    refine sp_L_freeYear hC5 ⟨by omega, by omega⟩ ⟨by decide, by decide⟩ ?_
    rw [rf_fr]
    refine ZV_ldc2 (z := -9000000000000000001) dL_errors_310 lL_errors_36 ?_
    refine ZV_lsame_ne (tgt := 333) dL_errors_313 dL_errors_314 (by decide) ?_
    refine ZV_aload_n dL_errors_317 rfl ?_
    refine ZV_iconst dL_errors_318 ?_
    refine cl_L_lettersWith kL_errors_134 rfl dL_errors_319 ⟨by first | omega | (dsimp only; omega), by first | omega | (dsimp only; omega)⟩ (Nat.le_of_ble_eq_true rfl) ?_
    refine sp_L_lettersWith hC5 ⟨by omega, by omega⟩ ⟨by decide, by decide⟩ ?_
    intro g6 I6 J6 hF6 hC6
    rw [rf_lw]
    replace hF6 := hF5.tr hF6
    refine ZV_ldc2 (z := -9000000000000000002) dL_errors_322 lL_errors_17 ?_
    refine ZV_lsame_ne (tgt := 333) dL_errors_325 dL_errors_326 (by decide) ?_
    refine ZV_iconst dL_errors_329 ?_
    refine ZV_goto (tgt := 334) dL_errors_330 (by decide) ?_
    refine ZV_istore4 dL_errors_334 rfl (by decide) ?_
    exact t336 g6 I6 J6 _ hF6 hC6 (by first | omega | (dsimp only; omega)) (by first | omega | (dsimp only; omega))
  have t132 : ∀ (g1 : Geo) (I1 J1 : Mm) (o4 : Option Value) (b' : Nat × Nat), CFr g g1 I I1 J J1 c → CInv X g1 I1 J1 c Q → 2665 ≤ b'.1 → 15990 ≤ b'.2 → ZV X E_L_errors 132 [some (.ref c), some (vl (nowV Q.2.1)), none, some (vi (aN Q.2.1 : Int)), o4] [] b' g1 I1 J1 post := by
    intro g1 I1 J1 o4 b' hF1 hC1 hb1 hb2
    have kc1 := hC1.1.1.1
    refine ZV_aload_n dL_errors_132 rfl ?_
    refine ZV_iload_n dL_errors_133 rfl ?_
    refine ZV_bipush dL_errors_134 (by decide) ?_
    refine ZV_iconst dL_errors_136 ?_
    refine cl_L_letter kL_errors_109 rfl dL_errors_137 ⟨by first | omega | (dsimp only; omega), by first | omega | (dsimp only; omega)⟩ (Nat.le_of_ble_eq_true rfl) ?_
    refine sp_L_letter hC1 ⟨by omega, by omega⟩ ⟨by omega, by omega⟩ ⟨by omega, by omega⟩ ⟨by decide, by decide⟩ ?_
    rw [rf_ltn]
    refine ZV_ldc2 (z := -9000000000000000001) dL_errors_140 lL_errors_36 ?_
    refine ZV_lsame_ne (tgt := 188) dL_errors_143 dL_errors_144 (by decide) ?_
    refine ZV_aload_n dL_errors_147 rfl ?_
    refine ZV_iconst dL_errors_148 ?_
    refine ZV_iconst dL_errors_149 ?_
    refine cl_L_key kL_errors_107 rfl dL_errors_150 ⟨by first | omega | (dsimp only; omega), by first | omega | (dsimp only; omega)⟩ (Nat.le_of_ble_eq_true rfl) ?_
    refine sp_L_key hC1 ⟨by omega, by omega⟩ ⟨by omega, by omega⟩ ⟨by decide, by decide⟩ ?_
    rw [rf_kym]
    refine ZV_ldc2 (z := -9000000000000000001) dL_errors_153 lL_errors_36 ?_
    refine ZV_lsame_ne (tgt := 188) dL_errors_156 dL_errors_157 (by decide) ?_
    refine ZV_aload_n dL_errors_160 rfl ?_
    refine ZV_iconst dL_errors_161 ?_
    refine cl_L_at kL_errors_118 rfl dL_errors_162 ⟨by first | omega | (dsimp only; omega), by first | omega | (dsimp only; omega)⟩ (Nat.le_of_ble_eq_true rfl) ?_
    refine sp_L_at hC1 ⟨by omega, by omega⟩ ⟨by decide, by decide⟩ ?_
    rw [rf_at]
    refine ZV_ldc2 (z := -9000000000000000002) dL_errors_165 lL_errors_17 ?_
    refine ZV_lsame_ne (tgt := 188) dL_errors_168 dL_errors_169 (by decide) ?_
    refine ZV_aload_n dL_errors_172 rfl ?_
    refine ZV_iconst dL_errors_173 ?_
    refine cl_L_printed kL_errors_112 rfl dL_errors_174 ⟨by first | omega | (dsimp only; omega), by first | omega | (dsimp only; omega)⟩ (Nat.le_of_ble_eq_true rfl) ?_
    refine sp_L_printed hC1 ⟨by omega, by omega⟩ ⟨by decide, by decide⟩ ?_
    rw [rf_pr]
    refine ZV_ldc2 (z := -9000000000000000002) dL_errors_177 lL_errors_17 ?_
    refine ZV_lsame_ne (tgt := 188) dL_errors_180 dL_errors_181 (by decide) ?_
    refine ZV_iconst dL_errors_184 ?_
    refine ZV_goto (tgt := 189) dL_errors_185 (by decide) ?_
    refine ZV_istore4 dL_errors_189 rfl (by decide) ?_
    refine ZV_iload dL_errors_191 rfl ?_
    refine ZV_one_eq (tgt := 333) dL_errors_193 (by decide) ?_
    refine ZV_aload_n dL_errors_196 rfl ?_
    refine ZV_iload_n dL_errors_197 rfl ?_
    refine cl_L_change kL_errors_120 rfl dL_errors_198 ⟨by first | omega | (dsimp only; omega), by first | omega | (dsimp only; omega)⟩ (Nat.le_of_ble_eq_true rfl) ?_
    refine sp_L_change hC1 ⟨by omega, by omega⟩ ⟨by decide, by decide⟩ ?_
    intro g2 I2 J2 hF2 hC2
    rw [rf_ch Q.1 Q.2] at hC2 ⊢
    replace hC2 : CInv X g2 I2 J2 c Q := hC2
    replace hF2 := hF1.tr hF2
    refine ZV_ldc2 (z := -9000000000000000001) dL_errors_201 lL_errors_36 ?_
    refine ZV_lsame_ne (tgt := 333) dL_errors_204 dL_errors_205 (by decide) ?_
    refine ZV_aload_n dL_errors_208 rfl ?_
    refine ZV_iload_n dL_errors_209 rfl ?_
    refine ZV_iconst dL_errors_210 ?_
    refine cl_L_setYear kL_errors_122 rfl dL_errors_211 ⟨by first | omega | (dsimp only; omega), by first | omega | (dsimp only; omega)⟩ (Nat.le_of_ble_eq_true rfl) ?_
    refine sp_L_setYear hC2 ⟨by omega, by omega⟩ ⟨by omega, by omega⟩ ⟨by decide, by decide⟩ ?_
    intro g3 I3 J3 hF3 hC3
    rw [rf_sy Q.2] at hC3 ⊢
    replace hC3 : CInv X g3 I3 J3 c Q := hC3
    replace hF3 := hF2.tr hF3
    refine ZV_ldc2 (z := -9000000000000000001) dL_errors_214 lL_errors_36 ?_
    refine ZV_lsame_ne (tgt := 333) dL_errors_217 dL_errors_218 (by decide) ?_
    refine ZV_iload_n dL_errors_221 rfl ?_
    refine ZV_if_eq (tgt := 257) dL_errors_222 (by decide) ⟨by omega, by omega⟩ (fun h222 => ?_) (fun h222 => ?_)
    · exact t257 g3 I3 J3 _ hF3 hC3 (by first | omega | (dsimp only; omega)) (by first | omega | (dsimp only; omega))
    · refine ZV_aload_n dL_errors_225 rfl ?_
      refine ZV_iconst dL_errors_226 ?_
      refine ZV_sipush dL_errors_227 (by decide) ?_
      refine cl_L_setYear kL_errors_122 rfl dL_errors_230 ⟨by first | omega | (dsimp only; omega), by first | omega | (dsimp only; omega)⟩ (Nat.le_of_ble_eq_true rfl) ?_
      refine sp_L_setYear hC3 ⟨by omega, by omega⟩ ⟨by omega, by omega⟩ ⟨by decide, by decide⟩ ?_
      intro g4 I4 J4 hF4 hC4
      rw [rf_sy0 (R := Q.2) (by show 0 < aN Q.2.1; omega)] at hC4 ⊢
      replace hC4 : CInv X g4 I4 J4 c Q := hC4
      replace hF4 := hF3.tr hF4
      refine ZV_ldc2 (z := -9000000000000000002) dL_errors_233 lL_errors_17 ?_
      refine ZV_lsame_ne (tgt := 333) dL_errors_236 dL_errors_237 (by decide) ?_
      refine ZV_aload_n dL_errors_240 rfl ?_
      refine ZV_iload_n dL_errors_241 rfl ?_
      refine ZV_iconst dL_errors_242 ?_
      refine ZV_isub dL_errors_243 ?_
      refine ZV_sipush dL_errors_244 (by decide) ?_
      refine cl_L_setYear kL_errors_122 rfl dL_errors_247 ⟨by first | omega | (dsimp only; omega), by first | omega | (dsimp only; omega)⟩ (Nat.le_of_ble_eq_true rfl) ?_
      refine sp_L_setYear hC4 ⟨by omega, by omega⟩ ⟨by omega, by omega⟩ ⟨by decide, by decide⟩ ?_
      intro g5 I5 J5 hF5 hC5
      rw [rf_sy1 (R := Q.2) (by show 0 < aN Q.2.1; omega)] at hC5 ⊢
      replace hC5 : CInv X g5 I5 J5 c Q := hC5
      replace hF5 := hF4.tr hF5
      refine ZV_ldc2 (z := -9000000000000000002) dL_errors_250 lL_errors_17 ?_
      refine ZV_lsame_ne (tgt := 333) dL_errors_253 dL_errors_254 (by decide) ?_
      exact t257 g5 I5 J5 _ hF5 hC5 (by first | omega | (dsimp only; omega)) (by first | omega | (dsimp only; omega))
  refine ZV_aload_n dL_errors_0 rfl ?_
  refine cl_L_now kL_errors_114 rfl dL_errors_1 ⟨by first | omega | (dsimp only; omega), by first | omega | (dsimp only; omega)⟩ (Nat.le_of_ble_eq_true rfl) ?_
  refine sp_L_now hC ⟨by decide, by decide⟩ ?_
  refine ZV_lstore1 dL_errors_4 rfl (by decide) ?_
  refine ZV_aload_n dL_errors_5 rfl ?_
  refine ZV_iconst dL_errors_6 ?_
  refine cl_L_about kL_errors_99 rfl dL_errors_7 ⟨by first | omega | (dsimp only; omega), by first | omega | (dsimp only; omega)⟩ (Nat.le_of_ble_eq_true rfl) ?_
  refine sp_L_about hC ⟨by omega, by omega⟩ ⟨by decide, by decide⟩ ?_
  rw [ab_n]
  refine ZV_l2i dL_errors_10 ?_
  refine ZV_istore3 dL_errors_11 rfl (by decide) ?_
  refine ZV_aload_n dL_errors_12 rfl ?_
  refine ZV_iconst dL_errors_13 ?_
  refine cl_L_about kL_errors_99 rfl dL_errors_14 ⟨by first | omega | (dsimp only; omega), by first | omega | (dsimp only; omega)⟩ (Nat.le_of_ble_eq_true rfl) ?_
  refine sp_L_about hC ⟨by omega, by omega⟩ ⟨by decide, by decide⟩ ?_
  rw [rf_ab1]
  refine ZV_ldc2 (z := -9000000000000000002) dL_errors_17 lL_errors_17 ?_
  refine ZV_lsame_ne (tgt := 188) dL_errors_20 dL_errors_21 (by decide) ?_
  refine ZV_aload_n dL_errors_24 rfl ?_
  refine ZV_bipush dL_errors_25 (by decide) ?_
  refine cl_L_about kL_errors_99 rfl dL_errors_27 ⟨by first | omega | (dsimp only; omega), by first | omega | (dsimp only; omega)⟩ (Nat.le_of_ble_eq_true rfl) ?_
  refine sp_L_about hC ⟨by omega, by omega⟩ ⟨by decide, by decide⟩ ?_
  rw [rf_ab8]
  refine ZV_ldc2 (z := -9000000000000000002) dL_errors_30 lL_errors_17 ?_
  refine ZV_lsame_ne (tgt := 188) dL_errors_33 dL_errors_34 (by decide) ?_
  refine ZV_aload_n dL_errors_37 rfl ?_
  refine ZV_iload_n dL_errors_38 rfl ?_
  refine ZV_bipush dL_errors_39 (by decide) ?_
  refine cl_L_work kL_errors_104 rfl dL_errors_41 ⟨by first | omega | (dsimp only; omega), by first | omega | (dsimp only; omega)⟩ (Nat.le_of_ble_eq_true rfl) ?_
  refine sp_L_work hC ⟨by omega, by omega⟩ ⟨by omega, by omega⟩ ⟨by decide, by decide⟩ ?_
  rw [rf_wk9]
  refine ZV_ldc2 (z := -9000000000000000001) dL_errors_44 lL_errors_36 ?_
  refine ZV_lsame_ne (tgt := 188) dL_errors_47 dL_errors_48 (by decide) ?_
  refine ZV_iload_n dL_errors_51 rfl ?_
  refine ZV_if_eq (tgt := 132) dL_errors_52 (by decide) ⟨by omega, by omega⟩ (fun h52 => ?_) (fun h52 => ?_)
  · exact t132 g I J _ _ (CFr.rf g I J c) hC (by first | omega | (dsimp only; omega)) (by first | omega | (dsimp only; omega))
  · have hn : 0 < aN Q.2.1 := by omega
    have na := (hG.2.1 0 hn).1
    refine ZV_aload_n dL_errors_55 rfl ?_
    refine ZV_iconst dL_errors_56 ?_
    refine ZV_bipush dL_errors_57 (by decide) ?_
    refine cl_L_work kL_errors_104 rfl dL_errors_59 ⟨by first | omega | (dsimp only; omega), by first | omega | (dsimp only; omega)⟩ (Nat.le_of_ble_eq_true rfl) ?_
    refine sp_L_work hC ⟨by omega, by omega⟩ ⟨by omega, by omega⟩ ⟨by decide, by decide⟩ ?_
    rw [rf_wk7 hn]
    refine ZV_ldc2 (z := -9000000000000000002) dL_errors_62 lL_errors_17 ?_
    refine ZV_lsame_ne (tgt := 188) dL_errors_65 dL_errors_66 (by decide) ?_
    refine ZV_aload_n dL_errors_69 rfl ?_
    refine ZV_iconst dL_errors_70 ?_
    refine ZV_iconst dL_errors_71 ?_
    refine ZV_iconst dL_errors_72 ?_
    refine cl_L_letter kL_errors_109 rfl dL_errors_73 ⟨by first | omega | (dsimp only; omega), by first | omega | (dsimp only; omega)⟩ (Nat.le_of_ble_eq_true rfl) ?_
    refine sp_L_letter hC ⟨by omega, by omega⟩ ⟨by omega, by omega⟩ ⟨by omega, by omega⟩ ⟨by decide, by decide⟩ ?_
    rw [rf_lta hn]
    refine ZV_ldc2 (z := -9000000000000000002) dL_errors_76 lL_errors_17 ?_
    refine ZV_lsame_ne (tgt := 188) dL_errors_79 dL_errors_80 (by decide) ?_
    refine ZV_aload_n dL_errors_83 rfl ?_
    refine ZV_iconst dL_errors_84 ?_
    refine ZV_aload_n dL_errors_85 rfl ?_
    refine ZV_iconst dL_errors_86 ?_
    refine ZV_iconst dL_errors_87 ?_
    refine cl_L_work kL_errors_104 rfl dL_errors_88 ⟨by first | omega | (dsimp only; omega), by first | omega | (dsimp only; omega)⟩ (Nat.le_of_ble_eq_true rfl) ?_
    refine sp_L_work hC ⟨by omega, by omega⟩ ⟨by omega, by omega⟩ ⟨by decide, by decide⟩ ?_
    have e1 : wkL Q.2.1 0 1 = (aW Q.2.1 0).2.1 := wk_1 hn
    rw [e1]
    refine ZV_l2i dL_errors_91 ?_
    refine ZV_iconst dL_errors_92 ?_
    refine ZV_iadd dL_errors_93 ?_
    refine ZV_iconst dL_errors_94 ?_
    refine cl_L_letter kL_errors_109 rfl dL_errors_95 ⟨by first | omega | (dsimp only; omega), by first | omega | (dsimp only; omega)⟩ (Nat.le_of_ble_eq_true rfl) ?_
    refine sp_L_letter hC ⟨by omega, by omega⟩ ⟨by omega, by omega⟩ ⟨by omega, by omega⟩ ⟨by decide, by decide⟩ ?_
    rw [rf_ltb hn]
    refine ZV_ldc2 (z := -9000000000000000002) dL_errors_98 lL_errors_17 ?_
    refine ZV_lsame_ne (tgt := 188) dL_errors_101 dL_errors_102 (by decide) ?_
    refine ZV_aload_n dL_errors_105 rfl ?_
    refine ZV_iconst dL_errors_106 ?_
    refine ZV_iconst dL_errors_107 ?_
    refine ZV_iconst dL_errors_108 ?_
    refine cl_L_letter kL_errors_109 rfl dL_errors_109 ⟨by first | omega | (dsimp only; omega), by first | omega | (dsimp only; omega)⟩ (Nat.le_of_ble_eq_true rfl) ?_
    refine sp_L_letter hC ⟨by omega, by omega⟩ ⟨by omega, by omega⟩ ⟨by omega, by omega⟩ ⟨by decide, by decide⟩ ?_
    rw [rf_ltc hn]
    refine ZV_ldc2 (z := -9000000000000000002) dL_errors_112 lL_errors_17 ?_
    refine ZV_lsame_ne (tgt := 188) dL_errors_115 dL_errors_116 (by decide) ?_
    refine ZV_aload_n dL_errors_119 rfl ?_
    refine ZV_iconst dL_errors_120 ?_
    refine ZV_iconst dL_errors_121 ?_
    refine cl_L_key kL_errors_107 rfl dL_errors_122 ⟨by first | omega | (dsimp only; omega), by first | omega | (dsimp only; omega)⟩ (Nat.le_of_ble_eq_true rfl) ?_
    refine sp_L_key hC ⟨by omega, by omega⟩ ⟨by omega, by omega⟩ ⟨by decide, by decide⟩ ?_
    rw [rf_ky hn]
    refine ZV_ldc2 (z := -9000000000000000002) dL_errors_125 lL_errors_17 ?_
    refine ZV_lsame_ne (tgt := 188) dL_errors_128 dL_errors_129 (by decide) ?_
    exact t132 g I J _ _ (CFr.rf g I J c) hC (by first | omega | (dsimp only; omega)) (by first | omega | (dsimp only; omega))
end ZL3

