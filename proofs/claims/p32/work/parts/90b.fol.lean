/-! what follows: printing, years -/
section ZL7
variable {X : Xt} {g : Geo} {I J : Mm} {b : Nat × Nat} {post : Out → Geo → Mm → Mm → Prop} {c : Nat} {x : Int} {T : Txt} {A : ASt} {H : Nat × (Nat → ASt)} {V : Nat → Option ASt}
variable {o6 o7 o8 o9 o10 o11 o12 o13 o14 o15 o16 o17 o18 o19 o20 : Option Value}
theorem fo_558 {i : Nat} {nr : Int} (hi : i < aN A) (hC : CInv X g I J c (T, (A, H, sl1 A V))) (hb : 5300 ≤ b.1 ∧ 31800 ≤ b.2) (hx : ∀ (g' : Geo) (I' J' : Mm) (T' : Txt) (f : Nat → ASt), CFr g g' I I' J J' c → CInv X g' I' J' c (T', (A, (0, f), sl1 A V)) → post (.inl (some (vi 1))) g' I' J') : ZV X E_L_follows 558 [some (.ref c), some (vi x), some (vl (nowV A)), none, some (vi (aN A : Int)), some (vi 1), o6, o7, o8, some (vi (i : Int)), some (vl (hangN A i)), none, o12, o13, some (vl (zsum (F1 A i) (aN A))), none, o16, o17, o18, some (vi nr), o20] [] b g I J post := by
  have hG : GoodSt A := hC.good
  have h16 : aN A ≤ 16 := hG.1.1
  have h14 := hC.hist
  have kc := hC.1.1.1
  have e6 : abL (aPrint A (keyOf A)) 6 = (aN A : Int) := (ab_at _ (k := 6) (by decide)).trans rfl
  have e7 : abL (aPrint A (keyOf A)) 7 = 0 := (ab_at _ (k := 7) (by decide)).trans pr_gone
  have p2 : prL (aPrint A (keyOf A)) 2 = (aN A : Int) := (pr_at _ (k := 2) (by decide)).trans (pr_still hG)
  refine ZV_iload dL_follows_558 rfl ?_
  refine ZV_one_eq (tgt := 619) dL_follows_560 (by decide) ?_
  refine ZV_aload_n dL_follows_563 rfl ?_
  refine cl_X6_print kL_follows_205 rfl dL_follows_564 (by assumption) (Nat.le_of_ble_eq_true rfl) ?_
  refine sp_X6_print hC ?_
  intro I1 J1 hF1 hC1
  have kc1 := hC1.1.1.1
  show ZV X E_L_follows _ _ (vi (aN A : Int) :: _) _ _ _ _ _
  refine ZV_iload dL_follows_567 rfl ?_
  refine ZV_icmp_ne (tgt := 619) dL_follows_569 (by decide) ⟨by omega, by omega⟩ ⟨by omega, by omega⟩ (fun h569 => ?_) (fun h569 => ?_)
  · exact absurd rfl (by assumption)
  · refine ZV_aload_n dL_follows_572 rfl ?_
    refine ZV_bipush dL_follows_573 (by decide) ?_
    refine cl_L_about kL_follows_99 rfl dL_follows_575 ⟨by first | omega | (dsimp only; omega), by first | omega | (dsimp only; omega)⟩ (Nat.le_of_ble_eq_true rfl) ?_
    refine sp_L_about hC1 ⟨by omega, by omega⟩ ⟨by decide, by decide⟩ ?_
    rw [e6]
    refine ZV_iload dL_follows_578 rfl ?_
    refine ZV_i2l dL_follows_580 ⟨by omega, by omega⟩ ?_
    refine ZV_lsame_ne (tgt := 619) dL_follows_581 dL_follows_582 (by decide) ?_
    refine ZV_aload_n dL_follows_585 rfl ?_
    refine ZV_bipush dL_follows_586 (by decide) ?_
    refine cl_L_about kL_follows_99 rfl dL_follows_588 ⟨by first | omega | (dsimp only; omega), by first | omega | (dsimp only; omega)⟩ (Nat.le_of_ble_eq_true rfl) ?_
    refine sp_L_about hC1 ⟨by omega, by omega⟩ ⟨by decide, by decide⟩ ?_
    rw [e7]
    refine ZV_lconst (z := 0) dL_follows_591 (by decide) ?_
    refine ZV_lsame_ne (tgt := 619) dL_follows_592 dL_follows_593 (by decide) ?_
    refine ZV_aload_n dL_follows_596 rfl ?_
    refine ZV_iconst dL_follows_597 ?_
    refine cl_L_printed kL_follows_112 rfl dL_follows_598 ⟨by first | omega | (dsimp only; omega), by first | omega | (dsimp only; omega)⟩ (Nat.le_of_ble_eq_true rfl) ?_
    refine sp_L_printed hC1 ⟨by omega, by omega⟩ ⟨by decide, by decide⟩ ?_
    rw [p2]
    refine ZV_iload dL_follows_601 rfl ?_
    refine ZV_i2l dL_follows_603 ⟨by omega, by omega⟩ ?_
    refine ZV_lsame_ne (tgt := 619) dL_follows_604 dL_follows_605 (by decide) ?_
    refine ZV_aload_n dL_follows_608 rfl ?_
    refine cl_X6_clearText kL_follows_208 rfl dL_follows_609 (by assumption) (Nat.le_of_ble_eq_true rfl) ?_
    have t1 := hC1.2.2.1.2.1
    refine sp_X6_clearText hC1 ?_
    intro I2 J2 hF2 hC2
    refine ZV_if_lt (tgt := 619) dL_follows_612 (by decide) ⟨by omega, by omega⟩ (fun h612 => ?_) (fun h612 => ?_)
    · omega
    · refine ZV_iconst dL_follows_615 ?_
      refine ZV_goto (tgt := 620) dL_follows_616 (by decide) ?_
      refine ZV_istore5 dL_follows_620 rfl (by decide) ?_
      exact fo_622 hi hG h14 hC2 ⟨(by first | omega | (dsimp only; omega)), (by first | omega | (dsimp only; omega))⟩ (fun g' I' J' T' f q => hx g' I' J' T' f ((hF1.tr hF2).tr q))
theorem fo_495 {i : Nat} {nr ow : Int} (hi : i < aN A) (hC : CInv X g I J c (T, (A, H, sl1 A V))) (hnr : (1000 ≤ nr ∧ nr ≤ 2999) ∧ (1 < (zsum (F1 A i) (aN A)) → frN A i nr ≠ 0)) (hb : 7910 ≤ b.1 ∧ 47460 ≤ b.2) (hx : ∀ (g' : Geo) (I' J' : Mm) (T' : Txt) (f : Nat → ASt), CFr g g' I I' J J' c → CInv X g' I' J' c (T', (A, (0, f), sl1 A V)) → post (.inl (some (vi 1))) g' I' J') : ZV X E_L_follows 495 [some (.ref c), some (vi x), some (vl (nowV A)), none, some (vi (aN A : Int)), some (vi 1), o6, o7, o8, some (vi (i : Int)), some (vl (hangN A i)), none, o12, o13, some (vl (zsum (F1 A i) (aN A))), none, o16, some (vi ow), o18, some (vi nr), o20] [] b g I J post := by
  have hG : GoodSt A := hC.good
  have h16 : aN A ≤ 16 := hG.1.1
  have h14 := hC.hist
  have fp := F1_pos hi
  have fr := zsum_01 (f := F1 A i) (aN A) (fun k _ => F1_01 A i k)
  obtain ⟨B, hB⟩ : ∃ B, B = aSet A i (yrW (aW A i) nr) := ⟨_, rfl⟩
  have hBn : aN B = aN A := by rw [hB]; rfl
  have e1 : syL (A, H, sl1 A V) (i : Int) nr = (chgN B (keyOf A), (B, hpush H A, sl1 A V)) := by
    rw [hB]
    exact (if_pos ⟨by omega, by show (i : Int) < (aN A : Int); omega⟩).trans (if_pos hnr.1)
  have cr := chgN_rng B (keyOf A)
  have s1 := set_shr nr hi
  rw [← hB] at s1
  have w6 : wkL B (i : Int) 6 = 1 + frN A i nr := ((wk_at (k := 6) (by rw [hBn]; exact hi) (by decide)).trans (by show zsum (F1 B i) (aN B) = zsum (F1 B i) (aN A); rw [hBn])).trans s1
  have fn := frN_rng A i nr
  obtain ⟨k, fk, k14, un⟩ := un_push B A H (sl1 A V) h14
  have p542 : ∀ (g1 : Geo) (I1 J1 : Mm) (H1 : Nat × (Nat → ASt)) (b' : Nat × Nat), CFr g g1 I I1 J J1 c → CInv X g1 I1 J1 c (T, (A, H1, sl1 A V)) → 7900 ≤ b'.1 → 47400 ≤ b'.2 → ZV X E_L_follows 542 [some (.ref c), some (vi x), some (vl (nowV A)), none, some (vi (aN A : Int)), some (vi 1), o6, o7, o8, some (vi (i : Int)), some (vl (hangN A i)), none, o12, o13, some (vl (zsum (F1 A i) (aN A))), none, o16, some (vi ow), o18, some (vi nr), o20] [] b' g1 I1 J1 post := by
    intro g1 I1 J1 H1 b' hF1 hC1 hb1 hb2
    refine ZV_aload_n dL_follows_542 rfl ?_
    refine cl_L_now kL_follows_114 rfl dL_follows_543 ⟨by first | omega | (dsimp only; omega), by first | omega | (dsimp only; omega)⟩ (Nat.le_of_ble_eq_true rfl) ?_
    refine sp_L_now hC1 ⟨by decide, by decide⟩ ?_
    refine ZV_lload_n dL_follows_546 rfl ?_
    refine ZV_lsame_ne (tgt := 555) dL_follows_547 dL_follows_548 (by decide) ?_
    refine ZV_iconst dL_follows_551 ?_
    refine ZV_goto (tgt := 556) dL_follows_552 (by decide) ?_
    refine ZV_istore5 dL_follows_556 rfl (by decide) ?_
    exact fo_558 hi hC1 ⟨(by first | omega | (dsimp only; omega)), (by first | omega | (dsimp only; omega))⟩ (fun g' I' J' T' f q => hx g' I' J' T' f ((hF1).tr q))
  refine ZV_iload dL_follows_495 rfl ?_
  refine ZV_one_eq (tgt := 555) dL_follows_497 (by decide) ?_
  refine ZV_lload dL_follows_500 rfl ?_
  refine ZV_lconst (z := 1) dL_follows_502 (by decide) ?_
  refine ZV_lif_eq (tgt := 542) dL_follows_503 dL_follows_504 (by decide) ⟨by omega, by omega⟩ ⟨by omega, by omega⟩ (fun h503 => ?_) (fun h503 => ?_)
  · exact p542 g I J H _ (CFr.rf g I J c) hC (by first | omega | (dsimp only; omega)) (by first | omega | (dsimp only; omega))
  · have hs : 1 < (zsum (F1 A i) (aN A)) := by omega
    have hne := hnr.2 hs
    refine ZV_aload_n dL_follows_507 rfl ?_
    refine ZV_iload dL_follows_508 rfl ?_
    refine ZV_iload dL_follows_510 rfl ?_
    refine cl_L_setYear kL_follows_122 rfl dL_follows_512 ⟨by first | omega | (dsimp only; omega), by first | omega | (dsimp only; omega)⟩ (Nat.le_of_ble_eq_true rfl) ?_
    refine sp_L_setYear hC ⟨by omega, by omega⟩ ⟨by omega, by omega⟩ ⟨by decide, by decide⟩ ?_
    intro g1 I1 J1 hF1 hC1
    rw [e1] at hC1 ⊢
    refine ZV_lconst (z := 0) dL_follows_515 (by decide) ?_
    refine ZV_lif_lt (tgt := 555) dL_follows_516 dL_follows_517 (by decide) ⟨by omega, by omega⟩ ⟨by omega, by omega⟩ (fun h516 => ?_) (fun h516 => ?_)
    · omega
    · refine ZV_aload_n dL_follows_520 rfl ?_
      refine ZV_iload dL_follows_521 rfl ?_
      refine ZV_bipush dL_follows_523 (by decide) ?_
      refine cl_L_work kL_follows_104 rfl dL_follows_525 ⟨by first | omega | (dsimp only; omega), by first | omega | (dsimp only; omega)⟩ (Nat.le_of_ble_eq_true rfl) ?_
      refine sp_L_work hC1 ⟨by omega, by omega⟩ ⟨by omega, by omega⟩ ⟨by decide, by decide⟩ ?_
      rw [w6]
      refine ZV_lconst (z := 1) dL_follows_528 (by decide) ?_
      refine ZV_lif_le (tgt := 555) dL_follows_529 dL_follows_530 (by decide) ⟨by omega, by omega⟩ ⟨by omega, by omega⟩ (fun h529 => ?_) (fun h529 => ?_)
      · omega
      · refine ZV_aload_n dL_follows_533 rfl ?_
        refine cl_L_undo kL_follows_203 rfl dL_follows_534 ⟨by first | omega | (dsimp only; omega), by first | omega | (dsimp only; omega)⟩ (Nat.le_of_ble_eq_true rfl) ?_
        refine sp_L_undo hC1 ⟨by decide, by decide⟩ ?_
        intro g2 I2 J2 hF2 hC2
        rw [un] at hC2 ⊢
        refine ZV_lconst (z := 0) dL_follows_537 (by decide) ?_
        refine ZV_lif_lt (tgt := 555) dL_follows_538 dL_follows_539 (by decide) ⟨by omega, by omega⟩ ⟨by omega, by omega⟩ (fun h538 => ?_) (fun h538 => ?_)
        · omega
        · exact p542 g2 I2 J2 _ _ (hF1.tr hF2) hC2 (by first | omega | (dsimp only; omega)) (by first | omega | (dsimp only; omega))
theorem fo_421 {i d : Nat} {yr : Int} (hi : i < aN A) (hC : CInv X g I J c (T, (A, H, sl1 A V))) (hx0 : 0 ≤ x ∧ x ≤ 2147483647) (hy : yr = (aW A i).2.2.1 - d ∨ yr = (aW A i).2.2.1 + d) (hd : (d : Int) ≤ 2999) (hz : ∀ z : Int, 1000 ≤ z → z ≤ 2999 → (aW A i).2.2.1 - d < z → z < (aW A i).2.2.1 + d → frN A i z ≠ 0) (hs : 1 < (zsum (F1 A i) (aN A)) → 1 ≤ d) (hb : 7910 ≤ b.1 ∧ 47460 ≤ b.2) (hx : ∀ (g' : Geo) (I' J' : Mm) (T' : Txt) (f : Nat → ASt), CFr g g' I I' J J' c → CInv X g' I' J' c (T', (A, (0, f), sl1 A V)) → post (.inl (some (vi 1))) g' I' J') : ZV X E_L_follows 421 [some (.ref c), some (vi x), some (vl (nowV A)), none, some (vi (aN A : Int)), some (vi 1), o6, o7, o8, some (vi (i : Int)), some (vl (hangN A i)), none, o12, o13, some (vl (zsum (F1 A i) (aN A))), none, some (vi yr), some (vi (aW A i).2.2.1), o18, o19, o20] [] b g I J post := by
  have hG : GoodSt A := hC.good
  have h16 : aN A ≤ 16 := hG.1.1
  have ow := (hG.2.1 i hi).2.2.2.1
  obtain ⟨x1, x2⟩ := hx0
  have d16 : x.tdiv 16 = x / 16 := Int.tdiv_eq_ediv_of_nonneg x1
  have m2 : (x / 16).tmod 2 = x / 16 % 2 := Int.tmod_eq_emod_of_nonneg (by omega)
  have p493 : ∀ (w v u : Int), (1000 ≤ w ∧ w ≤ 2999) → (1 < (zsum (F1 A i) (aN A)) → (aW A i).2.2.1 - d < w ∧ w < (aW A i).2.2.1 + d) → ∀ b' : Nat × Nat, 7910 ≤ b'.1 → 47460 ≤ b'.2 → ZV X E_L_follows 493 [some (.ref c), some (vi x), some (vl (nowV A)), none, some (vi (aN A : Int)), some (vi 1), o6, o7, o8, some (vi (i : Int)), some (vl (hangN A i)), none, o12, o13, some (vl (zsum (F1 A i) (aN A))), none, some (vi yr), some (vi (aW A i).2.2.1), some (vi v), some (vi u), o20] [vi w] b' g I J post := by
    intro w v u hw hw2 b' hb1 hb2
    refine ZV_istore19 dL_follows_493 rfl (by decide) ?_
    exact fo_495 hi hC ⟨hw, fun q => hz w hw.1 hw.2 (hw2 q).1 (hw2 q).2⟩ ⟨hb1, hb2⟩ hx
  have p469 : ∀ (w v : Int), w = (aW A i).2.2.1 - d + 1 ∨ w = (aW A i).2.2.1 + d - 1 → ∀ b' : Nat × Nat, 7910 ≤ b'.1 → 47460 ≤ b'.2 → ZV X E_L_follows 469 [some (.ref c), some (vi x), some (vl (nowV A)), none, some (vi (aN A : Int)), some (vi 1), o6, o7, o8, some (vi (i : Int)), some (vl (hangN A i)), none, o12, o13, some (vl (zsum (F1 A i) (aN A))), none, some (vi yr), some (vi (aW A i).2.2.1), some (vi v), o19, o20] [vi w] b' g I J post := by
    intro w v hw b' hb1 hb2
    refine ZV_istore19 dL_follows_469 rfl (by decide) ?_
    refine ZV_iload dL_follows_471 rfl ?_
    refine ZV_i2l dL_follows_473 ⟨by omega, by omega⟩ ?_
    refine ZV_ldc2 (z := 1000) dL_follows_474 lL_follows_189 ?_
    refine ZV_ldc2 (z := 2999) dL_follows_477 lL_follows_191 ?_
    refine cl_L_in kL_follows_164 rfl dL_follows_480 (Nat.le_of_ble_eq_true rfl) ?_
    refine sp_L_in ⟨by omega, by omega⟩ ⟨by omega, by omega⟩ ⟨by omega, by omega⟩ ?_
    by_cases q : 1000 ≤ w ∧ w ≤ 2999
    · rw [if_pos q]
      refine ZV_one_eq (tgt := 491) dL_follows_483 (by decide) ?_
      refine ZV_iload dL_follows_486 rfl ?_
      refine ZV_goto (tgt := 493) dL_follows_488 (by decide) ?_
      exact p493 _ _ _ q (fun hs1 => by have := hs hs1; omega) _ (by first | omega | (dsimp only; omega)) (by first | omega | (dsimp only; omega))
    · rw [if_neg q]
      refine ZV_if_eq (tgt := 491) dL_follows_483 (by decide) ⟨by omega, by omega⟩ (fun h483 => ?_) (fun h483 => ?_)
      · refine ZV_iload dL_follows_491 rfl ?_
        exact p493 _ _ _ ⟨by omega, by omega⟩ (fun hs1 => by have := hs hs1; omega) _ (by first | omega | (dsimp only; omega)) (by first | omega | (dsimp only; omega))
      · omega
  have p441 : ∀ (w : Int), w = d → ∀ b' : Nat × Nat, 7910 ≤ b'.1 → 47460 ≤ b'.2 → ZV X E_L_follows 441 [some (.ref c), some (vi x), some (vl (nowV A)), none, some (vi (aN A : Int)), some (vi 1), o6, o7, o8, some (vi (i : Int)), some (vl (hangN A i)), none, o12, o13, some (vl (zsum (F1 A i) (aN A))), none, some (vi yr), some (vi (aW A i).2.2.1), o18, o19, o20] [vi w] b' g I J post := by
    intro w hw b' hb1 hb2
    refine ZV_istore18 dL_follows_441 rfl (by decide) ?_
    refine ZV_iload_n dL_follows_443 rfl ?_
    refine ZV_bipush dL_follows_444 (by decide) ?_
    refine ZV_idiv dL_follows_446 ⟨by omega, by omega⟩ ⟨by omega, by omega⟩ (by omega) ?_
    rw [d16]
    refine ZV_iconst dL_follows_447 ?_
    refine ZV_irem dL_follows_448 ⟨by omega, by omega⟩ ⟨by omega, by omega⟩ (by omega) ?_
    rw [m2]
    refine ZV_if_ne (tgt := 462) dL_follows_449 (by decide) ⟨by omega, by omega⟩ (fun h449 => ?_) (fun h449 => ?_)
    · refine ZV_iload dL_follows_462 rfl ?_
      refine ZV_iload dL_follows_464 rfl ?_
      refine ZV_iadd dL_follows_466 ?_
      refine ZV_iconst dL_follows_467 ?_
      refine ZV_isub dL_follows_468 ?_
      exact p469 _ _ (by omega) _ hb1 hb2
    · refine ZV_iload dL_follows_452 rfl ?_
      refine ZV_iload dL_follows_454 rfl ?_
      refine ZV_isub dL_follows_456 ?_
      refine ZV_iconst dL_follows_457 ?_
      refine ZV_iadd dL_follows_458 ?_
      refine ZV_goto (tgt := 469) dL_follows_459 (by decide) ?_
      exact p469 _ _ (by omega) _ hb1 hb2
  refine ZV_iload dL_follows_421 rfl ?_
  refine ZV_iload dL_follows_423 rfl ?_
  refine ZV_icmp_ge (tgt := 436) dL_follows_425 (by decide) ⟨by omega, by omega⟩ ⟨by omega, by omega⟩ (fun h425 => ?_) (fun h425 => ?_)
  · refine ZV_iload dL_follows_436 rfl ?_
    refine ZV_iload dL_follows_438 rfl ?_
    refine ZV_isub dL_follows_440 ?_
    exact p441 _ (by omega) _ hb.1 hb.2
  · refine ZV_iload dL_follows_428 rfl ?_
    refine ZV_iload dL_follows_430 rfl ?_
    refine ZV_isub dL_follows_432 ?_
    refine ZV_goto (tgt := 441) dL_follows_433 (by decide) ?_
    exact p441 _ (by omega) _ hb.1 hb.2
theorem fo_292 {i : Nat} (hi : i < aN A) (hC : CInv X g I J c (T, (A, H, sl1 A V))) (hx0 : 0 ≤ x ∧ x ≤ 2147483647) (hb : 10530 ≤ b.1 ∧ 63180 ≤ b.2) (hx : ∀ (g' : Geo) (I' J' : Mm) (T' : Txt) (f : Nat → ASt), CFr g g' I I' J J' c → CInv X g' I' J' c (T', (A, (0, f), sl1 A V)) → post (.inl (some (vi 1))) g' I' J') : ZV X E_L_follows 292 [some (.ref c), some (vi x), some (vl (nowV A)), none, some (vi (aN A : Int)), some (vi 1), o6, o7, o8, some (vi (i : Int)), some (vl (hangN A i)), none, o12, o13, some (vl (zsum (F1 A i) (aN A))), none, o16, o17, o18, o19, o20] [] b g I J post := by
  have hG : GoodSt A := hC.good
  have h16 : aN A ≤ 16 := hG.1.1
  have h14 := hC.hist
  have ow := (hG.2.1 i hi).2.2.2.1
  obtain ⟨d, d1, d2, d3, d4⟩ := fy_facts hG hi
  obtain ⟨yr, hyr⟩ : ∃ yr, yr = fyF A i 2000 := ⟨_, rfl⟩
  rw [← hyr] at d1 d2 d3
  have fl : frL A (i : Int) = yr := by rw [hyr]; exact if_pos ⟨by omega, by omega⟩
  have w0 : wkL A (i : Int) 0 = (aW A i).2.2.1 := (wk_at (k := 0) hi (by decide)).trans rfl
  have os := own_shr hi
  have fo := frN_rng A i (aW A i).2.2.1
  have hdd : 1 < (zsum (F1 A i) (aN A)) → 1 ≤ d := fun q => by
    by_cases e : d = 0
    · have e2 : yr = (aW A i).2.2.1 := by omega
      rw [e2] at d3
      omega
    · omega
  have hd0 : ¬ 1 < (zsum (F1 A i) (aN A)) → d = 0 := fun q => by
    by_cases e : d = 0
    · exact e
    · exact absurd (show frN A i (aW A i).2.2.1 = 0 by omega) (d4 _ ow.1 ow.2 (by omega) (by omega))
  have fr := zsum_01 (f := F1 A i) (aN A) (fun k _ => F1_01 A i k)
  obtain ⟨B, hB⟩ : ∃ B, B = aSet A i (yrW (aW A i) yr) := ⟨_, rfl⟩
  have hBn : aN B = aN A := by rw [hB]; rfl
  have e1 : syL (A, H, sl1 A V) (i : Int) yr = (chgN B (keyOf A), (B, hpush H A, sl1 A V)) := by
    rw [hB]
    exact (if_pos ⟨by omega, by show (i : Int) < (aN A : Int); omega⟩).trans (if_pos d2)
  have cr := chgN_rng B (keyOf A)
  have s1 := set_shr yr hi
  rw [← hB, d3] at s1
  have hiB : i < aN B := by rw [hBn]; exact hi
  have s2 : zsum (F1 B i) (aN B) = 1 := by rw [hBn]; exact s1
  have w6 : wkL B (i : Int) 6 = 1 := ((wk_at (k := 6) hiB (by decide)).trans rfl).trans s2
  obtain ⟨k, fk, k14, un⟩ := un_push B A H (sl1 A V) h14
  have p358 : ∀ b' : Nat × Nat, 10520 ≤ b'.1 → 63120 ≤ b'.2 → ZV X E_L_follows 358 [some (.ref c), some (vi x), some (vl (nowV A)), none, some (vi (aN A : Int)), some (vi 1), o6, o7, o8, some (vi (i : Int)), some (vl (hangN A i)), none, o12, o13, some (vl (zsum (F1 A i) (aN A))), none, some (vi yr), some (vi (aW A i).2.2.1), o18, o19, o20] [] b' g I J post := by
    intro b' hb1 hb2
    refine ZV_aload_n dL_follows_358 rfl ?_
    refine ZV_iload dL_follows_359 rfl ?_
    refine ZV_iload dL_follows_361 rfl ?_
    refine cl_L_setYear kL_follows_122 rfl dL_follows_363 ⟨by first | omega | (dsimp only; omega), by first | omega | (dsimp only; omega)⟩ (Nat.le_of_ble_eq_true rfl) ?_
    refine sp_L_setYear hC ⟨by omega, by omega⟩ ⟨by omega, by omega⟩ ⟨by decide, by decide⟩ ?_
    intro g1 I1 J1 hF1 hC1
    rw [e1] at hC1 ⊢
    have hGB : GoodSt B := hC1.good
    have w4 : wkL B (i : Int) 4 = 0 := (wk_at (k := 4) hiB (by decide)).trans ((klet_key hGB hiB).trans (by rw [let_F, s2]; rfl))
    refine ZV_lconst (z := 0) dL_follows_366 (by decide) ?_
    refine ZV_lif_lt (tgt := 418) dL_follows_367 dL_follows_368 (by decide) ⟨by omega, by omega⟩ ⟨by omega, by omega⟩ (fun h367 => ?_) (fun h367 => ?_)
    · omega
    · refine ZV_aload_n dL_follows_371 rfl ?_
      refine ZV_iload dL_follows_372 rfl ?_
      refine ZV_bipush dL_follows_374 (by decide) ?_
      refine cl_L_work kL_follows_104 rfl dL_follows_376 ⟨by first | omega | (dsimp only; omega), by first | omega | (dsimp only; omega)⟩ (Nat.le_of_ble_eq_true rfl) ?_
      refine sp_L_work hC1 ⟨by omega, by omega⟩ ⟨by omega, by omega⟩ ⟨by decide, by decide⟩ ?_
      rw [w6]
      refine ZV_lconst (z := 1) dL_follows_379 (by decide) ?_
      refine ZV_lsame_ne (tgt := 418) dL_follows_380 dL_follows_381 (by decide) ?_
      refine ZV_aload_n dL_follows_384 rfl ?_
      refine ZV_iload dL_follows_385 rfl ?_
      refine ZV_iconst dL_follows_387 ?_
      refine cl_L_work kL_follows_104 rfl dL_follows_388 ⟨by first | omega | (dsimp only; omega), by first | omega | (dsimp only; omega)⟩ (Nat.le_of_ble_eq_true rfl) ?_
      refine sp_L_work hC1 ⟨by omega, by omega⟩ ⟨by omega, by omega⟩ ⟨by decide, by decide⟩ ?_
      rw [w4]
      refine ZV_lconst (z := 0) dL_follows_391 (by decide) ?_
      refine ZV_lsame_ne (tgt := 418) dL_follows_392 dL_follows_393 (by decide) ?_
      refine ZV_aload_n dL_follows_396 rfl ?_
      refine cl_L_undo kL_follows_203 rfl dL_follows_397 ⟨by first | omega | (dsimp only; omega), by first | omega | (dsimp only; omega)⟩ (Nat.le_of_ble_eq_true rfl) ?_
      refine sp_L_undo hC1 ⟨by decide, by decide⟩ ?_
      intro g2 I2 J2 hF2 hC2
      rw [un] at hC2 ⊢
      refine ZV_lconst (z := 0) dL_follows_400 (by decide) ?_
      refine ZV_lif_lt (tgt := 418) dL_follows_401 dL_follows_402 (by decide) ⟨by omega, by omega⟩ ⟨by omega, by omega⟩ (fun h401 => ?_) (fun h401 => ?_)
      · omega
      · refine ZV_aload_n dL_follows_405 rfl ?_
        refine cl_L_now kL_follows_114 rfl dL_follows_406 ⟨by first | omega | (dsimp only; omega), by first | omega | (dsimp only; omega)⟩ (Nat.le_of_ble_eq_true rfl) ?_
        refine sp_L_now hC2 ⟨by decide, by decide⟩ ?_
        refine ZV_lload_n dL_follows_409 rfl ?_
        refine ZV_lsame_ne (tgt := 418) dL_follows_410 dL_follows_411 (by decide) ?_
        refine ZV_iconst dL_follows_414 ?_
        refine ZV_goto (tgt := 419) dL_follows_415 (by decide) ?_
        refine ZV_istore5 dL_follows_419 rfl (by decide) ?_
        exact fo_421 hi hC2 hx0 d1 (by omega) d4 hdd ⟨(by first | omega | (dsimp only; omega)), (by first | omega | (dsimp only; omega))⟩ (fun g' I' J' T' f q => hx g' I' J' T' f ((hF1.tr hF2).tr q))
  refine ZV_aload_n dL_follows_292 rfl ?_
  refine ZV_iload dL_follows_293 rfl ?_
  refine cl_L_freeYear kL_follows_132 rfl dL_follows_295 ⟨by first | omega | (dsimp only; omega), by first | omega | (dsimp only; omega)⟩ (Nat.le_of_ble_eq_true rfl) ?_
  refine sp_L_freeYear hC ⟨by omega, by omega⟩ ⟨by decide, by decide⟩ ?_
  rw [fl]
  refine ZV_l2i dL_follows_298 ?_
  refine ZV_istore16 dL_follows_299 rfl (by decide) ?_
  refine ZV_aload_n dL_follows_301 rfl ?_
  refine ZV_iload dL_follows_302 rfl ?_
  refine ZV_iconst dL_follows_304 ?_
  refine cl_L_work kL_follows_104 rfl dL_follows_305 ⟨by first | omega | (dsimp only; omega), by first | omega | (dsimp only; omega)⟩ (Nat.le_of_ble_eq_true rfl) ?_
  refine sp_L_work hC ⟨by omega, by omega⟩ ⟨by omega, by omega⟩ ⟨by decide, by decide⟩ ?_
  rw [w0]
  refine ZV_l2i dL_follows_308 ?_
  refine ZV_istore17 dL_follows_309 rfl (by decide) ?_
  refine ZV_iload dL_follows_311 rfl ?_
  refine ZV_one_eq (tgt := 418) dL_follows_313 (by decide) ?_
  refine ZV_iload dL_follows_316 rfl ?_
  refine ZV_i2l dL_follows_318 ⟨by omega, by omega⟩ ?_
  refine ZV_ldc2 (z := 1000) dL_follows_319 lL_follows_189 ?_
  refine ZV_ldc2 (z := 2999) dL_follows_322 lL_follows_191 ?_
  refine cl_L_in kL_follows_164 rfl dL_follows_325 (Nat.le_of_ble_eq_true rfl) ?_
  refine sp_L_in ⟨by omega, by omega⟩ ⟨by omega, by omega⟩ ⟨by omega, by omega⟩ ?_
  rw [if_pos d2]
  refine ZV_one_eq (tgt := 418) dL_follows_328 (by decide) ?_
  refine ZV_lload dL_follows_331 rfl ?_
  refine ZV_lconst (z := 1) dL_follows_333 (by decide) ?_
  refine ZV_lif_le (tgt := 342) dL_follows_334 dL_follows_335 (by decide) ⟨by omega, by omega⟩ ⟨by omega, by omega⟩ (fun h334 => ?_) (fun h334 => ?_)
  · have q := hd0 (by omega)
    refine ZV_iconst dL_follows_342 ?_
    refine ZV_iload dL_follows_343 rfl ?_
    refine ZV_iload dL_follows_345 rfl ?_
    refine ZV_icmp_eq (tgt := 354) dL_follows_347 (by decide) ⟨by omega, by omega⟩ ⟨by omega, by omega⟩ (fun h347 => ?_) (fun h347 => ?_)
    · refine ZV_iconst dL_follows_354 ?_
      refine ZV_icmp_ne (tgt := 418) dL_follows_355 (by decide) ⟨by omega, by omega⟩ ⟨by omega, by omega⟩ (fun h355 => ?_) (fun h355 => ?_)
      · omega
      · exact p358 _ (by first | omega | (dsimp only; omega)) (by first | omega | (dsimp only; omega))
    · omega
  · have q := hdd (by omega)
    refine ZV_iconst dL_follows_338 ?_
    refine ZV_goto (tgt := 343) dL_follows_339 (by decide) ?_
    refine ZV_iload dL_follows_343 rfl ?_
    refine ZV_iload dL_follows_345 rfl ?_
    refine ZV_icmp_eq (tgt := 354) dL_follows_347 (by decide) ⟨by omega, by omega⟩ ⟨by omega, by omega⟩ (fun h347 => ?_) (fun h347 => ?_)
    · exact absurd (show 1 ≤ d from q) (by have h347 := h347; rcases d1 with e | e <;> omega)
    · refine ZV_iconst dL_follows_350 ?_
      refine ZV_goto (tgt := 355) dL_follows_351 (by decide) ?_
      refine ZV_icmp_ne (tgt := 418) dL_follows_355 (by decide) ⟨by omega, by omega⟩ ⟨by omega, by omega⟩ (fun h355 => ?_) (fun h355 => ?_)
      · omega
      · exact p358 _ (by first | omega | (dsimp only; omega)) (by first | omega | (dsimp only; omega))
end ZL7

