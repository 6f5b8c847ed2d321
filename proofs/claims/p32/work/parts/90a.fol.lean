/-! what follows: removing, free years, printing, taking back -/
def sl1 (A : ASt) (V : Nat → Option ASt) : Nat → Option ASt := fun k => if k = 1 then some A else V k
theorem un_push (B A : ASt) (H : Nat × (Nat → ASt)) (V : Nat → Option ASt) (h14 : H.1 ≤ 14) : ∃ (k : Nat) (f : Nat → ASt), k ≤ 14 ∧ unL (B, hpush H A, V) = ((k : Int), (A, (k, f), V)) := by
  unfold unL hpush
  by_cases c : H.1 = 14
  · refine ⟨13, fun k => if k = 13 then A else H.2 (k + 1), by decide, ?_⟩
    rw [if_pos c]
    rfl
  · refine ⟨H.1, fun k => if k = H.1 then A else H.2 k, h14, ?_⟩
    rw [if_neg c]
    have e : ∀ q : Nat, q + 1 ≠ 0 := fun q => by omega
    show (if H.1 + 1 = 0 then _ else (((H.1 + 1 - 1 : Nat) : Int), ((if H.1 + 1 - 1 = H.1 then A else H.2 (H.1 + 1 - 1)), (H.1 + 1 - 1, _), V))) = _
    rw [if_neg (e H.1), Nat.add_sub_cancel, if_pos rfl]
theorem un_push2 (B A C : ASt) (H : Nat × (Nat → ASt)) (V : Nat → Option ASt) (h14 : H.1 ≤ 14) : ∃ (k : Nat) (f : Nat → ASt), k ≤ 14 ∧ unL (B, hpush (hpush H A) C, V) = ((k : Int), (C, (k, f), V)) ∧ ∃ (k2 : Nat) (f2 : Nat → ASt), k2 ≤ 14 ∧ unL (C, (k, f), V) = ((k2 : Int), (A, (k2, f2), V)) := by
  have big : ∀ G : Nat × (Nat → ASt), G.1 = 14 → G.2 13 = A → ∃ (k : Nat) (f : Nat → ASt), k ≤ 14 ∧ unL (B, hpush G C, V) = ((k : Int), (C, (k, f), V)) ∧ ∃ (k2 : Nat) (f2 : Nat → ASt), k2 ≤ 14 ∧ unL (C, (k, f), V) = ((k2 : Int), (A, (k2, f2), V)) := by
    intro G h1 h2
    refine ⟨13, fun k => if k = 13 then C else G.2 (k + 1), by decide, ?_, 12, fun k => if k = 13 then C else G.2 (k + 1), by decide, ?_⟩
    · unfold unL hpush
      rw [if_pos h1]
      rfl
    · show (((12 : Nat) : Int), (G.2 13, (12, fun k => if k = 13 then C else G.2 (k + 1)), V)) = _
      rw [h2]
  by_cases c : H.1 = 14
  · refine big (hpush H A) ?_ ?_
    · unfold hpush; rw [if_pos c]
    · unfold hpush; rw [if_pos c]; rfl
  · by_cases c2 : H.1 = 13
    · refine big (hpush H A) ?_ ?_
      · unfold hpush; rw [if_neg c]; show H.1 + 1 = 14; omega
      · unfold hpush; rw [if_neg c]; show (if 13 = H.1 then A else H.2 13) = A; rw [if_pos c2.symm]
    · refine ⟨H.1 + 1, fun k => if k = H.1 + 1 then C else (if k = H.1 then A else H.2 k), by omega, ?_, H.1, fun k => if k = H.1 + 1 then C else (if k = H.1 then A else H.2 k), by omega, ?_⟩
      · have e : hpush (hpush H A) C = (H.1 + 1 + 1, fun k => if k = H.1 + 1 then C else (if k = H.1 then A else H.2 k)) := by
          have e1 : hpush H A = (H.1 + 1, fun k => if k = H.1 then A else H.2 k) := by unfold hpush; rw [if_neg c]
          rw [e1]
          unfold hpush
          exact if_neg (by show ¬ H.1 + 1 = 14; omega)
        rw [e]
        unfold unL
        show (if H.1 + 1 + 1 = 0 then _ else (((H.1 + 1 + 1 - 1 : Nat) : Int), ((if H.1 + 1 + 1 - 1 = H.1 + 1 then C else (if H.1 + 1 + 1 - 1 = H.1 then A else H.2 (H.1 + 1 + 1 - 1))), (H.1 + 1 + 1 - 1, _), V))) = _
        rw [if_neg (by omega), Nat.add_sub_cancel, if_pos rfl]
      · unfold unL
        show (if H.1 + 1 = 0 then _ else (((H.1 + 1 - 1 : Nat) : Int), ((if H.1 + 1 - 1 = H.1 + 1 then C else (if H.1 + 1 - 1 = H.1 then A else H.2 (H.1 + 1 - 1))), (H.1 + 1 - 1, _), V))) = _
        rw [if_neg (by omega), Nat.add_sub_cancel, if_neg (by omega), if_pos rfl]
def kyT (κ : Int) (f : Nat → Int) : Nat → Txt
  | 0 => (0, f)
  | k + 1 => txAdd (kyT κ f k) (kch κ k)
theorem kyT_len (κ : Int) (f : Nat → Int) : ∀ k, (kyT κ f k).1 = k := by
  intro k
  induction k with
  | zero => rfl
  | succ k ih => show (kyT κ f k).1 + 1 = k + 1; rw [ih]
theorem kyT_at (κ : Int) (f : Nat → Int) : ∀ k p : Nat, p < k → (kyT κ f k).2 p = kch κ p := by
  intro k
  induction k with
  | zero => intro p hp; exact absurd hp (Nat.not_lt_zero p)
  | succ k ih =>
    intro p hp
    show (if p = (kyT κ f k).1 then kch κ k else (kyT κ f k).2 p) = kch κ p
    rw [kyT_len]
    by_cases e : p = k
    · rw [if_pos e, e]
    · rw [if_neg e]; exact ih p (by omega)
theorem CInv.hist0 {X : Xt} {g : Geo} {I J : Mm} {c k : Nat} {T : Txt} {A : ASt} {f f' : Nat → ASt} {V : Nat → Option ASt} (h : CInv X g I J c (T, (A, (0, f), V))) : CInv X g I J c (T, (A, (0, f'), V)) := by
  obtain ⟨h1, h2, h3, h4, ⟨o, o1, o2, o3, o4, -⟩, h6⟩ := h
  exact ⟨h1, h2, h3, h4, ⟨o, o1, o2, o3, o4, fun k hk => absurd hk (Nat.not_lt_zero k)⟩, h6⟩
section ZL7
variable {X : Xt} {g : Geo} {I J : Mm} {b : Nat × Nat} {post : Out → Geo → Mm → Mm → Prop} {c : Nat} {x : Int} {T : Txt} {A : ASt} {H : Nat × (Nat → ASt)} {V : Nat → Option ASt}
variable {o6 o7 o8 o9 o10 o11 o12 o13 o14 o15 o16 o17 o18 o19 o20 : Option Value}
theorem fo_799 (hC : CInv X g I J c (T, (A, H, sl1 A V))) (hb : 2605 ≤ b.1 ∧ 15630 ≤ b.2) (hx : ∀ (g' : Geo) (I' J' : Mm) (T' : Txt) (f : Nat → ASt), CFr g g' I I' J J' c → CInv X g' I' J' c (T', (A, (0, f), sl1 A V)) → post (.inl (some (vi 1))) g' I' J') : ZV X E_L_follows 799 [some (.ref c), some (vi x), some (vl (nowV A)), none, some (vi (aN A : Int)), some (vi 1), o6, o7, o8, o9, o10, o11, o12, o13, o14, o15, o16, o17, o18, o19, o20] [] b g I J post := by
  have hG := hC.good
  have h16 : aN A ≤ 16 := hG.1.1
  have e1 : rsL (A, H, sl1 A V) 1 = ((aN A : Int), (A, (0, H.2), sl1 A V)) := rfl
  have e2 : unL (A, (0, H.2), sl1 A V) = (-9000000000000000003, (A, (0, H.2), sl1 A V)) := rfl
  refine ZV_iload dL_follows_799 rfl ?_
  refine ZV_one_eq (tgt := 840) dL_follows_801 (by decide) ?_
  refine ZV_aload_n dL_follows_804 rfl ?_
  refine ZV_iconst dL_follows_805 ?_
  refine cl_L_restore kL_follows_154 rfl dL_follows_806 ⟨by first | omega | (dsimp only; omega), by first | omega | (dsimp only; omega)⟩ (Nat.le_of_ble_eq_true rfl) ?_
  refine sp_L_restore hC ⟨by omega, by omega⟩ ⟨by decide, by decide⟩ ?_
  intro g1 I1 J1 hF1 hC1
  rw [e1] at hC1 ⊢
  refine ZV_iload dL_follows_809 rfl ?_
  refine ZV_i2l dL_follows_811 ⟨by omega, by omega⟩ ?_
  refine ZV_lsame_ne (tgt := 840) dL_follows_812 dL_follows_813 (by decide) ?_
  refine ZV_aload_n dL_follows_816 rfl ?_
  refine cl_L_now kL_follows_114 rfl dL_follows_817 ⟨by first | omega | (dsimp only; omega), by first | omega | (dsimp only; omega)⟩ (Nat.le_of_ble_eq_true rfl) ?_
  refine sp_L_now hC1 ⟨by decide, by decide⟩ ?_
  refine ZV_lload_n dL_follows_820 rfl ?_
  refine ZV_lsame_ne (tgt := 840) dL_follows_821 dL_follows_822 (by decide) ?_
  refine ZV_aload_n dL_follows_825 rfl ?_
  refine cl_L_undo kL_follows_203 rfl dL_follows_826 ⟨by first | omega | (dsimp only; omega), by first | omega | (dsimp only; omega)⟩ (Nat.le_of_ble_eq_true rfl) ?_
  refine sp_L_undo hC1 ⟨by decide, by decide⟩ ?_
  intro g2 I2 J2 hF2 hC2
  rw [e2] at hC2 ⊢
  refine ZV_ldc2 (z := -9000000000000000003) dL_follows_829 lL_follows_21 ?_
  refine ZV_lsame_ne (tgt := 840) dL_follows_832 dL_follows_833 (by decide) ?_
  refine ZV_iconst dL_follows_836 ?_
  refine ZV_goto (tgt := 841) dL_follows_837 (by decide) ?_
  refine ZV_zret dL_follows_841 rfl (by first | exact Or.inl rfl | exact Or.inr rfl | assumption | omega) ?_
  exact hx g2 I2 J2 _ _ (hF1.tr hF2) hC2
theorem fo_622 {i : Nat} {nr : Int} {f0 : Nat → Int} (hi : i < aN A) (hG : GoodSt A) (h14 : H.1 ≤ 14) (hC : CInv X g I J c ((0, f0), (aPrint A (keyOf A), hpush H A, sl1 A V))) (hb : 5290 ≤ b.1 ∧ 31740 ≤ b.2) (hx : ∀ (g' : Geo) (I' J' : Mm) (T' : Txt) (f : Nat → ASt), CFr g g' I I' J J' c → CInv X g' I' J' c (T', (A, (0, f), sl1 A V)) → post (.inl (some (vi 1))) g' I' J') : ZV X E_L_follows 622 [some (.ref c), some (vi x), some (vl (nowV A)), none, some (vi (aN A : Int)), some (vi 1), o6, o7, o8, some (vi (i : Int)), some (vl (hangN A i)), none, o12, o13, o14, o15, o16, o17, o18, some (vi nr), o20] [] b g I J post := by
  have h16 : aN A ≤ 16 := hG.1.1
  have kl := keyK hG hi
  have hang := hang_0 A i
  obtain ⟨P, hP⟩ : ∃ P, P = aPrint A (keyOf A) := ⟨_, rfl⟩
  have hPk : keyOf P = keyOf A := by rw [hP]; rfl
  have hPn : aN P = aN A := by rw [hP]; rfl
  have hiP : i < aN P := by rw [hPn]; exact hi
  have hGP : GoodSt P := by rw [hP]; exact hG.print
  have hC0 := hC
  rw [← hP] at hC0
  obtain ⟨κ, hκ⟩ : ∃ κ, κ = keyOf A i := ⟨_, rfl⟩
  have hKW : KWF κ := by rw [hκ]; exact keyOf_KWF hG hi
  rw [← hκ] at kl
  have w3 : wkL P (i : Int) 3 = klen κ := by rw [hκ, ← hPk]; exact wk_3 hiP
  have kyz : ∀ y : Int, 0 ≤ y → kyL P (i : Int) y = kch κ y := fun y hy => by rw [hκ, ← hPk]; exact ky_at hiP hy
  obtain ⟨l, hl⟩ : ∃ l : Nat, (l : Int) = klen κ := ⟨(klen κ).toNat, by omega⟩
  obtain ⟨R, hR⟩ : ∃ R, R = aTake P i := ⟨_, rfl⟩
  have spl1 : spl (kyT κ f0 l) κ := ⟨by rw [kyT_len]; exact hl, fun p hp => kyT_at κ f0 l p (by rw [kyT_len] at hp; exact hp)⟩
  have mn : meanF (kyT κ f0 l) P = (i : Int) := mean_is hGP hiP (by rw [hPk, ← hκ]; exact spl1)
  have pm : pmeanF (kyT κ f0 l) P = (i : Int) := (pmean_is (B := P) hG hi (by rw [← hκ]; exact spl1) (fun p _ => by rw [hP]; rfl) (by rw [hP]; rfl)).trans (by rw [hP]; rfl)
  have pg : pmeanF (kyT κ f0 l) R = -2 := (pmean_is (B := R) hG hi (by rw [← hκ]; exact spl1) (fun p _ => by rw [hR, hP]; rfl) (by rw [hR, hP]; rfl)).trans (by rw [hR, hP]; exact if_pos rfl)
  have e1 : rmL (P, hpush H A, sl1 A V) (i : Int) = (hangN A i, (R, hpush (hpush H A) P, sl1 A V)) := by
    rw [hR]
    exact (if_pos ⟨by omega, by show (i : Int) < (aN P : Int); omega⟩).trans (by rw [hP]; rfl)
  have e7 : abL R 7 = 1 := (ab_at R (k := 7) (by decide)).trans (by rw [hR, hP]; exact tk_gone hi)
  have st := tk_still hG hi
  rw [← hP, ← hR] at st
  have hRn : (aPn R : Int) = aN A := by rw [hR, hP]; rfl
  have p0 : prL R 0 = prF R 0 := pr_at R (k := 0) (by decide)
  have p1 : prL R 1 = prF R 1 := pr_at R (k := 1) (by decide)
  have ps : prF R 0 + prF R 1 = hangN A i + 1 := by
    have s0 : prF R 0 = (aPn R : Int) - prStill R - prNone R := rfl
    have s1 : prF R 1 = prNone R := rfl
    rw [s0, s1]; omega
  obtain ⟨k, fk, k14, un1, k2, fk2, k214, un2⟩ := un_push2 R A P H (sl1 A V) h14
  have p675 : ∀ (y : Int) (g1 : Geo) (I1 J1 : Mm) (b' : Nat × Nat), CFr g g1 I I1 J J1 c → CInv X g1 I1 J1 c (kyT κ f0 l, (P, hpush H A, sl1 A V)) → 5220 ≤ b'.1 → 31320 ≤ b'.2 → ZV X E_L_follows 675 [some (.ref c), some (vi x), some (vl (nowV A)), none, some (vi (aN A : Int)), some (vi 1), o6, o7, o8, some (vi (i : Int)), some (vl (hangN A i)), none, o12, o13, o14, o15, o16, o17, o18, some (vi nr), some (vi y)] [] b' g1 I1 J1 post := by
    intro y g1 I1 J1 b' hF1 hC1 hb1 hb2
    have kc1 := hC1.1.1.1
    refine ZV_iload dL_follows_675 rfl ?_
    refine ZV_one_eq (tgt := 796) dL_follows_677 (by decide) ?_
    refine ZV_aload_n dL_follows_680 rfl ?_
    refine cl_X6_meaning kL_follows_211 rfl dL_follows_681 (by assumption) (Nat.le_of_ble_eq_true rfl) ?_
    refine sp_X6_meaning hC1 ?_
    rw [mn]
    refine ZV_iload dL_follows_684 rfl ?_
    refine ZV_icmp_ne (tgt := 796) dL_follows_686 (by decide) ⟨by omega, by omega⟩ ⟨by omega, by omega⟩ (fun h686 => ?_) (fun h686 => ?_)
    · omega
    · refine ZV_aload_n dL_follows_689 rfl ?_
      refine cl_X6_printedMeaning kL_follows_214 rfl dL_follows_690 (by assumption) (Nat.le_of_ble_eq_true rfl) ?_
      refine sp_X6_printedMeaning hC1 ?_
      rw [pm]
      refine ZV_iload dL_follows_693 rfl ?_
      refine ZV_icmp_ne (tgt := 796) dL_follows_695 (by decide) ⟨by omega, by omega⟩ ⟨by omega, by omega⟩ (fun h695 => ?_) (fun h695 => ?_)
      · omega
      · refine ZV_aload_n dL_follows_698 rfl ?_
        refine ZV_iload dL_follows_699 rfl ?_
        refine cl_L_remove kL_follows_124 rfl dL_follows_701 ⟨by first | omega | (dsimp only; omega), by first | omega | (dsimp only; omega)⟩ (Nat.le_of_ble_eq_true rfl) ?_
        refine sp_L_remove hC1 ⟨by omega, by omega⟩ ⟨by decide, by decide⟩ ?_
        intro g2 I2 J2 hF2 hC2
        rw [e1] at hC2 ⊢
        have kc2 := hC2.1.1.1
        refine ZV_lload dL_follows_704 rfl ?_
        refine ZV_lsame_ne (tgt := 796) dL_follows_706 dL_follows_707 (by decide) ?_
        refine ZV_aload_n dL_follows_710 rfl ?_
        refine cl_X6_printedMeaning kL_follows_214 rfl dL_follows_711 (by assumption) (Nat.le_of_ble_eq_true rfl) ?_
        refine sp_X6_printedMeaning hC2 ?_
        rw [pg]
        refine ZV_bipush dL_follows_714 (by decide) ?_
        refine ZV_icmp_ne (tgt := 796) dL_follows_716 (by decide) ⟨by omega, by omega⟩ ⟨by omega, by omega⟩ (fun h716 => ?_) (fun h716 => ?_)
        · omega
        · refine ZV_aload_n dL_follows_719 rfl ?_
          refine ZV_bipush dL_follows_720 (by decide) ?_
          refine cl_L_about kL_follows_99 rfl dL_follows_722 ⟨by first | omega | (dsimp only; omega), by first | omega | (dsimp only; omega)⟩ (Nat.le_of_ble_eq_true rfl) ?_
          refine sp_L_about hC2 ⟨by omega, by omega⟩ ⟨by decide, by decide⟩ ?_
          rw [e7]
          refine ZV_lconst (z := 1) dL_follows_725 (by decide) ?_
          refine ZV_lsame_ne (tgt := 796) dL_follows_726 dL_follows_727 (by decide) ?_
          refine ZV_aload_n dL_follows_730 rfl ?_
          refine ZV_iconst dL_follows_731 ?_
          refine cl_L_printed kL_follows_112 rfl dL_follows_732 ⟨by first | omega | (dsimp only; omega), by first | omega | (dsimp only; omega)⟩ (Nat.le_of_ble_eq_true rfl) ?_
          refine sp_L_printed hC2 ⟨by omega, by omega⟩ ⟨by decide, by decide⟩ ?_
          rw [p0]
          refine ZV_aload_n dL_follows_735 rfl ?_
          refine ZV_iconst dL_follows_736 ?_
          refine cl_L_printed kL_follows_112 rfl dL_follows_737 ⟨by first | omega | (dsimp only; omega), by first | omega | (dsimp only; omega)⟩ (Nat.le_of_ble_eq_true rfl) ?_
          refine sp_L_printed hC2 ⟨by omega, by omega⟩ ⟨by decide, by decide⟩ ?_
          rw [p1]
          refine ZV_ladd dL_follows_740 ?_
          rw [ps]
          refine ZV_lload dL_follows_741 rfl ?_
          refine ZV_lconst (z := 1) dL_follows_743 (by decide) ?_
          refine ZV_ladd dL_follows_744 ?_
          refine ZV_lsame_ne (tgt := 796) dL_follows_745 dL_follows_746 (by decide) ?_
          refine ZV_aload_n dL_follows_749 rfl ?_
          refine cl_L_undo kL_follows_203 rfl dL_follows_750 ⟨by first | omega | (dsimp only; omega), by first | omega | (dsimp only; omega)⟩ (Nat.le_of_ble_eq_true rfl) ?_
          refine sp_L_undo hC2 ⟨by decide, by decide⟩ ?_
          intro g3 I3 J3 hF3 hC3
          rw [un1] at hC3 ⊢
          have kc3 := hC3.1.1.1
          refine ZV_lconst (z := 0) dL_follows_753 (by decide) ?_
          refine ZV_lif_lt (tgt := 796) dL_follows_754 dL_follows_755 (by decide) ⟨by omega, by omega⟩ ⟨by omega, by omega⟩ (fun h754 => ?_) (fun h754 => ?_)
          · omega
          · refine ZV_aload_n dL_follows_758 rfl ?_
            refine cl_X6_printedMeaning kL_follows_214 rfl dL_follows_759 (by assumption) (Nat.le_of_ble_eq_true rfl) ?_
            refine sp_X6_printedMeaning hC3 ?_
            rw [pm]
            refine ZV_iload dL_follows_762 rfl ?_
            refine ZV_icmp_ne (tgt := 796) dL_follows_764 (by decide) ⟨by omega, by omega⟩ ⟨by omega, by omega⟩ (fun h764 => ?_) (fun h764 => ?_)
            · omega
            · refine ZV_aload_n dL_follows_767 rfl ?_
              refine cl_L_undo kL_follows_203 rfl dL_follows_768 ⟨by first | omega | (dsimp only; omega), by first | omega | (dsimp only; omega)⟩ (Nat.le_of_ble_eq_true rfl) ?_
              refine sp_L_undo hC3 ⟨by decide, by decide⟩ ?_
              intro g4 I4 J4 hF4 hC4
              rw [un2] at hC4 ⊢
              have kc4 := hC4.1.1.1
              refine ZV_lconst (z := 0) dL_follows_771 (by decide) ?_
              refine ZV_lif_lt (tgt := 796) dL_follows_772 dL_follows_773 (by decide) ⟨by omega, by omega⟩ ⟨by omega, by omega⟩ (fun h772 => ?_) (fun h772 => ?_)
              · omega
              · refine ZV_aload_n dL_follows_776 rfl ?_
                refine cl_L_now kL_follows_114 rfl dL_follows_777 ⟨by first | omega | (dsimp only; omega), by first | omega | (dsimp only; omega)⟩ (Nat.le_of_ble_eq_true rfl) ?_
                refine sp_L_now hC4 ⟨by decide, by decide⟩ ?_
                refine ZV_lload_n dL_follows_780 rfl ?_
                refine ZV_lsame_ne (tgt := 796) dL_follows_781 dL_follows_782 (by decide) ?_
                refine ZV_aload_n dL_follows_785 rfl ?_
                refine cl_X6_clearText kL_follows_208 rfl dL_follows_786 (by assumption) (Nat.le_of_ble_eq_true rfl) ?_
                refine sp_X6_clearText hC4 ?_
                intro I5 J5 hF5 hC5
                have t5 := hC4.2.2.1.2.1
                refine ZV_if_lt (tgt := 796) dL_follows_789 (by decide) ⟨by omega, by omega⟩ (fun h789 => ?_) (fun h789 => ?_)
                · omega
                · refine ZV_iconst dL_follows_792 ?_
                  refine ZV_goto (tgt := 797) dL_follows_793 (by decide) ?_
                  refine ZV_istore5 dL_follows_797 rfl (by decide) ?_
                  exact fo_799 hC5 ⟨(by first | omega | (dsimp only; omega)), (by first | omega | (dsimp only; omega))⟩ (fun g' I' J' T' f q => hx g' I' J' T' f (((((hF1.tr hF2).tr hF3).tr hF4).tr hF5).tr q))
  have key : ∀ k : Nat, k ≤ l → ∀ (z : Int) (g1 : Geo) (I1 J1 : Mm) (b' : Nat × Nat), z = (k : Int) → CFr g g1 I I1 J J1 c → CInv X g1 I1 J1 c (kyT κ f0 k, (P, hpush H A, sl1 A V)) → 5 * (l - k) + 2 + 5220 ≤ b'.1 → 30 * (l - k) + 12 + 31320 ≤ b'.2 → ZV X E_L_follows 625 [some (.ref c), some (vi x), some (vl (nowV A)), none, some (vi (aN A : Int)), some (vi 1), o6, o7, o8, some (vi (i : Int)), some (vl (hangN A i)), none, o12, o13, o14, o15, o16, o17, o18, some (vi nr), some (vi z)] [] b' g1 I1 J1 post := by
    refine loop_up l ?_ ?_
    · intro z g1 I1 J1 b' hz hF1 hC1 hb1 hb2
      refine ZV_iload dL_follows_625 rfl ?_
      refine ZV_i2l dL_follows_627 ⟨by omega, by omega⟩ ?_
      refine ZV_aload_n dL_follows_628 rfl ?_
      refine ZV_iload dL_follows_629 rfl ?_
      refine ZV_iconst dL_follows_631 ?_
      refine cl_L_work kL_follows_104 rfl dL_follows_632 ⟨by first | omega | (dsimp only; omega), by first | omega | (dsimp only; omega)⟩ (Nat.le_of_ble_eq_true rfl) ?_
      refine sp_L_work hC1 ⟨by omega, by omega⟩ ⟨by omega, by omega⟩ ⟨by decide, by decide⟩ ?_
      rw [w3]
      refine ZV_lif_ge (tgt := 675) dL_follows_635 dL_follows_636 (by decide) ⟨by omega, by omega⟩ ⟨by omega, by omega⟩ (fun h635 => ?_) (fun h635 => ?_)
      · exact p675 _ g1 I1 J1 _ hF1 hC1 (by first | omega | (dsimp only; omega)) (by first | omega | (dsimp only; omega))
      · omega
    · intro k hk ih z g1 I1 J1 b' hz hF1 hC1 hb1 hb2
      have kin := kch_in hKW (k := (k : Int)) (by omega) (by omega)
      have kln := kyT_len κ f0 k
      have ea : apL (kyT κ f0 k) (kch κ z) = (((kyT κ f0 k).1 : Int) + 1, kyT κ f0 (k + 1)) := by
        rw [hz]
        exact (if_pos ⟨by omega, by omega⟩).trans (if_pos (by omega))
      rw [← hz] at kin
      refine ZV_iload dL_follows_625 rfl ?_
      refine ZV_i2l dL_follows_627 ⟨by omega, by omega⟩ ?_
      refine ZV_aload_n dL_follows_628 rfl ?_
      refine ZV_iload dL_follows_629 rfl ?_
      refine ZV_iconst dL_follows_631 ?_
      refine cl_L_work kL_follows_104 rfl dL_follows_632 ⟨by first | omega | (dsimp only; omega), by first | omega | (dsimp only; omega)⟩ (Nat.le_of_ble_eq_true rfl) ?_
      refine sp_L_work hC1 ⟨by omega, by omega⟩ ⟨by omega, by omega⟩ ⟨by decide, by decide⟩ ?_
      rw [w3]
      refine ZV_lif_ge (tgt := 675) dL_follows_635 dL_follows_636 (by decide) ⟨by omega, by omega⟩ ⟨by omega, by omega⟩ (fun h635 => ?_) (fun h635 => ?_)
      · omega
      · refine ZV_iload dL_follows_639 rfl ?_
        refine ZV_one_eq (tgt := 675) dL_follows_641 (by decide) ?_
        refine ZV_aload_n dL_follows_644 rfl ?_
        refine ZV_aload_n dL_follows_645 rfl ?_
        refine ZV_iload dL_follows_646 rfl ?_
        refine ZV_iload dL_follows_648 rfl ?_
        refine cl_L_key kL_follows_107 rfl dL_follows_650 ⟨by first | omega | (dsimp only; omega), by first | omega | (dsimp only; omega)⟩ (Nat.le_of_ble_eq_true rfl) ?_
        refine sp_L_key hC1 ⟨by omega, by omega⟩ ⟨by omega, by omega⟩ ⟨by decide, by decide⟩ ?_
        rw [kyz z (by omega)]
        refine ZV_l2i dL_follows_653 ?_
        refine cl_L_append kL_follows_156 rfl dL_follows_654 ⟨by first | omega | (dsimp only; omega), by first | omega | (dsimp only; omega)⟩ (Nat.le_of_ble_eq_true rfl) ?_
        refine sp_L_append hC1 ⟨by omega, by omega⟩ ⟨by decide, by decide⟩ ?_
        intro g2 I2 J2 hF2 hC2
        rw [ea] at hC2 ⊢
        refine ZV_lconst (z := 0) dL_follows_657 (by decide) ?_
        refine ZV_lif_le (tgt := 666) dL_follows_658 dL_follows_659 (by decide) ⟨by omega, by omega⟩ ⟨by omega, by omega⟩ (fun h658 => ?_) (fun h658 => ?_)
        · omega
        · refine ZV_iconst dL_follows_662 ?_
          refine ZV_goto (tgt := 667) dL_follows_663 (by decide) ?_
          refine ZV_istore5 dL_follows_667 rfl (by decide) ?_
          refine ZV_jinc20 dL_follows_669 rfl (by decide) ?_
          refine ZV_goto (tgt := 625) dL_follows_672 (by decide) ?_
          exact ih _ g2 I2 J2 _ (by omega) (hF1.tr hF2) hC2 (by first | omega | (dsimp only; omega)) (by first | omega | (dsimp only; omega))
  refine ZV_iconst dL_follows_622 ?_
  refine ZV_istore20 dL_follows_623 rfl (by decide) ?_
  exact key 0 (by omega) _ g I J _ rfl (CFr.rf g I J c) hC0 (by first | omega | (dsimp only; omega)) (by first | omega | (dsimp only; omega))
end ZL7

