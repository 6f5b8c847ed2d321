/-! what follows, whole -/
section ZL7
variable {X : Xt} {g : Geo} {I J : Mm} {b : Nat × Nat} {post : Out → Geo → Mm → Mm → Prop} {c : Nat} {x : Int} {T : Txt} {A : ASt} {H : Nat × (Nat → ASt)} {V : Nat → Option ASt}
variable {o6 o7 o8 o9 o10 o11 o12 o13 o14 o15 o16 o17 o18 o19 o20 : Option Value}
theorem fo_180 {sy fw : Int} (hn : 0 < aN A) (hC : CInv X g I J c (T, (A, H, sl1 A V))) (hx0 : 0 ≤ x ∧ x ≤ 2147483647) (hb : 13140 ≤ b.1 ∧ 78840 ≤ b.2) (hx : ∀ (g' : Geo) (I' J' : Mm) (T' : Txt) (f : Nat → ASt), CFr g g' I I' J J' c → CInv X g' I' J' c (T', (A, (0, f), sl1 A V)) → post (.inl (some (vi 1))) g' I' J') : ZV X E_L_follows 180 [some (.ref c), some (vi x), some (vl (nowV A)), none, some (vi (aN A : Int)), some (vi 1), some (vi sy), some (vl fw), none, o9, o10, o11, o12, o13, o14, o15, o16, o17, o18, o19, o20] [] b g I J post := by
  have hG : GoodSt A := hC.good
  have h16 : aN A ≤ 16 := hG.1.1
  have h14 := hC.hist
  obtain ⟨x1, x2⟩ := hx0
  have mm : x.tmod (aN A : Int) = x % (aN A : Int) := Int.tmod_eq_emod_of_nonneg x1
  have q1 := Int.emod_nonneg x (show (aN A : Int) ≠ 0 by omega)
  have q2 := Int.emod_lt_of_pos x (show (0 : Int) < (aN A : Int) by omega)
  obtain ⟨i, hi0⟩ : ∃ i : Nat, x % (aN A : Int) = (i : Int) := ⟨(x % (aN A : Int)).toNat, by omega⟩
  rw [hi0] at mm q1 q2
  have hi : i < aN A := by omega
  have hang := hang_0 A i
  have hle := hang_le hi
  have fr := zsum_01 (f := F1 A i) (aN A) (fun k _ => F1_01 A i k)
  obtain ⟨⟨w, w1, w2, w3⟩, wm⟩ := And.intro ((wt_max A (aN A)).1 (by omega)) (wt_max A (aN A)).2
  have wi := wm i hi
  rw [w3] at wi
  have hang2 := hang_0 A w
  have i1 : ifL A (i : Int) = hangN A i := if_pos ⟨by omega, by omega⟩
  have i2 : ifL A (w : Int) = hangN A w := if_pos ⟨by omega, by omega⟩
  have w6 : wkL A (i : Int) 6 = (zsum (F1 A i) (aN A)) := (wk_at (k := 6) hi (by decide)).trans rfl
  have e1 : rmL (A, H, sl1 A V) (i : Int) = (hangN A i, (aTake A i, hpush H A, sl1 A V)) := if_pos ⟨by omega, by show (i : Int) < (aN A : Int); omega⟩
  have en : abL (aTake A i) 0 = (aN A : Int) - 1 := (ab_n (aTake A i)).trans (by show ((aN A - 1 : Nat) : Int) = (aN A : Int) - 1; omega)
  obtain ⟨k, fk, k14, un⟩ := un_push (aTake A i) A H (sl1 A V) h14
  have p237 : ∀ (m : Int) (g1 : Geo) (I1 J1 : Mm) (b' : Nat × Nat), m = (if 1 < (zsum (F1 A i) (aN A)) then (zsum (F1 A i) (aN A)) else 1) → CFr g g1 I I1 J J1 c → CInv X g1 I1 J1 c (T, (A, H, sl1 A V)) → 13134 ≤ b'.1 → 78804 ≤ b'.2 → ZV X E_L_follows 237 [some (.ref c), some (vi x), some (vl (nowV A)), none, some (vi (aN A : Int)), some (vi 1), some (vi sy), some (vl fw), none, some (vi (i : Int)), some (vl (hangN A i)), none, some (vl (hangN A w)), none, some (vl (zsum (F1 A i) (aN A))), none, o16, o17, o18, o19, o20] [vl m, vl (hangN A i)] b' g1 I1 J1 post := by
    intro m g1 I1 J1 b' hm hF1 hC1 hb1 hb2
    have hm2 : hangN A i < m := by rw [hm]; split <;> omega
    have hm3 : m ≤ 100 := by rw [hm]; split <;> omega
    refine ZV_lif_ge (tgt := 289) dL_follows_237 dL_follows_238 (by decide) ⟨by omega, by omega⟩ ⟨by omega, by omega⟩ (fun h237 => ?_) (fun h237 => ?_)
    · omega
    · refine ZV_aload_n dL_follows_241 rfl ?_
      refine ZV_iload dL_follows_242 rfl ?_
      refine cl_L_remove kL_follows_124 rfl dL_follows_244 ⟨by first | omega | (dsimp only; omega), by first | omega | (dsimp only; omega)⟩ (Nat.le_of_ble_eq_true rfl) ?_
      refine sp_L_remove hC1 ⟨by omega, by omega⟩ ⟨by decide, by decide⟩ ?_
      intro g2 I2 J2 hF2 hC2
      rw [e1] at hC2 ⊢
      refine ZV_lload dL_follows_247 rfl ?_
      refine ZV_lsame_ne (tgt := 289) dL_follows_249 dL_follows_250 (by decide) ?_
      refine ZV_aload_n dL_follows_253 rfl ?_
      refine ZV_iconst dL_follows_254 ?_
      refine cl_L_about kL_follows_99 rfl dL_follows_255 ⟨by first | omega | (dsimp only; omega), by first | omega | (dsimp only; omega)⟩ (Nat.le_of_ble_eq_true rfl) ?_
      refine sp_L_about hC2 ⟨by omega, by omega⟩ ⟨by decide, by decide⟩ ?_
      rw [en]
      refine ZV_iload dL_follows_258 rfl ?_
      refine ZV_i2l dL_follows_260 ⟨by omega, by omega⟩ ?_
      refine ZV_lconst (z := 1) dL_follows_261 (by decide) ?_
      refine ZV_lsub dL_follows_262 ?_
      refine ZV_lsame_ne (tgt := 289) dL_follows_263 dL_follows_264 (by decide) ?_
      refine ZV_aload_n dL_follows_267 rfl ?_
      refine cl_L_undo kL_follows_203 rfl dL_follows_268 ⟨by first | omega | (dsimp only; omega), by first | omega | (dsimp only; omega)⟩ (Nat.le_of_ble_eq_true rfl) ?_
      refine sp_L_undo hC2 ⟨by decide, by decide⟩ ?_
      intro g3 I3 J3 hF3 hC3
      rw [un] at hC3 ⊢
      refine ZV_lconst (z := 0) dL_follows_271 (by decide) ?_
      refine ZV_lif_lt (tgt := 289) dL_follows_272 dL_follows_273 (by decide) ⟨by omega, by omega⟩ ⟨by omega, by omega⟩ (fun h272 => ?_) (fun h272 => ?_)
      · omega
      · refine ZV_aload_n dL_follows_276 rfl ?_
        refine cl_L_now kL_follows_114 rfl dL_follows_277 ⟨by first | omega | (dsimp only; omega), by first | omega | (dsimp only; omega)⟩ (Nat.le_of_ble_eq_true rfl) ?_
        refine sp_L_now hC3 ⟨by decide, by decide⟩ ?_
        refine ZV_lload_n dL_follows_280 rfl ?_
        refine ZV_lsame_ne (tgt := 289) dL_follows_281 dL_follows_282 (by decide) ?_
        refine ZV_iconst dL_follows_285 ?_
        refine ZV_goto (tgt := 290) dL_follows_286 (by decide) ?_
        refine ZV_istore5 dL_follows_290 rfl (by decide) ?_
        exact fo_292 hi hC3 ⟨x1, x2⟩ ⟨(by first | omega | (dsimp only; omega)), (by first | omega | (dsimp only; omega))⟩ (fun g' I' J' T' f q => hx g' I' J' T' f (((hF1.tr hF2).tr hF3).tr q))
  refine ZV_iload_n dL_follows_180 rfl ?_
  refine ZV_iload dL_follows_181 rfl ?_
  refine ZV_irem dL_follows_183 ⟨by omega, by omega⟩ ⟨by omega, by omega⟩ (by omega) ?_
  rw [mm]
  refine ZV_istore9 dL_follows_184 rfl (by decide) ?_
  refine ZV_aload_n dL_follows_186 rfl ?_
  refine ZV_iload dL_follows_187 rfl ?_
  refine cl_L_ifRemoved kL_follows_130 rfl dL_follows_189 ⟨by first | omega | (dsimp only; omega), by first | omega | (dsimp only; omega)⟩ (Nat.le_of_ble_eq_true rfl) ?_
  refine sp_L_ifRemoved hC ⟨by omega, by omega⟩ ⟨by decide, by decide⟩ ?_
  intro g1 I1 J1 hF1 hC1
  have kc1 := hC1.1.1.1
  rw [i1]
  refine ZV_lstore10 dL_follows_192 rfl (by decide) ?_
  refine ZV_aload_n dL_follows_194 rfl ?_
  refine ZV_aload_n dL_follows_195 rfl ?_
  refine cl_X6_weightiest kL_follows_200 rfl dL_follows_196 (by assumption) (Nat.le_of_ble_eq_true rfl) ?_
  refine sp_X6_weightiest hC1 ?_
  intro g2 I2 J2 hF2 hC2
  show ZV X E_L_follows _ _ (vi (wtF A (aN A)).1 :: _) _ _ _ _ _
  rw [w2]
  refine cl_L_ifRemoved kL_follows_130 rfl dL_follows_199 ⟨by first | omega | (dsimp only; omega), by first | omega | (dsimp only; omega)⟩ (Nat.le_of_ble_eq_true rfl) ?_
  refine sp_L_ifRemoved hC2 ⟨by omega, by omega⟩ ⟨by decide, by decide⟩ ?_
  intro g3 I3 J3 hF3 hC3
  rw [i2]
  refine ZV_lstore12 dL_follows_202 rfl (by decide) ?_
  refine ZV_aload_n dL_follows_204 rfl ?_
  refine ZV_iload dL_follows_205 rfl ?_
  refine ZV_bipush dL_follows_207 (by decide) ?_
  refine cl_L_work kL_follows_104 rfl dL_follows_209 ⟨by first | omega | (dsimp only; omega), by first | omega | (dsimp only; omega)⟩ (Nat.le_of_ble_eq_true rfl) ?_
  refine sp_L_work hC3 ⟨by omega, by omega⟩ ⟨by omega, by omega⟩ ⟨by decide, by decide⟩ ?_
  rw [w6]
  refine ZV_lstore14 dL_follows_212 rfl (by decide) ?_
  refine ZV_lload dL_follows_214 rfl ?_
  refine ZV_lload dL_follows_216 rfl ?_
  refine ZV_lif_gt (tgt := 289) dL_follows_218 dL_follows_219 (by decide) ⟨by omega, by omega⟩ ⟨by omega, by omega⟩ (fun h218 => ?_) (fun h218 => ?_)
  · omega
  · refine ZV_lload dL_follows_222 rfl ?_
    refine ZV_lload dL_follows_224 rfl ?_
    refine ZV_lconst (z := 1) dL_follows_226 (by decide) ?_
    refine ZV_lif_le (tgt := 236) dL_follows_227 dL_follows_228 (by decide) ⟨by omega, by omega⟩ ⟨by omega, by omega⟩ (fun h227 => ?_) (fun h227 => ?_)
    · refine ZV_lconst (z := 1) dL_follows_236 (by decide) ?_
      exact p237 _ g3 I3 J3 _ (by rw [if_neg (by omega)]) ((hF1.tr hF2).tr hF3) hC3 (by first | omega | (dsimp only; omega)) (by first | omega | (dsimp only; omega))
    · refine ZV_lload dL_follows_231 rfl ?_
      refine ZV_goto (tgt := 237) dL_follows_233 (by decide) ?_
      exact p237 _ g3 I3 J3 _ (by rw [if_pos (by omega)]) ((hF1.tr hF2).tr hF3) hC3 (by first | omega | (dsimp only; omega)) (by first | omega | (dsimp only; omega))
theorem fo_149 {sy fw : Int} (hC : CInv X g I J c (T, (A, H, sl1 A V))) (hx0 : 0 ≤ x ∧ x ≤ 2147483647) (hb : 15750 ≤ b.1 ∧ 94500 ≤ b.2) (hx : ∀ (g' : Geo) (I' J' : Mm) (T' : Txt) (f : Nat → ASt), CFr g g' I I' J J' c → CInv X g' I' J' c (T', (A, (0, f), sl1 A V)) → post (.inl (some (vi 1))) g' I' J') : ZV X E_L_follows 149 [some (.ref c), some (vi x), some (vl (nowV A)), none, some (vi (aN A : Int)), some (vi 1), some (vi sy), some (vl fw), none, o9, o10, o11, o12, o13, o14, o15, o16, o17, o18, o19, o20] [] b g I J post := by
  have hG : GoodSt A := hC.good
  have h16 : aN A ≤ 16 := hG.1.1
  refine ZV_iload dL_follows_149 rfl ?_
  refine ZV_one_eq (tgt := 167) dL_follows_151 (by decide) ?_
  refine ZV_aload_n dL_follows_154 rfl ?_
  refine cl_L_now kL_follows_114 rfl dL_follows_155 ⟨by first | omega | (dsimp only; omega), by first | omega | (dsimp only; omega)⟩ (Nat.le_of_ble_eq_true rfl) ?_
  refine sp_L_now hC ⟨by decide, by decide⟩ ?_
  refine ZV_lload_n dL_follows_158 rfl ?_
  refine ZV_lsame_ne (tgt := 167) dL_follows_159 dL_follows_160 (by decide) ?_
  refine ZV_iconst dL_follows_163 ?_
  refine ZV_goto (tgt := 168) dL_follows_164 (by decide) ?_
  refine ZV_istore5 dL_follows_168 rfl (by decide) ?_
  refine ZV_iload dL_follows_170 rfl ?_
  refine ZV_if_le (tgt := 799) dL_follows_172 (by decide) ⟨by omega, by omega⟩ (fun h172 => ?_) (fun h172 => ?_)
  · exact fo_799 hC ⟨(by first | omega | (dsimp only; omega)), (by first | omega | (dsimp only; omega))⟩ hx
  · refine ZV_iload dL_follows_175 rfl ?_
    refine ZV_one_eq (tgt := 799) dL_follows_177 (by decide) ?_
    exact fo_180 (by omega) hC hx0 ⟨(by first | omega | (dsimp only; omega)), (by first | omega | (dsimp only; omega))⟩ hx
theorem fo_78 {sy : Int} {bq : Nat} (hq : bq < 4) (hbm : ∀ s : Nat, s < 4 → letdN (aSty A (bq : Int)) ≤ letdN (aSty A (s : Int))) (hx0 : 0 ≤ x ∧ x ≤ 2147483647) (hx : ∀ (g' : Geo) (I' J' : Mm) (T' : Txt) (f : Nat → ASt), CFr g g' I I' J J' c → CInv X g' I' J' c (T', (A, (0, f), sl1 A V)) → post (.inl (some (vi 1))) g' I' J') : ∀ q : Nat, q ≤ 4 → ∀ (z : Int) (g1 : Geo) (I1 J1 : Mm) (H : Nat × (Nat → ASt)) (b' : Nat × Nat), z = (q : Int) → CFr g g1 I I1 J J1 c → CInv X g1 I1 J1 c (T, (A, H, sl1 A V)) → 5 * (4 - q) + 15750 ≤ b'.1 → 30 * (4 - q) + 94500 ≤ b'.2 → ZV X E_L_follows 78 [some (.ref c), some (vi x), some (vl (nowV A)), none, some (vi (aN A : Int)), some (vi 1), some (vi sy), some (vl (letdN (aSty A (bq : Int)))), none, some (vi z), o10, o11, o12, o13, o14, o15, o16, o17, o18, o19, o20] [] b' g1 I1 J1 post := by
  have l9 := letdN_rng (aSty A (bq : Int))
  refine loop_up 4 ?_ ?_
  · intro z g1 I1 J1 H b' hz hF1 hC1 hb1 hb2
    refine ZV_iload dL_follows_78 rfl ?_
    refine ZV_iconst dL_follows_80 ?_
    refine ZV_icmp_ge (tgt := 149) dL_follows_81 (by decide) ⟨by omega, by omega⟩ ⟨by omega, by omega⟩ (fun h81 => ?_) (fun h81 => ?_)
    · exact fo_149 hC1 hx0 ⟨(by first | omega | (dsimp only; omega)), (by first | omega | (dsimp only; omega))⟩ (fun g' I' J' T' f q => hx g' I' J' T' f ((hF1).tr q))
    · omega
  · intro q hq4 ih z g1 I1 J1 H b' hz hF1 hC1 hb1 hb2
    have hG : GoodSt A := hC1.good
    have h16 : aN A ≤ 16 := hG.1.1
    have h14 := hC1.hist
    have as := hG.1.2.2.1
    have bm := hbm q hq4
    have l8 := letdN_rng (aSty A (q : Int))
    have n8 : (aN (aSty A (q : Int)) : Int) = aN A := rfl
    have n9 : (aN (aSty A (bq : Int)) : Int) = aN A := rfl
    have l1 : lwL A z = letdN (aSty A (q : Int)) := by rw [hz]; exact if_pos ⟨by omega, by omega⟩
    have l2 : lwL (aSty A (q : Int)) z = letdN (aSty A (q : Int)) := by rw [hz]; exact (if_pos ⟨by omega, by omega⟩).trans rfl
    have e1 : ssL (A, H, sl1 A V) z = (aS A, (aSty A (q : Int), hpush H A, sl1 A V)) := by rw [hz]; exact if_pos ⟨by omega, by omega⟩
    have e3 : abL (aSty A (q : Int)) 3 = letdN (aSty A (q : Int)) := (ab_at _ (k := 3) (by decide)).trans rfl
    obtain ⟨k, fk, k14, un⟩ := un_push (aSty A (q : Int)) A H (sl1 A V) h14
    refine ZV_iload dL_follows_78 rfl ?_
    refine ZV_iconst dL_follows_80 ?_
    refine ZV_icmp_ge (tgt := 149) dL_follows_81 (by decide) ⟨by omega, by omega⟩ ⟨by omega, by omega⟩ (fun h81 => ?_) (fun h81 => ?_)
    · omega
    · refine ZV_iload dL_follows_84 rfl ?_
      refine ZV_one_eq (tgt := 149) dL_follows_86 (by decide) ?_
      refine ZV_aload_n dL_follows_89 rfl ?_
      refine ZV_iload dL_follows_90 rfl ?_
      refine cl_L_lettersWith kL_follows_134 rfl dL_follows_92 ⟨by first | omega | (dsimp only; omega), by first | omega | (dsimp only; omega)⟩ (Nat.le_of_ble_eq_true rfl) ?_
      refine sp_L_lettersWith hC1 ⟨by omega, by omega⟩ ⟨by decide, by decide⟩ ?_
      intro g2 I2 J2 hF2 hC2
      rw [l1]
      refine ZV_lload dL_follows_95 rfl ?_
      refine ZV_lif_lt (tgt := 140) dL_follows_97 dL_follows_98 (by decide) ⟨by omega, by omega⟩ ⟨by omega, by omega⟩ (fun h97 => ?_) (fun h97 => ?_)
      · omega
      · refine ZV_aload_n dL_follows_101 rfl ?_
        refine ZV_iload dL_follows_102 rfl ?_
        refine cl_L_setStyle kL_follows_126 rfl dL_follows_104 ⟨by first | omega | (dsimp only; omega), by first | omega | (dsimp only; omega)⟩ (Nat.le_of_ble_eq_true rfl) ?_
        refine sp_L_setStyle hC2 ⟨by omega, by omega⟩ ⟨by decide, by decide⟩ ?_
        intro g3 I3 J3 hF3 hC3
        rw [e1] at hC3 ⊢
        refine ZV_lconst (z := 0) dL_follows_107 (by decide) ?_
        refine ZV_lif_lt (tgt := 140) dL_follows_108 dL_follows_109 (by decide) ⟨by omega, by omega⟩ ⟨by omega, by omega⟩ (fun h108 => ?_) (fun h108 => ?_)
        · omega
        · refine ZV_aload_n dL_follows_112 rfl ?_
          refine ZV_iconst dL_follows_113 ?_
          refine cl_L_about kL_follows_99 rfl dL_follows_114 ⟨by first | omega | (dsimp only; omega), by first | omega | (dsimp only; omega)⟩ (Nat.le_of_ble_eq_true rfl) ?_
          refine sp_L_about hC3 ⟨by omega, by omega⟩ ⟨by decide, by decide⟩ ?_
          rw [e3]
          refine ZV_aload_n dL_follows_117 rfl ?_
          refine ZV_iload dL_follows_118 rfl ?_
          refine cl_L_lettersWith kL_follows_134 rfl dL_follows_120 ⟨by first | omega | (dsimp only; omega), by first | omega | (dsimp only; omega)⟩ (Nat.le_of_ble_eq_true rfl) ?_
          refine sp_L_lettersWith hC3 ⟨by omega, by omega⟩ ⟨by decide, by decide⟩ ?_
          intro g4 I4 J4 hF4 hC4
          rw [l2]
          refine ZV_lsame_ne (tgt := 140) dL_follows_123 dL_follows_124 (by decide) ?_
          refine ZV_aload_n dL_follows_127 rfl ?_
          refine cl_L_undo kL_follows_203 rfl dL_follows_128 ⟨by first | omega | (dsimp only; omega), by first | omega | (dsimp only; omega)⟩ (Nat.le_of_ble_eq_true rfl) ?_
          refine sp_L_undo hC4 ⟨by decide, by decide⟩ ?_
          intro g5 I5 J5 hF5 hC5
          rw [un] at hC5 ⊢
          refine ZV_lconst (z := 0) dL_follows_131 (by decide) ?_
          refine ZV_lif_lt (tgt := 140) dL_follows_132 dL_follows_133 (by decide) ⟨by omega, by omega⟩ ⟨by omega, by omega⟩ (fun h132 => ?_) (fun h132 => ?_)
          · omega
          · refine ZV_iconst dL_follows_136 ?_
            refine ZV_goto (tgt := 141) dL_follows_137 (by decide) ?_
            refine ZV_istore5 dL_follows_141 rfl (by decide) ?_
            refine ZV_jinc9 dL_follows_143 rfl (by decide) ?_
            refine ZV_goto (tgt := 78) dL_follows_146 (by decide) ?_
            exact ih _ g5 I5 J5 _ _ (by omega) ((((hF1.tr hF2).tr hF3).tr hF4).tr hF5) hC5 (by first | omega | (dsimp only; omega)) (by first | omega | (dsimp only; omega))
theorem sp_L_follows {Q : AC} (hC : CInv X g I J c Q) (hx0 : 0 ≤ x ∧ x ≤ 2147483647) (hb : 21100 ≤ b.1 ∧ 126600 ≤ b.2) (hx : ∀ (g' : Geo) (I' J' : Mm) (T' : Txt) (f : Nat → ASt), CFr g g' I I' J J' c → CInv X g' I' J' c (T', (Q.2.1, (0, f), sl1 Q.2.1 Q.2.2.2)) → post (.inl (some (vi 1))) g' I' J') : ZV X E_L_follows 0 [some (.ref c), some (vi x), none, none, none, none, none, none, none, none, none, none, none, none, none, none, none, none, none, none, none] [] b g I J post := by
  obtain ⟨T, A, H, V⟩ := Q
  have hG : GoodSt A := hC.good
  have h16 : aN A ≤ 16 := hG.1.1
  have e1 : svL (A, H, V) 1 = ((aN A : Int), (A, H, sl1 A V)) := rfl
  have r0 : abL A 0 = (aN A : Int) := ab_n A
  have sr : r64 (smL A x 9) := by
    have e : smL A x 9 = (i32 (100 * (aN (smS A x (9 : Int).toNat) : Int) + letdN (smS A x (9 : Int).toNat))).toInt := if_pos ⟨by decide, by decide⟩
    rw [e]
    have q := r32_of (i32 (100 * (aN (smS A x (9 : Int).toNat) : Int) + letdN (smS A x (9 : Int).toNat)))
    exact ⟨by have := q.1; omega, by have := q.2; omega⟩
  obtain ⟨⟨bq, bq1, bq2, bq3⟩, bmin⟩ := And.intro ((bs_min A 4).1 (by decide)) (bs_min A 4).2
  rw [bq3] at bmin
  have l2 : lwL A (bq : Int) = letdN (aSty A (bq : Int)) := if_pos ⟨by omega, by omega⟩
  refine ZV_aload_n dL_follows_0 rfl ?_
  refine cl_L_now kL_follows_114 rfl dL_follows_1 ⟨by first | omega | (dsimp only; omega), by first | omega | (dsimp only; omega)⟩ (Nat.le_of_ble_eq_true rfl) ?_
  refine sp_L_now hC ⟨by decide, by decide⟩ ?_
  refine ZV_lstore2 dL_follows_4 rfl (by decide) ?_
  refine ZV_aload_n dL_follows_5 rfl ?_
  refine ZV_iconst dL_follows_6 ?_
  refine cl_L_about kL_follows_99 rfl dL_follows_7 ⟨by first | omega | (dsimp only; omega), by first | omega | (dsimp only; omega)⟩ (Nat.le_of_ble_eq_true rfl) ?_
  refine sp_L_about hC ⟨by omega, by omega⟩ ⟨by decide, by decide⟩ ?_
  show ZV X E_L_follows _ _ (vl (abL A 0) :: _) _ _ _ _ _
  rw [r0]
  refine ZV_l2i dL_follows_10 ?_
  refine ZV_istore4 dL_follows_11 rfl (by decide) ?_
  refine ZV_aload_n dL_follows_13 rfl ?_
  refine ZV_iconst dL_follows_14 ?_
  refine cl_L_save kL_follows_152 rfl dL_follows_15 ⟨by first | omega | (dsimp only; omega), by first | omega | (dsimp only; omega)⟩ (Nat.le_of_ble_eq_true rfl) ?_
  refine sp_L_save hC ⟨by omega, by omega⟩ ⟨by decide, by decide⟩ ?_
  intro g1 I1 J1 hF1 hC1
  replace hC1 : CInv X g1 I1 J1 c (T, (svL (A, H, V) 1).2) := hC1
  show ZV X E_L_follows _ _ (vl (svL (A, H, V) 1).1 :: _) _ _ _ _ _
  rw [e1] at hC1 ⊢
  refine ZV_iload dL_follows_18 rfl ?_
  refine ZV_i2l dL_follows_20 ⟨by omega, by omega⟩ ?_
  refine ZV_lsame_ne (tgt := 58) dL_follows_21 dL_follows_22 (by decide) ?_
  refine ZV_aload_n dL_follows_25 rfl ?_
  refine ZV_iload_n dL_follows_26 rfl ?_
  refine ZV_i2l dL_follows_27 ⟨by omega, by omega⟩ ?_
  refine ZV_bipush dL_follows_28 (by decide) ?_
  refine cl_L_simulate kL_follows_149 rfl dL_follows_30 ⟨by first | omega | (dsimp only; omega), by first | omega | (dsimp only; omega)⟩ (Nat.le_of_ble_eq_true rfl) ?_
  refine sp_L_simulate hC1 ⟨by omega, by omega⟩ ⟨by omega, by omega⟩ ⟨by decide, by decide⟩ ?_
  intro g2 I2 J2 hF2 hC2
  refine ZV_aload_n dL_follows_33 rfl ?_
  refine ZV_iload_n dL_follows_34 rfl ?_
  refine ZV_i2l dL_follows_35 ⟨by omega, by omega⟩ ?_
  refine ZV_bipush dL_follows_36 (by decide) ?_
  refine cl_L_simulate kL_follows_149 rfl dL_follows_38 ⟨by first | omega | (dsimp only; omega), by first | omega | (dsimp only; omega)⟩ (Nat.le_of_ble_eq_true rfl) ?_
  refine sp_L_simulate hC2 ⟨by omega, by omega⟩ ⟨by omega, by omega⟩ ⟨by decide, by decide⟩ ?_
  intro g3 I3 J3 hF3 hC3
  have kc3 := hC3.1.1.1
  refine ZV_lsame_ne (tgt := 58) dL_follows_41 dL_follows_42 (by decide) ?_
  refine ZV_aload_n dL_follows_45 rfl ?_
  refine cl_L_now kL_follows_114 rfl dL_follows_46 ⟨by first | omega | (dsimp only; omega), by first | omega | (dsimp only; omega)⟩ (Nat.le_of_ble_eq_true rfl) ?_
  refine sp_L_now hC3 ⟨by decide, by decide⟩ ?_
  refine ZV_lload_n dL_follows_49 rfl ?_
  refine ZV_lsame_ne (tgt := 58) dL_follows_50 dL_follows_51 (by decide) ?_
  refine ZV_iconst dL_follows_54 ?_
  refine ZV_goto (tgt := 59) dL_follows_55 (by decide) ?_
  refine ZV_istore5 dL_follows_59 rfl (by decide) ?_
  refine ZV_aload_n dL_follows_61 rfl ?_
  refine cl_X6_bestStyle kL_follows_197 rfl dL_follows_62 (by assumption) (Nat.le_of_ble_eq_true rfl) ?_
  refine sp_X6_bestStyle hC3 ?_
  intro I4 J4 hF4 hC4
  show ZV X E_L_follows _ _ (vi (bsF A 4).1 :: _) _ _ _ _ _
  rw [bq2]
  refine ZV_istore6 dL_follows_65 rfl (by decide) ?_
  refine ZV_aload_n dL_follows_67 rfl ?_
  refine ZV_iload dL_follows_68 rfl ?_
  refine cl_L_lettersWith kL_follows_134 rfl dL_follows_70 ⟨by first | omega | (dsimp only; omega), by first | omega | (dsimp only; omega)⟩ (Nat.le_of_ble_eq_true rfl) ?_
  refine sp_L_lettersWith hC4 ⟨by omega, by omega⟩ ⟨by decide, by decide⟩ ?_
  intro g5 I5 J5 hF5 hC5
  show ZV X E_L_follows _ _ (vl (lwL A (bq : Int)) :: _) _ _ _ _ _
  rw [l2]
  refine ZV_lstore7 dL_follows_73 rfl (by decide) ?_
  refine ZV_iconst dL_follows_75 ?_
  refine ZV_istore9 dL_follows_76 rfl (by decide) ?_
  exact fo_78 bq1 bmin hx0 hx 0 (by omega) _ g5 I5 J5 _ _ rfl ((((hF1.tr hF2).tr hF3).tr hF4).tr hF5) hC5 (by first | omega | (dsimp only; omega)) (by first | omega | (dsimp only; omega))
end ZL7

