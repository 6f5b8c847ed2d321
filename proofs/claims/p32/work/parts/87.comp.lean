/-! the law compares works -/
theorem codeAt_dg (v : Int) {k : Nat} (hk : k < 8) : codeAt v (k : Int) = if dg v k = 0 then -9 else 96 + dg v k := by
  unfold codeAt
  rw [dgz_nat rfl hk]
theorem codeAt_cmp (u v : Int) {k : Nat} (hk : k < 8) : (codeAt u (k : Int) = codeAt v (k : Int) → dg u k = dg v k) ∧ (codeAt u (k : Int) < codeAt v (k : Int) → dg u k < dg v k) := by
  rw [codeAt_dg u hk, codeAt_dg v hk]
  have a := dg_rng u k
  have b := dg_rng v k
  refine ⟨?_, ?_⟩ <;> (repeat' split) <;> omega
theorem nmAt_in {W : AWk} {a : Nat} (h4 : W.2.1 ≤ 4) (h : (a : Int) < W.2.1) : nmAt W (a : Int) = W.1 a := by
  unfold nmAt
  rw [if_pos ⟨by omega, h, by omega⟩]; rfl
theorem nmAt_ti {W : AWk} : nmAt W W.2.1 = W.2.2.2 := by
  unfold nmAt
  rw [if_neg (fun q => by have := q.2.1; omega)]
theorem nmAt_ok {W : AWk} (hW : AWF W) (a : Int) : nmOK (nmAt W a) := by
  unfold nmAt
  by_cases c : 0 ≤ a ∧ a < W.2.1 ∧ a < 4
  · rw [if_pos c]; exact wfN_ok (hW.2.1 a.toNat (by omega))
  · rw [if_neg c]; exact wfN_ok hW.2.2.2.2
section ZL4
variable {X : Xt} {g : Geo} {I J : Mm} {b : Nat × Nat} {post : Out → Geo → Mm → Mm → Prop}
theorem sp_L_sameKey {c i j : Nat} {zi zj : Int} {Q : AC} (hC : CInv X g I J c Q) (hi : i < aN Q.2.1) (hj : j < aN Q.2.1) (hzi : zi = (i : Int)) (hzj : zj = (j : Int)) (hb : 80 ≤ b.1 ∧ 480 ≤ b.2) (h : post (.inl (some (vi (if keyOf Q.2.1 i = keyOf Q.2.1 j then 1 else 0)))) g I J) : ZV X E_L_sameKey 0 [some (.ref c), some (vi zi), some (vi zj), none, none] [] b g I J post := by
  have hG := hC.good
  have h16 := hG.1.1
  have ki := keyK hG hi
  have kj := keyK hG hj
  have wi : wkL Q.2.1 zi 3 = klen (keyOf Q.2.1 i) := by rw [hzi]; exact wk_3 hi
  have wj : wkL Q.2.1 zj 3 = klen (keyOf Q.2.1 j) := by rw [hzj]; exact wk_3 hj
  have ui : ∀ y : Int, 0 ≤ y → kyL Q.2.1 zi y = kch (keyOf Q.2.1 i) y := fun y hy => by rw [hzi]; exact ky_at hi hy
  have uj : ∀ y : Int, 0 ≤ y → kyL Q.2.1 zj y = kch (keyOf Q.2.1 j) y := fun y hy => by rw [hzj]; exact ky_at hj hy
  obtain ⟨l, hl⟩ : ∃ l : Nat, (l : Int) = klen (keyOf Q.2.1 i) := ⟨(klen (keyOf Q.2.1 i)).toNat, by omega⟩
  have ex : ∀ (s : Int) (o4 : Option Value) (b' : Nat × Nat), (s = 0 ∨ s = 1) → (s = 1 ↔ keyOf Q.2.1 i = keyOf Q.2.1 j) → ZV X E_L_sameKey 72 [some (.ref c), some (vi zi), some (vi zj), some (vi s), o4] [] b' g I J post := by
    intro s o4 b' h01 hs
    refine ZV_iload_n dL_sameKey_72 rfl ?_
    refine ZV_zret dL_sameKey_73 rfl (by first | exact Or.inl rfl | exact Or.inr rfl | assumption | omega) ?_
    rcases h01 with e | e
    · rw [if_neg (fun q => by have := hs.mpr q; omega)] at h
      rw [e]; exact h
    · rw [if_pos (hs.mp e)] at h
      rw [e]; exact h
  have key : ∀ k : Nat, k ≤ l → ∀ (z s : Int) (b' : Nat × Nat), z = (k : Int) → (s = 0 ∨ s = 1) → (s = 1 ↔ (klen (keyOf Q.2.1 i) = klen (keyOf Q.2.1 j) ∧ ∀ m : Nat, m < k → kch (keyOf Q.2.1 i) m = kch (keyOf Q.2.1 j) m)) → (l - k) * 6 + 2 ≤ b'.1 → 6 * ((l - k) * 6 + 2) ≤ b'.2 → ZV X E_L_sameKey 25 [some (.ref c), some (vi zi), some (vi zj), some (vi s), some (vi z)] [] b' g I J post := by
    refine loop_up l ?_ ?_
    · intro z s b' hz h01 hs hb1 hb2
      refine ZV_iload dL_sameKey_25 rfl ?_
      refine ZV_i2l dL_sameKey_27 ⟨by omega, by omega⟩ ?_
      refine ZV_aload_n dL_sameKey_28 rfl ?_
      refine ZV_iload_n dL_sameKey_29 rfl ?_
      refine ZV_iconst dL_sameKey_30 ?_
      refine cl_L_work kL_sameKey_104 rfl dL_sameKey_31 ⟨by first | omega | (dsimp only; omega), by first | omega | (dsimp only; omega)⟩ (Nat.le_of_ble_eq_true rfl) ?_
      refine sp_L_work hC ⟨by omega, by omega⟩ ⟨by omega, by omega⟩ ⟨by decide, by decide⟩ ?_
      rw [wi]
      refine ZV_lif_ge (tgt := 72) dL_sameKey_34 dL_sameKey_35 (by decide) ⟨by omega, by omega⟩ ⟨by omega, by omega⟩ (fun h34 => ?_) (fun h34 => ?_)
      · exact ex s _ _ h01 (hs.trans ⟨fun q => KWF_inj (keyOf_KWF hG hi) (keyOf_KWF hG hj) q.1 (fun m hm => q.2 m (by omega)), fun q => by rw [q]; exact ⟨rfl, fun _ _ => rfl⟩⟩)
      · omega
    · intro k hk ih z s b' hz h01 hs hb1 hb2
      refine ZV_iload dL_sameKey_25 rfl ?_
      refine ZV_i2l dL_sameKey_27 ⟨by omega, by omega⟩ ?_
      refine ZV_aload_n dL_sameKey_28 rfl ?_
      refine ZV_iload_n dL_sameKey_29 rfl ?_
      refine ZV_iconst dL_sameKey_30 ?_
      refine cl_L_work kL_sameKey_104 rfl dL_sameKey_31 ⟨by first | omega | (dsimp only; omega), by first | omega | (dsimp only; omega)⟩ (Nat.le_of_ble_eq_true rfl) ?_
      refine sp_L_work hC ⟨by omega, by omega⟩ ⟨by omega, by omega⟩ ⟨by decide, by decide⟩ ?_
      rw [wi]
      refine ZV_lif_ge (tgt := 72) dL_sameKey_34 dL_sameKey_35 (by decide) ⟨by omega, by omega⟩ ⟨by omega, by omega⟩ (fun h34 => ?_) (fun h34 => ?_)
      · omega
      · refine ZV_iload_n dL_sameKey_38 rfl ?_
        refine ZV_if_eq (tgt := 72) dL_sameKey_39 (by decide) ⟨by omega, by omega⟩ (fun h39 => ?_) (fun h39 => ?_)
        · exact ex s _ _ h01 ⟨fun q => by omega, fun q => hs.mpr (by rw [q]; exact ⟨rfl, fun _ _ => rfl⟩)⟩
        · have hs1 : s = 1 := by omega
          have hp := hs.mp hs1
          have c1 := kch_rng (keyOf Q.2.1 i) z
          have c2 := kch_rng (keyOf Q.2.1 j) z
          refine ZV_aload_n dL_sameKey_42 rfl ?_
          refine ZV_iload_n dL_sameKey_43 rfl ?_
          refine ZV_iload dL_sameKey_44 rfl ?_
          refine cl_L_key kL_sameKey_107 rfl dL_sameKey_46 ⟨by first | omega | (dsimp only; omega), by first | omega | (dsimp only; omega)⟩ (Nat.le_of_ble_eq_true rfl) ?_
          refine sp_L_key hC ⟨by omega, by omega⟩ ⟨by omega, by omega⟩ ⟨by decide, by decide⟩ ?_
          rw [ui z (by omega)]
          refine ZV_aload_n dL_sameKey_49 rfl ?_
          refine ZV_iload_n dL_sameKey_50 rfl ?_
          refine ZV_iload dL_sameKey_51 rfl ?_
          refine cl_L_key kL_sameKey_107 rfl dL_sameKey_53 ⟨by first | omega | (dsimp only; omega), by first | omega | (dsimp only; omega)⟩ (Nat.le_of_ble_eq_true rfl) ?_
          refine sp_L_key hC ⟨by omega, by omega⟩ ⟨by omega, by omega⟩ ⟨by decide, by decide⟩ ?_
          rw [uj z (by omega)]
          refine ZV_lif_ne (tgt := 64) dL_sameKey_56 dL_sameKey_57 (by decide) ⟨by omega, by omega⟩ ⟨by omega, by omega⟩ (fun h56 => ?_) (fun h56 => ?_)
          · refine ZV_iconst dL_sameKey_64 ?_
            refine ZV_istore3 dL_sameKey_65 rfl (by decide) ?_
            refine ZV_jinc4 dL_sameKey_66 rfl (by decide) ?_
            refine ZV_goto (tgt := 25) dL_sameKey_69 (by decide) ?_
            exact ih _ _ _ (by omega) (Or.inl rfl) ⟨fun q => absurd q (by decide), fun q => by
              have := q.2 k (by omega)
              rw [hz] at h56
              exact absurd this h56⟩ (by first | omega | (dsimp only; omega)) (by first | omega | (dsimp only; omega))
          · refine ZV_iconst dL_sameKey_60 ?_
            refine ZV_goto (tgt := 65) dL_sameKey_61 (by decide) ?_
            refine ZV_istore3 dL_sameKey_65 rfl (by decide) ?_
            refine ZV_jinc4 dL_sameKey_66 rfl (by decide) ?_
            refine ZV_goto (tgt := 25) dL_sameKey_69 (by decide) ?_
            exact ih _ _ _ (by omega) (Or.inr rfl) ⟨fun _ => ⟨hp.1, fun m hm => by
              by_cases e : m = k
              · rw [hz] at h56; rw [e]; exact h56
              · exact hp.2 m (by omega)⟩, fun _ => rfl⟩ (by first | omega | (dsimp only; omega)) (by first | omega | (dsimp only; omega))
  refine ZV_aload_n dL_sameKey_0 rfl ?_
  refine ZV_iload_n dL_sameKey_1 rfl ?_
  refine ZV_iconst dL_sameKey_2 ?_
  refine cl_L_work kL_sameKey_104 rfl dL_sameKey_3 ⟨by first | omega | (dsimp only; omega), by first | omega | (dsimp only; omega)⟩ (Nat.le_of_ble_eq_true rfl) ?_
  refine sp_L_work hC ⟨by omega, by omega⟩ ⟨by omega, by omega⟩ ⟨by decide, by decide⟩ ?_
  rw [wi]
  refine ZV_aload_n dL_sameKey_6 rfl ?_
  refine ZV_iload_n dL_sameKey_7 rfl ?_
  refine ZV_iconst dL_sameKey_8 ?_
  refine cl_L_work kL_sameKey_104 rfl dL_sameKey_9 ⟨by first | omega | (dsimp only; omega), by first | omega | (dsimp only; omega)⟩ (Nat.le_of_ble_eq_true rfl) ?_
  refine sp_L_work hC ⟨by omega, by omega⟩ ⟨by omega, by omega⟩ ⟨by decide, by decide⟩ ?_
  rw [wj]
  refine ZV_lif_ne (tgt := 20) dL_sameKey_12 dL_sameKey_13 (by decide) ⟨by omega, by omega⟩ ⟨by omega, by omega⟩ (fun h12 => ?_) (fun h12 => ?_)
  · refine ZV_iconst dL_sameKey_20 ?_
    refine ZV_istore3 dL_sameKey_21 rfl (by decide) ?_
    refine ZV_iconst dL_sameKey_22 ?_
    refine ZV_istore4 dL_sameKey_23 rfl (by decide) ?_
    exact key 0 (by omega) _ _ _ rfl (Or.inl rfl) ⟨fun q => absurd q (by decide), fun q => absurd q.1 (by assumption)⟩ (by first | omega | (dsimp only; omega)) (by first | omega | (dsimp only; omega))
  · refine ZV_iconst dL_sameKey_16 ?_
    refine ZV_goto (tgt := 21) dL_sameKey_17 (by decide) ?_
    refine ZV_istore3 dL_sameKey_21 rfl (by decide) ?_
    refine ZV_iconst dL_sameKey_22 ?_
    refine ZV_istore4 dL_sameKey_23 rfl (by decide) ?_
    exact key 0 (by omega) _ _ _ rfl (Or.inr rfl) ⟨fun _ => ⟨by assumption, fun m hm => absurd hm (Nat.not_lt_zero m)⟩, fun _ => rfl⟩ (by first | omega | (dsimp only; omega)) (by first | omega | (dsimp only; omega))
theorem sp_L_sameStem {c i j : Nat} {zi zj : Int} {Q : AC} (hC : CInv X g I J c Q) (hi : i < aN Q.2.1) (hj : j < aN Q.2.1) (hzi : zi = (i : Int)) (hzj : zj = (j : Int)) (hb : 60 ≤ b.1 ∧ 360 ≤ b.2) (h : post (.inl (some (vi (if stemOf Q.2.1 i = stemOf Q.2.1 j then 1 else 0)))) g I J) : ZV X E_L_sameStem 0 [some (.ref c), some (vi zi), some (vi zj), none, none, none] [] b g I J post := by
  have hG := hC.good
  have h16 := hG.1.1
  have ki := keyK hG hi
  have kj := keyK hG hj
  have pi' := key_parts hG hi
  have pj' := key_parts hG hj
  have li := letOf_rng hG.1 i
  have lj := letOf_rng hG.1 j
  have si := (stemOf_KWF hG hi).len
  have sj := (stemOf_KWF hG hj).len
  have wi : wkL Q.2.1 zi 3 = klen (keyOf Q.2.1 i) := by rw [hzi]; exact wk_3 hi
  have wj : wkL Q.2.1 zj 3 = klen (keyOf Q.2.1 j) := by rw [hzj]; exact wk_3 hj
  have vi' : wkL Q.2.1 zi 4 = letOf Q.2.1 i := by rw [hzi]; exact (wk_at (k := 4) hi (by decide)).trans (klet_key hG hi)
  have vj' : wkL Q.2.1 zj 4 = letOf Q.2.1 j := by rw [hzj]; exact (wk_at (k := 4) hj (by decide)).trans (klet_key hG hj)
  have ui : ∀ y : Int, 0 ≤ y → kyL Q.2.1 zi y = kch (keyOf Q.2.1 i) y := fun y hy => by rw [hzi]; exact ky_at hi hy
  have uj : ∀ y : Int, 0 ≤ y → kyL Q.2.1 zj y = kch (keyOf Q.2.1 j) y := fun y hy => by rw [hzj]; exact ky_at hj hy
  obtain ⟨l, hl⟩ : ∃ l : Nat, (l : Int) = klen (stemOf Q.2.1 i) := ⟨(klen (stemOf Q.2.1 i)).toNat, by omega⟩
  have back : stemOf Q.2.1 i = stemOf Q.2.1 j → klen (stemOf Q.2.1 i) = klen (stemOf Q.2.1 j) ∧ ∀ m : Nat, m < l → kch (keyOf Q.2.1 i) m = kch (keyOf Q.2.1 j) m := fun q => ⟨by rw [q], fun m hm => by
    rw [pi'.2.1 m (by omega), pj'.2.1 m (by rw [← q]; omega), q]⟩
  have ex : ∀ (s n : Int) (o5 : Option Value) (b' : Nat × Nat), (s = 0 ∨ s = 1) → (s = 1 ↔ stemOf Q.2.1 i = stemOf Q.2.1 j) → ZV X E_L_sameStem 105 [some (.ref c), some (vi zi), some (vi zj), some (vi n), some (vi s), o5] [] b' g I J post := by
    intro s n o5 b' h01 hs
    refine ZV_iload dL_sameStem_105 rfl ?_
    refine ZV_zret dL_sameStem_107 rfl (by first | exact Or.inl rfl | exact Or.inr rfl | assumption | omega) ?_
    rcases h01 with e | e
    · rw [if_neg (fun q => by have := hs.mpr q; omega)] at h
      rw [e]; exact h
    · rw [if_pos (hs.mp e)] at h
      rw [e]; exact h
  have key : ∀ k : Nat, k ≤ l → ∀ (z s n : Int) (b' : Nat × Nat), z = (k : Int) → n = (l : Int) → (s = 0 ∨ s = 1) → (s = 1 ↔ (klen (stemOf Q.2.1 i) = klen (stemOf Q.2.1 j) ∧ ∀ m : Nat, m < k → kch (keyOf Q.2.1 i) m = kch (keyOf Q.2.1 j) m)) → (l - k) * 4 ≤ b'.1 → 6 * ((l - k) * 4) ≤ b'.2 → ZV X E_L_sameStem 63 [some (.ref c), some (vi zi), some (vi zj), some (vi n), some (vi s), some (vi z)] [] b' g I J post := by
    refine loop_up l ?_ ?_
    · intro z s n b' hz hn h01 hs hb1 hb2
      refine ZV_iload dL_sameStem_63 rfl ?_
      refine ZV_iload_n dL_sameStem_65 rfl ?_
      refine ZV_icmp_ge (tgt := 105) dL_sameStem_66 (by decide) ⟨by omega, by omega⟩ ⟨by omega, by omega⟩ (fun h66 => ?_) (fun h66 => ?_)
      · exact ex s _ _ _ h01 (hs.trans ⟨fun q => stem_same hG hi hj q.1 (fun m hm => q.2 m (by omega)), back⟩)
      · omega
    · intro k hk ih z s n b' hz hn h01 hs hb1 hb2
      refine ZV_iload dL_sameStem_63 rfl ?_
      refine ZV_iload_n dL_sameStem_65 rfl ?_
      refine ZV_icmp_ge (tgt := 105) dL_sameStem_66 (by decide) ⟨by omega, by omega⟩ ⟨by omega, by omega⟩ (fun h66 => ?_) (fun h66 => ?_)
      · omega
      · refine ZV_iload dL_sameStem_69 rfl ?_
        refine ZV_if_eq (tgt := 105) dL_sameStem_71 (by decide) ⟨by omega, by omega⟩ (fun h71 => ?_) (fun h71 => ?_)
        · exact ex s _ _ _ h01 ⟨fun q => by omega, fun q => hs.mpr ⟨(back q).1, fun m hm => (back q).2 m (by omega)⟩⟩
        · have hs1 : s = 1 := by omega
          have hp := hs.mp hs1
          have c1 := kch_rng (keyOf Q.2.1 i) z
          have c2 := kch_rng (keyOf Q.2.1 j) z
          refine ZV_aload_n dL_sameStem_74 rfl ?_
          refine ZV_iload_n dL_sameStem_75 rfl ?_
          refine ZV_iload dL_sameStem_76 rfl ?_
          refine cl_L_key kL_sameStem_107 rfl dL_sameStem_78 ⟨by first | omega | (dsimp only; omega), by first | omega | (dsimp only; omega)⟩ (Nat.le_of_ble_eq_true rfl) ?_
          refine sp_L_key hC ⟨by omega, by omega⟩ ⟨by omega, by omega⟩ ⟨by decide, by decide⟩ ?_
          rw [ui z (by omega)]
          refine ZV_aload_n dL_sameStem_81 rfl ?_
          refine ZV_iload_n dL_sameStem_82 rfl ?_
          refine ZV_iload dL_sameStem_83 rfl ?_
          refine cl_L_key kL_sameStem_107 rfl dL_sameStem_85 ⟨by first | omega | (dsimp only; omega), by first | omega | (dsimp only; omega)⟩ (Nat.le_of_ble_eq_true rfl) ?_
          refine sp_L_key hC ⟨by omega, by omega⟩ ⟨by omega, by omega⟩ ⟨by decide, by decide⟩ ?_
          rw [uj z (by omega)]
          refine ZV_lif_ne (tgt := 96) dL_sameStem_88 dL_sameStem_89 (by decide) ⟨by omega, by omega⟩ ⟨by omega, by omega⟩ (fun h88 => ?_) (fun h88 => ?_)
          · refine ZV_iconst dL_sameStem_96 ?_
            refine ZV_istore4 dL_sameStem_97 rfl (by decide) ?_
            refine ZV_jinc5 dL_sameStem_99 rfl (by decide) ?_
            refine ZV_goto (tgt := 63) dL_sameStem_102 (by decide) ?_
            exact ih _ _ _ _ (by omega) hn (Or.inl rfl) ⟨fun q => absurd q (by decide), fun q => by
              have := q.2 k (by omega)
              rw [hz] at h88
              exact absurd this h88⟩ (by first | omega | (dsimp only; omega)) (by first | omega | (dsimp only; omega))
          · refine ZV_iconst dL_sameStem_92 ?_
            refine ZV_goto (tgt := 97) dL_sameStem_93 (by decide) ?_
            refine ZV_istore4 dL_sameStem_97 rfl (by decide) ?_
            refine ZV_jinc5 dL_sameStem_99 rfl (by decide) ?_
            refine ZV_goto (tgt := 63) dL_sameStem_102 (by decide) ?_
            exact ih _ _ _ _ (by omega) hn (Or.inr rfl) ⟨fun _ => ⟨hp.1, fun m hm => by
              by_cases e : m = k
              · rw [hz] at h88; rw [e]; exact h88
              · exact hp.2 m (by omega)⟩, fun _ => rfl⟩ (by first | omega | (dsimp only; omega)) (by first | omega | (dsimp only; omega))
  have p49 : ∀ (t : Int) (b' : Nat × Nat), t = (if 0 < letOf Q.2.1 j then 1 else 0) → 48 ≤ b'.1 → 288 ≤ b'.2 → ZV X E_L_sameStem 49 [some (.ref c), some (vi zi), some (vi zj), some (vi (klen (stemOf Q.2.1 i))), none, none] [vi t, vi (klen (keyOf Q.2.1 j)), vi (klen (stemOf Q.2.1 i))] b' g I J post := by
    intro t b' ht hb1 hb2
    have e : klen (keyOf Q.2.1 j) - t = klen (stemOf Q.2.1 j) := by rw [ht]; omega
    refine ZV_isub dL_sameStem_49 ?_
    rw [e]
    refine ZV_icmp_ne (tgt := 57) dL_sameStem_50 (by decide) ⟨by omega, by omega⟩ ⟨by omega, by omega⟩ (fun h50 => ?_) (fun h50 => ?_)
    · refine ZV_iconst dL_sameStem_57 ?_
      refine ZV_istore4 dL_sameStem_58 rfl (by decide) ?_
      refine ZV_iconst dL_sameStem_60 ?_
      refine ZV_istore5 dL_sameStem_61 rfl (by decide) ?_
      exact key 0 (by omega) _ _ _ _ rfl hl.symm (Or.inl rfl) ⟨fun q => absurd q (by decide), fun q => absurd q.1 (by assumption)⟩ (by first | omega | (dsimp only; omega)) (by first | omega | (dsimp only; omega))
    · refine ZV_iconst dL_sameStem_53 ?_
      refine ZV_goto (tgt := 58) dL_sameStem_54 (by decide) ?_
      refine ZV_istore4 dL_sameStem_58 rfl (by decide) ?_
      refine ZV_iconst dL_sameStem_60 ?_
      refine ZV_istore5 dL_sameStem_61 rfl (by decide) ?_
      exact key 0 (by omega) _ _ _ _ rfl hl.symm (Or.inr rfl) ⟨fun _ => ⟨by assumption, fun m hm => absurd hm (Nat.not_lt_zero m)⟩, fun _ => rfl⟩ (by first | omega | (dsimp only; omega)) (by first | omega | (dsimp only; omega))
  have p23 : ∀ (t : Int) (b' : Nat × Nat), t = (if 0 < letOf Q.2.1 i then 1 else 0) → 52 ≤ b'.1 → 312 ≤ b'.2 → ZV X E_L_sameStem 23 [some (.ref c), some (vi zi), some (vi zj), none, none, none] [vi t, vi (klen (keyOf Q.2.1 i))] b' g I J post := by
    intro t b' ht hb1 hb2
    have e : klen (keyOf Q.2.1 i) - t = klen (stemOf Q.2.1 i) := by rw [ht]; omega
    refine ZV_isub dL_sameStem_23 ?_
    rw [e]
    refine ZV_istore3 dL_sameStem_24 rfl (by decide) ?_
    refine ZV_iload_n dL_sameStem_25 rfl ?_
    refine ZV_aload_n dL_sameStem_26 rfl ?_
    refine ZV_iload_n dL_sameStem_27 rfl ?_
    refine ZV_iconst dL_sameStem_28 ?_
    refine cl_L_work kL_sameStem_104 rfl dL_sameStem_29 ⟨by first | omega | (dsimp only; omega), by first | omega | (dsimp only; omega)⟩ (Nat.le_of_ble_eq_true rfl) ?_
    refine sp_L_work hC ⟨by omega, by omega⟩ ⟨by omega, by omega⟩ ⟨by decide, by decide⟩ ?_
    rw [wj]
    refine ZV_l2i dL_sameStem_32 ?_
    refine ZV_aload_n dL_sameStem_33 rfl ?_
    refine ZV_iload_n dL_sameStem_34 rfl ?_
    refine ZV_iconst dL_sameStem_35 ?_
    refine cl_L_work kL_sameStem_104 rfl dL_sameStem_36 ⟨by first | omega | (dsimp only; omega), by first | omega | (dsimp only; omega)⟩ (Nat.le_of_ble_eq_true rfl) ?_
    refine sp_L_work hC ⟨by omega, by omega⟩ ⟨by omega, by omega⟩ ⟨by decide, by decide⟩ ?_
    rw [vj']
    refine ZV_lconst (z := 0) dL_sameStem_39 (by decide) ?_
    refine ZV_lif_le (tgt := 48) dL_sameStem_40 dL_sameStem_41 (by decide) ⟨by omega, by omega⟩ ⟨by omega, by omega⟩ (fun h40 => ?_) (fun h40 => ?_)
    · refine ZV_iconst dL_sameStem_48 ?_
      exact p49 _ _ (by rw [if_neg (by omega)]) (by first | omega | (dsimp only; omega)) (by first | omega | (dsimp only; omega))
    · refine ZV_iconst dL_sameStem_44 ?_
      refine ZV_goto (tgt := 49) dL_sameStem_45 (by decide) ?_
      exact p49 _ _ (by rw [if_pos (by omega)]) (by first | omega | (dsimp only; omega)) (by first | omega | (dsimp only; omega))
  refine ZV_aload_n dL_sameStem_0 rfl ?_
  refine ZV_iload_n dL_sameStem_1 rfl ?_
  refine ZV_iconst dL_sameStem_2 ?_
  refine cl_L_work kL_sameStem_104 rfl dL_sameStem_3 ⟨by first | omega | (dsimp only; omega), by first | omega | (dsimp only; omega)⟩ (Nat.le_of_ble_eq_true rfl) ?_
  refine sp_L_work hC ⟨by omega, by omega⟩ ⟨by omega, by omega⟩ ⟨by decide, by decide⟩ ?_
  rw [wi]
  refine ZV_l2i dL_sameStem_6 ?_
  refine ZV_aload_n dL_sameStem_7 rfl ?_
  refine ZV_iload_n dL_sameStem_8 rfl ?_
  refine ZV_iconst dL_sameStem_9 ?_
  refine cl_L_work kL_sameStem_104 rfl dL_sameStem_10 ⟨by first | omega | (dsimp only; omega), by first | omega | (dsimp only; omega)⟩ (Nat.le_of_ble_eq_true rfl) ?_
  refine sp_L_work hC ⟨by omega, by omega⟩ ⟨by omega, by omega⟩ ⟨by decide, by decide⟩ ?_
  rw [vi']
  refine ZV_lconst (z := 0) dL_sameStem_13 (by decide) ?_
  refine ZV_lif_le (tgt := 22) dL_sameStem_14 dL_sameStem_15 (by decide) ⟨by omega, by omega⟩ ⟨by omega, by omega⟩ (fun h14 => ?_) (fun h14 => ?_)
  · refine ZV_iconst dL_sameStem_22 ?_
    exact p23 _ _ (by rw [if_neg (by omega)]) (by first | omega | (dsimp only; omega)) (by first | omega | (dsimp only; omega))
  · refine ZV_iconst dL_sameStem_18 ?_
    refine ZV_goto (tgt := 23) dL_sameStem_19 (by decide) ?_
    exact p23 _ _ (by rw [if_pos (by omega)]) (by first | omega | (dsimp only; omega)) (by first | omega | (dsimp only; omega))
theorem sp_L_names {c i j : Nat} {zi zj za zb : Int} {Q : AC} (hC : CInv X g I J c Q) (hi : i < aN Q.2.1) (hj : j < aN Q.2.1) (hzi : zi = (i : Int)) (hzj : zj = (j : Int)) (ha : 0 ≤ za ∧ za ≤ (aW Q.2.1 i).2.1) (hbb : 0 ≤ zb ∧ zb ≤ (aW Q.2.1 j).2.1) (hb : 32 ≤ b.1 ∧ 192 ≤ b.2) (h : post (.inl (some (vi (zcmp (nmAt (aW Q.2.1 i) za) (nmAt (aW Q.2.1 j) zb))))) g I J) : ZV X E_L_names 0 [some (.ref c), some (vi zi), some (vi za), some (vi zj), some (vi zb), none, none, none, none, none] [] b g I J post := by
  have hG := hC.good
  have h16 := hG.1.1
  have wi := hG.2.1 i hi
  have wj := hG.2.1 j hj
  have ni := wi.1
  have nj := wj.1
  have oi := nmAt_ok wi za
  have oj := nmAt_ok wj zb
  have li : ∀ k : Int, 0 ≤ k → ltL Q.2.1 zi za k = codeAt (nmAt (aW Q.2.1 i) za) k := fun k hk => by rw [hzi]; exact lt_at hi ha hk
  have lj : ∀ k : Int, 0 ≤ k → ltL Q.2.1 zj zb k = codeAt (nmAt (aW Q.2.1 j) zb) k := fun k hk => by rw [hzj]; exact lt_at hj hbb hk
  obtain ⟨u, hu⟩ : ∃ u, u = nmAt (aW Q.2.1 i) za := ⟨_, rfl⟩
  obtain ⟨v, hv⟩ : ∃ v, v = nmAt (aW Q.2.1 j) zb := ⟨_, rfl⟩
  rw [← hu] at oi li h
  rw [← hv] at oj lj h
  have zs := zcmp_sg u v
  have key : ∀ k : Nat, k ≤ 8 → ∀ (z : Int) (o6 o7 o8 o9 : Option Value) (b' : Nat × Nat), z = (k : Int) → (∀ m, m < k → dg u m = dg v m) → 4 * (8 - k) ≤ b'.1 → 6 * (4 * (8 - k)) ≤ b'.2 → ZV X E_L_names 3 [some (.ref c), some (vi zi), some (vi za), some (vi zj), some (vi zb), some (vi z), o6, o7, o8, o9] [] b' g I J post := by
    refine loop_up 8 ?_ ?_
    · intro z o6 o7 o8 o9 b' hz hq hb1 hb2
      have e := nm_eq oi oj hq
      refine ZV_iload dL_names_3 rfl ?_
      refine ZV_bipush dL_names_5 (by decide) ?_
      refine ZV_icmp_ge (tgt := 59) dL_names_7 (by decide) ⟨by omega, by omega⟩ ⟨by omega, by omega⟩ (fun h7 => ?_) (fun h7 => ?_)
      · refine ZV_iconst dL_names_59 ?_
        refine ZV_iret dL_names_60 rfl ?_
        rw [zs.2.mpr e] at h
        exact h
      · omega
    · intro k hk ih z o6 o7 o8 o9 b' hz hq hb1 hb2
      have c1 := codeAt_rng u z
      have c2 := codeAt_rng v z
      have cc := codeAt_cmp u v hk
      have cd := codeAt_cmp v u hk
      rw [← hz] at cc cd
      refine ZV_iload dL_names_3 rfl ?_
      refine ZV_bipush dL_names_5 (by decide) ?_
      refine ZV_icmp_ge (tgt := 59) dL_names_7 (by decide) ⟨by omega, by omega⟩ ⟨by omega, by omega⟩ (fun h7 => ?_) (fun h7 => ?_)
      · omega
      · refine ZV_aload_n dL_names_10 rfl ?_
        refine ZV_iload_n dL_names_11 rfl ?_
        refine ZV_iload_n dL_names_12 rfl ?_
        refine ZV_iload dL_names_13 rfl ?_
        refine cl_L_letter kL_names_109 rfl dL_names_15 ⟨by first | omega | (dsimp only; omega), by first | omega | (dsimp only; omega)⟩ (Nat.le_of_ble_eq_true rfl) ?_
        refine sp_L_letter hC ⟨by omega, by omega⟩ ⟨by omega, by omega⟩ ⟨by omega, by omega⟩ ⟨by decide, by decide⟩ ?_
        rw [li z (by omega)]
        refine ZV_lstore6 dL_names_18 rfl (by decide) ?_
        refine ZV_aload_n dL_names_20 rfl ?_
        refine ZV_iload_n dL_names_21 rfl ?_
        refine ZV_iload dL_names_22 rfl ?_
        refine ZV_iload dL_names_24 rfl ?_
        refine cl_L_letter kL_names_109 rfl dL_names_26 ⟨by first | omega | (dsimp only; omega), by first | omega | (dsimp only; omega)⟩ (Nat.le_of_ble_eq_true rfl) ?_
        refine sp_L_letter hC ⟨by omega, by omega⟩ ⟨by omega, by omega⟩ ⟨by omega, by omega⟩ ⟨by decide, by decide⟩ ?_
        rw [lj z (by omega)]
        refine ZV_lstore8 dL_names_29 rfl (by decide) ?_
        refine ZV_lload dL_names_31 rfl ?_
        refine ZV_lload dL_names_33 rfl ?_
        refine ZV_lif_eq (tgt := 53) dL_names_35 dL_names_36 (by decide) ⟨by omega, by omega⟩ ⟨by omega, by omega⟩ (fun h35 => ?_) (fun h35 => ?_)
        · refine ZV_jinc5 dL_names_53 rfl (by decide) ?_
          refine ZV_goto (tgt := 3) dL_names_56 (by decide) ?_
          exact ih _ _ _ _ _ _ (by omega) (fun m hm => by
            by_cases e : m = k
            · rw [e]; exact cc.1 (by assumption)
            · exact hq m (by omega)) (by first | omega | (dsimp only; omega)) (by first | omega | (dsimp only; omega))
        · refine ZV_lload dL_names_39 rfl ?_
          refine ZV_lload dL_names_41 rfl ?_
          refine ZV_lif_ge (tgt := 51) dL_names_43 dL_names_44 (by decide) ⟨by omega, by omega⟩ ⟨by omega, by omega⟩ (fun h43 => ?_) (fun h43 => ?_)
          · refine ZV_iconst dL_names_51 ?_
            refine ZV_iret dL_names_52 rfl ?_
            have lt := nm_lt oj oi hk (fun m hm => (hq m hm).symm) (cd.2 (by omega))
            have e1 : zcmp u v = 1 := by unfold zcmp; rw [if_neg (by omega), if_neg (by omega)]
            rw [e1] at h
            exact h
          · refine ZV_iconst dL_names_47 ?_
            refine ZV_goto (tgt := 52) dL_names_48 (by decide) ?_
            refine ZV_iret dL_names_52 rfl ?_
            have lt := nm_lt oi oj hk hq (cc.2 (by omega))
            have e1 : zcmp u v = -1 := by unfold zcmp; rw [if_pos lt]
            rw [e1] at h
            exact h
  refine ZV_iconst dL_names_0 ?_
  refine ZV_istore5 dL_names_1 rfl (by decide) ?_
  exact key 0 (by omega) _ _ _ _ _ _ rfl (fun m hm => absurd hm (Nat.not_lt_zero m)) (by first | omega | (dsimp only; omega)) (by first | omega | (dsimp only; omega))
theorem sp_L_authors {c i j : Nat} {zi zj : Int} {Q : AC} (hC : CInv X g I J c Q) (hi : i < aN Q.2.1) (hj : j < aN Q.2.1) (hzi : zi = (i : Int)) (hzj : zj = (j : Int)) (hb : 140 ≤ b.1 ∧ 840 ≤ b.2) (h : ∀ r : Int, (-4 ≤ r ∧ r ≤ 4) → (r < 0 ↔ acmp (aW Q.2.1 i).1 (aW Q.2.1 j).1 4 < 0) → (r = 0 ↔ acmp (aW Q.2.1 i).1 (aW Q.2.1 j).1 4 = 0) → post (.inl (some (vi r))) g I J) : ZV X E_L_authors 0 [some (.ref c), some (vi zi), some (vi zj), none, none, none, none] [] b g I J post := by
  have hG := hC.good
  have h16 := hG.1.1
  have wi := hG.2.1 i hi
  have wj := hG.2.1 j hj
  have ni := wi.1
  have nj := wj.1
  have e1 : wkL Q.2.1 zi 1 = (aW Q.2.1 i).2.1 := by rw [hzi]; exact wk_1 hi
  have e2 : wkL Q.2.1 zj 1 = (aW Q.2.1 j).2.1 := by rw [hzj]; exact wk_1 hj
  obtain ⟨n, hn⟩ : ∃ n : Nat, (n : Int) = (aW Q.2.1 i).2.1 := ⟨(aW Q.2.1 i).2.1.toNat, by omega⟩
  obtain ⟨m, hm⟩ : ∃ m : Nat, (m : Int) = (aW Q.2.1 j).2.1 := ⟨(aW Q.2.1 j).2.1.toNat, by omega⟩
  have fin : ∀ a : Nat, a = min n m → acmp (aW Q.2.1 i).1 (aW Q.2.1 j).1 a = 0 → post (.inl (some (vi ((aW Q.2.1 i).2.1 - (aW Q.2.1 j).2.1)))) g I J := by
    intro a ha hz
    refine h _ (by omega) ?_ ?_
    all_goals
      by_cases c1 : n < m
      · have s : acmp (aW Q.2.1 i).1 (aW Q.2.1 j).1 (a + 1) = -1 := by
          simp only [acmp]
          rw [if_pos hz, wi.2.2.1 a (by omega)]
          have := wfN_pos (wj.2.1 a (by omega))
          unfold zcmp
          rw [if_pos this]
        rw [acmp_stable (m := a + 1) (by rw [s]; decide) 4 (by omega), s]
        omega
      · by_cases c2 : m < n
        · have s : acmp (aW Q.2.1 i).1 (aW Q.2.1 j).1 (a + 1) = 1 := by
            simp only [acmp]
            rw [if_pos hz, wj.2.2.1 a (by omega)]
            have := wfN_pos (wi.2.1 a (by omega))
            unfold zcmp
            rw [if_neg (by omega), if_neg (by omega)]
          rw [acmp_stable (m := a + 1) (by rw [s]; decide) 4 (by omega), s]
          omega
        · rw [acmp_zero hz 4 (by omega) (fun k k1 k2 => by rw [wi.2.2.1 k (by omega), wj.2.2.1 k (by omega)])]
          omega
  have ex : ∀ (a : Nat) (o5 o6 : Option Value) (b' : Nat × Nat), a = min n m → acmp (aW Q.2.1 i).1 (aW Q.2.1 j).1 a = 0 → ZV X E_L_authors 59 [some (.ref c), some (vi zi), some (vi zj), some (vi (aW Q.2.1 i).2.1), some (vi (aW Q.2.1 j).2.1), o5, o6] [] b' g I J post := by
    intro a o5 o6 b' ha hz
    refine ZV_iload_n dL_authors_59 rfl ?_
    refine ZV_iload dL_authors_60 rfl ?_
    refine ZV_isub dL_authors_62 ?_
    refine ZV_iret dL_authors_63 rfl ?_
    exact fin a ha hz
  have key : ∀ a : Nat, a ≤ min n m → ∀ (z : Int) (o6 : Option Value) (b' : Nat × Nat), z = (a : Int) → acmp (aW Q.2.1 i).1 (aW Q.2.1 j).1 a = 0 → 32 * (min n m - a) ≤ b'.1 → 6 * (32 * (min n m - a)) ≤ b'.2 → ZV X E_L_authors 20 [some (.ref c), some (vi zi), some (vi zj), some (vi (aW Q.2.1 i).2.1), some (vi (aW Q.2.1 j).2.1), some (vi z), o6] [] b' g I J post := by
    refine loop_up (min n m) ?_ ?_
    · intro z o6 b' hz hq hb1 hb2
      refine ZV_iload dL_authors_20 rfl ?_
      refine ZV_iload_n dL_authors_22 rfl ?_
      refine ZV_icmp_ge (tgt := 59) dL_authors_23 (by decide) ⟨by omega, by omega⟩ ⟨by omega, by omega⟩ (fun h23 => ?_) (fun h23 => ?_)
      · exact ex _ _ _ _ rfl hq
      · refine ZV_iload dL_authors_26 rfl ?_
        refine ZV_iload dL_authors_28 rfl ?_
        refine ZV_icmp_ge (tgt := 59) dL_authors_30 (by decide) ⟨by omega, by omega⟩ ⟨by omega, by omega⟩ (fun h30 => ?_) (fun h30 => ?_)
        · exact ex _ _ _ _ rfl hq
        · omega
    · intro a ha ih z o6 b' hz hq hb1 hb2
      refine ZV_iload dL_authors_20 rfl ?_
      refine ZV_iload_n dL_authors_22 rfl ?_
      refine ZV_icmp_ge (tgt := 59) dL_authors_23 (by decide) ⟨by omega, by omega⟩ ⟨by omega, by omega⟩ (fun h23 => ?_) (fun h23 => ?_)
      · omega
      · refine ZV_iload dL_authors_26 rfl ?_
        refine ZV_iload dL_authors_28 rfl ?_
        refine ZV_icmp_ge (tgt := 59) dL_authors_30 (by decide) ⟨by omega, by omega⟩ ⟨by omega, by omega⟩ (fun h30 => ?_) (fun h30 => ?_)
        · omega
        · refine ZV_aload_n dL_authors_33 rfl ?_
          refine ZV_iload_n dL_authors_34 rfl ?_
          refine ZV_iload dL_authors_35 rfl ?_
          refine ZV_iload_n dL_authors_37 rfl ?_
          refine ZV_iload dL_authors_38 rfl ?_
          refine cl_L_names kL_authors_158 rfl dL_authors_40 ⟨by first | omega | (dsimp only; omega), by first | omega | (dsimp only; omega)⟩ (Nat.le_of_ble_eq_true rfl) ?_
          refine sp_L_names hC hi hj hzi hzj ⟨by omega, by omega⟩ ⟨by omega, by omega⟩ ⟨by decide, by decide⟩ ?_
          have f1 : nmAt (aW Q.2.1 i) z = (aW Q.2.1 i).1 a := by rw [hz]; exact nmAt_in ni.2 (by omega)
          have f2 : nmAt (aW Q.2.1 j) z = (aW Q.2.1 j).1 a := by rw [hz]; exact nmAt_in nj.2 (by omega)
          rw [f1, f2]
          have zb := zcmp_b ((aW Q.2.1 i).1 a) ((aW Q.2.1 j).1 a)
          have nx : acmp (aW Q.2.1 i).1 (aW Q.2.1 j).1 (a + 1) = zcmp ((aW Q.2.1 i).1 a) ((aW Q.2.1 j).1 a) := by
            simp only [acmp]
            rw [if_pos hq]
          refine ZV_istore6 dL_authors_43 rfl (by decide) ?_
          refine ZV_iload dL_authors_45 rfl ?_
          refine ZV_if_eq (tgt := 53) dL_authors_47 (by decide) ⟨by omega, by omega⟩ (fun h47 => ?_) (fun h47 => ?_)
          · refine ZV_jinc5 dL_authors_53 rfl (by decide) ?_
            refine ZV_goto (tgt := 20) dL_authors_56 (by decide) ?_
            exact ih _ _ _ (by omega) (by rw [nx]; assumption) (by first | omega | (dsimp only; omega)) (by first | omega | (dsimp only; omega))
          · refine ZV_iload dL_authors_50 rfl ?_
            refine ZV_iret dL_authors_52 rfl ?_
            have st := acmp_stable (m := a + 1) (f := (aW Q.2.1 i).1) (f' := (aW Q.2.1 j).1) (by rw [nx]; assumption) 4 (by omega)
            refine h _ (by omega) ?_ ?_
            · rw [st, nx]
            · rw [st, nx]
  refine ZV_aload_n dL_authors_0 rfl ?_
  refine ZV_iload_n dL_authors_1 rfl ?_
  refine ZV_iconst dL_authors_2 ?_
  refine cl_L_work kL_authors_104 rfl dL_authors_3 ⟨by first | omega | (dsimp only; omega), by first | omega | (dsimp only; omega)⟩ (Nat.le_of_ble_eq_true rfl) ?_
  refine sp_L_work hC ⟨by omega, by omega⟩ ⟨by omega, by omega⟩ ⟨by decide, by decide⟩ ?_
  rw [e1]
  refine ZV_l2i dL_authors_6 ?_
  refine ZV_istore3 dL_authors_7 rfl (by decide) ?_
  refine ZV_aload_n dL_authors_8 rfl ?_
  refine ZV_iload_n dL_authors_9 rfl ?_
  refine ZV_iconst dL_authors_10 ?_
  refine cl_L_work kL_authors_104 rfl dL_authors_11 ⟨by first | omega | (dsimp only; omega), by first | omega | (dsimp only; omega)⟩ (Nat.le_of_ble_eq_true rfl) ?_
  refine sp_L_work hC ⟨by omega, by omega⟩ ⟨by omega, by omega⟩ ⟨by decide, by decide⟩ ?_
  rw [e2]
  refine ZV_l2i dL_authors_14 ?_
  refine ZV_istore4 dL_authors_15 rfl (by decide) ?_
  refine ZV_iconst dL_authors_17 ?_
  refine ZV_istore5 dL_authors_18 rfl (by decide) ?_
  exact key 0 (by omega) _ _ _ rfl rfl (by first | omega | (dsimp only; omega)) (by first | omega | (dsimp only; omega))
end ZL4

