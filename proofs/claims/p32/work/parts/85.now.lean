/-! all that is told of a list, as one number -/
def hf (f : Nat → Int) (v : Int) : Nat → Int
  | 0 => v
  | n + 1 => 31 * hf f v n + f n
def nwA (A : ASt) (i : Nat) (v : Int) : Int := hf (fun k => wkF A i k) v 7
def nwB (A : ASt) (i : Nat) (v : Int) : Int := hf (fun k => kch (keyOf A i) k) v (klen (keyOf A i)).toNat
def nwC (A : ASt) (i a : Nat) (v : Int) : Int := hf (fun k => codeAt (nmAt (aW A i) a) k) v 8
def nwD (A : ASt) (i : Nat) (v : Int) : Nat → Int
  | 0 => v
  | a + 1 => nwC A i a (nwD A i v a)
def nwE (A : ASt) : Nat → Int
  | 0 => hf (fun k => abF A k) 37 8
  | i + 1 => nwD A i (nwB A i (nwA A i (nwE A i))) ((aW A i).2.1 + 1).toNat
def nowZ (A : ASt) : Int := 31 * (31 * nwE A (aN A) + prF A 0) + prF A 1
def nowV (A : ASt) : Int := (i64 (nowZ A)).toInt
theorem vl_wrap (z : Int) : vl z = vl (i64 z).toInt := congrArg Value.long (i64_of (i64 z)).symm
theorem nowV_r (A : ASt) : r64 (nowV A) := r64_of _
theorem ab_at (A : ASt) {k : Nat} (hk : k < 8) : abL A (k : Int) = abF A k := if_pos ⟨by omega, by omega⟩
theorem ab_n (A : ASt) : abL A 0 = (aN A : Int) := (if_pos ⟨by decide, by decide⟩).trans (if_pos rfl)
theorem wk_at {A : ASt} {i k : Nat} (hi : i < aN A) (hk : k < 7) : wkL A (i : Int) (k : Int) = wkF A i k := (if_pos ⟨by omega, by omega⟩).trans (if_pos ⟨by omega, by omega⟩)
theorem wk_1 {A : ASt} {i : Nat} (hi : i < aN A) : wkL A (i : Int) 1 = (aW A i).2.1 := (wk_at (k := 1) hi (by decide)).trans rfl
theorem wk_3 {A : ASt} {i : Nat} (hi : i < aN A) : wkL A (i : Int) 3 = klen (keyOf A i) := (wk_at (k := 3) hi (by decide)).trans rfl
theorem ky_at {A : ASt} {i : Nat} {k : Int} (hi : i < aN A) (hk : 0 ≤ k) : kyL A (i : Int) k = kch (keyOf A i) k := (if_pos ⟨by omega, by omega⟩).trans (if_neg (by omega))
theorem lt_at {A : ASt} {i : Nat} {a k : Int} (hi : i < aN A) (ha : 0 ≤ a ∧ a ≤ (aW A i).2.1) (hk : 0 ≤ k) : ltL A (i : Int) a k = codeAt (nmAt (aW A i) a) k := (if_pos ⟨by omega, by omega⟩).trans (if_pos ⟨ha.1, ha.2, hk⟩)
theorem pr_at (A : ASt) {k : Nat} (hk : k < 3) : prL A (k : Int) = prF A k := if_pos ⟨by omega, by omega⟩
theorem keyK {A : ASt} (hG : GoodSt A) {i : Nat} (hi : i < aN A) : 3 ≤ klen (keyOf A i) ∧ klen (keyOf A i) ≤ 12 := (keyOf_KWF hG hi).len
section ZL2
variable {X : Xt} {g : Geo} {I J : Mm} {b : Nat × Nat} {post : Out → Geo → Mm → Mm → Prop}
theorem sp_L_now {c : Nat} {Q : AC} (hC : CInv X g I J c Q) (hb : 2600 ≤ b.1 ∧ 15600 ≤ b.2) (h : post (.inl (some (vl (nowV Q.2.1)))) g I J) : ZV X E_L_now 0 [some (.ref c), none, none, none, none, none] [] b g I J post := by
  have hG := hC.good
  have h16 := hG.1.1
  have kE : ∀ q : Nat, q ≤ aN Q.2.1 → ∀ (z v : Int) (o4 o5 : Option Value) (b' : Nat × Nat), z = (q : Int) → v = nwE Q.2.1 q → 3 + (16 - q) * 160 ≤ b'.1 → 6 * (3 + (16 - q) * 160) ≤ b'.2 → ZV X E_L_now 32 [some (.ref c), some (vl v), none, some (vi z), o4, o5] [] b' g I J post := by
    refine loop_up (aN Q.2.1) ?_ ?_
    · intro z v o4 o5 b' hz hv hb1 hb2
      refine ZV_iload_n dL_now_32 rfl ?_
      refine ZV_i2l dL_now_33 ⟨by omega, by omega⟩ ?_
      refine ZV_aload_n dL_now_34 rfl ?_
      refine ZV_iconst dL_now_35 ?_
      refine cl_L_about kL_now_99 rfl dL_now_36 ⟨by first | omega | (dsimp only; omega), by first | omega | (dsimp only; omega)⟩ (Nat.le_of_ble_eq_true rfl) ?_
      refine sp_L_about hC ⟨by omega, by omega⟩ ⟨by decide, by decide⟩ ?_
      rw [ab_n]
      refine ZV_lif_ge (tgt := 169) dL_now_39 dL_now_40 (by decide) ⟨by omega, by omega⟩ ⟨by omega, by omega⟩ (fun h39 => ?_) (fun h39 => ?_)
      · refine ZV_ldc2 (z := 31) dL_now_169 lL_now_97 ?_
        refine ZV_ldc2 (z := 31) dL_now_172 lL_now_97 ?_
        refine ZV_lload_n dL_now_175 rfl ?_
        refine ZV_lmul dL_now_176 ?_
        refine ZV_aload_n dL_now_177 rfl ?_
        refine ZV_iconst dL_now_178 ?_
        refine cl_L_printed kL_now_112 rfl dL_now_179 ⟨by first | omega | (dsimp only; omega), by first | omega | (dsimp only; omega)⟩ (Nat.le_of_ble_eq_true rfl) ?_
        refine sp_L_printed hC ⟨by omega, by omega⟩ ⟨by decide, by decide⟩ ?_
        refine ZV_ladd dL_now_182 ?_
        refine ZV_lmul dL_now_183 ?_
        refine ZV_aload_n dL_now_184 rfl ?_
        refine ZV_iconst dL_now_185 ?_
        refine cl_L_printed kL_now_112 rfl dL_now_186 ⟨by first | omega | (dsimp only; omega), by first | omega | (dsimp only; omega)⟩ (Nat.le_of_ble_eq_true rfl) ?_
        refine sp_L_printed hC ⟨by omega, by omega⟩ ⟨by decide, by decide⟩ ?_
        refine ZV_ladd dL_now_189 ?_
        refine ZV_lret dL_now_190 rfl ?_
        have e1 : prL Q.2.1 0 = prF Q.2.1 0 := pr_at Q.2.1 (k := 0) (by decide)
        have e2 : prL Q.2.1 1 = prF Q.2.1 1 := pr_at Q.2.1 (k := 1) (by decide)
        rw [e1, e2, vl_wrap, hv]
        exact h
      · omega
    · intro i hi ih z v o4 o5 b' hz hv hb1 hb2
      have na := (hG.2.1 i hi).1
      have kl := keyK hG hi
      obtain ⟨R, hR⟩ : ∃ R : Nat, R = 3 + (16 - (i + 1)) * 160 := ⟨_, rfl⟩
      obtain ⟨m, hm⟩ : ∃ m : Nat, m = ((aW Q.2.1 i).2.1 + 1).toNat := ⟨_, rfl⟩
      obtain ⟨l, hl⟩ : ∃ l : Nat, l = (klen (keyOf Q.2.1 i)).toNat := ⟨_, rfl⟩
      have hi16 : i < 16 := by omega
      have w1 : wkL Q.2.1 z 1 = (aW Q.2.1 i).2.1 := by rw [hz]; exact wk_1 hi
      have w3 : wkL Q.2.1 z 3 = klen (keyOf Q.2.1 i) := by rw [hz]; exact wk_3 hi
      have wkz : ∀ k : Nat, k < 7 → ∀ y : Int, y = (k : Int) → wkL Q.2.1 z y = wkF Q.2.1 i k := fun k hk y hy => by rw [hz, hy]; exact wk_at hi hk
      have kyz : ∀ y : Int, 0 ≤ y → kyL Q.2.1 z y = kch (keyOf Q.2.1 i) y := fun y hy => by rw [hz]; exact ky_at hi hy
      have ltz : ∀ a k : Int, (0 ≤ a ∧ a ≤ (aW Q.2.1 i).2.1) → 0 ≤ k → ltL Q.2.1 z a k = codeAt (nmAt (aW Q.2.1 i) a) k := fun a k ha hk => by rw [hz]; exact lt_at hi ha hk
      have kD : ∀ a : Nat, a ≤ m → ∀ (y w : Int) (o5 : Option Value) (b' : Nat × Nat), y = (a : Int) → w = nwD Q.2.1 i (nwB Q.2.1 i (nwA Q.2.1 i (nwE Q.2.1 i))) a → (m - a) * 18 + 2 + R ≤ b'.1 → 6 * ((m - a) * 18 + 2 + R) ≤ b'.2 → ZV X E_L_now 112 [some (.ref c), some (vl w), none, some (vi z), some (vi y), o5] [] b' g I J post := by
        refine loop_up m ?_ ?_
        · intro y w o5 b' hy hw hb1 hb2
          refine ZV_iload dL_now_112 rfl ?_
          refine ZV_i2l dL_now_114 ⟨by omega, by omega⟩ ?_
          refine ZV_aload_n dL_now_115 rfl ?_
          refine ZV_iload_n dL_now_116 rfl ?_
          refine ZV_iconst dL_now_117 ?_
          refine cl_L_work kL_now_104 rfl dL_now_118 ⟨by first | omega | (dsimp only; omega), by first | omega | (dsimp only; omega)⟩ (Nat.le_of_ble_eq_true rfl) ?_
          refine sp_L_work hC ⟨by omega, by omega⟩ ⟨by omega, by omega⟩ ⟨by decide, by decide⟩ ?_
          rw [w1]
          refine ZV_lif_gt (tgt := 163) dL_now_121 dL_now_122 (by decide) ⟨by omega, by omega⟩ ⟨by omega, by omega⟩ (fun h121 => ?_) (fun h121 => ?_)
          · refine ZV_jinc3 dL_now_163 rfl (by decide) ?_
            refine ZV_goto (tgt := 32) dL_now_166 (by decide) ?_
            exact ih _ _ _ _ _ (by omega) (by rw [hw, hm] <;> rfl) (by first | omega | (dsimp only; omega)) (by first | omega | (dsimp only; omega))
          · omega
        · intro a ha ihD y w o5 b' hy hw hb1 hb2
          have kF : ∀ k : Nat, k ≤ 8 → ∀ (x u : Int) (b' : Nat × Nat), x = (k : Int) → u = hf (fun k => codeAt (nmAt (aW Q.2.1 i) a) k) w k → 2 * (8 - k) + (m - (a + 1)) * 18 + 2 + R ≤ b'.1 → 6 * (2 * (8 - k) + (m - (a + 1)) * 18 + 2 + R) ≤ b'.2 → ZV X E_L_now 128 [some (.ref c), some (vl u), none, some (vi z), some (vi y), some (vi x)] [] b' g I J post := by
            refine loop_up 8 ?_ ?_
            · intro x u b' hx hu hb1 hb2
              refine ZV_iload dL_now_128 rfl ?_
              refine ZV_bipush dL_now_130 (by decide) ?_
              refine ZV_icmp_ge (tgt := 157) dL_now_132 (by decide) ⟨by omega, by omega⟩ ⟨by omega, by omega⟩ (fun h132 => ?_) (fun h132 => ?_)
              · refine ZV_jinc4 dL_now_157 rfl (by decide) ?_
                refine ZV_goto (tgt := 112) dL_now_160 (by decide) ?_
                exact ihD _ _ _ _ (by omega) (by rw [hu, hw] <;> rfl) (by first | omega | (dsimp only; omega)) (by first | omega | (dsimp only; omega))
              · omega
            · intro k hk ihF x u b' hx hu hb1 hb2
              refine ZV_iload dL_now_128 rfl ?_
              refine ZV_bipush dL_now_130 (by decide) ?_
              refine ZV_icmp_ge (tgt := 157) dL_now_132 (by decide) ⟨by omega, by omega⟩ ⟨by omega, by omega⟩ (fun h132 => ?_) (fun h132 => ?_)
              · omega
              · refine ZV_ldc2 (z := 31) dL_now_135 lL_now_97 ?_
                refine ZV_lload_n dL_now_138 rfl ?_
                refine ZV_lmul dL_now_139 ?_
                refine ZV_aload_n dL_now_140 rfl ?_
                refine ZV_iload_n dL_now_141 rfl ?_
                refine ZV_iload dL_now_142 rfl ?_
                refine ZV_iload dL_now_144 rfl ?_
                refine cl_L_letter kL_now_109 rfl dL_now_146 ⟨by first | omega | (dsimp only; omega), by first | omega | (dsimp only; omega)⟩ (Nat.le_of_ble_eq_true rfl) ?_
                refine sp_L_letter hC ⟨by omega, by omega⟩ ⟨by omega, by omega⟩ ⟨by omega, by omega⟩ ⟨by decide, by decide⟩ ?_
                rw [ltz y x ⟨by omega, by omega⟩ (by omega)]
                refine ZV_ladd dL_now_149 ?_
                refine ZV_lstore1 dL_now_150 rfl (by decide) ?_
                refine ZV_jinc5 dL_now_151 rfl (by decide) ?_
                refine ZV_goto (tgt := 128) dL_now_154 (by decide) ?_
                exact ihF _ _ _ (by omega) (by rw [hu, hx, hy] <;> rfl) (by first | omega | (dsimp only; omega)) (by first | omega | (dsimp only; omega))
          refine ZV_iload dL_now_112 rfl ?_
          refine ZV_i2l dL_now_114 ⟨by omega, by omega⟩ ?_
          refine ZV_aload_n dL_now_115 rfl ?_
          refine ZV_iload_n dL_now_116 rfl ?_
          refine ZV_iconst dL_now_117 ?_
          refine cl_L_work kL_now_104 rfl dL_now_118 ⟨by first | omega | (dsimp only; omega), by first | omega | (dsimp only; omega)⟩ (Nat.le_of_ble_eq_true rfl) ?_
          refine sp_L_work hC ⟨by omega, by omega⟩ ⟨by omega, by omega⟩ ⟨by decide, by decide⟩ ?_
          rw [w1]
          refine ZV_lif_gt (tgt := 163) dL_now_121 dL_now_122 (by decide) ⟨by omega, by omega⟩ ⟨by omega, by omega⟩ (fun h121 => ?_) (fun h121 => ?_)
          · omega
          · refine ZV_iconst dL_now_125 ?_
            refine ZV_istore5 dL_now_126 rfl (by decide) ?_
            exact kF 0 (by omega) _ _ _ rfl rfl (by first | omega | (dsimp only; omega)) (by first | omega | (dsimp only; omega))
      have kB : ∀ k : Nat, k ≤ l → ∀ (y w : Int) (o5 : Option Value) (b' : Nat × Nat), y = (k : Int) → w = hf (fun k => kch (keyOf Q.2.1 i) k) (nwA Q.2.1 i (nwE Q.2.1 i)) k → (l - k) * 4 + 94 + R ≤ b'.1 → 6 * ((l - k) * 4 + 94 + R) ≤ b'.2 → ZV X E_L_now 76 [some (.ref c), some (vl w), none, some (vi z), some (vi y), o5] [] b' g I J post := by
        refine loop_up l ?_ ?_
        · intro y w o5 b' hy hw hb1 hb2
          refine ZV_iload dL_now_76 rfl ?_
          refine ZV_i2l dL_now_78 ⟨by omega, by omega⟩ ?_
          refine ZV_aload_n dL_now_79 rfl ?_
          refine ZV_iload_n dL_now_80 rfl ?_
          refine ZV_iconst dL_now_81 ?_
          refine cl_L_work kL_now_104 rfl dL_now_82 ⟨by first | omega | (dsimp only; omega), by first | omega | (dsimp only; omega)⟩ (Nat.le_of_ble_eq_true rfl) ?_
          refine sp_L_work hC ⟨by omega, by omega⟩ ⟨by omega, by omega⟩ ⟨by decide, by decide⟩ ?_
          rw [w3]
          refine ZV_lif_ge (tgt := 109) dL_now_85 dL_now_86 (by decide) ⟨by omega, by omega⟩ ⟨by omega, by omega⟩ (fun h85 => ?_) (fun h85 => ?_)
          · refine ZV_iconst dL_now_109 ?_
            refine ZV_istore4 dL_now_110 rfl (by decide) ?_
            exact kD 0 (by omega) _ _ _ _ rfl (by rw [hw, hl] <;> rfl) (by first | omega | (dsimp only; omega)) (by first | omega | (dsimp only; omega))
          · omega
        · intro k hk ihB y w o5 b' hy hw hb1 hb2
          refine ZV_iload dL_now_76 rfl ?_
          refine ZV_i2l dL_now_78 ⟨by omega, by omega⟩ ?_
          refine ZV_aload_n dL_now_79 rfl ?_
          refine ZV_iload_n dL_now_80 rfl ?_
          refine ZV_iconst dL_now_81 ?_
          refine cl_L_work kL_now_104 rfl dL_now_82 ⟨by first | omega | (dsimp only; omega), by first | omega | (dsimp only; omega)⟩ (Nat.le_of_ble_eq_true rfl) ?_
          refine sp_L_work hC ⟨by omega, by omega⟩ ⟨by omega, by omega⟩ ⟨by decide, by decide⟩ ?_
          rw [w3]
          refine ZV_lif_ge (tgt := 109) dL_now_85 dL_now_86 (by decide) ⟨by omega, by omega⟩ ⟨by omega, by omega⟩ (fun h85 => ?_) (fun h85 => ?_)
          · omega
          · refine ZV_ldc2 (z := 31) dL_now_89 lL_now_97 ?_
            refine ZV_lload_n dL_now_92 rfl ?_
            refine ZV_lmul dL_now_93 ?_
            refine ZV_aload_n dL_now_94 rfl ?_
            refine ZV_iload_n dL_now_95 rfl ?_
            refine ZV_iload dL_now_96 rfl ?_
            refine cl_L_key kL_now_107 rfl dL_now_98 ⟨by first | omega | (dsimp only; omega), by first | omega | (dsimp only; omega)⟩ (Nat.le_of_ble_eq_true rfl) ?_
            refine sp_L_key hC ⟨by omega, by omega⟩ ⟨by omega, by omega⟩ ⟨by decide, by decide⟩ ?_
            rw [kyz y (by omega)]
            refine ZV_ladd dL_now_101 ?_
            refine ZV_lstore1 dL_now_102 rfl (by decide) ?_
            refine ZV_jinc4 dL_now_103 rfl (by decide) ?_
            refine ZV_goto (tgt := 76) dL_now_106 (by decide) ?_
            exact ihB _ _ _ _ (by omega) (by rw [hw, hy] <;> rfl) (by first | omega | (dsimp only; omega)) (by first | omega | (dsimp only; omega))
      have kA : ∀ k : Nat, k ≤ 7 → ∀ (y w : Int) (o5 : Option Value) (b' : Nat × Nat), y = (k : Int) → w = hf (fun k => wkF Q.2.1 i k) (nwE Q.2.1 i) k → 2 * (7 - k) + l * 4 + 94 + R ≤ b'.1 → 6 * (2 * (7 - k) + l * 4 + 94 + R) ≤ b'.2 → ZV X E_L_now 46 [some (.ref c), some (vl w), none, some (vi z), some (vi y), o5] [] b' g I J post := by
        refine loop_up 7 ?_ ?_
        · intro y w o5 b' hy hw hb1 hb2
          refine ZV_iload dL_now_46 rfl ?_
          refine ZV_bipush dL_now_48 (by decide) ?_
          refine ZV_icmp_ge (tgt := 73) dL_now_50 (by decide) ⟨by omega, by omega⟩ ⟨by omega, by omega⟩ (fun h50 => ?_) (fun h50 => ?_)
          · refine ZV_iconst dL_now_73 ?_
            refine ZV_istore4 dL_now_74 rfl (by decide) ?_
            exact kB 0 (by omega) _ _ _ _ rfl (by rw [hw] <;> rfl) (by first | omega | (dsimp only; omega)) (by first | omega | (dsimp only; omega))
          · omega
        · intro k hk ihA y w o5 b' hy hw hb1 hb2
          refine ZV_iload dL_now_46 rfl ?_
          refine ZV_bipush dL_now_48 (by decide) ?_
          refine ZV_icmp_ge (tgt := 73) dL_now_50 (by decide) ⟨by omega, by omega⟩ ⟨by omega, by omega⟩ (fun h50 => ?_) (fun h50 => ?_)
          · omega
          · refine ZV_ldc2 (z := 31) dL_now_53 lL_now_97 ?_
            refine ZV_lload_n dL_now_56 rfl ?_
            refine ZV_lmul dL_now_57 ?_
            refine ZV_aload_n dL_now_58 rfl ?_
            refine ZV_iload_n dL_now_59 rfl ?_
            refine ZV_iload dL_now_60 rfl ?_
            refine cl_L_work kL_now_104 rfl dL_now_62 ⟨by first | omega | (dsimp only; omega), by first | omega | (dsimp only; omega)⟩ (Nat.le_of_ble_eq_true rfl) ?_
            refine sp_L_work hC ⟨by omega, by omega⟩ ⟨by omega, by omega⟩ ⟨by decide, by decide⟩ ?_
            rw [wkz k hk _ hy]
            refine ZV_ladd dL_now_65 ?_
            refine ZV_lstore1 dL_now_66 rfl (by decide) ?_
            refine ZV_jinc4 dL_now_67 rfl (by decide) ?_
            refine ZV_goto (tgt := 46) dL_now_70 (by decide) ?_
            exact ihA _ _ _ _ (by omega) (by rw [hw] <;> rfl) (by first | omega | (dsimp only; omega)) (by first | omega | (dsimp only; omega))
      refine ZV_iload_n dL_now_32 rfl ?_
      refine ZV_i2l dL_now_33 ⟨by omega, by omega⟩ ?_
      refine ZV_aload_n dL_now_34 rfl ?_
      refine ZV_iconst dL_now_35 ?_
      refine cl_L_about kL_now_99 rfl dL_now_36 ⟨by first | omega | (dsimp only; omega), by first | omega | (dsimp only; omega)⟩ (Nat.le_of_ble_eq_true rfl) ?_
      refine sp_L_about hC ⟨by omega, by omega⟩ ⟨by decide, by decide⟩ ?_
      rw [ab_n]
      refine ZV_lif_ge (tgt := 169) dL_now_39 dL_now_40 (by decide) ⟨by omega, by omega⟩ ⟨by omega, by omega⟩ (fun h39 => ?_) (fun h39 => ?_)
      · omega
      · refine ZV_iconst dL_now_43 ?_
        refine ZV_istore4 dL_now_44 rfl (by decide) ?_
        exact kA 0 (by omega) _ _ _ _ rfl hv (by first | omega | (dsimp only; omega)) (by first | omega | (dsimp only; omega))
  have k1 : ∀ q : Nat, q ≤ 8 → ∀ (z v : Int) (o4 o5 : Option Value) (b' : Nat × Nat), z = (q : Int) → v = hf (fun k => abF Q.2.1 k) 37 q → 2563 + (8 - q) ≤ b'.1 → 6 * (2563 + (8 - q)) ≤ b'.2 → ZV X E_L_now 6 [some (.ref c), some (vl v), none, some (vi z), o4, o5] [] b' g I J post := by
    refine loop_up 8 ?_ ?_
    · intro z v o4 o5 b' hz hv hb1 hb2
      refine ZV_iload_n dL_now_6 rfl ?_
      refine ZV_bipush dL_now_7 (by decide) ?_
      refine ZV_icmp_ge (tgt := 30) dL_now_9 (by decide) ⟨by omega, by omega⟩ ⟨by omega, by omega⟩ (fun h9 => ?_) (fun h9 => ?_)
      · refine ZV_iconst dL_now_30 ?_
        refine ZV_istore3 dL_now_31 rfl (by decide) ?_
        exact kE 0 (by omega) _ _ _ _ _ rfl (by rw [hv] <;> rfl) (by first | omega | (dsimp only; omega)) (by first | omega | (dsimp only; omega))
      · omega
    · intro q hq ih z v o4 o5 b' hz hv hb1 hb2
      refine ZV_iload_n dL_now_6 rfl ?_
      refine ZV_bipush dL_now_7 (by decide) ?_
      refine ZV_icmp_ge (tgt := 30) dL_now_9 (by decide) ⟨by omega, by omega⟩ ⟨by omega, by omega⟩ (fun h9 => ?_) (fun h9 => ?_)
      · omega
      · refine ZV_ldc2 (z := 31) dL_now_12 lL_now_97 ?_
        refine ZV_lload_n dL_now_15 rfl ?_
        refine ZV_lmul dL_now_16 ?_
        refine ZV_aload_n dL_now_17 rfl ?_
        refine ZV_iload_n dL_now_18 rfl ?_
        refine cl_L_about kL_now_99 rfl dL_now_19 ⟨by first | omega | (dsimp only; omega), by first | omega | (dsimp only; omega)⟩ (Nat.le_of_ble_eq_true rfl) ?_
        refine sp_L_about hC ⟨by omega, by omega⟩ ⟨by decide, by decide⟩ ?_
        have ea : abL Q.2.1 z = abF Q.2.1 q := by rw [hz]; exact ab_at Q.2.1 hq
        rw [ea]
        refine ZV_ladd dL_now_22 ?_
        refine ZV_lstore1 dL_now_23 rfl (by decide) ?_
        refine ZV_jinc3 dL_now_24 rfl (by decide) ?_
        refine ZV_goto (tgt := 6) dL_now_27 (by decide) ?_
        exact ih _ _ _ _ _ (by omega) (by rw [hv] <;> rfl) (by first | omega | (dsimp only; omega)) (by first | omega | (dsimp only; omega))
  refine ZV_ldc2 (z := 37) dL_now_0 lL_now_95 ?_
  refine ZV_lstore1 dL_now_3 rfl (by decide) ?_
  refine ZV_iconst dL_now_4 ?_
  refine ZV_istore3 dL_now_5 rfl (by decide) ?_
  exact k1 0 (by omega) _ _ _ _ _ rfl rfl (by first | omega | (dsimp only; omega)) (by first | omega | (dsimp only; omega))
end ZL2

