/-! works stand in their order -/
section ZL6
variable {X : Xt} {g : Geo} {I J : Mm} {b : Nat × Nat} {post : Out → Geo → Mm → Mm → Prop}
theorem sp_kept1 {c : Nat} {Q : AC} (hC : CInv X g I J c Q) (hx : ∀ (z : Int) (o5 o6 o7 o8 o9 o10 o11 : Option Value) (b' : Nat × Nat), z = (aN Q.2.1 : Int) → b.1 ≤ b'.1 + 184 * aN Q.2.1 → b.2 ≤ b'.2 + 1104 * aN Q.2.1 → ZV X E_L_kept 235 [some (.ref c), some (vi (aN Q.2.1 : Int)), some (vi (aO Q.2.1)), some (vi 1), some (vi z), o5, o6, o7, o8, o9, o10, o11, none, none, none] [] b' g I J post) : ∀ q : Nat, q ≤ aN Q.2.1 → ∀ (z : Int) (o5 o6 o7 o8 o9 o10 o11 : Option Value) (b' : Nat × Nat), z = (q : Int) → 184 * (aN Q.2.1 - q) ≤ b'.1 → 1104 * (aN Q.2.1 - q) ≤ b'.2 → b.1 ≤ b'.1 + 184 * q → b.2 ≤ b'.2 + 1104 * q → ZV X E_L_kept 47 [some (.ref c), some (vi (aN Q.2.1 : Int)), some (vi (aO Q.2.1)), some (vi 1), some (vi z), o5, o6, o7, o8, o9, o10, o11, none, none, none] [] b' g I J post := by
  have hG := hC.good
  have h16 := hG.1.1
  have hod := hG.1.2.2.2.1
  refine loop_up (aN Q.2.1) ?_ ?_
  · intro z o5 o6 o7 o8 o9 o10 o11 b' hz hb1 hb2 hb3 hb4
    refine ZV_iload dL_kept_47 rfl ?_
    refine ZV_iload_n dL_kept_49 rfl ?_
    refine ZV_icmp_ge (tgt := 235) dL_kept_50 (by decide) ⟨by omega, by omega⟩ ⟨by omega, by omega⟩ (fun h50 => ?_) (fun h50 => ?_)
    · exact hx z o5 o6 o7 o8 o9 o10 o11 _ hz (by first | omega | (dsimp only; omega)) (by first | omega | (dsimp only; omega))
    · omega
  · intro p hp ih z o5 o6 o7 o8 o9 o10 o11 b' hz hb1 hb2 hb3 hb4
    obtain ⟨i, hi, hpi⟩ := pl_surj hp
    have wi := hG.2.1 i hi
    have yi := wi.2.2.2.1
    have ea : atL Q.2.1 z = (i : Int) := by
      have e : atL Q.2.1 z = atN Q.2.1 z := if_pos (by omega)
      rw [e, hz, ← hpi]
      exact at_pl hi
    have e5 : wkL Q.2.1 (i : Int) 5 = z := by
      rw [hz, ← hpi]
      exact (wk_at (k := 5) hi (by decide)).trans rfl
    have e1 : wkL Q.2.1 (i : Int) 1 = (aW Q.2.1 i).2.1 := wk_1 hi
    have e0 : wkL Q.2.1 (i : Int) 0 = (aW Q.2.1 i).2.2.1 := (wk_at (k := 0) hi (by decide)).trans rfl
    have p229 : ∀ (o5 o6 o7 o8 o9 o10 o11 : Option Value) (b2 : Nat × Nat), b'.1 ≤ b2.1 + 184 → b'.2 ≤ b2.2 + 1104 → ZV X E_L_kept 229 [some (.ref c), some (vi (aN Q.2.1 : Int)), some (vi (aO Q.2.1)), some (vi 1), some (vi z), o5, o6, o7, o8, o9, o10, o11, none, none, none] [] b2 g I J post := by
      intro o5 o6 o7 o8 o9 o10 o11 b2 k1 k2
      refine ZV_jinc4 dL_kept_229 rfl (by decide) ?_
      refine ZV_goto (tgt := 47) dL_kept_232 (by decide) ?_
      exact ih _ o5 o6 o7 o8 o9 o10 o11 _ (by omega) (by first | omega | (dsimp only; omega)) (by first | omega | (dsimp only; omega)) (by first | omega | (dsimp only; omega)) (by first | omega | (dsimp only; omega))
    have p223 : ∀ (o3 : Int) (o5 o6 o7 o8 o9 o10 o11 : Option Value) (b2 : Nat × Nat), b'.1 ≤ b2.1 + 184 → b'.2 ≤ b2.2 + 1104 → ZV X E_L_kept 223 [some (.ref c), some (vi (aN Q.2.1 : Int)), some (vi (aO Q.2.1)), some (vi o3), some (vi z), o5, o6, o7, o8, o9, o10, o11, none, none, none] [] b2 g I J post := by
      intro o3 o5 o6 o7 o8 o9 o10 o11 b2 k1 k2
      refine ZV_iconst dL_kept_223 ?_
      refine ZV_goto (tgt := 228) dL_kept_224 (by decide) ?_
      refine ZV_istore3 dL_kept_228 rfl (by decide) ?_
      exact p229 _ _ _ _ _ _ _ _ (by first | omega | (dsimp only; omega)) (by first | omega | (dsimp only; omega))
    refine ZV_iload dL_kept_47 rfl ?_
    refine ZV_iload_n dL_kept_49 rfl ?_
    refine ZV_icmp_ge (tgt := 235) dL_kept_50 (by decide) ⟨by omega, by omega⟩ ⟨by omega, by omega⟩ (fun h50 => ?_) (fun h50 => ?_)
    · omega
    · refine ZV_iload_n dL_kept_53 rfl ?_
      refine ZV_one_eq (tgt := 235) dL_kept_54 (by decide) ?_
      refine ZV_aload_n dL_kept_57 rfl ?_
      refine ZV_iload dL_kept_58 rfl ?_
      refine cl_L_at kL_kept_118 rfl dL_kept_60 ⟨by first | omega | (dsimp only; omega), by first | omega | (dsimp only; omega)⟩ (Nat.le_of_ble_eq_true rfl) ?_
      refine sp_L_at hC ⟨by omega, by omega⟩ ⟨by decide, by decide⟩ ?_
      rw [ea]
      refine ZV_l2i dL_kept_63 ?_
      refine ZV_istore5 dL_kept_64 rfl (by decide) ?_
      refine ZV_aload_n dL_kept_66 rfl ?_
      refine ZV_iload dL_kept_67 rfl ?_
      refine ZV_iconst dL_kept_69 ?_
      refine cl_L_work kL_kept_104 rfl dL_kept_70 ⟨by first | omega | (dsimp only; omega), by first | omega | (dsimp only; omega)⟩ (Nat.le_of_ble_eq_true rfl) ?_
      refine sp_L_work hC ⟨by omega, by omega⟩ ⟨by omega, by omega⟩ ⟨by decide, by decide⟩ ?_
      rw [e5]
      refine ZV_iload dL_kept_73 rfl ?_
      refine ZV_i2l dL_kept_75 ⟨by omega, by omega⟩ ?_
      refine ZV_lsame_ne (tgt := 84) dL_kept_76 dL_kept_77 (by decide) ?_
      refine ZV_iconst dL_kept_80 ?_
      refine ZV_goto (tgt := 85) dL_kept_81 (by decide) ?_
      refine ZV_istore3 dL_kept_85 rfl (by decide) ?_
      refine ZV_iload dL_kept_86 rfl ?_
      refine ZV_if_le (tgt := 229) dL_kept_88 (by decide) ⟨by omega, by omega⟩ (fun h88 => ?_) (fun h88 => ?_)
      · exact p229 _ _ _ _ _ _ _ _ (by first | omega | (dsimp only; omega)) (by first | omega | (dsimp only; omega))
      · obtain ⟨j, hj, hpj⟩ := pl_surj (A := Q.2.1) (p := p - 1) (by omega)
        have wj := hG.2.1 j hj
        have yj := wj.2.2.2.1
        have fa : atL Q.2.1 (z - 1) = (j : Int) := by
          have e : atL Q.2.1 (z - 1) = atN Q.2.1 (z - 1) := if_pos (by omega)
          have e2 : z - 1 = plN Q.2.1 j := by omega
          rw [e, e2]
          exact at_pl hj
        have f1 : wkL Q.2.1 (j : Int) 1 = (aW Q.2.1 j).2.1 := wk_1 hj
        have f0 : wkL Q.2.1 (j : Int) 0 = (aW Q.2.1 j).2.2.1 := (wk_at (k := 0) hj (by decide)).trans rfl
        have hbz := (pl_iff (A := Q.2.1) hi hj).mp (by omega)
        have zy := zcmp_sg (aW Q.2.1 j).2.2.1 (aW Q.2.1 i).2.2.1
        have p186 : ∀ (u v t : Int) (o5 o6 o7 o8 : Option Value) (b2 : Nat × Nat), (-100000 ≤ u ∧ u ≤ 100000) → (-100000 ≤ v ∧ v ≤ 100000) → (-100000 ≤ t ∧ t ≤ 100000) → (u < 0 ∨ (u = 0 ∧ (v < 0 ∨ (v = 0 ∧ (t < 0 ∨ (t = 0 ∧ (j : Int) < i)))))) → b'.1 ≤ b2.1 + 184 → b'.2 ≤ b2.2 + 1104 → ZV X E_L_kept 186 [some (.ref c), some (vi (aN Q.2.1 : Int)), some (vi (aO Q.2.1)), some (vi 1), some (vi z), some (vi (i : Int)), some (vi (j : Int)), o7, o8, some (vi u), some (vi v), some (vi t), none, none, none] [] b2 g I J post := by
          intro u v t o5 o6 o7 o8 b2 ru rv rt hO k1 k2
          refine ZV_iload dL_kept_186 rfl ?_
          refine ZV_if_lt (tgt := 223) dL_kept_188 (by decide) ⟨by omega, by omega⟩ (fun h188 => ?_) (fun h188 => ?_)
          · exact p223 _ _ _ _ _ _ _ _ _ (by first | omega | (dsimp only; omega)) (by first | omega | (dsimp only; omega))
          · refine ZV_iload dL_kept_191 rfl ?_
            refine ZV_if_ne (tgt := 227) dL_kept_193 (by decide) ⟨by omega, by omega⟩ (fun h193 => ?_) (fun h193 => ?_)
            · omega
            · refine ZV_iload dL_kept_196 rfl ?_
              refine ZV_if_lt (tgt := 223) dL_kept_198 (by decide) ⟨by omega, by omega⟩ (fun h198 => ?_) (fun h198 => ?_)
              · exact p223 _ _ _ _ _ _ _ _ _ (by first | omega | (dsimp only; omega)) (by first | omega | (dsimp only; omega))
              · refine ZV_iload dL_kept_201 rfl ?_
                refine ZV_if_ne (tgt := 227) dL_kept_203 (by decide) ⟨by omega, by omega⟩ (fun h203 => ?_) (fun h203 => ?_)
                · omega
                · refine ZV_iload dL_kept_206 rfl ?_
                  refine ZV_if_lt (tgt := 223) dL_kept_208 (by decide) ⟨by omega, by omega⟩ (fun h208 => ?_) (fun h208 => ?_)
                  · exact p223 _ _ _ _ _ _ _ _ _ (by first | omega | (dsimp only; omega)) (by first | omega | (dsimp only; omega))
                  · refine ZV_iload dL_kept_211 rfl ?_
                    refine ZV_if_ne (tgt := 227) dL_kept_213 (by decide) ⟨by omega, by omega⟩ (fun h213 => ?_) (fun h213 => ?_)
                    · omega
                    · refine ZV_iload dL_kept_216 rfl ?_
                      refine ZV_iload dL_kept_218 rfl ?_
                      refine ZV_icmp_ge (tgt := 227) dL_kept_220 (by decide) ⟨by omega, by omega⟩ ⟨by omega, by omega⟩ (fun h220 => ?_) (fun h220 => ?_)
                      · omega
                      · exact p223 _ _ _ _ _ _ _ _ _ (by first | omega | (dsimp only; omega)) (by first | omega | (dsimp only; omega))
        refine ZV_iload_n dL_kept_91 rfl ?_
        refine ZV_one_eq (tgt := 229) dL_kept_92 (by decide) ?_
        refine ZV_aload_n dL_kept_95 rfl ?_
        refine ZV_iload dL_kept_96 rfl ?_
        refine ZV_iconst dL_kept_98 ?_
        refine ZV_isub dL_kept_99 ?_
        refine cl_L_at kL_kept_118 rfl dL_kept_100 ⟨by first | omega | (dsimp only; omega), by first | omega | (dsimp only; omega)⟩ (Nat.le_of_ble_eq_true rfl) ?_
        refine sp_L_at hC ⟨by omega, by omega⟩ ⟨by decide, by decide⟩ ?_
        rw [fa]
        refine ZV_l2i dL_kept_103 ?_
        refine ZV_istore6 dL_kept_104 rfl (by decide) ?_
        refine ZV_aload_n dL_kept_106 rfl ?_
        refine ZV_iload dL_kept_107 rfl ?_
        refine ZV_iconst dL_kept_109 ?_
        refine cl_L_work kL_kept_104 rfl dL_kept_110 ⟨by first | omega | (dsimp only; omega), by first | omega | (dsimp only; omega)⟩ (Nat.le_of_ble_eq_true rfl) ?_
        refine sp_L_work hC ⟨by omega, by omega⟩ ⟨by omega, by omega⟩ ⟨by decide, by decide⟩ ?_
        rw [f0]
        refine ZV_aload_n dL_kept_113 rfl ?_
        refine ZV_iload dL_kept_114 rfl ?_
        refine ZV_iconst dL_kept_116 ?_
        refine cl_L_work kL_kept_104 rfl dL_kept_117 ⟨by first | omega | (dsimp only; omega), by first | omega | (dsimp only; omega)⟩ (Nat.le_of_ble_eq_true rfl) ?_
        refine sp_L_work hC ⟨by omega, by omega⟩ ⟨by omega, by omega⟩ ⟨by decide, by decide⟩ ?_
        rw [e0]
        refine ZV_lsub dL_kept_120 ?_
        refine ZV_l2i dL_kept_121 ?_
        refine ZV_istore7 dL_kept_122 rfl (by decide) ?_
        refine ZV_aload_n dL_kept_124 rfl ?_
        refine ZV_iload dL_kept_125 rfl ?_
        refine ZV_iload dL_kept_127 rfl ?_
        refine cl_L_authors kL_kept_170 rfl dL_kept_129 ⟨by first | omega | (dsimp only; omega), by first | omega | (dsimp only; omega)⟩ (Nat.le_of_ble_eq_true rfl) ?_
        refine sp_L_authors hC hj hi rfl rfl ⟨by decide, by decide⟩ ?_
        intro r hr r1 r2
        have tail : ∀ (u v : Int) (o8 : Option Value) (b2 : Nat × Nat), (-100000 ≤ u ∧ u ≤ 100000) → (-100000 ≤ v ∧ v ≤ 100000) → (u < 0 ∨ (u = 0 ∧ (v < 0 ∨ (v = 0 ∧ (zcmp (aW Q.2.1 j).2.2.2 (aW Q.2.1 i).2.2.2 < 0 ∨ (zcmp (aW Q.2.1 j).2.2.2 (aW Q.2.1 i).2.2.2 = 0 ∧ (j : Int) < i)))))) → b'.1 ≤ b2.1 + 148 → b'.2 ≤ b2.2 + 888 → ZV X E_L_kept 160 [some (.ref c), some (vi (aN Q.2.1 : Int)), some (vi (aO Q.2.1)), some (vi 1), some (vi z), some (vi (i : Int)), some (vi (j : Int)), some (vi ((aW Q.2.1 j).2.2.1 - (aW Q.2.1 i).2.2.1)), o8, some (vi u), some (vi v), o11, none, none, none] [] b2 g I J post := by
          intro u v o8 b2 ru rv hO k1 k2
          have nj := wj.1
          have ni := wi.1
          have zb := zcmp_b (aW Q.2.1 j).2.2.2 (aW Q.2.1 i).2.2.2
          refine ZV_aload_n dL_kept_160 rfl ?_
          refine ZV_iload dL_kept_161 rfl ?_
          refine ZV_aload_n dL_kept_163 rfl ?_
          refine ZV_iload dL_kept_164 rfl ?_
          refine ZV_iconst dL_kept_166 ?_
          refine cl_L_work kL_kept_104 rfl dL_kept_167 ⟨by first | omega | (dsimp only; omega), by first | omega | (dsimp only; omega)⟩ (Nat.le_of_ble_eq_true rfl) ?_
          refine sp_L_work hC ⟨by omega, by omega⟩ ⟨by omega, by omega⟩ ⟨by decide, by decide⟩ ?_
          rw [f1]
          refine ZV_l2i dL_kept_170 ?_
          refine ZV_iload dL_kept_171 rfl ?_
          refine ZV_aload_n dL_kept_173 rfl ?_
          refine ZV_iload dL_kept_174 rfl ?_
          refine ZV_iconst dL_kept_176 ?_
          refine cl_L_work kL_kept_104 rfl dL_kept_177 ⟨by first | omega | (dsimp only; omega), by first | omega | (dsimp only; omega)⟩ (Nat.le_of_ble_eq_true rfl) ?_
          refine sp_L_work hC ⟨by omega, by omega⟩ ⟨by omega, by omega⟩ ⟨by decide, by decide⟩ ?_
          rw [e1]
          refine ZV_l2i dL_kept_180 ?_
          refine cl_L_names kL_kept_158 rfl dL_kept_181 ⟨by first | omega | (dsimp only; omega), by first | omega | (dsimp only; omega)⟩ (Nat.le_of_ble_eq_true rfl) ?_
          refine sp_L_names hC hj hi rfl rfl ⟨by omega, by omega⟩ ⟨by omega, by omega⟩ ⟨by decide, by decide⟩ ?_
          rw [nmAt_ti, nmAt_ti]
          refine ZV_istore11 dL_kept_184 rfl (by decide) ?_
          exact p186 _ _ _ none none _ _ _ ru rv ⟨by omega, by omega⟩ hO (by first | omega | (dsimp only; omega)) (by first | omega | (dsimp only; omega))
        rcases hod with o | o
        · have hO := (ch3_iff _ _ _ _ _).mp ((show bz (aO Q.2.1) (aW Q.2.1 j) (aW Q.2.1 i) j i = ch3 (acmp (aW Q.2.1 j).1 (aW Q.2.1 i).1 4) (zcmp (aW Q.2.1 j).2.2.1 (aW Q.2.1 i).2.2.1) (zcmp (aW Q.2.1 j).2.2.2 (aW Q.2.1 i).2.2.2) j i from if_pos o).symm.trans hbz)
          refine ZV_istore8 dL_kept_132 rfl (by decide) ?_
          refine ZV_iload_n dL_kept_134 rfl ?_
          refine ZV_if_ne (tgt := 143) dL_kept_135 (by decide) ⟨by omega, by omega⟩ (fun h135 => ?_) (fun h135 => ?_)
          · omega
          · refine ZV_iload dL_kept_138 rfl ?_
            refine ZV_goto (tgt := 145) dL_kept_140 (by decide) ?_
            refine ZV_istore9 dL_kept_145 rfl (by decide) ?_
            refine ZV_iload_n dL_kept_147 rfl ?_
            refine ZV_if_ne (tgt := 156) dL_kept_148 (by decide) ⟨by omega, by omega⟩ (fun h148 => ?_) (fun h148 => ?_)
            · omega
            · refine ZV_iload dL_kept_151 rfl ?_
              refine ZV_goto (tgt := 158) dL_kept_153 (by decide) ?_
              refine ZV_istore10 dL_kept_158 rfl (by decide) ?_
              exact tail _ _ _ _ ⟨by omega, by omega⟩ ⟨by omega, by omega⟩ (by omega) (by first | omega | (dsimp only; omega)) (by first | omega | (dsimp only; omega))
        · have hO := (ch3_iff _ _ _ _ _).mp ((show bz (aO Q.2.1) (aW Q.2.1 j) (aW Q.2.1 i) j i = ch3 (zcmp (aW Q.2.1 j).2.2.1 (aW Q.2.1 i).2.2.1) (acmp (aW Q.2.1 j).1 (aW Q.2.1 i).1 4) (zcmp (aW Q.2.1 j).2.2.2 (aW Q.2.1 i).2.2.2) j i from if_neg (by omega)).symm.trans hbz)
          refine ZV_istore8 dL_kept_132 rfl (by decide) ?_
          refine ZV_iload_n dL_kept_134 rfl ?_
          refine ZV_if_ne (tgt := 143) dL_kept_135 (by decide) ⟨by omega, by omega⟩ (fun h135 => ?_) (fun h135 => ?_)
          · refine ZV_iload dL_kept_143 rfl ?_
            refine ZV_istore9 dL_kept_145 rfl (by decide) ?_
            refine ZV_iload_n dL_kept_147 rfl ?_
            refine ZV_if_ne (tgt := 156) dL_kept_148 (by decide) ⟨by omega, by omega⟩ (fun h148 => ?_) (fun h148 => ?_)
            · refine ZV_iload dL_kept_156 rfl ?_
              refine ZV_istore10 dL_kept_158 rfl (by decide) ?_
              exact tail _ _ _ _ ⟨by omega, by omega⟩ ⟨by omega, by omega⟩ (by omega) (by first | omega | (dsimp only; omega)) (by first | omega | (dsimp only; omega))
            · omega
          · omega
end ZL6

