/-! the law's cases -/
theorem MInv.cfr {X : Xt} {g g' : Geo} {I I' J J' : Mm} {c m o : Nat} {Q : AC} (h : MInv X g I m Q) (hF : LFo g g' I I' J J' c o) (hm : c + 726 ≤ m) : MInv X g' I' m Q := by
  have hM := h.rw' (I' := I') (by rw [(hF.2 m (by omega)).2]) (by rw [(hF.2 m (by omega)).2]) (fun q hq => (hF.2 q (by omega)).2)
  obtain ⟨⟨l0, ⟨p1, p2, p3, p4, p5, p6, p7⟩, ⟨l1, l2, l3, l4, l5, l6⟩, ⟨j1, j2, j3, j4, j5, j6, j7⟩, ⟨k1, k2, k3, k4, k5, k6⟩⟩, hr⟩ := hM
  have e0 := (hF.2 m (by omega)).1
  have hk : ∀ {a : Nat} {k : Kd}, ksh X g a = some k → ksh X g' a = some k := fun q => ksh_g q hF.1
  refine ⟨⟨hk l0, ?_, ?_, ⟨hk j1, hk j2, hk j3, hk j4, hk j5, hk j6, hk j7⟩, ⟨hk k1, hk k2, hk k3, hk k4, hk k5, hk k6⟩⟩, hr⟩
  · rw [e0]; exact ⟨p1, p2, p3, p4, p5, p6, p7⟩
  · rw [e0]; exact ⟨l1, l2, l3, l4, l5, l6⟩
theorem CInv.mfr {X : Xt} {g : Geo} {I I' J : Mm} {c m : Nat} {Q : AC} (h : CInv X g I J c Q) (hF : MFr I I' m) (hm : c + 726 ≤ m) : CInv X g I' J c Q := h.out (fun q q1 q2 => ⟨hF q (by omega), rfl⟩)
/-- what the law holds between two calls -/
def LI (X : Xt) (g : Geo) (I J : Mm) (c : Nat) (Q : AC) : Prop := CInv X g I J c Q ∧ MInv X g I (c + 726) Q ∧ ksh X g (c + 740) = some (.inr (1, 1))
abbrev okv : Out → Geo → Mm → Mm → Prop := fun o _ _ _ => o = .inl (some (vi 1))
/-- what the rest of the law gives from a place behind a call -/
def LNx (X : Xt) (c : Nat) (b : Nat × Nat) (z : Int) : Prop := ∀ (g : Geo) (I J : Mm) (Q : AC) (o5 o6 : Option Value) (b2 : Nat × Nat), b.1 ≤ b2.1 + 2 → b.2 ≤ b2.2 + 12 → LI X g I J c Q → ZV X E_L_law 1603 [some (.ref X.2.2.2.2.1), some (.ref c), some (.ref (c + 726)), some (.ref (c + 740)), some (vi z), o5, o6] [] b2 g I J okv
section ZLW
variable {X : Xt} {g : Geo} {I J : Mm} {b : Nat × Nat} {c n : Nat} {z : Int} {Q : AC}
theorem lw_t0 {o6 : Option Value} {w v x : Int} {b2 : Nat × Nat} (hI : LI X g I J c Q) (hn : LNx X c b z) (hb1 : b.1 ≤ b2.1 + 2) (hb2 : b.2 ≤ b2.2 + 12) (hw : w = 0 ∨ w = 1 ∨ w = 2) (hth : I (c + 726) 0 = w) (hv : w = 0 → r32 v ∧ J (c + 740) 0 = v ∧ vi x = vi v) : ZV X E_L_law 191 [some (.ref X.2.2.2.2.1), some (.ref c), some (.ref (c + 726)), some (.ref (c + 740)), some (vi z), some (vi w), o6] [vi x] b2 g I J okv := by
  obtain ⟨x', hx1, hx2⟩ := vi_rep x
  obtain ⟨hx3, hx4⟩ := hx1
  have km := hI.2.1.1.1
  have ho := hI.2.2
  rw [hx2]
  have fin : ∀ y : Int, ZV X E_L_law 221 [some (.ref X.2.2.2.2.1), some (.ref c), some (.ref (c + 726)), some (.ref (c + 740)), some (vi z), some (vi w), some (vi y)] [] b2 g I J okv := by
    intro y
    refine ZV_goto (tgt := 1603) dL_law_221 (by decide) ?_
    exact hn g I J Q _ _ _ hb1 hb2 hI
  refine ZV_istore6 dL_law_191 rfl (by decide) ?_
  refine ZV_aload_n dL_law_193 rfl ?_
  refine cl_X7_thrown kL_law_97 rfl dL_law_194 (by assumption) (Nat.le_of_ble_eq_true rfl) ?_
  refine sp_X7_thrown hI.2.1.1 ?_
  rw [hth]
  refine ZV_iload dL_law_197 rfl ?_
  refine ZV_icmp_eq (tgt := 204) dL_law_199 (by decide) ⟨by omega, by omega⟩ ⟨by omega, by omega⟩ (fun h199 => ?_) (fun h199 => ?_)
  · refine ZV_iload dL_law_204 rfl ?_
    refine ZV_if_ne (tgt := 221) dL_law_206 (by decide) ⟨by omega, by omega⟩ (fun h206 => ?_) (fun h206 => ?_)
    · exact fin _
    · have hw0 : w = 0 := by omega
      obtain ⟨⟨hv3, hv4⟩, hv5, hv6⟩ := hv hw0
      have exv : x' = v := by
        have e : vi x' = vi v := by rw [← hx2]; exact hv6
        have e2 : i32 x' = i32 v := by injection e
        exact i32_inj hx3 hx4 hv3 hv4 e2
      subst exv
      refine ZV_aload_n dL_law_209 rfl ?_
      refine ZV_iconst dL_law_210 ?_
      refine ZV_lald (0) dL_law_211 (by assumption) (by first | rfl | omega) (by omega) (by omega) ?_
      rw [hv5]
      refine ZV_iload dL_law_212 rfl ?_
      refine ZV_i2l dL_law_214 ⟨by omega, by omega⟩ ?_
      refine ZV_lif_eq (tgt := 221) dL_law_215 dL_law_216 (by decide) ⟨by omega, by omega⟩ ⟨by omega, by omega⟩ (fun h215 => ?_) (fun h215 => ?_)
      · exact fin _
      · omega
  · omega
theorem lw_c0 {o5 o6 : Option Value} (hI : LI X g I J c Q) (hn : LNx X c b z) (hb : 2 ≤ b.1 ∧ 12 ≤ b.2) (hz : z = (n : Int)) (hlen : n + 3 < X.2.2.2.2.2.1) (hl2 : X.2.2.2.2.2.1 ≤ 65536) : ZV X E_L_law 168 [some (.ref X.2.2.2.2.1), some (.ref c), some (.ref (c + 726)), some (.ref (c + 740)), some (vi z), o5, o6] [] b g I J okv := by
  obtain ⟨hC, hM, ho⟩ := hI
  subst hz
  have kc := hC.1.1.1
  have km := hM.1.1
  obtain ⟨a1, ha1⟩ : ∃ a, a = (X.2.2.2.2.2.2 (n + 1)).toInt := ⟨_, rfl⟩
  have hr1 : r32 a1 := by rw [ha1]; exact i32r _
  obtain ⟨hl1, hu1⟩ := id hr1
  refine ZV_aload_n dL_law_168 rfl ?_
  refine ZV_aload_n dL_law_169 rfl ?_
  refine ZV_iload dL_law_170 rfl ?_
  refine ZV_iconst dL_law_172 ?_
  refine ZV_iadd dL_law_173 ?_
  refine ZV_sld (n + 1) rfl dL_law_174 (by omega) (by omega) (by omega) ?_
  rw [← ha1]
  refine ZV_aload_n dL_law_175 rfl ?_
  refine cl_L_append kL_law_91 rfl dL_law_176 ⟨by omega, by omega⟩ (Nat.le_of_ble_eq_true rfl) ?_
  refine sp_L_append hC ho (by omega) hr1 ⟨by decide, by decide⟩ ?_ ?_ ?_
  · intro e0 g1 I1 J1 hF1 hC1
    have hM1 := hM.cfr hF1 (Nat.le_refl _)
    have km1 := hM1.1.1
    have ho1 : ksh X g1 (c + 740) = some (.inr (1, 1)) := ksh_g ho hF1.1
    show ZV X E_L_law _ _ (vi 1 :: _) _ _ _ _ _
    refine ZV_istore5 dL_law_179 rfl (by decide) ?_
    refine ZV_aload_n dL_law_181 rfl ?_
    refine ZV_aload_n dL_law_182 rfl ?_
    refine ZV_iload dL_law_183 rfl ?_
    refine ZV_iconst dL_law_185 ?_
    refine ZV_iadd dL_law_186 ?_
    refine ZV_sld (n + 1) rfl dL_law_187 (by omega) (by omega) (by omega) ?_
    rw [← ha1]
    refine cl_X7_append kL_law_96 rfl dL_law_188 (by assumption) (Nat.le_of_ble_eq_true rfl) ?_
    refine sp_X7_append hM1 hr1 (fun f0 I2 mp => ?_) (fun f0 f1 => by first | omega | exact absurd e0 f0 | exact absurd f0 e0 | exact absurd e1 f1 | exact absurd f1 e1 | exact absurd (show oneW Q.1 from ⟨e1, s, e2, e3⟩) f0 | exact absurd (show oneW Q.1 from ⟨f1, s, f2, f3⟩) e0 | exact absurd (show oneW Q.1 from ⟨e2, s, e3, e4⟩) f1 | exact absurd (show oneW Q.1 from ⟨f2, s, f3, f4⟩) e1 | (rw [e1] at f2; cases f2) | (rw [e2] at f1; cases f1)) (fun f0 f1 => by first | omega | exact absurd e0 f0 | exact absurd f0 e0 | exact absurd e1 f1 | exact absurd f1 e1 | exact absurd (show oneW Q.1 from ⟨e1, s, e2, e3⟩) f0 | exact absurd (show oneW Q.1 from ⟨f1, s, f2, f3⟩) e0 | exact absurd (show oneW Q.1 from ⟨e2, s, e3, e4⟩) f1 | exact absurd (show oneW Q.1 from ⟨f2, s, f3, f4⟩) e1 | (rw [e1] at f2; cases f2) | (rw [e2] at f1; cases f1))
    show ZV X E_L_law _ _ (vi 0 :: _) _ _ _ _ _
    exact lw_t0 (v := 0) ⟨hC1.mfr mp.1 (Nat.le_refl _), mp.2.1, ho1⟩ hn (by dsimp only; omega) (by dsimp only; omega) (by omega) mp.2.2 (fun e => absurd e (by decide))
  · intro e0 e1 g1 I1 J1 hF1 hC1
    have hM1 := hM.cfr hF1 (Nat.le_refl _)
    have km1 := hM1.1.1
    have ho1 : ksh X g1 (c + 740) = some (.inr (1, 1)) := ksh_g ho hF1.1
    show ZV X E_L_law _ _ (vi 2 :: _) _ _ _ _ _
    refine ZV_istore5 dL_law_179 rfl (by decide) ?_
    refine ZV_aload_n dL_law_181 rfl ?_
    refine ZV_aload_n dL_law_182 rfl ?_
    refine ZV_iload dL_law_183 rfl ?_
    refine ZV_iconst dL_law_185 ?_
    refine ZV_iadd dL_law_186 ?_
    refine ZV_sld (n + 1) rfl dL_law_187 (by omega) (by omega) (by omega) ?_
    rw [← ha1]
    refine cl_X7_append kL_law_96 rfl dL_law_188 (by assumption) (Nat.le_of_ble_eq_true rfl) ?_
    refine sp_X7_append hM1 hr1 (fun f0 => by first | omega | exact absurd e0 f0 | exact absurd f0 e0 | exact absurd e1 f1 | exact absurd f1 e1 | exact absurd (show oneW Q.1 from ⟨e1, s, e2, e3⟩) f0 | exact absurd (show oneW Q.1 from ⟨f1, s, f2, f3⟩) e0 | exact absurd (show oneW Q.1 from ⟨e2, s, e3, e4⟩) f1 | exact absurd (show oneW Q.1 from ⟨f2, s, f3, f4⟩) e1 | (rw [e1] at f2; cases f2) | (rw [e2] at f1; cases f1)) (fun f0 f1 I2 mp => ?_) (fun f0 f1 => by first | omega | exact absurd e0 f0 | exact absurd f0 e0 | exact absurd e1 f1 | exact absurd f1 e1 | exact absurd (show oneW Q.1 from ⟨e1, s, e2, e3⟩) f0 | exact absurd (show oneW Q.1 from ⟨f1, s, f2, f3⟩) e0 | exact absurd (show oneW Q.1 from ⟨e2, s, e3, e4⟩) f1 | exact absurd (show oneW Q.1 from ⟨f2, s, f3, f4⟩) e1 | (rw [e1] at f2; cases f2) | (rw [e2] at f1; cases f1))
    show ZV X E_L_law _ _ (vi 0 :: _) _ _ _ _ _
    exact lw_t0 (v := 0) ⟨hC1.mfr mp.1 (Nat.le_refl _), mp.2.1, ho1⟩ hn (by dsimp only; omega) (by dsimp only; omega) (by omega) mp.2.2 (fun e => absurd e (by decide))
  · intro e0 e1 g1 I1 J1 hF1 hC1 v hv1 hv2 hv3
    have hM1 := hM.cfr hF1 (Nat.le_refl _)
    have km1 := hM1.1.1
    have ho1 : ksh X g1 (c + 740) = some (.inr (1, 1)) := ksh_g ho hF1.1
    show ZV X E_L_law _ _ (vi 0 :: _) _ _ _ _ _
    refine ZV_istore5 dL_law_179 rfl (by decide) ?_
    refine ZV_aload_n dL_law_181 rfl ?_
    refine ZV_aload_n dL_law_182 rfl ?_
    refine ZV_iload dL_law_183 rfl ?_
    refine ZV_iconst dL_law_185 ?_
    refine ZV_iadd dL_law_186 ?_
    refine ZV_sld (n + 1) rfl dL_law_187 (by omega) (by omega) (by omega) ?_
    rw [← ha1]
    refine cl_X7_append kL_law_96 rfl dL_law_188 (by assumption) (Nat.le_of_ble_eq_true rfl) ?_
    refine sp_X7_append hM1 hr1 (fun f0 => by first | omega | exact absurd e0 f0 | exact absurd f0 e0 | exact absurd e1 f1 | exact absurd f1 e1 | exact absurd (show oneW Q.1 from ⟨e1, s, e2, e3⟩) f0 | exact absurd (show oneW Q.1 from ⟨f1, s, f2, f3⟩) e0 | exact absurd (show oneW Q.1 from ⟨e2, s, e3, e4⟩) f1 | exact absurd (show oneW Q.1 from ⟨f2, s, f3, f4⟩) e1 | (rw [e1] at f2; cases f2) | (rw [e2] at f1; cases f1)) (fun f0 f1 => by first | omega | exact absurd e0 f0 | exact absurd f0 e0 | exact absurd e1 f1 | exact absurd f1 e1 | exact absurd (show oneW Q.1 from ⟨e1, s, e2, e3⟩) f0 | exact absurd (show oneW Q.1 from ⟨f1, s, f2, f3⟩) e0 | exact absurd (show oneW Q.1 from ⟨e2, s, e3, e4⟩) f1 | exact absurd (show oneW Q.1 from ⟨f2, s, f3, f4⟩) e1 | (rw [e1] at f2; cases f2) | (rw [e2] at f1; cases f1)) (fun f0 f1 I2 mp => ?_)
    show ZV X E_L_law _ _ (vi ((Q.1.1 : Int) + 1) :: _) _ _ _ _ _
    exact lw_t0 ⟨hC1.mfr mp.1 (Nat.le_refl _), mp.2.1, ho1⟩ hn (by dsimp only; omega) (by dsimp only; omega) (Or.inl rfl) mp.2.2 (fun _ => ⟨hv1, hv3, hv2⟩)
theorem lw_c1 {o5 o6 : Option Value} (hI : LI X g I J c Q) (hn : LNx X c b z) : ZV X E_L_law 224 [some (.ref X.2.2.2.2.1), some (.ref c), some (.ref (c + 726)), some (.ref (c + 740)), some (vi z), o5, o6] [] b g I J okv := by
  obtain ⟨hC, hM, ho⟩ := hI
  have kc := hC.1.1.1
  have km := hM.1.1
  refine ZV_aload_n dL_law_224 rfl ?_
  refine cl_X6_clearText kL_law_100 rfl dL_law_225 (by assumption) (Nat.le_of_ble_eq_true rfl) ?_
  refine sp_X6_clearText hC ?_
  intro I1 J1 hF1 hC1
  have hM1 := hM.cfr (hF1.lf (c + 740) J1) (Nat.le_refl _)
  have km1 := hM1.1.1
  obtain ⟨v, hv1, hv2⟩ := vi_rep (Q.1.1 : Int)
  obtain ⟨hv3, hv4⟩ := hv1
  show ZV X E_L_law _ _ (vi (Q.1.1 : Int) :: _) _ _ _ _ _
  rw [hv2]
  refine ZV_aload_n dL_law_228 rfl ?_
  refine cl_X7_clearText kL_law_103 rfl dL_law_229 (by assumption) (Nat.le_of_ble_eq_true rfl) ?_
  refine sp_X7_clearText hM1 ?_
  intro I2 mp
  show ZV X E_L_law _ _ (vi (Q.1.1 : Int) :: _) _ _ _ _ _
  rw [hv2]
  refine ZV_icmp_eq (tgt := 1603) dL_law_232 (by decide) ⟨by omega, by omega⟩ ⟨by omega, by omega⟩ (fun h232 => ?_) (fun h232 => ?_)
  · exact hn g I2 J1 ((0, Q.1.2), Q.2) _ _ _ (by omega) (by omega) ⟨hC1.mfr mp.1 (Nat.le_refl _), mp.2.1, ksh_g ho hF1.1⟩
  · omega
theorem lw_c2 {o5 o6 : Option Value} (hI : LI X g I J c Q) (hn : LNx X c b z) : ZV X E_L_law 237 [some (.ref X.2.2.2.2.1), some (.ref c), some (.ref (c + 726)), some (.ref (c + 740)), some (vi z), o5, o6] [] b g I J okv := by
  obtain ⟨hC, hM, ho⟩ := hI
  have kc := hC.1.1.1
  have km := hM.1.1
  refine ZV_aload_n dL_law_237 rfl ?_
  refine cl_X6_errorPosition kL_law_104 rfl dL_law_238 (by assumption) (Nat.le_of_ble_eq_true rfl) ?_
  refine sp_X6_errorPosition hC ?_
  intro I1 J1 hF1 hC1
  have hM1 := hM.cfr (hF1.lf (c + 740) J1) (Nat.le_refl _)
  have km1 := hM1.1.1
  obtain ⟨v, hv1, hv2⟩ := vi_rep (rdv Q.1.2 Q.1.1)
  obtain ⟨hv3, hv4⟩ := hv1
  show ZV X E_L_law _ _ (vi (rdv Q.1.2 Q.1.1) :: _) _ _ _ _ _
  rw [hv2]
  refine ZV_aload_n dL_law_241 rfl ?_
  refine cl_X7_errorPosition kL_law_107 rfl dL_law_242 (by assumption) (Nat.le_of_ble_eq_true rfl) ?_
  refine sp_X7_errorPosition hM1 ?_
  intro I2 mp
  show ZV X E_L_law _ _ (vi (rdv Q.1.2 Q.1.1) :: _) _ _ _ _ _
  rw [hv2]
  refine ZV_icmp_eq (tgt := 1603) dL_law_245 (by decide) ⟨by omega, by omega⟩ ⟨by omega, by omega⟩ (fun h245 => ?_) (fun h245 => ?_)
  · exact hn g I2 J1 Q _ _ _ (by omega) (by omega) ⟨hC1.mfr mp.1 (Nat.le_refl _), mp.2.1, ksh_g ho hF1.1⟩
  · omega
theorem lw_t3 {o6 : Option Value} {w v x : Int} {b2 : Nat × Nat} (hI : LI X g I J c Q) (hn : LNx X c b z) (hb1 : b.1 ≤ b2.1 + 2) (hb2 : b.2 ≤ b2.2 + 12) (hw : w = 0 ∨ w = 1 ∨ w = 2) (hth : I (c + 726) 0 = w) (hv : w = 0 → r32 v ∧ J (c + 740) 0 = v ∧ vi x = vi v) : ZV X E_L_law 261 [some (.ref X.2.2.2.2.1), some (.ref c), some (.ref (c + 726)), some (.ref (c + 740)), some (vi z), some (vi w), o6] [vi x] b2 g I J okv := by
  obtain ⟨x', hx1, hx2⟩ := vi_rep x
  obtain ⟨hx3, hx4⟩ := hx1
  have km := hI.2.1.1.1
  have ho := hI.2.2
  rw [hx2]
  have fin : ∀ y : Int, ZV X E_L_law 291 [some (.ref X.2.2.2.2.1), some (.ref c), some (.ref (c + 726)), some (.ref (c + 740)), some (vi z), some (vi w), some (vi y)] [] b2 g I J okv := by
    intro y
    refine ZV_goto (tgt := 1603) dL_law_291 (by decide) ?_
    exact hn g I J Q _ _ _ hb1 hb2 hI
  refine ZV_istore6 dL_law_261 rfl (by decide) ?_
  refine ZV_aload_n dL_law_263 rfl ?_
  refine cl_X7_thrown kL_law_97 rfl dL_law_264 (by assumption) (Nat.le_of_ble_eq_true rfl) ?_
  refine sp_X7_thrown hI.2.1.1 ?_
  rw [hth]
  refine ZV_iload dL_law_267 rfl ?_
  refine ZV_icmp_eq (tgt := 274) dL_law_269 (by decide) ⟨by omega, by omega⟩ ⟨by omega, by omega⟩ (fun h269 => ?_) (fun h269 => ?_)
  · refine ZV_iload dL_law_274 rfl ?_
    refine ZV_if_ne (tgt := 291) dL_law_276 (by decide) ⟨by omega, by omega⟩ (fun h276 => ?_) (fun h276 => ?_)
    · exact fin _
    · have hw0 : w = 0 := by omega
      obtain ⟨⟨hv3, hv4⟩, hv5, hv6⟩ := hv hw0
      have exv : x' = v := by
        have e : vi x' = vi v := by rw [← hx2]; exact hv6
        have e2 : i32 x' = i32 v := by injection e
        exact i32_inj hx3 hx4 hv3 hv4 e2
      subst exv
      refine ZV_aload_n dL_law_279 rfl ?_
      refine ZV_iconst dL_law_280 ?_
      refine ZV_lald (0) dL_law_281 (by assumption) (by first | rfl | omega) (by omega) (by omega) ?_
      rw [hv5]
      refine ZV_iload dL_law_282 rfl ?_
      refine ZV_i2l dL_law_284 ⟨by omega, by omega⟩ ?_
      refine ZV_lif_eq (tgt := 291) dL_law_285 dL_law_286 (by decide) ⟨by omega, by omega⟩ ⟨by omega, by omega⟩ (fun h285 => ?_) (fun h285 => ?_)
      · exact fin _
      · omega
  · omega
theorem lw_c3 {o5 o6 : Option Value} (hI : LI X g I J c Q) (hn : LNx X c b z) (hb : 2 ≤ b.1 ∧ 12 ≤ b.2) (hz : z = (n : Int)) (hlen : n + 3 < X.2.2.2.2.2.1) (hl2 : X.2.2.2.2.2.1 ≤ 65536) : ZV X E_L_law 250 [some (.ref X.2.2.2.2.1), some (.ref c), some (.ref (c + 726)), some (.ref (c + 740)), some (vi z), o5, o6] [] b g I J okv := by
  obtain ⟨hC, hM, ho⟩ := hI
  subst hz
  have kc := hC.1.1.1
  have km := hM.1.1
  refine ZV_aload_n dL_law_250 rfl ?_
  refine ZV_aload_n dL_law_251 rfl ?_
  refine cl_L_load kL_law_108 rfl dL_law_252 ⟨by omega, by omega⟩ (Nat.le_of_ble_eq_true rfl) ?_
  refine sp_L_load hC ho (by omega)  ⟨by decide, by decide⟩ ?_ ?_
  · intro e0 g1 I1 J1 hF1 hC1
    have hM1 := hM.cfr hF1 (Nat.le_refl _)
    have km1 := hM1.1.1
    have ho1 : ksh X g1 (c + 740) = some (.inr (1, 1)) := ksh_g ho hF1.1
    show ZV X E_L_law _ _ (vi 1 :: _) _ _ _ _ _
    refine ZV_istore5 dL_law_255 rfl (by decide) ?_
    refine ZV_aload_n dL_law_257 rfl ?_
    refine cl_X7_load kL_law_111 rfl dL_law_258 (by assumption) (Nat.le_of_ble_eq_true rfl) ?_
    refine sp_X7_load hM1  (fun f0 I2 mp => ?_) (fun s f1 f2 => by first | omega | exact absurd e0 f0 | exact absurd f0 e0 | exact absurd e1 f1 | exact absurd f1 e1 | exact absurd (show oneW Q.1 from ⟨e1, s, e2, e3⟩) f0 | exact absurd (show oneW Q.1 from ⟨f1, s, f2, f3⟩) e0 | exact absurd (show oneW Q.1 from ⟨e2, s, e3, e4⟩) f1 | exact absurd (show oneW Q.1 from ⟨f2, s, f3, f4⟩) e1 | (rw [e1] at f2; cases f2) | (rw [e2] at f1; cases f1))
    show ZV X E_L_law _ _ (vi 0 :: _) _ _ _ _ _
    exact lw_t3 (v := 0) ⟨hC1.mfr mp.1 (Nat.le_refl _), mp.2.1, ho1⟩ hn (by dsimp only; omega) (by dsimp only; omega) (by omega) mp.2.2 (fun e => absurd e (by decide))
  · intro s e1 e2 e3 e4 g1 I1 J1 hF1 hC1 v hv1 hv2 hv3
    have hM1 := hM.cfr hF1 (Nat.le_refl _)
    have km1 := hM1.1.1
    have ho1 : ksh X g1 (c + 740) = some (.inr (1, 1)) := ksh_g ho hF1.1
    show ZV X E_L_law _ _ (vi 0 :: _) _ _ _ _ _
    refine ZV_istore5 dL_law_255 rfl (by decide) ?_
    refine ZV_aload_n dL_law_257 rfl ?_
    refine cl_X7_load kL_law_111 rfl dL_law_258 (by assumption) (Nat.le_of_ble_eq_true rfl) ?_
    refine sp_X7_load hM1  (fun f0 => by first | omega | exact absurd e0 f0 | exact absurd f0 e0 | exact absurd e1 f1 | exact absurd f1 e1 | exact absurd (show oneW Q.1 from ⟨e1, s, e2, e3⟩) f0 | exact absurd (show oneW Q.1 from ⟨f1, s, f2, f3⟩) e0 | exact absurd (show oneW Q.1 from ⟨e2, s, e3, e4⟩) f1 | exact absurd (show oneW Q.1 from ⟨f2, s, f3, f4⟩) e1 | (rw [e1] at f2; cases f2) | (rw [e2] at f1; cases f1)) (fun s' f1 f2 I2 mp => ?_)
    have es := (Option.some.inj (e2.symm.trans f2) : s = s')
    subst es
    show ZV X E_L_law _ _ (vi (s.1 : Int) :: _) _ _ _ _ _
    exact lw_t3 ⟨hC1.mfr mp.1 (Nat.le_refl _), mp.2.1, ho1⟩ hn (by dsimp only; omega) (by dsimp only; omega) (Or.inl rfl) mp.2.2 (fun _ => ⟨hv1, hv3, hv2⟩)
theorem lw_t4 {o6 : Option Value} {w v x : Int} {b2 : Nat × Nat} (hI : LI X g I J c Q) (hn : LNx X c b z) (hb1 : b.1 ≤ b2.1 + 2) (hb2 : b.2 ≤ b2.2 + 12) (hw : w = 0 ∨ w = 1 ∨ w = 2) (hth : I (c + 726) 0 = w) (hv : w = 0 → r32 v ∧ J (c + 740) 0 = v ∧ vi x = vi v) : ZV X E_L_law 317 [some (.ref X.2.2.2.2.1), some (.ref c), some (.ref (c + 726)), some (.ref (c + 740)), some (vi z), some (vi w), o6] [vi x] b2 g I J okv := by
  obtain ⟨x', hx1, hx2⟩ := vi_rep x
  obtain ⟨hx3, hx4⟩ := hx1
  have km := hI.2.1.1.1
  have ho := hI.2.2
  rw [hx2]
  have fin : ∀ y : Int, ZV X E_L_law 347 [some (.ref X.2.2.2.2.1), some (.ref c), some (.ref (c + 726)), some (.ref (c + 740)), some (vi z), some (vi w), some (vi y)] [] b2 g I J okv := by
    intro y
    refine ZV_goto (tgt := 1603) dL_law_347 (by decide) ?_
    exact hn g I J Q _ _ _ hb1 hb2 hI
  refine ZV_istore6 dL_law_317 rfl (by decide) ?_
  refine ZV_aload_n dL_law_319 rfl ?_
  refine cl_X7_thrown kL_law_97 rfl dL_law_320 (by assumption) (Nat.le_of_ble_eq_true rfl) ?_
  refine sp_X7_thrown hI.2.1.1 ?_
  rw [hth]
  refine ZV_iload dL_law_323 rfl ?_
  refine ZV_icmp_eq (tgt := 330) dL_law_325 (by decide) ⟨by omega, by omega⟩ ⟨by omega, by omega⟩ (fun h325 => ?_) (fun h325 => ?_)
  · refine ZV_iload dL_law_330 rfl ?_
    refine ZV_if_ne (tgt := 347) dL_law_332 (by decide) ⟨by omega, by omega⟩ (fun h332 => ?_) (fun h332 => ?_)
    · exact fin _
    · have hw0 : w = 0 := by omega
      obtain ⟨⟨hv3, hv4⟩, hv5, hv6⟩ := hv hw0
      have exv : x' = v := by
        have e : vi x' = vi v := by rw [← hx2]; exact hv6
        have e2 : i32 x' = i32 v := by injection e
        exact i32_inj hx3 hx4 hv3 hv4 e2
      subst exv
      refine ZV_aload_n dL_law_335 rfl ?_
      refine ZV_iconst dL_law_336 ?_
      refine ZV_lald (0) dL_law_337 (by assumption) (by first | rfl | omega) (by omega) (by omega) ?_
      rw [hv5]
      refine ZV_iload dL_law_338 rfl ?_
      refine ZV_i2l dL_law_340 ⟨by omega, by omega⟩ ?_
      refine ZV_lif_eq (tgt := 347) dL_law_341 dL_law_342 (by decide) ⟨by omega, by omega⟩ ⟨by omega, by omega⟩ (fun h341 => ?_) (fun h341 => ?_)
      · exact fin _
      · omega
  · omega
theorem lw_c4 {o5 o6 : Option Value} (hI : LI X g I J c Q) (hn : LNx X c b z) (hb : 2 ≤ b.1 ∧ 12 ≤ b.2) (hz : z = (n : Int)) (hlen : n + 3 < X.2.2.2.2.2.1) (hl2 : X.2.2.2.2.2.1 ≤ 65536) : ZV X E_L_law 294 [some (.ref X.2.2.2.2.1), some (.ref c), some (.ref (c + 726)), some (.ref (c + 740)), some (vi z), o5, o6] [] b g I J okv := by
  obtain ⟨hC, hM, ho⟩ := hI
  subst hz
  have kc := hC.1.1.1
  have km := hM.1.1
  obtain ⟨a1, ha1⟩ : ∃ a, a = (X.2.2.2.2.2.2 (n + 1)).toInt := ⟨_, rfl⟩
  have hr1 : r32 a1 := by rw [ha1]; exact i32r _
  obtain ⟨hl1, hu1⟩ := id hr1
  refine ZV_aload_n dL_law_294 rfl ?_
  refine ZV_aload_n dL_law_295 rfl ?_
  refine ZV_iload dL_law_296 rfl ?_
  refine ZV_iconst dL_law_298 ?_
  refine ZV_iadd dL_law_299 ?_
  refine ZV_sld (n + 1) rfl dL_law_300 (by omega) (by omega) (by omega) ?_
  rw [← ha1]
  refine ZV_aload_n dL_law_301 rfl ?_
  refine cl_L_about kL_law_112 rfl dL_law_302 ⟨by omega, by omega⟩ (Nat.le_of_ble_eq_true rfl) ?_
  refine sp_L_about hC ho (by omega) hr1 ⟨by decide, by decide⟩ ?_ ?_
  · intro e0 g1 I1 J1 hF1 hC1 v hv1 hv2 hv3
    have hM1 := hM.cfr hF1 (Nat.le_refl _)
    have km1 := hM1.1.1
    have ho1 : ksh X g1 (c + 740) = some (.inr (1, 1)) := ksh_g ho hF1.1
    show ZV X E_L_law _ _ (vi 0 :: _) _ _ _ _ _
    refine ZV_istore5 dL_law_305 rfl (by decide) ?_
    refine ZV_aload_n dL_law_307 rfl ?_
    refine ZV_aload_n dL_law_308 rfl ?_
    refine ZV_iload dL_law_309 rfl ?_
    refine ZV_iconst dL_law_311 ?_
    refine ZV_iadd dL_law_312 ?_
    refine ZV_sld (n + 1) rfl dL_law_313 (by omega) (by omega) (by omega) ?_
    rw [← ha1]
    refine cl_X7_about kL_law_114 rfl dL_law_314 (by assumption) (Nat.le_of_ble_eq_true rfl) ?_
    refine sp_X7_about hM1 hr1 (fun f0 I2 mp => ?_) (fun f0 => by first | omega | exact absurd e0 f0 | exact absurd f0 e0 | exact absurd e1 f1 | exact absurd f1 e1 | exact absurd (show oneW Q.1 from ⟨e1, s, e2, e3⟩) f0 | exact absurd (show oneW Q.1 from ⟨f1, s, f2, f3⟩) e0 | exact absurd (show oneW Q.1 from ⟨e2, s, e3, e4⟩) f1 | exact absurd (show oneW Q.1 from ⟨f2, s, f3, f4⟩) e1 | (rw [e1] at f2; cases f2) | (rw [e2] at f1; cases f1))
    show ZV X E_L_law _ _ (vi (abF Q.2.1 a1) :: _) _ _ _ _ _
    exact lw_t4 ⟨hC1.mfr mp.1 (Nat.le_refl _), mp.2.1, ho1⟩ hn (by dsimp only; omega) (by dsimp only; omega) (Or.inl rfl) mp.2.2 (fun _ => ⟨hv1, hv3, hv2⟩)
  · intro e0 g1 I1 J1 hF1 hC1
    have hM1 := hM.cfr hF1 (Nat.le_refl _)
    have km1 := hM1.1.1
    have ho1 : ksh X g1 (c + 740) = some (.inr (1, 1)) := ksh_g ho hF1.1
    show ZV X E_L_law _ _ (vi 1 :: _) _ _ _ _ _
    refine ZV_istore5 dL_law_305 rfl (by decide) ?_
    refine ZV_aload_n dL_law_307 rfl ?_
    refine ZV_aload_n dL_law_308 rfl ?_
    refine ZV_iload dL_law_309 rfl ?_
    refine ZV_iconst dL_law_311 ?_
    refine ZV_iadd dL_law_312 ?_
    refine ZV_sld (n + 1) rfl dL_law_313 (by omega) (by omega) (by omega) ?_
    rw [← ha1]
    refine cl_X7_about kL_law_114 rfl dL_law_314 (by assumption) (Nat.le_of_ble_eq_true rfl) ?_
    refine sp_X7_about hM1 hr1 (fun f0 => by first | omega | exact absurd e0 f0 | exact absurd f0 e0 | exact absurd e1 f1 | exact absurd f1 e1 | exact absurd (show oneW Q.1 from ⟨e1, s, e2, e3⟩) f0 | exact absurd (show oneW Q.1 from ⟨f1, s, f2, f3⟩) e0 | exact absurd (show oneW Q.1 from ⟨e2, s, e3, e4⟩) f1 | exact absurd (show oneW Q.1 from ⟨f2, s, f3, f4⟩) e1 | (rw [e1] at f2; cases f2) | (rw [e2] at f1; cases f1)) (fun f0 I2 mp => ?_)
    show ZV X E_L_law _ _ (vi 0 :: _) _ _ _ _ _
    exact lw_t4 (v := 0) ⟨hC1.mfr mp.1 (Nat.le_refl _), mp.2.1, ho1⟩ hn (by dsimp only; omega) (by dsimp only; omega) (by omega) mp.2.2 (fun e => absurd e (by decide))
theorem lw_t5 {o6 : Option Value} {w v x : Int} {b2 : Nat × Nat} (hI : LI X g I J c Q) (hn : LNx X c b z) (hb1 : b.1 ≤ b2.1 + 2) (hb2 : b.2 ≤ b2.2 + 12) (hw : w = 0 ∨ w = 1 ∨ w = 2) (hth : I (c + 726) 0 = w) (hv : w = 0 → r32 v ∧ J (c + 740) 0 = v ∧ vi x = vi v) : ZV X E_L_law 385 [some (.ref X.2.2.2.2.1), some (.ref c), some (.ref (c + 726)), some (.ref (c + 740)), some (vi z), some (vi w), o6] [vi x] b2 g I J okv := by
  obtain ⟨x', hx1, hx2⟩ := vi_rep x
  obtain ⟨hx3, hx4⟩ := hx1
  have km := hI.2.1.1.1
  have ho := hI.2.2
  rw [hx2]
  have fin : ∀ y : Int, ZV X E_L_law 415 [some (.ref X.2.2.2.2.1), some (.ref c), some (.ref (c + 726)), some (.ref (c + 740)), some (vi z), some (vi w), some (vi y)] [] b2 g I J okv := by
    intro y
    refine ZV_goto (tgt := 1603) dL_law_415 (by decide) ?_
    exact hn g I J Q _ _ _ hb1 hb2 hI
  refine ZV_istore6 dL_law_385 rfl (by decide) ?_
  refine ZV_aload_n dL_law_387 rfl ?_
  refine cl_X7_thrown kL_law_97 rfl dL_law_388 (by assumption) (Nat.le_of_ble_eq_true rfl) ?_
  refine sp_X7_thrown hI.2.1.1 ?_
  rw [hth]
  refine ZV_iload dL_law_391 rfl ?_
  refine ZV_icmp_eq (tgt := 398) dL_law_393 (by decide) ⟨by omega, by omega⟩ ⟨by omega, by omega⟩ (fun h393 => ?_) (fun h393 => ?_)
  · refine ZV_iload dL_law_398 rfl ?_
    refine ZV_if_ne (tgt := 415) dL_law_400 (by decide) ⟨by omega, by omega⟩ (fun h400 => ?_) (fun h400 => ?_)
    · exact fin _
    · have hw0 : w = 0 := by omega
      obtain ⟨⟨hv3, hv4⟩, hv5, hv6⟩ := hv hw0
      have exv : x' = v := by
        have e : vi x' = vi v := by rw [← hx2]; exact hv6
        have e2 : i32 x' = i32 v := by injection e
        exact i32_inj hx3 hx4 hv3 hv4 e2
      subst exv
      refine ZV_aload_n dL_law_403 rfl ?_
      refine ZV_iconst dL_law_404 ?_
      refine ZV_lald (0) dL_law_405 (by assumption) (by first | rfl | omega) (by omega) (by omega) ?_
      rw [hv5]
      refine ZV_iload dL_law_406 rfl ?_
      refine ZV_i2l dL_law_408 ⟨by omega, by omega⟩ ?_
      refine ZV_lif_eq (tgt := 415) dL_law_409 dL_law_410 (by decide) ⟨by omega, by omega⟩ ⟨by omega, by omega⟩ (fun h409 => ?_) (fun h409 => ?_)
      · exact fin _
      · omega
  · omega
theorem lw_c5 {o5 o6 : Option Value} (hI : LI X g I J c Q) (hn : LNx X c b z) (hb : 2 ≤ b.1 ∧ 12 ≤ b.2) (hz : z = (n : Int)) (hlen : n + 3 < X.2.2.2.2.2.1) (hl2 : X.2.2.2.2.2.1 ≤ 65536) : ZV X E_L_law 350 [some (.ref X.2.2.2.2.1), some (.ref c), some (.ref (c + 726)), some (.ref (c + 740)), some (vi z), o5, o6] [] b g I J okv := by
  obtain ⟨hC, hM, ho⟩ := hI
  subst hz
  have kc := hC.1.1.1
  have km := hM.1.1
  obtain ⟨a1, ha1⟩ : ∃ a, a = (X.2.2.2.2.2.2 (n + 1)).toInt := ⟨_, rfl⟩
  have hr1 : r32 a1 := by rw [ha1]; exact i32r _
  obtain ⟨hl1, hu1⟩ := id hr1
  obtain ⟨a2, ha2⟩ : ∃ a, a = (X.2.2.2.2.2.2 (n + 2)).toInt := ⟨_, rfl⟩
  have hr2 : r32 a2 := by rw [ha2]; exact i32r _
  obtain ⟨hl2, hu2⟩ := id hr2
  refine ZV_aload_n dL_law_350 rfl ?_
  refine ZV_aload_n dL_law_351 rfl ?_
  refine ZV_iload dL_law_352 rfl ?_
  refine ZV_iconst dL_law_354 ?_
  refine ZV_iadd dL_law_355 ?_
  refine ZV_sld (n + 1) rfl dL_law_356 (by omega) (by omega) (by omega) ?_
  rw [← ha1]
  refine ZV_aload_n dL_law_357 rfl ?_
  refine ZV_iload dL_law_358 rfl ?_
  refine ZV_iconst dL_law_360 ?_
  refine ZV_iadd dL_law_361 ?_
  refine ZV_sld (n + 2) rfl dL_law_362 (by omega) (by omega) (by omega) ?_
  rw [← ha2]
  refine ZV_aload_n dL_law_363 rfl ?_
  refine cl_L_work kL_law_115 rfl dL_law_364 ⟨by omega, by omega⟩ (Nat.le_of_ble_eq_true rfl) ?_
  refine sp_L_work hC ho (by omega) hr1 hr2 ⟨by decide, by decide⟩ ?_ ?_ ?_
  · intro e0 g1 I1 J1 hF1 hC1
    have hM1 := hM.cfr hF1 (Nat.le_refl _)
    have km1 := hM1.1.1
    have ho1 : ksh X g1 (c + 740) = some (.inr (1, 1)) := ksh_g ho hF1.1
    show ZV X E_L_law _ _ (vi 1 :: _) _ _ _ _ _
    refine ZV_istore5 dL_law_367 rfl (by decide) ?_
    refine ZV_aload_n dL_law_369 rfl ?_
    refine ZV_aload_n dL_law_370 rfl ?_
    refine ZV_iload dL_law_371 rfl ?_
    refine ZV_iconst dL_law_373 ?_
    refine ZV_iadd dL_law_374 ?_
    refine ZV_sld (n + 1) rfl dL_law_375 (by omega) (by omega) (by omega) ?_
    rw [← ha1]
    refine ZV_aload_n dL_law_376 rfl ?_
    refine ZV_iload dL_law_377 rfl ?_
    refine ZV_iconst dL_law_379 ?_
    refine ZV_iadd dL_law_380 ?_
    refine ZV_sld (n + 2) rfl dL_law_381 (by omega) (by omega) (by omega) ?_
    rw [← ha2]
    refine cl_X7_work kL_law_118 rfl dL_law_382 (by assumption) (Nat.le_of_ble_eq_true rfl) ?_
    refine sp_X7_work hM1 hr1 hr2 (fun f0 I2 mp => ?_) (fun f0 f1 => by first | omega | exact absurd e0 f0 | exact absurd f0 e0 | exact absurd e1 f1 | exact absurd f1 e1 | exact absurd (show oneW Q.1 from ⟨e1, s, e2, e3⟩) f0 | exact absurd (show oneW Q.1 from ⟨f1, s, f2, f3⟩) e0 | exact absurd (show oneW Q.1 from ⟨e2, s, e3, e4⟩) f1 | exact absurd (show oneW Q.1 from ⟨f2, s, f3, f4⟩) e1 | (rw [e1] at f2; cases f2) | (rw [e2] at f1; cases f1)) (fun f0 f1 => by first | omega | exact absurd e0 f0 | exact absurd f0 e0 | exact absurd e1 f1 | exact absurd f1 e1 | exact absurd (show oneW Q.1 from ⟨e1, s, e2, e3⟩) f0 | exact absurd (show oneW Q.1 from ⟨f1, s, f2, f3⟩) e0 | exact absurd (show oneW Q.1 from ⟨e2, s, e3, e4⟩) f1 | exact absurd (show oneW Q.1 from ⟨f2, s, f3, f4⟩) e1 | (rw [e1] at f2; cases f2) | (rw [e2] at f1; cases f1))
    show ZV X E_L_law _ _ (vi 0 :: _) _ _ _ _ _
    exact lw_t5 (v := 0) ⟨hC1.mfr mp.1 (Nat.le_refl _), mp.2.1, ho1⟩ hn (by dsimp only; omega) (by dsimp only; omega) (by omega) mp.2.2 (fun e => absurd e (by decide))
  · intro e0 e1 g1 I1 J1 hF1 hC1
    have hM1 := hM.cfr hF1 (Nat.le_refl _)
    have km1 := hM1.1.1
    have ho1 : ksh X g1 (c + 740) = some (.inr (1, 1)) := ksh_g ho hF1.1
    show ZV X E_L_law _ _ (vi 2 :: _) _ _ _ _ _
    refine ZV_istore5 dL_law_367 rfl (by decide) ?_
    refine ZV_aload_n dL_law_369 rfl ?_
    refine ZV_aload_n dL_law_370 rfl ?_
    refine ZV_iload dL_law_371 rfl ?_
    refine ZV_iconst dL_law_373 ?_
    refine ZV_iadd dL_law_374 ?_
    refine ZV_sld (n + 1) rfl dL_law_375 (by omega) (by omega) (by omega) ?_
    rw [← ha1]
    refine ZV_aload_n dL_law_376 rfl ?_
    refine ZV_iload dL_law_377 rfl ?_
    refine ZV_iconst dL_law_379 ?_
    refine ZV_iadd dL_law_380 ?_
    refine ZV_sld (n + 2) rfl dL_law_381 (by omega) (by omega) (by omega) ?_
    rw [← ha2]
    refine cl_X7_work kL_law_118 rfl dL_law_382 (by assumption) (Nat.le_of_ble_eq_true rfl) ?_
    refine sp_X7_work hM1 hr1 hr2 (fun f0 => by first | omega | exact absurd e0 f0 | exact absurd f0 e0 | exact absurd e1 f1 | exact absurd f1 e1 | exact absurd (show oneW Q.1 from ⟨e1, s, e2, e3⟩) f0 | exact absurd (show oneW Q.1 from ⟨f1, s, f2, f3⟩) e0 | exact absurd (show oneW Q.1 from ⟨e2, s, e3, e4⟩) f1 | exact absurd (show oneW Q.1 from ⟨f2, s, f3, f4⟩) e1 | (rw [e1] at f2; cases f2) | (rw [e2] at f1; cases f1)) (fun f0 f1 I2 mp => ?_) (fun f0 f1 => by first | omega | exact absurd e0 f0 | exact absurd f0 e0 | exact absurd e1 f1 | exact absurd f1 e1 | exact absurd (show oneW Q.1 from ⟨e1, s, e2, e3⟩) f0 | exact absurd (show oneW Q.1 from ⟨f1, s, f2, f3⟩) e0 | exact absurd (show oneW Q.1 from ⟨e2, s, e3, e4⟩) f1 | exact absurd (show oneW Q.1 from ⟨f2, s, f3, f4⟩) e1 | (rw [e1] at f2; cases f2) | (rw [e2] at f1; cases f1))
    show ZV X E_L_law _ _ (vi 0 :: _) _ _ _ _ _
    exact lw_t5 (v := 0) ⟨hC1.mfr mp.1 (Nat.le_refl _), mp.2.1, ho1⟩ hn (by dsimp only; omega) (by dsimp only; omega) (by omega) mp.2.2 (fun e => absurd e (by decide))
  · intro e0 e1 g1 I1 J1 hF1 hC1 v hv1 hv2 hv3
    have hM1 := hM.cfr hF1 (Nat.le_refl _)
    have km1 := hM1.1.1
    have ho1 : ksh X g1 (c + 740) = some (.inr (1, 1)) := ksh_g ho hF1.1
    show ZV X E_L_law _ _ (vi 0 :: _) _ _ _ _ _
    refine ZV_istore5 dL_law_367 rfl (by decide) ?_
    refine ZV_aload_n dL_law_369 rfl ?_
    refine ZV_aload_n dL_law_370 rfl ?_
    refine ZV_iload dL_law_371 rfl ?_
    refine ZV_iconst dL_law_373 ?_
    refine ZV_iadd dL_law_374 ?_
    refine ZV_sld (n + 1) rfl dL_law_375 (by omega) (by omega) (by omega) ?_
    rw [← ha1]
    refine ZV_aload_n dL_law_376 rfl ?_
    refine ZV_iload dL_law_377 rfl ?_
    refine ZV_iconst dL_law_379 ?_
    refine ZV_iadd dL_law_380 ?_
    refine ZV_sld (n + 2) rfl dL_law_381 (by omega) (by omega) (by omega) ?_
    rw [← ha2]
    refine cl_X7_work kL_law_118 rfl dL_law_382 (by assumption) (Nat.le_of_ble_eq_true rfl) ?_
    refine sp_X7_work hM1 hr1 hr2 (fun f0 => by first | omega | exact absurd e0 f0 | exact absurd f0 e0 | exact absurd e1 f1 | exact absurd f1 e1 | exact absurd (show oneW Q.1 from ⟨e1, s, e2, e3⟩) f0 | exact absurd (show oneW Q.1 from ⟨f1, s, f2, f3⟩) e0 | exact absurd (show oneW Q.1 from ⟨e2, s, e3, e4⟩) f1 | exact absurd (show oneW Q.1 from ⟨f2, s, f3, f4⟩) e1 | (rw [e1] at f2; cases f2) | (rw [e2] at f1; cases f1)) (fun f0 f1 => by first | omega | exact absurd e0 f0 | exact absurd f0 e0 | exact absurd e1 f1 | exact absurd f1 e1 | exact absurd (show oneW Q.1 from ⟨e1, s, e2, e3⟩) f0 | exact absurd (show oneW Q.1 from ⟨f1, s, f2, f3⟩) e0 | exact absurd (show oneW Q.1 from ⟨e2, s, e3, e4⟩) f1 | exact absurd (show oneW Q.1 from ⟨f2, s, f3, f4⟩) e1 | (rw [e1] at f2; cases f2) | (rw [e2] at f1; cases f1)) (fun f0 f1 I2 mp => ?_)
    show ZV X E_L_law _ _ (vi (wkF Q.2.1 a1.toNat a2) :: _) _ _ _ _ _
    exact lw_t5 ⟨hC1.mfr mp.1 (Nat.le_refl _), mp.2.1, ho1⟩ hn (by dsimp only; omega) (by dsimp only; omega) (Or.inl rfl) mp.2.2 (fun _ => ⟨hv1, hv3, hv2⟩)
theorem lw_t6 {o6 : Option Value} {w v x : Int} {b2 : Nat × Nat} (hI : LI X g I J c Q) (hn : LNx X c b z) (hb1 : b.1 ≤ b2.1 + 2) (hb2 : b.2 ≤ b2.2 + 12) (hw : w = 0 ∨ w = 1 ∨ w = 2) (hth : I (c + 726) 0 = w) (hv : w = 0 → r32 v ∧ J (c + 740) 0 = v ∧ vi x = vi v) : ZV X E_L_law 465 [some (.ref X.2.2.2.2.1), some (.ref c), some (.ref (c + 726)), some (.ref (c + 740)), some (vi z), some (vi w), o6] [vi x] b2 g I J okv := by
  obtain ⟨x', hx1, hx2⟩ := vi_rep x
  obtain ⟨hx3, hx4⟩ := hx1
  have km := hI.2.1.1.1
  have ho := hI.2.2
  rw [hx2]
  have fin : ∀ y : Int, ZV X E_L_law 495 [some (.ref X.2.2.2.2.1), some (.ref c), some (.ref (c + 726)), some (.ref (c + 740)), some (vi z), some (vi w), some (vi y)] [] b2 g I J okv := by
    intro y
    refine ZV_goto (tgt := 1603) dL_law_495 (by decide) ?_
    exact hn g I J Q _ _ _ hb1 hb2 hI
  refine ZV_istore6 dL_law_465 rfl (by decide) ?_
  refine ZV_aload_n dL_law_467 rfl ?_
  refine cl_X7_thrown kL_law_97 rfl dL_law_468 (by assumption) (Nat.le_of_ble_eq_true rfl) ?_
  refine sp_X7_thrown hI.2.1.1 ?_
  rw [hth]
  refine ZV_iload dL_law_471 rfl ?_
  refine ZV_icmp_eq (tgt := 478) dL_law_473 (by decide) ⟨by omega, by omega⟩ ⟨by omega, by omega⟩ (fun h473 => ?_) (fun h473 => ?_)
  · refine ZV_iload dL_law_478 rfl ?_
    refine ZV_if_ne (tgt := 495) dL_law_480 (by decide) ⟨by omega, by omega⟩ (fun h480 => ?_) (fun h480 => ?_)
    · exact fin _
    · have hw0 : w = 0 := by omega
      obtain ⟨⟨hv3, hv4⟩, hv5, hv6⟩ := hv hw0
      have exv : x' = v := by
        have e : vi x' = vi v := by rw [← hx2]; exact hv6
        have e2 : i32 x' = i32 v := by injection e
        exact i32_inj hx3 hx4 hv3 hv4 e2
      subst exv
      refine ZV_aload_n dL_law_483 rfl ?_
      refine ZV_iconst dL_law_484 ?_
      refine ZV_lald (0) dL_law_485 (by assumption) (by first | rfl | omega) (by omega) (by omega) ?_
      rw [hv5]
      refine ZV_iload dL_law_486 rfl ?_
      refine ZV_i2l dL_law_488 ⟨by omega, by omega⟩ ?_
      refine ZV_lif_eq (tgt := 495) dL_law_489 dL_law_490 (by decide) ⟨by omega, by omega⟩ ⟨by omega, by omega⟩ (fun h489 => ?_) (fun h489 => ?_)
      · exact fin _
      · omega
  · omega
theorem lw_c6 {o5 o6 : Option Value} (hI : LI X g I J c Q) (hn : LNx X c b z) (hb : 2 ≤ b.1 ∧ 12 ≤ b.2) (hz : z = (n : Int)) (hlen : n + 3 < X.2.2.2.2.2.1) (hl2 : X.2.2.2.2.2.1 ≤ 65536) : ZV X E_L_law 418 [some (.ref X.2.2.2.2.1), some (.ref c), some (.ref (c + 726)), some (.ref (c + 740)), some (vi z), o5, o6] [] b g I J okv := by
  obtain ⟨hC, hM, ho⟩ := hI
  subst hz
  have kc := hC.1.1.1
  have km := hM.1.1
  obtain ⟨a1, ha1⟩ : ∃ a, a = (X.2.2.2.2.2.2 (n + 1)).toInt := ⟨_, rfl⟩
  have hr1 : r32 a1 := by rw [ha1]; exact i32r _
  obtain ⟨hl1, hu1⟩ := id hr1
  obtain ⟨a2, ha2⟩ : ∃ a, a = (X.2.2.2.2.2.2 (n + 2)).toInt := ⟨_, rfl⟩
  have hr2 : r32 a2 := by rw [ha2]; exact i32r _
  obtain ⟨hl2, hu2⟩ := id hr2
  obtain ⟨a3, ha3⟩ : ∃ a, a = (X.2.2.2.2.2.2 (n + 3)).toInt := ⟨_, rfl⟩
  have hr3 : r32 a3 := by rw [ha3]; exact i32r _
  obtain ⟨hl3, hu3⟩ := id hr3
  refine ZV_aload_n dL_law_418 rfl ?_
  refine ZV_aload_n dL_law_419 rfl ?_
  refine ZV_iload dL_law_420 rfl ?_
  refine ZV_iconst dL_law_422 ?_
  refine ZV_iadd dL_law_423 ?_
  refine ZV_sld (n + 1) rfl dL_law_424 (by omega) (by omega) (by omega) ?_
  rw [← ha1]
  refine ZV_aload_n dL_law_425 rfl ?_
  refine ZV_iload dL_law_426 rfl ?_
  refine ZV_iconst dL_law_428 ?_
  refine ZV_iadd dL_law_429 ?_
  refine ZV_sld (n + 2) rfl dL_law_430 (by omega) (by omega) (by omega) ?_
  rw [← ha2]
  refine ZV_aload_n dL_law_431 rfl ?_
  refine ZV_iload dL_law_432 rfl ?_
  refine ZV_iconst dL_law_434 ?_
  refine ZV_iadd dL_law_435 ?_
  refine ZV_sld (n + 3) rfl dL_law_436 (by omega) (by omega) (by omega) ?_
  rw [← ha3]
  refine ZV_aload_n dL_law_437 rfl ?_
  refine cl_L_letter kL_law_119 rfl dL_law_438 ⟨by omega, by omega⟩ (Nat.le_of_ble_eq_true rfl) ?_
  refine sp_L_letter hC ho (by omega) hr1 hr2 hr3 ⟨by decide, by decide⟩ ?_ ?_ ?_
  · intro e0 g1 I1 J1 hF1 hC1
    have hM1 := hM.cfr hF1 (Nat.le_refl _)
    have km1 := hM1.1.1
    have ho1 : ksh X g1 (c + 740) = some (.inr (1, 1)) := ksh_g ho hF1.1
    show ZV X E_L_law _ _ (vi 1 :: _) _ _ _ _ _
    refine ZV_istore5 dL_law_441 rfl (by decide) ?_
    refine ZV_aload_n dL_law_443 rfl ?_
    refine ZV_aload_n dL_law_444 rfl ?_
    refine ZV_iload dL_law_445 rfl ?_
    refine ZV_iconst dL_law_447 ?_
    refine ZV_iadd dL_law_448 ?_
    refine ZV_sld (n + 1) rfl dL_law_449 (by omega) (by omega) (by omega) ?_
    rw [← ha1]
    refine ZV_aload_n dL_law_450 rfl ?_
    refine ZV_iload dL_law_451 rfl ?_
    refine ZV_iconst dL_law_453 ?_
    refine ZV_iadd dL_law_454 ?_
    refine ZV_sld (n + 2) rfl dL_law_455 (by omega) (by omega) (by omega) ?_
    rw [← ha2]
    refine ZV_aload_n dL_law_456 rfl ?_
    refine ZV_iload dL_law_457 rfl ?_
    refine ZV_iconst dL_law_459 ?_
    refine ZV_iadd dL_law_460 ?_
    refine ZV_sld (n + 3) rfl dL_law_461 (by omega) (by omega) (by omega) ?_
    rw [← ha3]
    refine cl_X7_letter kL_law_122 rfl dL_law_462 (by assumption) (Nat.le_of_ble_eq_true rfl) ?_
    refine sp_X7_letter hM1 hr1 hr2 hr3 (fun f0 I2 mp => ?_) (fun f0 f1 => by first | omega | exact absurd e0 f0 | exact absurd f0 e0 | exact absurd e1 f1 | exact absurd f1 e1 | exact absurd (show oneW Q.1 from ⟨e1, s, e2, e3⟩) f0 | exact absurd (show oneW Q.1 from ⟨f1, s, f2, f3⟩) e0 | exact absurd (show oneW Q.1 from ⟨e2, s, e3, e4⟩) f1 | exact absurd (show oneW Q.1 from ⟨f2, s, f3, f4⟩) e1 | (rw [e1] at f2; cases f2) | (rw [e2] at f1; cases f1)) (fun f0 f1 => by first | omega | exact absurd e0 f0 | exact absurd f0 e0 | exact absurd e1 f1 | exact absurd f1 e1 | exact absurd (show oneW Q.1 from ⟨e1, s, e2, e3⟩) f0 | exact absurd (show oneW Q.1 from ⟨f1, s, f2, f3⟩) e0 | exact absurd (show oneW Q.1 from ⟨e2, s, e3, e4⟩) f1 | exact absurd (show oneW Q.1 from ⟨f2, s, f3, f4⟩) e1 | (rw [e1] at f2; cases f2) | (rw [e2] at f1; cases f1))
    show ZV X E_L_law _ _ (vi 0 :: _) _ _ _ _ _
    exact lw_t6 (v := 0) ⟨hC1.mfr mp.1 (Nat.le_refl _), mp.2.1, ho1⟩ hn (by dsimp only; omega) (by dsimp only; omega) (by omega) mp.2.2 (fun e => absurd e (by decide))
  · intro e0 e1 g1 I1 J1 hF1 hC1
    have hM1 := hM.cfr hF1 (Nat.le_refl _)
    have km1 := hM1.1.1
    have ho1 : ksh X g1 (c + 740) = some (.inr (1, 1)) := ksh_g ho hF1.1
    show ZV X E_L_law _ _ (vi 2 :: _) _ _ _ _ _
    refine ZV_istore5 dL_law_441 rfl (by decide) ?_
    refine ZV_aload_n dL_law_443 rfl ?_
    refine ZV_aload_n dL_law_444 rfl ?_
    refine ZV_iload dL_law_445 rfl ?_
    refine ZV_iconst dL_law_447 ?_
    refine ZV_iadd dL_law_448 ?_
    refine ZV_sld (n + 1) rfl dL_law_449 (by omega) (by omega) (by omega) ?_
    rw [← ha1]
    refine ZV_aload_n dL_law_450 rfl ?_
    refine ZV_iload dL_law_451 rfl ?_
    refine ZV_iconst dL_law_453 ?_
    refine ZV_iadd dL_law_454 ?_
    refine ZV_sld (n + 2) rfl dL_law_455 (by omega) (by omega) (by omega) ?_
    rw [← ha2]
    refine ZV_aload_n dL_law_456 rfl ?_
    refine ZV_iload dL_law_457 rfl ?_
    refine ZV_iconst dL_law_459 ?_
    refine ZV_iadd dL_law_460 ?_
    refine ZV_sld (n + 3) rfl dL_law_461 (by omega) (by omega) (by omega) ?_
    rw [← ha3]
    refine cl_X7_letter kL_law_122 rfl dL_law_462 (by assumption) (Nat.le_of_ble_eq_true rfl) ?_
    refine sp_X7_letter hM1 hr1 hr2 hr3 (fun f0 => by first | omega | exact absurd e0 f0 | exact absurd f0 e0 | exact absurd e1 f1 | exact absurd f1 e1 | exact absurd (show oneW Q.1 from ⟨e1, s, e2, e3⟩) f0 | exact absurd (show oneW Q.1 from ⟨f1, s, f2, f3⟩) e0 | exact absurd (show oneW Q.1 from ⟨e2, s, e3, e4⟩) f1 | exact absurd (show oneW Q.1 from ⟨f2, s, f3, f4⟩) e1 | (rw [e1] at f2; cases f2) | (rw [e2] at f1; cases f1)) (fun f0 f1 I2 mp => ?_) (fun f0 f1 => by first | omega | exact absurd e0 f0 | exact absurd f0 e0 | exact absurd e1 f1 | exact absurd f1 e1 | exact absurd (show oneW Q.1 from ⟨e1, s, e2, e3⟩) f0 | exact absurd (show oneW Q.1 from ⟨f1, s, f2, f3⟩) e0 | exact absurd (show oneW Q.1 from ⟨e2, s, e3, e4⟩) f1 | exact absurd (show oneW Q.1 from ⟨f2, s, f3, f4⟩) e1 | (rw [e1] at f2; cases f2) | (rw [e2] at f1; cases f1))
    show ZV X E_L_law _ _ (vi 0 :: _) _ _ _ _ _
    exact lw_t6 (v := 0) ⟨hC1.mfr mp.1 (Nat.le_refl _), mp.2.1, ho1⟩ hn (by dsimp only; omega) (by dsimp only; omega) (by omega) mp.2.2 (fun e => absurd e (by decide))
  · intro e0 e1 g1 I1 J1 hF1 hC1 v hv1 hv2 hv3
    have hM1 := hM.cfr hF1 (Nat.le_refl _)
    have km1 := hM1.1.1
    have ho1 : ksh X g1 (c + 740) = some (.inr (1, 1)) := ksh_g ho hF1.1
    show ZV X E_L_law _ _ (vi 0 :: _) _ _ _ _ _
    refine ZV_istore5 dL_law_441 rfl (by decide) ?_
    refine ZV_aload_n dL_law_443 rfl ?_
    refine ZV_aload_n dL_law_444 rfl ?_
    refine ZV_iload dL_law_445 rfl ?_
    refine ZV_iconst dL_law_447 ?_
    refine ZV_iadd dL_law_448 ?_
    refine ZV_sld (n + 1) rfl dL_law_449 (by omega) (by omega) (by omega) ?_
    rw [← ha1]
    refine ZV_aload_n dL_law_450 rfl ?_
    refine ZV_iload dL_law_451 rfl ?_
    refine ZV_iconst dL_law_453 ?_
    refine ZV_iadd dL_law_454 ?_
    refine ZV_sld (n + 2) rfl dL_law_455 (by omega) (by omega) (by omega) ?_
    rw [← ha2]
    refine ZV_aload_n dL_law_456 rfl ?_
    refine ZV_iload dL_law_457 rfl ?_
    refine ZV_iconst dL_law_459 ?_
    refine ZV_iadd dL_law_460 ?_
    refine ZV_sld (n + 3) rfl dL_law_461 (by omega) (by omega) (by omega) ?_
    rw [← ha3]
    refine cl_X7_letter kL_law_122 rfl dL_law_462 (by assumption) (Nat.le_of_ble_eq_true rfl) ?_
    refine sp_X7_letter hM1 hr1 hr2 hr3 (fun f0 => by first | omega | exact absurd e0 f0 | exact absurd f0 e0 | exact absurd e1 f1 | exact absurd f1 e1 | exact absurd (show oneW Q.1 from ⟨e1, s, e2, e3⟩) f0 | exact absurd (show oneW Q.1 from ⟨f1, s, f2, f3⟩) e0 | exact absurd (show oneW Q.1 from ⟨e2, s, e3, e4⟩) f1 | exact absurd (show oneW Q.1 from ⟨f2, s, f3, f4⟩) e1 | (rw [e1] at f2; cases f2) | (rw [e2] at f1; cases f1)) (fun f0 f1 => by first | omega | exact absurd e0 f0 | exact absurd f0 e0 | exact absurd e1 f1 | exact absurd f1 e1 | exact absurd (show oneW Q.1 from ⟨e1, s, e2, e3⟩) f0 | exact absurd (show oneW Q.1 from ⟨f1, s, f2, f3⟩) e0 | exact absurd (show oneW Q.1 from ⟨e2, s, e3, e4⟩) f1 | exact absurd (show oneW Q.1 from ⟨f2, s, f3, f4⟩) e1 | (rw [e1] at f2; cases f2) | (rw [e2] at f1; cases f1)) (fun f0 f1 I2 mp => ?_)
    show ZV X E_L_law _ _ (vi (codeAt (nmAt (aW Q.2.1 a1.toNat) a2) a3) :: _) _ _ _ _ _
    exact lw_t6 ⟨hC1.mfr mp.1 (Nat.le_refl _), mp.2.1, ho1⟩ hn (by dsimp only; omega) (by dsimp only; omega) (Or.inl rfl) mp.2.2 (fun _ => ⟨hv1, hv3, hv2⟩)
theorem lw_t7 {o6 : Option Value} {w v x : Int} {b2 : Nat × Nat} (hI : LI X g I J c Q) (hn : LNx X c b z) (hb1 : b.1 ≤ b2.1 + 2) (hb2 : b.2 ≤ b2.2 + 12) (hw : w = 0 ∨ w = 1 ∨ w = 2) (hth : I (c + 726) 0 = w) (hv : w = 0 → r32 v ∧ J (c + 740) 0 = v ∧ vi x = vi v) : ZV X E_L_law 533 [some (.ref X.2.2.2.2.1), some (.ref c), some (.ref (c + 726)), some (.ref (c + 740)), some (vi z), some (vi w), o6] [vi x] b2 g I J okv := by
  obtain ⟨x', hx1, hx2⟩ := vi_rep x
  obtain ⟨hx3, hx4⟩ := hx1
  have km := hI.2.1.1.1
  have ho := hI.2.2
  rw [hx2]
  have fin : ∀ y : Int, ZV X E_L_law 563 [some (.ref X.2.2.2.2.1), some (.ref c), some (.ref (c + 726)), some (.ref (c + 740)), some (vi z), some (vi w), some (vi y)] [] b2 g I J okv := by
    intro y
    refine ZV_goto (tgt := 1603) dL_law_563 (by decide) ?_
    exact hn g I J Q _ _ _ hb1 hb2 hI
  refine ZV_istore6 dL_law_533 rfl (by decide) ?_
  refine ZV_aload_n dL_law_535 rfl ?_
  refine cl_X7_thrown kL_law_97 rfl dL_law_536 (by assumption) (Nat.le_of_ble_eq_true rfl) ?_
  refine sp_X7_thrown hI.2.1.1 ?_
  rw [hth]
  refine ZV_iload dL_law_539 rfl ?_
  refine ZV_icmp_eq (tgt := 546) dL_law_541 (by decide) ⟨by omega, by omega⟩ ⟨by omega, by omega⟩ (fun h541 => ?_) (fun h541 => ?_)
  · refine ZV_iload dL_law_546 rfl ?_
    refine ZV_if_ne (tgt := 563) dL_law_548 (by decide) ⟨by omega, by omega⟩ (fun h548 => ?_) (fun h548 => ?_)
    · exact fin _
    · have hw0 : w = 0 := by omega
      obtain ⟨⟨hv3, hv4⟩, hv5, hv6⟩ := hv hw0
      have exv : x' = v := by
        have e : vi x' = vi v := by rw [← hx2]; exact hv6
        have e2 : i32 x' = i32 v := by injection e
        exact i32_inj hx3 hx4 hv3 hv4 e2
      subst exv
      refine ZV_aload_n dL_law_551 rfl ?_
      refine ZV_iconst dL_law_552 ?_
      refine ZV_lald (0) dL_law_553 (by assumption) (by first | rfl | omega) (by omega) (by omega) ?_
      rw [hv5]
      refine ZV_iload dL_law_554 rfl ?_
      refine ZV_i2l dL_law_556 ⟨by omega, by omega⟩ ?_
      refine ZV_lif_eq (tgt := 563) dL_law_557 dL_law_558 (by decide) ⟨by omega, by omega⟩ ⟨by omega, by omega⟩ (fun h557 => ?_) (fun h557 => ?_)
      · exact fin _
      · omega
  · omega
theorem lw_c7 {o5 o6 : Option Value} (hI : LI X g I J c Q) (hn : LNx X c b z) (hb : 2 ≤ b.1 ∧ 12 ≤ b.2) (hz : z = (n : Int)) (hlen : n + 3 < X.2.2.2.2.2.1) (hl2 : X.2.2.2.2.2.1 ≤ 65536) : ZV X E_L_law 498 [some (.ref X.2.2.2.2.1), some (.ref c), some (.ref (c + 726)), some (.ref (c + 740)), some (vi z), o5, o6] [] b g I J okv := by
  obtain ⟨hC, hM, ho⟩ := hI
  subst hz
  have kc := hC.1.1.1
  have km := hM.1.1
  obtain ⟨a1, ha1⟩ : ∃ a, a = (X.2.2.2.2.2.2 (n + 1)).toInt := ⟨_, rfl⟩
  have hr1 : r32 a1 := by rw [ha1]; exact i32r _
  obtain ⟨hl1, hu1⟩ := id hr1
  obtain ⟨a2, ha2⟩ : ∃ a, a = (X.2.2.2.2.2.2 (n + 2)).toInt := ⟨_, rfl⟩
  have hr2 : r32 a2 := by rw [ha2]; exact i32r _
  obtain ⟨hl2, hu2⟩ := id hr2
  refine ZV_aload_n dL_law_498 rfl ?_
  refine ZV_aload_n dL_law_499 rfl ?_
  refine ZV_iload dL_law_500 rfl ?_
  refine ZV_iconst dL_law_502 ?_
  refine ZV_iadd dL_law_503 ?_
  refine ZV_sld (n + 1) rfl dL_law_504 (by omega) (by omega) (by omega) ?_
  rw [← ha1]
  refine ZV_aload_n dL_law_505 rfl ?_
  refine ZV_iload dL_law_506 rfl ?_
  refine ZV_iconst dL_law_508 ?_
  refine ZV_iadd dL_law_509 ?_
  refine ZV_sld (n + 2) rfl dL_law_510 (by omega) (by omega) (by omega) ?_
  rw [← ha2]
  refine ZV_aload_n dL_law_511 rfl ?_
  refine cl_L_key kL_law_123 rfl dL_law_512 ⟨by omega, by omega⟩ (Nat.le_of_ble_eq_true rfl) ?_
  refine sp_L_key hC ho (by omega) hr1 hr2 ⟨by decide, by decide⟩ ?_ ?_ ?_
  · intro e0 g1 I1 J1 hF1 hC1
    have hM1 := hM.cfr hF1 (Nat.le_refl _)
    have km1 := hM1.1.1
    have ho1 : ksh X g1 (c + 740) = some (.inr (1, 1)) := ksh_g ho hF1.1
    show ZV X E_L_law _ _ (vi 1 :: _) _ _ _ _ _
    refine ZV_istore5 dL_law_515 rfl (by decide) ?_
    refine ZV_aload_n dL_law_517 rfl ?_
    refine ZV_aload_n dL_law_518 rfl ?_
    refine ZV_iload dL_law_519 rfl ?_
    refine ZV_iconst dL_law_521 ?_
    refine ZV_iadd dL_law_522 ?_
    refine ZV_sld (n + 1) rfl dL_law_523 (by omega) (by omega) (by omega) ?_
    rw [← ha1]
    refine ZV_aload_n dL_law_524 rfl ?_
    refine ZV_iload dL_law_525 rfl ?_
    refine ZV_iconst dL_law_527 ?_
    refine ZV_iadd dL_law_528 ?_
    refine ZV_sld (n + 2) rfl dL_law_529 (by omega) (by omega) (by omega) ?_
    rw [← ha2]
    refine cl_X7_key kL_law_125 rfl dL_law_530 (by assumption) (Nat.le_of_ble_eq_true rfl) ?_
    refine sp_X7_key hM1 hr1 hr2 (fun f0 I2 mp => ?_) (fun f0 f1 => by first | omega | exact absurd e0 f0 | exact absurd f0 e0 | exact absurd e1 f1 | exact absurd f1 e1 | exact absurd (show oneW Q.1 from ⟨e1, s, e2, e3⟩) f0 | exact absurd (show oneW Q.1 from ⟨f1, s, f2, f3⟩) e0 | exact absurd (show oneW Q.1 from ⟨e2, s, e3, e4⟩) f1 | exact absurd (show oneW Q.1 from ⟨f2, s, f3, f4⟩) e1 | (rw [e1] at f2; cases f2) | (rw [e2] at f1; cases f1)) (fun f0 f1 => by first | omega | exact absurd e0 f0 | exact absurd f0 e0 | exact absurd e1 f1 | exact absurd f1 e1 | exact absurd (show oneW Q.1 from ⟨e1, s, e2, e3⟩) f0 | exact absurd (show oneW Q.1 from ⟨f1, s, f2, f3⟩) e0 | exact absurd (show oneW Q.1 from ⟨e2, s, e3, e4⟩) f1 | exact absurd (show oneW Q.1 from ⟨f2, s, f3, f4⟩) e1 | (rw [e1] at f2; cases f2) | (rw [e2] at f1; cases f1))
    show ZV X E_L_law _ _ (vi 0 :: _) _ _ _ _ _
    exact lw_t7 (v := 0) ⟨hC1.mfr mp.1 (Nat.le_refl _), mp.2.1, ho1⟩ hn (by dsimp only; omega) (by dsimp only; omega) (by omega) mp.2.2 (fun e => absurd e (by decide))
  · intro e0 e1 g1 I1 J1 hF1 hC1
    have hM1 := hM.cfr hF1 (Nat.le_refl _)
    have km1 := hM1.1.1
    have ho1 : ksh X g1 (c + 740) = some (.inr (1, 1)) := ksh_g ho hF1.1
    show ZV X E_L_law _ _ (vi 2 :: _) _ _ _ _ _
    refine ZV_istore5 dL_law_515 rfl (by decide) ?_
    refine ZV_aload_n dL_law_517 rfl ?_
    refine ZV_aload_n dL_law_518 rfl ?_
    refine ZV_iload dL_law_519 rfl ?_
    refine ZV_iconst dL_law_521 ?_
    refine ZV_iadd dL_law_522 ?_
    refine ZV_sld (n + 1) rfl dL_law_523 (by omega) (by omega) (by omega) ?_
    rw [← ha1]
    refine ZV_aload_n dL_law_524 rfl ?_
    refine ZV_iload dL_law_525 rfl ?_
    refine ZV_iconst dL_law_527 ?_
    refine ZV_iadd dL_law_528 ?_
    refine ZV_sld (n + 2) rfl dL_law_529 (by omega) (by omega) (by omega) ?_
    rw [← ha2]
    refine cl_X7_key kL_law_125 rfl dL_law_530 (by assumption) (Nat.le_of_ble_eq_true rfl) ?_
    refine sp_X7_key hM1 hr1 hr2 (fun f0 => by first | omega | exact absurd e0 f0 | exact absurd f0 e0 | exact absurd e1 f1 | exact absurd f1 e1 | exact absurd (show oneW Q.1 from ⟨e1, s, e2, e3⟩) f0 | exact absurd (show oneW Q.1 from ⟨f1, s, f2, f3⟩) e0 | exact absurd (show oneW Q.1 from ⟨e2, s, e3, e4⟩) f1 | exact absurd (show oneW Q.1 from ⟨f2, s, f3, f4⟩) e1 | (rw [e1] at f2; cases f2) | (rw [e2] at f1; cases f1)) (fun f0 f1 I2 mp => ?_) (fun f0 f1 => by first | omega | exact absurd e0 f0 | exact absurd f0 e0 | exact absurd e1 f1 | exact absurd f1 e1 | exact absurd (show oneW Q.1 from ⟨e1, s, e2, e3⟩) f0 | exact absurd (show oneW Q.1 from ⟨f1, s, f2, f3⟩) e0 | exact absurd (show oneW Q.1 from ⟨e2, s, e3, e4⟩) f1 | exact absurd (show oneW Q.1 from ⟨f2, s, f3, f4⟩) e1 | (rw [e1] at f2; cases f2) | (rw [e2] at f1; cases f1))
    show ZV X E_L_law _ _ (vi 0 :: _) _ _ _ _ _
    exact lw_t7 (v := 0) ⟨hC1.mfr mp.1 (Nat.le_refl _), mp.2.1, ho1⟩ hn (by dsimp only; omega) (by dsimp only; omega) (by omega) mp.2.2 (fun e => absurd e (by decide))
  · intro e0 e1 g1 I1 J1 hF1 hC1 v hv1 hv2 hv3
    have hM1 := hM.cfr hF1 (Nat.le_refl _)
    have km1 := hM1.1.1
    have ho1 : ksh X g1 (c + 740) = some (.inr (1, 1)) := ksh_g ho hF1.1
    show ZV X E_L_law _ _ (vi 0 :: _) _ _ _ _ _
    refine ZV_istore5 dL_law_515 rfl (by decide) ?_
    refine ZV_aload_n dL_law_517 rfl ?_
    refine ZV_aload_n dL_law_518 rfl ?_
    refine ZV_iload dL_law_519 rfl ?_
    refine ZV_iconst dL_law_521 ?_
    refine ZV_iadd dL_law_522 ?_
    refine ZV_sld (n + 1) rfl dL_law_523 (by omega) (by omega) (by omega) ?_
    rw [← ha1]
    refine ZV_aload_n dL_law_524 rfl ?_
    refine ZV_iload dL_law_525 rfl ?_
    refine ZV_iconst dL_law_527 ?_
    refine ZV_iadd dL_law_528 ?_
    refine ZV_sld (n + 2) rfl dL_law_529 (by omega) (by omega) (by omega) ?_
    rw [← ha2]
    refine cl_X7_key kL_law_125 rfl dL_law_530 (by assumption) (Nat.le_of_ble_eq_true rfl) ?_
    refine sp_X7_key hM1 hr1 hr2 (fun f0 => by first | omega | exact absurd e0 f0 | exact absurd f0 e0 | exact absurd e1 f1 | exact absurd f1 e1 | exact absurd (show oneW Q.1 from ⟨e1, s, e2, e3⟩) f0 | exact absurd (show oneW Q.1 from ⟨f1, s, f2, f3⟩) e0 | exact absurd (show oneW Q.1 from ⟨e2, s, e3, e4⟩) f1 | exact absurd (show oneW Q.1 from ⟨f2, s, f3, f4⟩) e1 | (rw [e1] at f2; cases f2) | (rw [e2] at f1; cases f1)) (fun f0 f1 => by first | omega | exact absurd e0 f0 | exact absurd f0 e0 | exact absurd e1 f1 | exact absurd f1 e1 | exact absurd (show oneW Q.1 from ⟨e1, s, e2, e3⟩) f0 | exact absurd (show oneW Q.1 from ⟨f1, s, f2, f3⟩) e0 | exact absurd (show oneW Q.1 from ⟨e2, s, e3, e4⟩) f1 | exact absurd (show oneW Q.1 from ⟨f2, s, f3, f4⟩) e1 | (rw [e1] at f2; cases f2) | (rw [e2] at f1; cases f1)) (fun f0 f1 I2 mp => ?_)
    show ZV X E_L_law _ _ (vi (kch (keyOf Q.2.1 a1.toNat) a2) :: _) _ _ _ _ _
    exact lw_t7 ⟨hC1.mfr mp.1 (Nat.le_refl _), mp.2.1, ho1⟩ hn (by dsimp only; omega) (by dsimp only; omega) (Or.inl rfl) mp.2.2 (fun _ => ⟨hv1, hv3, hv2⟩)
theorem lw_t8 {o6 : Option Value} {w v x : Int} {b2 : Nat × Nat} (hI : LI X g I J c Q) (hn : LNx X c b z) (hb1 : b.1 ≤ b2.1 + 2) (hb2 : b.2 ≤ b2.2 + 12) (hw : w = 0 ∨ w = 1 ∨ w = 2) (hth : I (c + 726) 0 = w) (hv : w = 0 → r32 v ∧ J (c + 740) 0 = v ∧ vi x = vi v) : ZV X E_L_law 589 [some (.ref X.2.2.2.2.1), some (.ref c), some (.ref (c + 726)), some (.ref (c + 740)), some (vi z), some (vi w), o6] [vi x] b2 g I J okv := by
  obtain ⟨x', hx1, hx2⟩ := vi_rep x
  obtain ⟨hx3, hx4⟩ := hx1
  have km := hI.2.1.1.1
  have ho := hI.2.2
  rw [hx2]
  have fin : ∀ y : Int, ZV X E_L_law 619 [some (.ref X.2.2.2.2.1), some (.ref c), some (.ref (c + 726)), some (.ref (c + 740)), some (vi z), some (vi w), some (vi y)] [] b2 g I J okv := by
    intro y
    refine ZV_goto (tgt := 1603) dL_law_619 (by decide) ?_
    exact hn g I J Q _ _ _ hb1 hb2 hI
  refine ZV_istore6 dL_law_589 rfl (by decide) ?_
  refine ZV_aload_n dL_law_591 rfl ?_
  refine cl_X7_thrown kL_law_97 rfl dL_law_592 (by assumption) (Nat.le_of_ble_eq_true rfl) ?_
  refine sp_X7_thrown hI.2.1.1 ?_
  rw [hth]
  refine ZV_iload dL_law_595 rfl ?_
  refine ZV_icmp_eq (tgt := 602) dL_law_597 (by decide) ⟨by omega, by omega⟩ ⟨by omega, by omega⟩ (fun h597 => ?_) (fun h597 => ?_)
  · refine ZV_iload dL_law_602 rfl ?_
    refine ZV_if_ne (tgt := 619) dL_law_604 (by decide) ⟨by omega, by omega⟩ (fun h604 => ?_) (fun h604 => ?_)
    · exact fin _
    · have hw0 : w = 0 := by omega
      obtain ⟨⟨hv3, hv4⟩, hv5, hv6⟩ := hv hw0
      have exv : x' = v := by
        have e : vi x' = vi v := by rw [← hx2]; exact hv6
        have e2 : i32 x' = i32 v := by injection e
        exact i32_inj hx3 hx4 hv3 hv4 e2
      subst exv
      refine ZV_aload_n dL_law_607 rfl ?_
      refine ZV_iconst dL_law_608 ?_
      refine ZV_lald (0) dL_law_609 (by assumption) (by first | rfl | omega) (by omega) (by omega) ?_
      rw [hv5]
      refine ZV_iload dL_law_610 rfl ?_
      refine ZV_i2l dL_law_612 ⟨by omega, by omega⟩ ?_
      refine ZV_lif_eq (tgt := 619) dL_law_613 dL_law_614 (by decide) ⟨by omega, by omega⟩ ⟨by omega, by omega⟩ (fun h613 => ?_) (fun h613 => ?_)
      · exact fin _
      · omega
  · omega
theorem lw_c8 {o5 o6 : Option Value} (hI : LI X g I J c Q) (hn : LNx X c b z) (hb : 2 ≤ b.1 ∧ 12 ≤ b.2) (hz : z = (n : Int)) (hlen : n + 3 < X.2.2.2.2.2.1) (hl2 : X.2.2.2.2.2.1 ≤ 65536) : ZV X E_L_law 566 [some (.ref X.2.2.2.2.1), some (.ref c), some (.ref (c + 726)), some (.ref (c + 740)), some (vi z), o5, o6] [] b g I J okv := by
  obtain ⟨hC, hM, ho⟩ := hI
  subst hz
  have kc := hC.1.1.1
  have km := hM.1.1
  obtain ⟨a1, ha1⟩ : ∃ a, a = (X.2.2.2.2.2.2 (n + 1)).toInt := ⟨_, rfl⟩
  have hr1 : r32 a1 := by rw [ha1]; exact i32r _
  obtain ⟨hl1, hu1⟩ := id hr1
  refine ZV_aload_n dL_law_566 rfl ?_
  refine ZV_aload_n dL_law_567 rfl ?_
  refine ZV_iload dL_law_568 rfl ?_
  refine ZV_iconst dL_law_570 ?_
  refine ZV_iadd dL_law_571 ?_
  refine ZV_sld (n + 1) rfl dL_law_572 (by omega) (by omega) (by omega) ?_
  rw [← ha1]
  refine ZV_aload_n dL_law_573 rfl ?_
  refine cl_L_at kL_law_126 rfl dL_law_574 ⟨by omega, by omega⟩ (Nat.le_of_ble_eq_true rfl) ?_
  refine sp_L_at hC ho (by omega) hr1 ⟨by decide, by decide⟩ ?_ ?_
  · intro e0 g1 I1 J1 hF1 hC1 v hv1 hv2 hv3
    have hM1 := hM.cfr hF1 (Nat.le_refl _)
    have km1 := hM1.1.1
    have ho1 : ksh X g1 (c + 740) = some (.inr (1, 1)) := ksh_g ho hF1.1
    show ZV X E_L_law _ _ (vi 0 :: _) _ _ _ _ _
    refine ZV_istore5 dL_law_577 rfl (by decide) ?_
    refine ZV_aload_n dL_law_579 rfl ?_
    refine ZV_aload_n dL_law_580 rfl ?_
    refine ZV_iload dL_law_581 rfl ?_
    refine ZV_iconst dL_law_583 ?_
    refine ZV_iadd dL_law_584 ?_
    refine ZV_sld (n + 1) rfl dL_law_585 (by omega) (by omega) (by omega) ?_
    rw [← ha1]
    refine cl_X7_at kL_law_128 rfl dL_law_586 (by assumption) (Nat.le_of_ble_eq_true rfl) ?_
    refine sp_X7_at hM1 hr1 (fun f0 I2 mp => ?_) (fun f0 => by first | omega | exact absurd e0 f0 | exact absurd f0 e0 | exact absurd e1 f1 | exact absurd f1 e1 | exact absurd (show oneW Q.1 from ⟨e1, s, e2, e3⟩) f0 | exact absurd (show oneW Q.1 from ⟨f1, s, f2, f3⟩) e0 | exact absurd (show oneW Q.1 from ⟨e2, s, e3, e4⟩) f1 | exact absurd (show oneW Q.1 from ⟨f2, s, f3, f4⟩) e1 | (rw [e1] at f2; cases f2) | (rw [e2] at f1; cases f1))
    show ZV X E_L_law _ _ (vi (zfst (fun i => if plN Q.2.1 i = a1 then 1 else 0) (aN Q.2.1)) :: _) _ _ _ _ _
    exact lw_t8 ⟨hC1.mfr mp.1 (Nat.le_refl _), mp.2.1, ho1⟩ hn (by dsimp only; omega) (by dsimp only; omega) (Or.inl rfl) mp.2.2 (fun _ => ⟨hv1, hv3, hv2⟩)
  · intro e0 g1 I1 J1 hF1 hC1
    have hM1 := hM.cfr hF1 (Nat.le_refl _)
    have km1 := hM1.1.1
    have ho1 : ksh X g1 (c + 740) = some (.inr (1, 1)) := ksh_g ho hF1.1
    show ZV X E_L_law _ _ (vi 1 :: _) _ _ _ _ _
    refine ZV_istore5 dL_law_577 rfl (by decide) ?_
    refine ZV_aload_n dL_law_579 rfl ?_
    refine ZV_aload_n dL_law_580 rfl ?_
    refine ZV_iload dL_law_581 rfl ?_
    refine ZV_iconst dL_law_583 ?_
    refine ZV_iadd dL_law_584 ?_
    refine ZV_sld (n + 1) rfl dL_law_585 (by omega) (by omega) (by omega) ?_
    rw [← ha1]
    refine cl_X7_at kL_law_128 rfl dL_law_586 (by assumption) (Nat.le_of_ble_eq_true rfl) ?_
    refine sp_X7_at hM1 hr1 (fun f0 => by first | omega | exact absurd e0 f0 | exact absurd f0 e0 | exact absurd e1 f1 | exact absurd f1 e1 | exact absurd (show oneW Q.1 from ⟨e1, s, e2, e3⟩) f0 | exact absurd (show oneW Q.1 from ⟨f1, s, f2, f3⟩) e0 | exact absurd (show oneW Q.1 from ⟨e2, s, e3, e4⟩) f1 | exact absurd (show oneW Q.1 from ⟨f2, s, f3, f4⟩) e1 | (rw [e1] at f2; cases f2) | (rw [e2] at f1; cases f1)) (fun f0 I2 mp => ?_)
    show ZV X E_L_law _ _ (vi 0 :: _) _ _ _ _ _
    exact lw_t8 (v := 0) ⟨hC1.mfr mp.1 (Nat.le_refl _), mp.2.1, ho1⟩ hn (by dsimp only; omega) (by dsimp only; omega) (by omega) mp.2.2 (fun e => absurd e (by decide))
theorem lw_c9 {o5 o6 : Option Value} (hI : LI X g I J c Q) (hn : LNx X c b z) : ZV X E_L_law 622 [some (.ref X.2.2.2.2.1), some (.ref c), some (.ref (c + 726)), some (.ref (c + 740)), some (vi z), o5, o6] [] b g I J okv := by
  obtain ⟨hC, hM, ho⟩ := hI
  have kc := hC.1.1.1
  have km := hM.1.1
  refine ZV_aload_n dL_law_622 rfl ?_
  refine cl_X6_meaning kL_law_129 rfl dL_law_623 (by assumption) (Nat.le_of_ble_eq_true rfl) ?_
  refine sp_X6_meaning hC ?_
  have hF1 := CFr.rf g I J c
  have hC1 := hC
  have hM1 := hM.cfr (hF1.lf (c + 740) J) (Nat.le_refl _)
  have km1 := hM1.1.1
  obtain ⟨v, hv1, hv2⟩ := vi_rep (meanF Q.1 Q.2.1)
  obtain ⟨hv3, hv4⟩ := hv1
  show ZV X E_L_law _ _ (vi (meanF Q.1 Q.2.1) :: _) _ _ _ _ _
  rw [hv2]
  refine ZV_aload_n dL_law_626 rfl ?_
  refine cl_X7_meaning kL_law_132 rfl dL_law_627 (by assumption) (Nat.le_of_ble_eq_true rfl) ?_
  refine sp_X7_meaning hM1 ?_
  intro I2 mp
  show ZV X E_L_law _ _ (vi (meanF Q.1 Q.2.1) :: _) _ _ _ _ _
  rw [hv2]
  refine ZV_icmp_eq (tgt := 1603) dL_law_630 (by decide) ⟨by omega, by omega⟩ ⟨by omega, by omega⟩ (fun h630 => ?_) (fun h630 => ?_)
  · exact hn g I2 J Q _ _ _ (by omega) (by omega) ⟨hC1.mfr mp.1 (Nat.le_refl _), mp.2.1, ksh_g ho hF1.1⟩
  · omega
theorem lw_c10 {o5 o6 : Option Value} (hI : LI X g I J c Q) (hn : LNx X c b z) : ZV X E_L_law 635 [some (.ref X.2.2.2.2.1), some (.ref c), some (.ref (c + 726)), some (.ref (c + 740)), some (vi z), o5, o6] [] b g I J okv := by
  obtain ⟨hC, hM, ho⟩ := hI
  have kc := hC.1.1.1
  have km := hM.1.1
  refine ZV_aload_n dL_law_635 rfl ?_
  refine cl_X6_printedMeaning kL_law_133 rfl dL_law_636 (by assumption) (Nat.le_of_ble_eq_true rfl) ?_
  refine sp_X6_printedMeaning hC ?_
  have hF1 := CFr.rf g I J c
  have hC1 := hC
  have hM1 := hM.cfr (hF1.lf (c + 740) J) (Nat.le_refl _)
  have km1 := hM1.1.1
  obtain ⟨v, hv1, hv2⟩ := vi_rep (pmeanF Q.1 Q.2.1)
  obtain ⟨hv3, hv4⟩ := hv1
  show ZV X E_L_law _ _ (vi (pmeanF Q.1 Q.2.1) :: _) _ _ _ _ _
  rw [hv2]
  refine ZV_aload_n dL_law_639 rfl ?_
  refine cl_X7_printedMeaning kL_law_136 rfl dL_law_640 (by assumption) (Nat.le_of_ble_eq_true rfl) ?_
  refine sp_X7_printedMeaning hM1 ?_
  intro I2 mp
  show ZV X E_L_law _ _ (vi (pmeanF Q.1 Q.2.1) :: _) _ _ _ _ _
  rw [hv2]
  refine ZV_icmp_eq (tgt := 1603) dL_law_643 (by decide) ⟨by omega, by omega⟩ ⟨by omega, by omega⟩ (fun h643 => ?_) (fun h643 => ?_)
  · exact hn g I2 J Q _ _ _ (by omega) (by omega) ⟨hC1.mfr mp.1 (Nat.le_refl _), mp.2.1, ksh_g ho hF1.1⟩
  · omega
theorem lw_t11 {o6 : Option Value} {w v x : Int} {b2 : Nat × Nat} (hI : LI X g I J c Q) (hn : LNx X c b z) (hb1 : b.1 ≤ b2.1 + 2) (hb2 : b.2 ≤ b2.2 + 12) (hw : w = 0 ∨ w = 1 ∨ w = 2) (hth : I (c + 726) 0 = w) (hv : w = 0 → r32 v ∧ J (c + 740) 0 = v ∧ vi x = vi v) : ZV X E_L_law 671 [some (.ref X.2.2.2.2.1), some (.ref c), some (.ref (c + 726)), some (.ref (c + 740)), some (vi z), some (vi w), o6] [vi x] b2 g I J okv := by
  obtain ⟨x', hx1, hx2⟩ := vi_rep x
  obtain ⟨hx3, hx4⟩ := hx1
  have km := hI.2.1.1.1
  have ho := hI.2.2
  rw [hx2]
  have fin : ∀ y : Int, ZV X E_L_law 701 [some (.ref X.2.2.2.2.1), some (.ref c), some (.ref (c + 726)), some (.ref (c + 740)), some (vi z), some (vi w), some (vi y)] [] b2 g I J okv := by
    intro y
    refine ZV_goto (tgt := 1603) dL_law_701 (by decide) ?_
    exact hn g I J Q _ _ _ hb1 hb2 hI
  refine ZV_istore6 dL_law_671 rfl (by decide) ?_
  refine ZV_aload_n dL_law_673 rfl ?_
  refine cl_X7_thrown kL_law_97 rfl dL_law_674 (by assumption) (Nat.le_of_ble_eq_true rfl) ?_
  refine sp_X7_thrown hI.2.1.1 ?_
  rw [hth]
  refine ZV_iload dL_law_677 rfl ?_
  refine ZV_icmp_eq (tgt := 684) dL_law_679 (by decide) ⟨by omega, by omega⟩ ⟨by omega, by omega⟩ (fun h679 => ?_) (fun h679 => ?_)
  · refine ZV_iload dL_law_684 rfl ?_
    refine ZV_if_ne (tgt := 701) dL_law_686 (by decide) ⟨by omega, by omega⟩ (fun h686 => ?_) (fun h686 => ?_)
    · exact fin _
    · have hw0 : w = 0 := by omega
      obtain ⟨⟨hv3, hv4⟩, hv5, hv6⟩ := hv hw0
      have exv : x' = v := by
        have e : vi x' = vi v := by rw [← hx2]; exact hv6
        have e2 : i32 x' = i32 v := by injection e
        exact i32_inj hx3 hx4 hv3 hv4 e2
      subst exv
      refine ZV_aload_n dL_law_689 rfl ?_
      refine ZV_iconst dL_law_690 ?_
      refine ZV_lald (0) dL_law_691 (by assumption) (by first | rfl | omega) (by omega) (by omega) ?_
      rw [hv5]
      refine ZV_iload dL_law_692 rfl ?_
      refine ZV_i2l dL_law_694 ⟨by omega, by omega⟩ ?_
      refine ZV_lif_eq (tgt := 701) dL_law_695 dL_law_696 (by decide) ⟨by omega, by omega⟩ ⟨by omega, by omega⟩ (fun h695 => ?_) (fun h695 => ?_)
      · exact fin _
      · omega
  · omega
theorem lw_c11 {o5 o6 : Option Value} (hI : LI X g I J c Q) (hn : LNx X c b z) (hb : 2 ≤ b.1 ∧ 12 ≤ b.2) (hz : z = (n : Int)) (hlen : n + 3 < X.2.2.2.2.2.1) (hl2 : X.2.2.2.2.2.1 ≤ 65536) : ZV X E_L_law 648 [some (.ref X.2.2.2.2.1), some (.ref c), some (.ref (c + 726)), some (.ref (c + 740)), some (vi z), o5, o6] [] b g I J okv := by
  obtain ⟨hC, hM, ho⟩ := hI
  subst hz
  have kc := hC.1.1.1
  have km := hM.1.1
  obtain ⟨a1, ha1⟩ : ∃ a, a = (X.2.2.2.2.2.2 (n + 1)).toInt := ⟨_, rfl⟩
  have hr1 : r32 a1 := by rw [ha1]; exact i32r _
  obtain ⟨hl1, hu1⟩ := id hr1
  refine ZV_aload_n dL_law_648 rfl ?_
  refine ZV_aload_n dL_law_649 rfl ?_
  refine ZV_iload dL_law_650 rfl ?_
  refine ZV_iconst dL_law_652 ?_
  refine ZV_iadd dL_law_653 ?_
  refine ZV_sld (n + 1) rfl dL_law_654 (by omega) (by omega) (by omega) ?_
  rw [← ha1]
  refine ZV_aload_n dL_law_655 rfl ?_
  refine cl_L_printed kL_law_137 rfl dL_law_656 ⟨by omega, by omega⟩ (Nat.le_of_ble_eq_true rfl) ?_
  refine sp_L_printed hC ho (by omega) hr1 ⟨by decide, by decide⟩ ?_ ?_
  · intro e0 g1 I1 J1 hF1 hC1 v hv1 hv2 hv3
    have hM1 := hM.cfr hF1 (Nat.le_refl _)
    have km1 := hM1.1.1
    have ho1 : ksh X g1 (c + 740) = some (.inr (1, 1)) := ksh_g ho hF1.1
    show ZV X E_L_law _ _ (vi 0 :: _) _ _ _ _ _
    refine ZV_istore5 dL_law_659 rfl (by decide) ?_
    refine ZV_aload_n dL_law_661 rfl ?_
    refine ZV_aload_n dL_law_662 rfl ?_
    refine ZV_iload dL_law_663 rfl ?_
    refine ZV_iconst dL_law_665 ?_
    refine ZV_iadd dL_law_666 ?_
    refine ZV_sld (n + 1) rfl dL_law_667 (by omega) (by omega) (by omega) ?_
    rw [← ha1]
    refine cl_X7_printed kL_law_139 rfl dL_law_668 (by assumption) (Nat.le_of_ble_eq_true rfl) ?_
    refine sp_X7_printed hM1 hr1 (fun f0 I2 mp => ?_) (fun f0 => by first | omega | exact absurd e0 f0 | exact absurd f0 e0 | exact absurd e1 f1 | exact absurd f1 e1 | exact absurd (show oneW Q.1 from ⟨e1, s, e2, e3⟩) f0 | exact absurd (show oneW Q.1 from ⟨f1, s, f2, f3⟩) e0 | exact absurd (show oneW Q.1 from ⟨e2, s, e3, e4⟩) f1 | exact absurd (show oneW Q.1 from ⟨f2, s, f3, f4⟩) e1 | (rw [e1] at f2; cases f2) | (rw [e2] at f1; cases f1))
    show ZV X E_L_law _ _ (vi (prF Q.2.1 a1) :: _) _ _ _ _ _
    exact lw_t11 ⟨hC1.mfr mp.1 (Nat.le_refl _), mp.2.1, ho1⟩ hn (by dsimp only; omega) (by dsimp only; omega) (Or.inl rfl) mp.2.2 (fun _ => ⟨hv1, hv3, hv2⟩)
  · intro e0 g1 I1 J1 hF1 hC1
    have hM1 := hM.cfr hF1 (Nat.le_refl _)
    have km1 := hM1.1.1
    have ho1 : ksh X g1 (c + 740) = some (.inr (1, 1)) := ksh_g ho hF1.1
    show ZV X E_L_law _ _ (vi 1 :: _) _ _ _ _ _
    refine ZV_istore5 dL_law_659 rfl (by decide) ?_
    refine ZV_aload_n dL_law_661 rfl ?_
    refine ZV_aload_n dL_law_662 rfl ?_
    refine ZV_iload dL_law_663 rfl ?_
    refine ZV_iconst dL_law_665 ?_
    refine ZV_iadd dL_law_666 ?_
    refine ZV_sld (n + 1) rfl dL_law_667 (by omega) (by omega) (by omega) ?_
    rw [← ha1]
    refine cl_X7_printed kL_law_139 rfl dL_law_668 (by assumption) (Nat.le_of_ble_eq_true rfl) ?_
    refine sp_X7_printed hM1 hr1 (fun f0 => by first | omega | exact absurd e0 f0 | exact absurd f0 e0 | exact absurd e1 f1 | exact absurd f1 e1 | exact absurd (show oneW Q.1 from ⟨e1, s, e2, e3⟩) f0 | exact absurd (show oneW Q.1 from ⟨f1, s, f2, f3⟩) e0 | exact absurd (show oneW Q.1 from ⟨e2, s, e3, e4⟩) f1 | exact absurd (show oneW Q.1 from ⟨f2, s, f3, f4⟩) e1 | (rw [e1] at f2; cases f2) | (rw [e2] at f1; cases f1)) (fun f0 I2 mp => ?_)
    show ZV X E_L_law _ _ (vi 0 :: _) _ _ _ _ _
    exact lw_t11 (v := 0) ⟨hC1.mfr mp.1 (Nat.le_refl _), mp.2.1, ho1⟩ hn (by dsimp only; omega) (by dsimp only; omega) (by omega) mp.2.2 (fun e => absurd e (by decide))
theorem lw_t12 {o6 : Option Value} {w v x : Int} {b2 : Nat × Nat} (hI : LI X g I J c Q) (hn : LNx X c b z) (hb1 : b.1 ≤ b2.1 + 2) (hb2 : b.2 ≤ b2.2 + 12) (hw : w = 0 ∨ w = 1 ∨ w = 2) (hth : I (c + 726) 0 = w) (hv : w = 0 → r32 v ∧ J (c + 740) 0 = v ∧ vi x = vi v) : ZV X E_L_law 715 [some (.ref X.2.2.2.2.1), some (.ref c), some (.ref (c + 726)), some (.ref (c + 740)), some (vi z), some (vi w), o6] [vi x] b2 g I J okv := by
  obtain ⟨x', hx1, hx2⟩ := vi_rep x
  obtain ⟨hx3, hx4⟩ := hx1
  have km := hI.2.1.1.1
  have ho := hI.2.2
  rw [hx2]
  have fin : ∀ y : Int, ZV X E_L_law 745 [some (.ref X.2.2.2.2.1), some (.ref c), some (.ref (c + 726)), some (.ref (c + 740)), some (vi z), some (vi w), some (vi y)] [] b2 g I J okv := by
    intro y
    refine ZV_goto (tgt := 1603) dL_law_745 (by decide) ?_
    exact hn g I J Q _ _ _ hb1 hb2 hI
  refine ZV_istore6 dL_law_715 rfl (by decide) ?_
  refine ZV_aload_n dL_law_717 rfl ?_
  refine cl_X7_thrown kL_law_97 rfl dL_law_718 (by assumption) (Nat.le_of_ble_eq_true rfl) ?_
  refine sp_X7_thrown hI.2.1.1 ?_
  rw [hth]
  refine ZV_iload dL_law_721 rfl ?_
  refine ZV_icmp_eq (tgt := 728) dL_law_723 (by decide) ⟨by omega, by omega⟩ ⟨by omega, by omega⟩ (fun h723 => ?_) (fun h723 => ?_)
  · refine ZV_iload dL_law_728 rfl ?_
    refine ZV_if_ne (tgt := 745) dL_law_730 (by decide) ⟨by omega, by omega⟩ (fun h730 => ?_) (fun h730 => ?_)
    · exact fin _
    · have hw0 : w = 0 := by omega
      obtain ⟨⟨hv3, hv4⟩, hv5, hv6⟩ := hv hw0
      have exv : x' = v := by
        have e : vi x' = vi v := by rw [← hx2]; exact hv6
        have e2 : i32 x' = i32 v := by injection e
        exact i32_inj hx3 hx4 hv3 hv4 e2
      subst exv
      refine ZV_aload_n dL_law_733 rfl ?_
      refine ZV_iconst dL_law_734 ?_
      refine ZV_lald (0) dL_law_735 (by assumption) (by first | rfl | omega) (by omega) (by omega) ?_
      rw [hv5]
      refine ZV_iload dL_law_736 rfl ?_
      refine ZV_i2l dL_law_738 ⟨by omega, by omega⟩ ?_
      refine ZV_lif_eq (tgt := 745) dL_law_739 dL_law_740 (by decide) ⟨by omega, by omega⟩ ⟨by omega, by omega⟩ (fun h739 => ?_) (fun h739 => ?_)
      · exact fin _
      · omega
  · omega
theorem lw_c12 {o5 o6 : Option Value} (hI : LI X g I J c Q) (hn : LNx X c b z) (hb : 2 ≤ b.1 ∧ 12 ≤ b.2) (hz : z = (n : Int)) (hlen : n + 3 < X.2.2.2.2.2.1) (hl2 : X.2.2.2.2.2.1 ≤ 65536) : ZV X E_L_law 704 [some (.ref X.2.2.2.2.1), some (.ref c), some (.ref (c + 726)), some (.ref (c + 740)), some (vi z), o5, o6] [] b g I J okv := by
  obtain ⟨hC, hM, ho⟩ := hI
  subst hz
  have kc := hC.1.1.1
  have km := hM.1.1
  refine ZV_aload_n dL_law_704 rfl ?_
  refine ZV_aload_n dL_law_705 rfl ?_
  refine cl_L_add kL_law_140 rfl dL_law_706 ⟨by omega, by omega⟩ (Nat.le_of_ble_eq_true rfl) ?_
  refine sp_L_add hC ho (by omega)  ⟨by decide, by decide⟩ ?_ ?_ ?_
  · intro e0 g1 I1 J1 hF1 hC1
    have hM1 := hM.cfr hF1 (Nat.le_refl _)
    have km1 := hM1.1.1
    have ho1 : ksh X g1 (c + 740) = some (.inr (1, 1)) := ksh_g ho hF1.1
    show ZV X E_L_law _ _ (vi 1 :: _) _ _ _ _ _
    refine ZV_istore5 dL_law_709 rfl (by decide) ?_
    refine ZV_aload_n dL_law_711 rfl ?_
    refine cl_X7_add kL_law_142 rfl dL_law_712 (by assumption) (Nat.le_of_ble_eq_true rfl) ?_
    refine sp_X7_add hM1  (fun f0 I2 mp => ?_) (fun s f1 f2 f3 f4 => by first | omega | exact absurd e0 f0 | exact absurd f0 e0 | exact absurd e1 f1 | exact absurd f1 e1 | exact absurd (show oneW Q.1 from ⟨e1, s, e2, e3⟩) f0 | exact absurd (show oneW Q.1 from ⟨f1, s, f2, f3⟩) e0 | exact absurd (show oneW Q.1 from ⟨e2, s, e3, e4⟩) f1 | exact absurd (show oneW Q.1 from ⟨f2, s, f3, f4⟩) e1 | (rw [e1] at f2; cases f2) | (rw [e2] at f1; cases f1)) (fun s f1 f2 f3 f4 => by first | omega | exact absurd e0 f0 | exact absurd f0 e0 | exact absurd e1 f1 | exact absurd f1 e1 | exact absurd (show oneW Q.1 from ⟨e1, s, e2, e3⟩) f0 | exact absurd (show oneW Q.1 from ⟨f1, s, f2, f3⟩) e0 | exact absurd (show oneW Q.1 from ⟨e2, s, e3, e4⟩) f1 | exact absurd (show oneW Q.1 from ⟨f2, s, f3, f4⟩) e1 | (rw [e1] at f2; cases f2) | (rw [e2] at f1; cases f1))
    show ZV X E_L_law _ _ (vi 0 :: _) _ _ _ _ _
    exact lw_t12 (v := 0) ⟨hC1.mfr mp.1 (Nat.le_refl _), mp.2.1, ho1⟩ hn (by dsimp only; omega) (by dsimp only; omega) (by omega) mp.2.2 (fun e => absurd e (by decide))
  · intro s e1 e2 e3 e4 g1 I1 J1 hF1 hC1
    have hM1 := hM.cfr hF1 (Nat.le_refl _)
    have km1 := hM1.1.1
    have ho1 : ksh X g1 (c + 740) = some (.inr (1, 1)) := ksh_g ho hF1.1
    show ZV X E_L_law _ _ (vi 1 :: _) _ _ _ _ _
    refine ZV_istore5 dL_law_709 rfl (by decide) ?_
    refine ZV_aload_n dL_law_711 rfl ?_
    refine cl_X7_add kL_law_142 rfl dL_law_712 (by assumption) (Nat.le_of_ble_eq_true rfl) ?_
    refine sp_X7_add hM1  (fun f0 => by first | omega | exact absurd e0 f0 | exact absurd f0 e0 | exact absurd e1 f1 | exact absurd f1 e1 | exact absurd (show oneW Q.1 from ⟨e1, s, e2, e3⟩) f0 | exact absurd (show oneW Q.1 from ⟨f1, s, f2, f3⟩) e0 | exact absurd (show oneW Q.1 from ⟨e2, s, e3, e4⟩) f1 | exact absurd (show oneW Q.1 from ⟨f2, s, f3, f4⟩) e1 | (rw [e1] at f2; cases f2) | (rw [e2] at f1; cases f1)) (fun s' f1 f2 f3 f4 I2 mp => ?_) (fun s f1 f2 f3 f4 => by first | omega | exact absurd e0 f0 | exact absurd f0 e0 | exact absurd e1 f1 | exact absurd f1 e1 | exact absurd (show oneW Q.1 from ⟨e1, s, e2, e3⟩) f0 | exact absurd (show oneW Q.1 from ⟨f1, s, f2, f3⟩) e0 | exact absurd (show oneW Q.1 from ⟨e2, s, e3, e4⟩) f1 | exact absurd (show oneW Q.1 from ⟨f2, s, f3, f4⟩) e1 | (rw [e1] at f2; cases f2) | (rw [e2] at f1; cases f1))
    have es := (Option.some.inj (e2.symm.trans f2) : s = s')
    subst es
    show ZV X E_L_law _ _ (vi 0 :: _) _ _ _ _ _
    exact lw_t12 (v := 0) ⟨hC1.mfr mp.1 (Nat.le_refl _), mp.2.1, ho1⟩ hn (by dsimp only; omega) (by dsimp only; omega) (by omega) mp.2.2 (fun e => absurd e (by decide))
  · intro s e1 e2 e3 e4 e5 g1 I1 J1 hF1 hC1 v hv1 hv2 hv3
    have hM1 := hM.cfr hF1 (Nat.le_refl _)
    have km1 := hM1.1.1
    have ho1 : ksh X g1 (c + 740) = some (.inr (1, 1)) := ksh_g ho hF1.1
    show ZV X E_L_law _ _ (vi 0 :: _) _ _ _ _ _
    refine ZV_istore5 dL_law_709 rfl (by decide) ?_
    refine ZV_aload_n dL_law_711 rfl ?_
    refine cl_X7_add kL_law_142 rfl dL_law_712 (by assumption) (Nat.le_of_ble_eq_true rfl) ?_
    refine sp_X7_add hM1  (fun f0 => by first | omega | exact absurd e0 f0 | exact absurd f0 e0 | exact absurd e1 f1 | exact absurd f1 e1 | exact absurd (show oneW Q.1 from ⟨e1, s, e2, e3⟩) f0 | exact absurd (show oneW Q.1 from ⟨f1, s, f2, f3⟩) e0 | exact absurd (show oneW Q.1 from ⟨e2, s, e3, e4⟩) f1 | exact absurd (show oneW Q.1 from ⟨f2, s, f3, f4⟩) e1 | (rw [e1] at f2; cases f2) | (rw [e2] at f1; cases f1)) (fun s f1 f2 f3 f4 => by first | omega | exact absurd e0 f0 | exact absurd f0 e0 | exact absurd e1 f1 | exact absurd f1 e1 | exact absurd (show oneW Q.1 from ⟨e1, s, e2, e3⟩) f0 | exact absurd (show oneW Q.1 from ⟨f1, s, f2, f3⟩) e0 | exact absurd (show oneW Q.1 from ⟨e2, s, e3, e4⟩) f1 | exact absurd (show oneW Q.1 from ⟨f2, s, f3, f4⟩) e1 | (rw [e1] at f2; cases f2) | (rw [e2] at f1; cases f1)) (fun s' f1 f2 f3 f4 I2 mp => ?_)
    have es := (Option.some.inj (e2.symm.trans f2) : s = s')
    subst es
    show ZV X E_L_law _ _ (vi (aN Q.2.1 : Int) :: _) _ _ _ _ _
    exact lw_t12 ⟨hC1.mfr mp.1 (Nat.le_refl _), mp.2.1, ho1⟩ hn (by dsimp only; omega) (by dsimp only; omega) (Or.inl rfl) mp.2.2 (fun _ => ⟨hv1, hv3, hv2⟩)
theorem lw_t13 {o6 : Option Value} {w v x : Int} {b2 : Nat × Nat} (hI : LI X g I J c Q) (hn : LNx X c b z) (hb1 : b.1 ≤ b2.1 + 2) (hb2 : b.2 ≤ b2.2 + 12) (hw : w = 0 ∨ w = 1 ∨ w = 2) (hth : I (c + 726) 0 = w) (hv : w = 0 → r32 v ∧ J (c + 740) 0 = v ∧ vi x = vi v) : ZV X E_L_law 771 [some (.ref X.2.2.2.2.1), some (.ref c), some (.ref (c + 726)), some (.ref (c + 740)), some (vi z), some (vi w), o6] [vi x] b2 g I J okv := by
  obtain ⟨x', hx1, hx2⟩ := vi_rep x
  obtain ⟨hx3, hx4⟩ := hx1
  have km := hI.2.1.1.1
  have ho := hI.2.2
  rw [hx2]
  have fin : ∀ y : Int, ZV X E_L_law 801 [some (.ref X.2.2.2.2.1), some (.ref c), some (.ref (c + 726)), some (.ref (c + 740)), some (vi z), some (vi w), some (vi y)] [] b2 g I J okv := by
    intro y
    refine ZV_goto (tgt := 1603) dL_law_801 (by decide) ?_
    exact hn g I J Q _ _ _ hb1 hb2 hI
  refine ZV_istore6 dL_law_771 rfl (by decide) ?_
  refine ZV_aload_n dL_law_773 rfl ?_
  refine cl_X7_thrown kL_law_97 rfl dL_law_774 (by assumption) (Nat.le_of_ble_eq_true rfl) ?_
  refine sp_X7_thrown hI.2.1.1 ?_
  rw [hth]
  refine ZV_iload dL_law_777 rfl ?_
  refine ZV_icmp_eq (tgt := 784) dL_law_779 (by decide) ⟨by omega, by omega⟩ ⟨by omega, by omega⟩ (fun h779 => ?_) (fun h779 => ?_)
  · refine ZV_iload dL_law_784 rfl ?_
    refine ZV_if_ne (tgt := 801) dL_law_786 (by decide) ⟨by omega, by omega⟩ (fun h786 => ?_) (fun h786 => ?_)
    · exact fin _
    · have hw0 : w = 0 := by omega
      obtain ⟨⟨hv3, hv4⟩, hv5, hv6⟩ := hv hw0
      have exv : x' = v := by
        have e : vi x' = vi v := by rw [← hx2]; exact hv6
        have e2 : i32 x' = i32 v := by injection e
        exact i32_inj hx3 hx4 hv3 hv4 e2
      subst exv
      refine ZV_aload_n dL_law_789 rfl ?_
      refine ZV_iconst dL_law_790 ?_
      refine ZV_lald (0) dL_law_791 (by assumption) (by first | rfl | omega) (by omega) (by omega) ?_
      rw [hv5]
      refine ZV_iload dL_law_792 rfl ?_
      refine ZV_i2l dL_law_794 ⟨by omega, by omega⟩ ?_
      refine ZV_lif_eq (tgt := 801) dL_law_795 dL_law_796 (by decide) ⟨by omega, by omega⟩ ⟨by omega, by omega⟩ (fun h795 => ?_) (fun h795 => ?_)
      · exact fin _
      · omega
  · omega
theorem lw_c13 {o5 o6 : Option Value} (hI : LI X g I J c Q) (hn : LNx X c b z) (hb : 2 ≤ b.1 ∧ 12 ≤ b.2) (hz : z = (n : Int)) (hlen : n + 3 < X.2.2.2.2.2.1) (hl2 : X.2.2.2.2.2.1 ≤ 65536) : ZV X E_L_law 748 [some (.ref X.2.2.2.2.1), some (.ref c), some (.ref (c + 726)), some (.ref (c + 740)), some (vi z), o5, o6] [] b g I J okv := by
  obtain ⟨hC, hM, ho⟩ := hI
  subst hz
  have kc := hC.1.1.1
  have km := hM.1.1
  obtain ⟨a1, ha1⟩ : ∃ a, a = (X.2.2.2.2.2.2 (n + 1)).toInt := ⟨_, rfl⟩
  have hr1 : r32 a1 := by rw [ha1]; exact i32r _
  obtain ⟨hl1, hu1⟩ := id hr1
  refine ZV_aload_n dL_law_748 rfl ?_
  refine ZV_aload_n dL_law_749 rfl ?_
  refine ZV_iload dL_law_750 rfl ?_
  refine ZV_iconst dL_law_752 ?_
  refine ZV_iadd dL_law_753 ?_
  refine ZV_sld (n + 1) rfl dL_law_754 (by omega) (by omega) (by omega) ?_
  rw [← ha1]
  refine ZV_aload_n dL_law_755 rfl ?_
  refine cl_L_change kL_law_143 rfl dL_law_756 ⟨by omega, by omega⟩ (Nat.le_of_ble_eq_true rfl) ?_
  refine sp_L_change hC ho (by omega) hr1 ⟨by decide, by decide⟩ ?_ ?_ ?_
  · intro e0 g1 I1 J1 hF1 hC1
    have hM1 := hM.cfr hF1 (Nat.le_refl _)
    have km1 := hM1.1.1
    have ho1 : ksh X g1 (c + 740) = some (.inr (1, 1)) := ksh_g ho hF1.1
    show ZV X E_L_law _ _ (vi 1 :: _) _ _ _ _ _
    refine ZV_istore5 dL_law_759 rfl (by decide) ?_
    refine ZV_aload_n dL_law_761 rfl ?_
    refine ZV_aload_n dL_law_762 rfl ?_
    refine ZV_iload dL_law_763 rfl ?_
    refine ZV_iconst dL_law_765 ?_
    refine ZV_iadd dL_law_766 ?_
    refine ZV_sld (n + 1) rfl dL_law_767 (by omega) (by omega) (by omega) ?_
    rw [← ha1]
    refine cl_X7_change kL_law_145 rfl dL_law_768 (by assumption) (Nat.le_of_ble_eq_true rfl) ?_
    refine sp_X7_change hM1 hr1 (fun f0 I2 mp => ?_) (fun f0 f1 => by first | omega | exact absurd e0 f0 | exact absurd f0 e0 | exact absurd e1 f1 | exact absurd f1 e1 | exact absurd (show oneW Q.1 from ⟨e1, s, e2, e3⟩) f0 | exact absurd (show oneW Q.1 from ⟨f1, s, f2, f3⟩) e0 | exact absurd (show oneW Q.1 from ⟨e2, s, e3, e4⟩) f1 | exact absurd (show oneW Q.1 from ⟨f2, s, f3, f4⟩) e1 | (rw [e1] at f2; cases f2) | (rw [e2] at f1; cases f1)) (fun f0 s f2 f3 f4 => by first | omega | exact absurd e0 f0 | exact absurd f0 e0 | exact absurd e1 f1 | exact absurd f1 e1 | exact absurd (show oneW Q.1 from ⟨e1, s, e2, e3⟩) f0 | exact absurd (show oneW Q.1 from ⟨f1, s, f2, f3⟩) e0 | exact absurd (show oneW Q.1 from ⟨e2, s, e3, e4⟩) f1 | exact absurd (show oneW Q.1 from ⟨f2, s, f3, f4⟩) e1 | (rw [e1] at f2; cases f2) | (rw [e2] at f1; cases f1))
    show ZV X E_L_law _ _ (vi 0 :: _) _ _ _ _ _
    exact lw_t13 (v := 0) ⟨hC1.mfr mp.1 (Nat.le_refl _), mp.2.1, ho1⟩ hn (by dsimp only; omega) (by dsimp only; omega) (by omega) mp.2.2 (fun e => absurd e (by decide))
  · intro e0 e1 g1 I1 J1 hF1 hC1
    have hM1 := hM.cfr hF1 (Nat.le_refl _)
    have km1 := hM1.1.1
    have ho1 : ksh X g1 (c + 740) = some (.inr (1, 1)) := ksh_g ho hF1.1
    show ZV X E_L_law _ _ (vi 2 :: _) _ _ _ _ _
    refine ZV_istore5 dL_law_759 rfl (by decide) ?_
    refine ZV_aload_n dL_law_761 rfl ?_
    refine ZV_aload_n dL_law_762 rfl ?_
    refine ZV_iload dL_law_763 rfl ?_
    refine ZV_iconst dL_law_765 ?_
    refine ZV_iadd dL_law_766 ?_
    refine ZV_sld (n + 1) rfl dL_law_767 (by omega) (by omega) (by omega) ?_
    rw [← ha1]
    refine cl_X7_change kL_law_145 rfl dL_law_768 (by assumption) (Nat.le_of_ble_eq_true rfl) ?_
    refine sp_X7_change hM1 hr1 (fun f0 => by first | omega | exact absurd e0 f0 | exact absurd f0 e0 | exact absurd e1 f1 | exact absurd f1 e1 | exact absurd (show oneW Q.1 from ⟨e1, s, e2, e3⟩) f0 | exact absurd (show oneW Q.1 from ⟨f1, s, f2, f3⟩) e0 | exact absurd (show oneW Q.1 from ⟨e2, s, e3, e4⟩) f1 | exact absurd (show oneW Q.1 from ⟨f2, s, f3, f4⟩) e1 | (rw [e1] at f2; cases f2) | (rw [e2] at f1; cases f1)) (fun f0 f1 I2 mp => ?_) (fun f0 s f2 f3 f4 => by first | omega | exact absurd e0 f0 | exact absurd f0 e0 | exact absurd e1 f1 | exact absurd f1 e1 | exact absurd (show oneW Q.1 from ⟨e1, s, e2, e3⟩) f0 | exact absurd (show oneW Q.1 from ⟨f1, s, f2, f3⟩) e0 | exact absurd (show oneW Q.1 from ⟨e2, s, e3, e4⟩) f1 | exact absurd (show oneW Q.1 from ⟨f2, s, f3, f4⟩) e1 | (rw [e1] at f2; cases f2) | (rw [e2] at f1; cases f1))
    show ZV X E_L_law _ _ (vi 0 :: _) _ _ _ _ _
    exact lw_t13 (v := 0) ⟨hC1.mfr mp.1 (Nat.le_refl _), mp.2.1, ho1⟩ hn (by dsimp only; omega) (by dsimp only; omega) (by omega) mp.2.2 (fun e => absurd e (by decide))
  · intro e0 s e2 e3 e4 e5 g1 I1 J1 hF1 hC1 v hv1 hv2 hv3
    have hM1 := hM.cfr hF1 (Nat.le_refl _)
    have km1 := hM1.1.1
    have ho1 : ksh X g1 (c + 740) = some (.inr (1, 1)) := ksh_g ho hF1.1
    show ZV X E_L_law _ _ (vi 0 :: _) _ _ _ _ _
    refine ZV_istore5 dL_law_759 rfl (by decide) ?_
    refine ZV_aload_n dL_law_761 rfl ?_
    refine ZV_aload_n dL_law_762 rfl ?_
    refine ZV_iload dL_law_763 rfl ?_
    refine ZV_iconst dL_law_765 ?_
    refine ZV_iadd dL_law_766 ?_
    refine ZV_sld (n + 1) rfl dL_law_767 (by omega) (by omega) (by omega) ?_
    rw [← ha1]
    refine cl_X7_change kL_law_145 rfl dL_law_768 (by assumption) (Nat.le_of_ble_eq_true rfl) ?_
    refine sp_X7_change hM1 hr1 (fun f0 => by first | omega | exact absurd e0 f0 | exact absurd f0 e0 | exact absurd e1 f1 | exact absurd f1 e1 | exact absurd (show oneW Q.1 from ⟨e1, s, e2, e3⟩) f0 | exact absurd (show oneW Q.1 from ⟨f1, s, f2, f3⟩) e0 | exact absurd (show oneW Q.1 from ⟨e2, s, e3, e4⟩) f1 | exact absurd (show oneW Q.1 from ⟨f2, s, f3, f4⟩) e1 | (rw [e1] at f2; cases f2) | (rw [e2] at f1; cases f1)) (fun f0 f1 => by first | omega | exact absurd e0 f0 | exact absurd f0 e0 | exact absurd e1 f1 | exact absurd f1 e1 | exact absurd (show oneW Q.1 from ⟨e1, s, e2, e3⟩) f0 | exact absurd (show oneW Q.1 from ⟨f1, s, f2, f3⟩) e0 | exact absurd (show oneW Q.1 from ⟨e2, s, e3, e4⟩) f1 | exact absurd (show oneW Q.1 from ⟨f2, s, f3, f4⟩) e1 | (rw [e1] at f2; cases f2) | (rw [e2] at f1; cases f1)) (fun f0 s' f2 f3 f4 I2 mp => ?_)
    have es := (Option.some.inj (e3.symm.trans f3) : s = s')
    subst es
    show ZV X E_L_law _ _ (vi (chgN (aSet Q.2.1 a1.toNat (s.2.2.2 0)) (keyOf Q.2.1)) :: _) _ _ _ _ _
    exact lw_t13 ⟨hC1.mfr mp.1 (Nat.le_refl _), mp.2.1, ho1⟩ hn (by dsimp only; omega) (by dsimp only; omega) (Or.inl rfl) mp.2.2 (fun _ => ⟨hv1, hv3, hv2⟩)
theorem lw_t14 {o6 : Option Value} {w v x : Int} {b2 : Nat × Nat} (hI : LI X g I J c Q) (hn : LNx X c b z) (hb1 : b.1 ≤ b2.1 + 2) (hb2 : b.2 ≤ b2.2 + 12) (hw : w = 0 ∨ w = 1 ∨ w = 2) (hth : I (c + 726) 0 = w) (hv : w = 0 → r32 v ∧ J (c + 740) 0 = v ∧ vi x = vi v) : ZV X E_L_law 839 [some (.ref X.2.2.2.2.1), some (.ref c), some (.ref (c + 726)), some (.ref (c + 740)), some (vi z), some (vi w), o6] [vi x] b2 g I J okv := by
  obtain ⟨x', hx1, hx2⟩ := vi_rep x
  obtain ⟨hx3, hx4⟩ := hx1
  have km := hI.2.1.1.1
  have ho := hI.2.2
  rw [hx2]
  have fin : ∀ y : Int, ZV X E_L_law 869 [some (.ref X.2.2.2.2.1), some (.ref c), some (.ref (c + 726)), some (.ref (c + 740)), some (vi z), some (vi w), some (vi y)] [] b2 g I J okv := by
    intro y
    refine ZV_goto (tgt := 1603) dL_law_869 (by decide) ?_
    exact hn g I J Q _ _ _ hb1 hb2 hI
  refine ZV_istore6 dL_law_839 rfl (by decide) ?_
  refine ZV_aload_n dL_law_841 rfl ?_
  refine cl_X7_thrown kL_law_97 rfl dL_law_842 (by assumption) (Nat.le_of_ble_eq_true rfl) ?_
  refine sp_X7_thrown hI.2.1.1 ?_
  rw [hth]
  refine ZV_iload dL_law_845 rfl ?_
  refine ZV_icmp_eq (tgt := 852) dL_law_847 (by decide) ⟨by omega, by omega⟩ ⟨by omega, by omega⟩ (fun h847 => ?_) (fun h847 => ?_)
  · refine ZV_iload dL_law_852 rfl ?_
    refine ZV_if_ne (tgt := 869) dL_law_854 (by decide) ⟨by omega, by omega⟩ (fun h854 => ?_) (fun h854 => ?_)
    · exact fin _
    · have hw0 : w = 0 := by omega
      obtain ⟨⟨hv3, hv4⟩, hv5, hv6⟩ := hv hw0
      have exv : x' = v := by
        have e : vi x' = vi v := by rw [← hx2]; exact hv6
        have e2 : i32 x' = i32 v := by injection e
        exact i32_inj hx3 hx4 hv3 hv4 e2
      subst exv
      refine ZV_aload_n dL_law_857 rfl ?_
      refine ZV_iconst dL_law_858 ?_
      refine ZV_lald (0) dL_law_859 (by assumption) (by first | rfl | omega) (by omega) (by omega) ?_
      rw [hv5]
      refine ZV_iload dL_law_860 rfl ?_
      refine ZV_i2l dL_law_862 ⟨by omega, by omega⟩ ?_
      refine ZV_lif_eq (tgt := 869) dL_law_863 dL_law_864 (by decide) ⟨by omega, by omega⟩ ⟨by omega, by omega⟩ (fun h863 => ?_) (fun h863 => ?_)
      · exact fin _
      · omega
  · omega
theorem lw_c14 {o5 o6 : Option Value} (hI : LI X g I J c Q) (hn : LNx X c b z) (hb : 2 ≤ b.1 ∧ 12 ≤ b.2) (hz : z = (n : Int)) (hlen : n + 3 < X.2.2.2.2.2.1) (hl2 : X.2.2.2.2.2.1 ≤ 65536) : ZV X E_L_law 804 [some (.ref X.2.2.2.2.1), some (.ref c), some (.ref (c + 726)), some (.ref (c + 740)), some (vi z), o5, o6] [] b g I J okv := by
  obtain ⟨hC, hM, ho⟩ := hI
  subst hz
  have kc := hC.1.1.1
  have km := hM.1.1
  obtain ⟨a1, ha1⟩ : ∃ a, a = (X.2.2.2.2.2.2 (n + 1)).toInt := ⟨_, rfl⟩
  have hr1 : r32 a1 := by rw [ha1]; exact i32r _
  obtain ⟨hl1, hu1⟩ := id hr1
  obtain ⟨a2, ha2⟩ : ∃ a, a = (X.2.2.2.2.2.2 (n + 2)).toInt := ⟨_, rfl⟩
  have hr2 : r32 a2 := by rw [ha2]; exact i32r _
  obtain ⟨hl2, hu2⟩ := id hr2
  refine ZV_aload_n dL_law_804 rfl ?_
  refine ZV_aload_n dL_law_805 rfl ?_
  refine ZV_iload dL_law_806 rfl ?_
  refine ZV_iconst dL_law_808 ?_
  refine ZV_iadd dL_law_809 ?_
  refine ZV_sld (n + 1) rfl dL_law_810 (by omega) (by omega) (by omega) ?_
  rw [← ha1]
  refine ZV_aload_n dL_law_811 rfl ?_
  refine ZV_iload dL_law_812 rfl ?_
  refine ZV_iconst dL_law_814 ?_
  refine ZV_iadd dL_law_815 ?_
  refine ZV_sld (n + 2) rfl dL_law_816 (by omega) (by omega) (by omega) ?_
  rw [← ha2]
  refine ZV_aload_n dL_law_817 rfl ?_
  refine cl_L_setYear kL_law_146 rfl dL_law_818 ⟨by omega, by omega⟩ (Nat.le_of_ble_eq_true rfl) ?_
  refine sp_L_setYear hC ho (by omega) hr1 hr2 ⟨by decide, by decide⟩ ?_ ?_ ?_
  · intro e0 g1 I1 J1 hF1 hC1
    have hM1 := hM.cfr hF1 (Nat.le_refl _)
    have km1 := hM1.1.1
    have ho1 : ksh X g1 (c + 740) = some (.inr (1, 1)) := ksh_g ho hF1.1
    show ZV X E_L_law _ _ (vi 1 :: _) _ _ _ _ _
    refine ZV_istore5 dL_law_821 rfl (by decide) ?_
    refine ZV_aload_n dL_law_823 rfl ?_
    refine ZV_aload_n dL_law_824 rfl ?_
    refine ZV_iload dL_law_825 rfl ?_
    refine ZV_iconst dL_law_827 ?_
    refine ZV_iadd dL_law_828 ?_
    refine ZV_sld (n + 1) rfl dL_law_829 (by omega) (by omega) (by omega) ?_
    rw [← ha1]
    refine ZV_aload_n dL_law_830 rfl ?_
    refine ZV_iload dL_law_831 rfl ?_
    refine ZV_iconst dL_law_833 ?_
    refine ZV_iadd dL_law_834 ?_
    refine ZV_sld (n + 2) rfl dL_law_835 (by omega) (by omega) (by omega) ?_
    rw [← ha2]
    refine cl_X7_setYear kL_law_148 rfl dL_law_836 (by assumption) (Nat.le_of_ble_eq_true rfl) ?_
    refine sp_X7_setYear hM1 hr1 hr2 (fun f0 I2 mp => ?_) (fun f0 f1 => by first | omega | exact absurd e0 f0 | exact absurd f0 e0 | exact absurd e1 f1 | exact absurd f1 e1 | exact absurd (show oneW Q.1 from ⟨e1, s, e2, e3⟩) f0 | exact absurd (show oneW Q.1 from ⟨f1, s, f2, f3⟩) e0 | exact absurd (show oneW Q.1 from ⟨e2, s, e3, e4⟩) f1 | exact absurd (show oneW Q.1 from ⟨f2, s, f3, f4⟩) e1 | (rw [e1] at f2; cases f2) | (rw [e2] at f1; cases f1)) (fun f0 f1 => by first | omega | exact absurd e0 f0 | exact absurd f0 e0 | exact absurd e1 f1 | exact absurd f1 e1 | exact absurd (show oneW Q.1 from ⟨e1, s, e2, e3⟩) f0 | exact absurd (show oneW Q.1 from ⟨f1, s, f2, f3⟩) e0 | exact absurd (show oneW Q.1 from ⟨e2, s, e3, e4⟩) f1 | exact absurd (show oneW Q.1 from ⟨f2, s, f3, f4⟩) e1 | (rw [e1] at f2; cases f2) | (rw [e2] at f1; cases f1))
    show ZV X E_L_law _ _ (vi 0 :: _) _ _ _ _ _
    exact lw_t14 (v := 0) ⟨hC1.mfr mp.1 (Nat.le_refl _), mp.2.1, ho1⟩ hn (by dsimp only; omega) (by dsimp only; omega) (by omega) mp.2.2 (fun e => absurd e (by decide))
  · intro e0 e1 g1 I1 J1 hF1 hC1
    have hM1 := hM.cfr hF1 (Nat.le_refl _)
    have km1 := hM1.1.1
    have ho1 : ksh X g1 (c + 740) = some (.inr (1, 1)) := ksh_g ho hF1.1
    show ZV X E_L_law _ _ (vi 2 :: _) _ _ _ _ _
    refine ZV_istore5 dL_law_821 rfl (by decide) ?_
    refine ZV_aload_n dL_law_823 rfl ?_
    refine ZV_aload_n dL_law_824 rfl ?_
    refine ZV_iload dL_law_825 rfl ?_
    refine ZV_iconst dL_law_827 ?_
    refine ZV_iadd dL_law_828 ?_
    refine ZV_sld (n + 1) rfl dL_law_829 (by omega) (by omega) (by omega) ?_
    rw [← ha1]
    refine ZV_aload_n dL_law_830 rfl ?_
    refine ZV_iload dL_law_831 rfl ?_
    refine ZV_iconst dL_law_833 ?_
    refine ZV_iadd dL_law_834 ?_
    refine ZV_sld (n + 2) rfl dL_law_835 (by omega) (by omega) (by omega) ?_
    rw [← ha2]
    refine cl_X7_setYear kL_law_148 rfl dL_law_836 (by assumption) (Nat.le_of_ble_eq_true rfl) ?_
    refine sp_X7_setYear hM1 hr1 hr2 (fun f0 => by first | omega | exact absurd e0 f0 | exact absurd f0 e0 | exact absurd e1 f1 | exact absurd f1 e1 | exact absurd (show oneW Q.1 from ⟨e1, s, e2, e3⟩) f0 | exact absurd (show oneW Q.1 from ⟨f1, s, f2, f3⟩) e0 | exact absurd (show oneW Q.1 from ⟨e2, s, e3, e4⟩) f1 | exact absurd (show oneW Q.1 from ⟨f2, s, f3, f4⟩) e1 | (rw [e1] at f2; cases f2) | (rw [e2] at f1; cases f1)) (fun f0 f1 I2 mp => ?_) (fun f0 f1 => by first | omega | exact absurd e0 f0 | exact absurd f0 e0 | exact absurd e1 f1 | exact absurd f1 e1 | exact absurd (show oneW Q.1 from ⟨e1, s, e2, e3⟩) f0 | exact absurd (show oneW Q.1 from ⟨f1, s, f2, f3⟩) e0 | exact absurd (show oneW Q.1 from ⟨e2, s, e3, e4⟩) f1 | exact absurd (show oneW Q.1 from ⟨f2, s, f3, f4⟩) e1 | (rw [e1] at f2; cases f2) | (rw [e2] at f1; cases f1))
    show ZV X E_L_law _ _ (vi 0 :: _) _ _ _ _ _
    exact lw_t14 (v := 0) ⟨hC1.mfr mp.1 (Nat.le_refl _), mp.2.1, ho1⟩ hn (by dsimp only; omega) (by dsimp only; omega) (by omega) mp.2.2 (fun e => absurd e (by decide))
  · intro e0 e1 g1 I1 J1 hF1 hC1 v hv1 hv2 hv3
    have hM1 := hM.cfr hF1 (Nat.le_refl _)
    have km1 := hM1.1.1
    have ho1 : ksh X g1 (c + 740) = some (.inr (1, 1)) := ksh_g ho hF1.1
    show ZV X E_L_law _ _ (vi 0 :: _) _ _ _ _ _
    refine ZV_istore5 dL_law_821 rfl (by decide) ?_
    refine ZV_aload_n dL_law_823 rfl ?_
    refine ZV_aload_n dL_law_824 rfl ?_
    refine ZV_iload dL_law_825 rfl ?_
    refine ZV_iconst dL_law_827 ?_
    refine ZV_iadd dL_law_828 ?_
    refine ZV_sld (n + 1) rfl dL_law_829 (by omega) (by omega) (by omega) ?_
    rw [← ha1]
    refine ZV_aload_n dL_law_830 rfl ?_
    refine ZV_iload dL_law_831 rfl ?_
    refine ZV_iconst dL_law_833 ?_
    refine ZV_iadd dL_law_834 ?_
    refine ZV_sld (n + 2) rfl dL_law_835 (by omega) (by omega) (by omega) ?_
    rw [← ha2]
    refine cl_X7_setYear kL_law_148 rfl dL_law_836 (by assumption) (Nat.le_of_ble_eq_true rfl) ?_
    refine sp_X7_setYear hM1 hr1 hr2 (fun f0 => by first | omega | exact absurd e0 f0 | exact absurd f0 e0 | exact absurd e1 f1 | exact absurd f1 e1 | exact absurd (show oneW Q.1 from ⟨e1, s, e2, e3⟩) f0 | exact absurd (show oneW Q.1 from ⟨f1, s, f2, f3⟩) e0 | exact absurd (show oneW Q.1 from ⟨e2, s, e3, e4⟩) f1 | exact absurd (show oneW Q.1 from ⟨f2, s, f3, f4⟩) e1 | (rw [e1] at f2; cases f2) | (rw [e2] at f1; cases f1)) (fun f0 f1 => by first | omega | exact absurd e0 f0 | exact absurd f0 e0 | exact absurd e1 f1 | exact absurd f1 e1 | exact absurd (show oneW Q.1 from ⟨e1, s, e2, e3⟩) f0 | exact absurd (show oneW Q.1 from ⟨f1, s, f2, f3⟩) e0 | exact absurd (show oneW Q.1 from ⟨e2, s, e3, e4⟩) f1 | exact absurd (show oneW Q.1 from ⟨f2, s, f3, f4⟩) e1 | (rw [e1] at f2; cases f2) | (rw [e2] at f1; cases f1)) (fun f0 f1 I2 mp => ?_)
    show ZV X E_L_law _ _ (vi (chgN (aSet Q.2.1 a1.toNat (yrW (aW Q.2.1 a1.toNat) a2)) (keyOf Q.2.1)) :: _) _ _ _ _ _
    exact lw_t14 ⟨hC1.mfr mp.1 (Nat.le_refl _), mp.2.1, ho1⟩ hn (by dsimp only; omega) (by dsimp only; omega) (Or.inl rfl) mp.2.2 (fun _ => ⟨hv1, hv3, hv2⟩)
theorem lw_t15 {o6 : Option Value} {w v x : Int} {b2 : Nat × Nat} (hI : LI X g I J c Q) (hn : LNx X c b z) (hb1 : b.1 ≤ b2.1 + 2) (hb2 : b.2 ≤ b2.2 + 12) (hw : w = 0 ∨ w = 1 ∨ w = 2) (hth : I (c + 726) 0 = w) (hv : w = 0 → r32 v ∧ J (c + 740) 0 = v ∧ vi x = vi v) : ZV X E_L_law 895 [some (.ref X.2.2.2.2.1), some (.ref c), some (.ref (c + 726)), some (.ref (c + 740)), some (vi z), some (vi w), o6] [vi x] b2 g I J okv := by
  obtain ⟨x', hx1, hx2⟩ := vi_rep x
  obtain ⟨hx3, hx4⟩ := hx1
  have km := hI.2.1.1.1
  have ho := hI.2.2
  rw [hx2]
  have fin : ∀ y : Int, ZV X E_L_law 925 [some (.ref X.2.2.2.2.1), some (.ref c), some (.ref (c + 726)), some (.ref (c + 740)), some (vi z), some (vi w), some (vi y)] [] b2 g I J okv := by
    intro y
    refine ZV_goto (tgt := 1603) dL_law_925 (by decide) ?_
    exact hn g I J Q _ _ _ hb1 hb2 hI
  refine ZV_istore6 dL_law_895 rfl (by decide) ?_
  refine ZV_aload_n dL_law_897 rfl ?_
  refine cl_X7_thrown kL_law_97 rfl dL_law_898 (by assumption) (Nat.le_of_ble_eq_true rfl) ?_
  refine sp_X7_thrown hI.2.1.1 ?_
  rw [hth]
  refine ZV_iload dL_law_901 rfl ?_
  refine ZV_icmp_eq (tgt := 908) dL_law_903 (by decide) ⟨by omega, by omega⟩ ⟨by omega, by omega⟩ (fun h903 => ?_) (fun h903 => ?_)
  · refine ZV_iload dL_law_908 rfl ?_
    refine ZV_if_ne (tgt := 925) dL_law_910 (by decide) ⟨by omega, by omega⟩ (fun h910 => ?_) (fun h910 => ?_)
    · exact fin _
    · have hw0 : w = 0 := by omega
      obtain ⟨⟨hv3, hv4⟩, hv5, hv6⟩ := hv hw0
      have exv : x' = v := by
        have e : vi x' = vi v := by rw [← hx2]; exact hv6
        have e2 : i32 x' = i32 v := by injection e
        exact i32_inj hx3 hx4 hv3 hv4 e2
      subst exv
      refine ZV_aload_n dL_law_913 rfl ?_
      refine ZV_iconst dL_law_914 ?_
      refine ZV_lald (0) dL_law_915 (by assumption) (by first | rfl | omega) (by omega) (by omega) ?_
      rw [hv5]
      refine ZV_iload dL_law_916 rfl ?_
      refine ZV_i2l dL_law_918 ⟨by omega, by omega⟩ ?_
      refine ZV_lif_eq (tgt := 925) dL_law_919 dL_law_920 (by decide) ⟨by omega, by omega⟩ ⟨by omega, by omega⟩ (fun h919 => ?_) (fun h919 => ?_)
      · exact fin _
      · omega
  · omega
theorem lw_c15 {o5 o6 : Option Value} (hI : LI X g I J c Q) (hn : LNx X c b z) (hb : 2 ≤ b.1 ∧ 12 ≤ b.2) (hz : z = (n : Int)) (hlen : n + 3 < X.2.2.2.2.2.1) (hl2 : X.2.2.2.2.2.1 ≤ 65536) : ZV X E_L_law 872 [some (.ref X.2.2.2.2.1), some (.ref c), some (.ref (c + 726)), some (.ref (c + 740)), some (vi z), o5, o6] [] b g I J okv := by
  obtain ⟨hC, hM, ho⟩ := hI
  subst hz
  have kc := hC.1.1.1
  have km := hM.1.1
  obtain ⟨a1, ha1⟩ : ∃ a, a = (X.2.2.2.2.2.2 (n + 1)).toInt := ⟨_, rfl⟩
  have hr1 : r32 a1 := by rw [ha1]; exact i32r _
  obtain ⟨hl1, hu1⟩ := id hr1
  refine ZV_aload_n dL_law_872 rfl ?_
  refine ZV_aload_n dL_law_873 rfl ?_
  refine ZV_iload dL_law_874 rfl ?_
  refine ZV_iconst dL_law_876 ?_
  refine ZV_iadd dL_law_877 ?_
  refine ZV_sld (n + 1) rfl dL_law_878 (by omega) (by omega) (by omega) ?_
  rw [← ha1]
  refine ZV_aload_n dL_law_879 rfl ?_
  refine cl_L_remove kL_law_149 rfl dL_law_880 ⟨by omega, by omega⟩ (Nat.le_of_ble_eq_true rfl) ?_
  refine sp_L_remove hC ho (by omega) hr1 ⟨by decide, by decide⟩ ?_ ?_
  · intro e0 g1 I1 J1 hF1 hC1
    have hM1 := hM.cfr hF1 (Nat.le_refl _)
    have km1 := hM1.1.1
    have ho1 : ksh X g1 (c + 740) = some (.inr (1, 1)) := ksh_g ho hF1.1
    show ZV X E_L_law _ _ (vi 1 :: _) _ _ _ _ _
    refine ZV_istore5 dL_law_883 rfl (by decide) ?_
    refine ZV_aload_n dL_law_885 rfl ?_
    refine ZV_aload_n dL_law_886 rfl ?_
    refine ZV_iload dL_law_887 rfl ?_
    refine ZV_iconst dL_law_889 ?_
    refine ZV_iadd dL_law_890 ?_
    refine ZV_sld (n + 1) rfl dL_law_891 (by omega) (by omega) (by omega) ?_
    rw [← ha1]
    refine cl_X7_remove kL_law_151 rfl dL_law_892 (by assumption) (Nat.le_of_ble_eq_true rfl) ?_
    refine sp_X7_remove hM1 hr1 (fun f0 I2 mp => ?_) (fun f0 => by first | omega | exact absurd e0 f0 | exact absurd f0 e0 | exact absurd e1 f1 | exact absurd f1 e1 | exact absurd (show oneW Q.1 from ⟨e1, s, e2, e3⟩) f0 | exact absurd (show oneW Q.1 from ⟨f1, s, f2, f3⟩) e0 | exact absurd (show oneW Q.1 from ⟨e2, s, e3, e4⟩) f1 | exact absurd (show oneW Q.1 from ⟨f2, s, f3, f4⟩) e1 | (rw [e1] at f2; cases f2) | (rw [e2] at f1; cases f1))
    show ZV X E_L_law _ _ (vi 0 :: _) _ _ _ _ _
    exact lw_t15 (v := 0) ⟨hC1.mfr mp.1 (Nat.le_refl _), mp.2.1, ho1⟩ hn (by dsimp only; omega) (by dsimp only; omega) (by omega) mp.2.2 (fun e => absurd e (by decide))
  · intro e0 g1 I1 J1 hF1 hC1 v hv1 hv2 hv3
    have hM1 := hM.cfr hF1 (Nat.le_refl _)
    have km1 := hM1.1.1
    have ho1 : ksh X g1 (c + 740) = some (.inr (1, 1)) := ksh_g ho hF1.1
    show ZV X E_L_law _ _ (vi 0 :: _) _ _ _ _ _
    refine ZV_istore5 dL_law_883 rfl (by decide) ?_
    refine ZV_aload_n dL_law_885 rfl ?_
    refine ZV_aload_n dL_law_886 rfl ?_
    refine ZV_iload dL_law_887 rfl ?_
    refine ZV_iconst dL_law_889 ?_
    refine ZV_iadd dL_law_890 ?_
    refine ZV_sld (n + 1) rfl dL_law_891 (by omega) (by omega) (by omega) ?_
    rw [← ha1]
    refine cl_X7_remove kL_law_151 rfl dL_law_892 (by assumption) (Nat.le_of_ble_eq_true rfl) ?_
    refine sp_X7_remove hM1 hr1 (fun f0 => by first | omega | exact absurd e0 f0 | exact absurd f0 e0 | exact absurd e1 f1 | exact absurd f1 e1 | exact absurd (show oneW Q.1 from ⟨e1, s, e2, e3⟩) f0 | exact absurd (show oneW Q.1 from ⟨f1, s, f2, f3⟩) e0 | exact absurd (show oneW Q.1 from ⟨e2, s, e3, e4⟩) f1 | exact absurd (show oneW Q.1 from ⟨f2, s, f3, f4⟩) e1 | (rw [e1] at f2; cases f2) | (rw [e2] at f1; cases f1)) (fun f0 I2 mp => ?_)
    show ZV X E_L_law _ _ (vi (chgN (aTake Q.2.1 a1.toNat) (fun j => if j < a1.toNat then keyOf Q.2.1 j else keyOf Q.2.1 (j + 1))) :: _) _ _ _ _ _
    exact lw_t15 ⟨hC1.mfr mp.1 (Nat.le_refl _), mp.2.1, ho1⟩ hn (by dsimp only; omega) (by dsimp only; omega) (Or.inl rfl) mp.2.2 (fun _ => ⟨hv1, hv3, hv2⟩)
theorem lw_t16 {o6 : Option Value} {w v x : Int} {b2 : Nat × Nat} (hI : LI X g I J c Q) (hn : LNx X c b z) (hb1 : b.1 ≤ b2.1 + 2) (hb2 : b.2 ≤ b2.2 + 12) (hw : w = 0 ∨ w = 1 ∨ w = 2) (hth : I (c + 726) 0 = w) (hv : w = 0 → r32 v ∧ J (c + 740) 0 = v ∧ vi x = vi v) : ZV X E_L_law 951 [some (.ref X.2.2.2.2.1), some (.ref c), some (.ref (c + 726)), some (.ref (c + 740)), some (vi z), some (vi w), o6] [vi x] b2 g I J okv := by
  obtain ⟨x', hx1, hx2⟩ := vi_rep x
  obtain ⟨hx3, hx4⟩ := hx1
  have km := hI.2.1.1.1
  have ho := hI.2.2
  rw [hx2]
  have fin : ∀ y : Int, ZV X E_L_law 981 [some (.ref X.2.2.2.2.1), some (.ref c), some (.ref (c + 726)), some (.ref (c + 740)), some (vi z), some (vi w), some (vi y)] [] b2 g I J okv := by
    intro y
    refine ZV_goto (tgt := 1603) dL_law_981 (by decide) ?_
    exact hn g I J Q _ _ _ hb1 hb2 hI
  refine ZV_istore6 dL_law_951 rfl (by decide) ?_
  refine ZV_aload_n dL_law_953 rfl ?_
  refine cl_X7_thrown kL_law_97 rfl dL_law_954 (by assumption) (Nat.le_of_ble_eq_true rfl) ?_
  refine sp_X7_thrown hI.2.1.1 ?_
  rw [hth]
  refine ZV_iload dL_law_957 rfl ?_
  refine ZV_icmp_eq (tgt := 964) dL_law_959 (by decide) ⟨by omega, by omega⟩ ⟨by omega, by omega⟩ (fun h959 => ?_) (fun h959 => ?_)
  · refine ZV_iload dL_law_964 rfl ?_
    refine ZV_if_ne (tgt := 981) dL_law_966 (by decide) ⟨by omega, by omega⟩ (fun h966 => ?_) (fun h966 => ?_)
    · exact fin _
    · have hw0 : w = 0 := by omega
      obtain ⟨⟨hv3, hv4⟩, hv5, hv6⟩ := hv hw0
      have exv : x' = v := by
        have e : vi x' = vi v := by rw [← hx2]; exact hv6
        have e2 : i32 x' = i32 v := by injection e
        exact i32_inj hx3 hx4 hv3 hv4 e2
      subst exv
      refine ZV_aload_n dL_law_969 rfl ?_
      refine ZV_iconst dL_law_970 ?_
      refine ZV_lald (0) dL_law_971 (by assumption) (by first | rfl | omega) (by omega) (by omega) ?_
      rw [hv5]
      refine ZV_iload dL_law_972 rfl ?_
      refine ZV_i2l dL_law_974 ⟨by omega, by omega⟩ ?_
      refine ZV_lif_eq (tgt := 981) dL_law_975 dL_law_976 (by decide) ⟨by omega, by omega⟩ ⟨by omega, by omega⟩ (fun h975 => ?_) (fun h975 => ?_)
      · exact fin _
      · omega
  · omega
theorem lw_c16 {o5 o6 : Option Value} (hI : LI X g I J c Q) (hn : LNx X c b z) (hb : 2 ≤ b.1 ∧ 12 ≤ b.2) (hz : z = (n : Int)) (hlen : n + 3 < X.2.2.2.2.2.1) (hl2 : X.2.2.2.2.2.1 ≤ 65536) : ZV X E_L_law 928 [some (.ref X.2.2.2.2.1), some (.ref c), some (.ref (c + 726)), some (.ref (c + 740)), some (vi z), o5, o6] [] b g I J okv := by
  obtain ⟨hC, hM, ho⟩ := hI
  subst hz
  have kc := hC.1.1.1
  have km := hM.1.1
  obtain ⟨a1, ha1⟩ : ∃ a, a = (X.2.2.2.2.2.2 (n + 1)).toInt := ⟨_, rfl⟩
  have hr1 : r32 a1 := by rw [ha1]; exact i32r _
  obtain ⟨hl1, hu1⟩ := id hr1
  refine ZV_aload_n dL_law_928 rfl ?_
  refine ZV_aload_n dL_law_929 rfl ?_
  refine ZV_iload dL_law_930 rfl ?_
  refine ZV_iconst dL_law_932 ?_
  refine ZV_iadd dL_law_933 ?_
  refine ZV_sld (n + 1) rfl dL_law_934 (by omega) (by omega) (by omega) ?_
  rw [← ha1]
  refine ZV_aload_n dL_law_935 rfl ?_
  refine cl_L_setStyle kL_law_152 rfl dL_law_936 ⟨by omega, by omega⟩ (Nat.le_of_ble_eq_true rfl) ?_
  refine sp_L_setStyle hC ho (by omega) hr1 ⟨by decide, by decide⟩ ?_ ?_
  · intro e0 g1 I1 J1 hF1 hC1
    have hM1 := hM.cfr hF1 (Nat.le_refl _)
    have km1 := hM1.1.1
    have ho1 : ksh X g1 (c + 740) = some (.inr (1, 1)) := ksh_g ho hF1.1
    show ZV X E_L_law _ _ (vi 1 :: _) _ _ _ _ _
    refine ZV_istore5 dL_law_939 rfl (by decide) ?_
    refine ZV_aload_n dL_law_941 rfl ?_
    refine ZV_aload_n dL_law_942 rfl ?_
    refine ZV_iload dL_law_943 rfl ?_
    refine ZV_iconst dL_law_945 ?_
    refine ZV_iadd dL_law_946 ?_
    refine ZV_sld (n + 1) rfl dL_law_947 (by omega) (by omega) (by omega) ?_
    rw [← ha1]
    refine cl_X7_setStyle kL_law_154 rfl dL_law_948 (by assumption) (Nat.le_of_ble_eq_true rfl) ?_
    refine sp_X7_setStyle hM1 hr1 (fun f0 I2 mp => ?_) (fun f0 => by first | omega | exact absurd e0 f0 | exact absurd f0 e0 | exact absurd e1 f1 | exact absurd f1 e1 | exact absurd (show oneW Q.1 from ⟨e1, s, e2, e3⟩) f0 | exact absurd (show oneW Q.1 from ⟨f1, s, f2, f3⟩) e0 | exact absurd (show oneW Q.1 from ⟨e2, s, e3, e4⟩) f1 | exact absurd (show oneW Q.1 from ⟨f2, s, f3, f4⟩) e1 | (rw [e1] at f2; cases f2) | (rw [e2] at f1; cases f1))
    show ZV X E_L_law _ _ (vi 0 :: _) _ _ _ _ _
    exact lw_t16 (v := 0) ⟨hC1.mfr mp.1 (Nat.le_refl _), mp.2.1, ho1⟩ hn (by dsimp only; omega) (by dsimp only; omega) (by omega) mp.2.2 (fun e => absurd e (by decide))
  · intro e0 g1 I1 J1 hF1 hC1 v hv1 hv2 hv3
    have hM1 := hM.cfr hF1 (Nat.le_refl _)
    have km1 := hM1.1.1
    have ho1 : ksh X g1 (c + 740) = some (.inr (1, 1)) := ksh_g ho hF1.1
    show ZV X E_L_law _ _ (vi 0 :: _) _ _ _ _ _
    refine ZV_istore5 dL_law_939 rfl (by decide) ?_
    refine ZV_aload_n dL_law_941 rfl ?_
    refine ZV_aload_n dL_law_942 rfl ?_
    refine ZV_iload dL_law_943 rfl ?_
    refine ZV_iconst dL_law_945 ?_
    refine ZV_iadd dL_law_946 ?_
    refine ZV_sld (n + 1) rfl dL_law_947 (by omega) (by omega) (by omega) ?_
    rw [← ha1]
    refine cl_X7_setStyle kL_law_154 rfl dL_law_948 (by assumption) (Nat.le_of_ble_eq_true rfl) ?_
    refine sp_X7_setStyle hM1 hr1 (fun f0 => by first | omega | exact absurd e0 f0 | exact absurd f0 e0 | exact absurd e1 f1 | exact absurd f1 e1 | exact absurd (show oneW Q.1 from ⟨e1, s, e2, e3⟩) f0 | exact absurd (show oneW Q.1 from ⟨f1, s, f2, f3⟩) e0 | exact absurd (show oneW Q.1 from ⟨e2, s, e3, e4⟩) f1 | exact absurd (show oneW Q.1 from ⟨f2, s, f3, f4⟩) e1 | (rw [e1] at f2; cases f2) | (rw [e2] at f1; cases f1)) (fun f0 I2 mp => ?_)
    show ZV X E_L_law _ _ (vi (aS Q.2.1) :: _) _ _ _ _ _
    exact lw_t16 ⟨hC1.mfr mp.1 (Nat.le_refl _), mp.2.1, ho1⟩ hn (by dsimp only; omega) (by dsimp only; omega) (Or.inl rfl) mp.2.2 (fun _ => ⟨hv1, hv3, hv2⟩)
theorem lw_t17 {o6 : Option Value} {w v x : Int} {b2 : Nat × Nat} (hI : LI X g I J c Q) (hn : LNx X c b z) (hb1 : b.1 ≤ b2.1 + 2) (hb2 : b.2 ≤ b2.2 + 12) (hw : w = 0 ∨ w = 1 ∨ w = 2) (hth : I (c + 726) 0 = w) (hv : w = 0 → r32 v ∧ J (c + 740) 0 = v ∧ vi x = vi v) : ZV X E_L_law 1007 [some (.ref X.2.2.2.2.1), some (.ref c), some (.ref (c + 726)), some (.ref (c + 740)), some (vi z), some (vi w), o6] [vi x] b2 g I J okv := by
  obtain ⟨x', hx1, hx2⟩ := vi_rep x
  obtain ⟨hx3, hx4⟩ := hx1
  have km := hI.2.1.1.1
  have ho := hI.2.2
  rw [hx2]
  have fin : ∀ y : Int, ZV X E_L_law 1037 [some (.ref X.2.2.2.2.1), some (.ref c), some (.ref (c + 726)), some (.ref (c + 740)), some (vi z), some (vi w), some (vi y)] [] b2 g I J okv := by
    intro y
    refine ZV_goto (tgt := 1603) dL_law_1037 (by decide) ?_
    exact hn g I J Q _ _ _ hb1 hb2 hI
  refine ZV_istore6 dL_law_1007 rfl (by decide) ?_
  refine ZV_aload_n dL_law_1009 rfl ?_
  refine cl_X7_thrown kL_law_97 rfl dL_law_1010 (by assumption) (Nat.le_of_ble_eq_true rfl) ?_
  refine sp_X7_thrown hI.2.1.1 ?_
  rw [hth]
  refine ZV_iload dL_law_1013 rfl ?_
  refine ZV_icmp_eq (tgt := 1020) dL_law_1015 (by decide) ⟨by omega, by omega⟩ ⟨by omega, by omega⟩ (fun h1015 => ?_) (fun h1015 => ?_)
  · refine ZV_iload dL_law_1020 rfl ?_
    refine ZV_if_ne (tgt := 1037) dL_law_1022 (by decide) ⟨by omega, by omega⟩ (fun h1022 => ?_) (fun h1022 => ?_)
    · exact fin _
    · have hw0 : w = 0 := by omega
      obtain ⟨⟨hv3, hv4⟩, hv5, hv6⟩ := hv hw0
      have exv : x' = v := by
        have e : vi x' = vi v := by rw [← hx2]; exact hv6
        have e2 : i32 x' = i32 v := by injection e
        exact i32_inj hx3 hx4 hv3 hv4 e2
      subst exv
      refine ZV_aload_n dL_law_1025 rfl ?_
      refine ZV_iconst dL_law_1026 ?_
      refine ZV_lald (0) dL_law_1027 (by assumption) (by first | rfl | omega) (by omega) (by omega) ?_
      rw [hv5]
      refine ZV_iload dL_law_1028 rfl ?_
      refine ZV_i2l dL_law_1030 ⟨by omega, by omega⟩ ?_
      refine ZV_lif_eq (tgt := 1037) dL_law_1031 dL_law_1032 (by decide) ⟨by omega, by omega⟩ ⟨by omega, by omega⟩ (fun h1031 => ?_) (fun h1031 => ?_)
      · exact fin _
      · omega
  · omega
theorem lw_c17 {o5 o6 : Option Value} (hI : LI X g I J c Q) (hn : LNx X c b z) (hb : 2 ≤ b.1 ∧ 12 ≤ b.2) (hz : z = (n : Int)) (hlen : n + 3 < X.2.2.2.2.2.1) (hl2 : X.2.2.2.2.2.1 ≤ 65536) : ZV X E_L_law 984 [some (.ref X.2.2.2.2.1), some (.ref c), some (.ref (c + 726)), some (.ref (c + 740)), some (vi z), o5, o6] [] b g I J okv := by
  obtain ⟨hC, hM, ho⟩ := hI
  subst hz
  have kc := hC.1.1.1
  have km := hM.1.1
  obtain ⟨a1, ha1⟩ : ∃ a, a = (X.2.2.2.2.2.2 (n + 1)).toInt := ⟨_, rfl⟩
  have hr1 : r32 a1 := by rw [ha1]; exact i32r _
  obtain ⟨hl1, hu1⟩ := id hr1
  refine ZV_aload_n dL_law_984 rfl ?_
  refine ZV_aload_n dL_law_985 rfl ?_
  refine ZV_iload dL_law_986 rfl ?_
  refine ZV_iconst dL_law_988 ?_
  refine ZV_iadd dL_law_989 ?_
  refine ZV_sld (n + 1) rfl dL_law_990 (by omega) (by omega) (by omega) ?_
  rw [← ha1]
  refine ZV_aload_n dL_law_991 rfl ?_
  refine cl_L_setOrder kL_law_155 rfl dL_law_992 ⟨by omega, by omega⟩ (Nat.le_of_ble_eq_true rfl) ?_
  refine sp_L_setOrder hC ho (by omega) hr1 ⟨by decide, by decide⟩ ?_ ?_
  · intro e0 g1 I1 J1 hF1 hC1
    have hM1 := hM.cfr hF1 (Nat.le_refl _)
    have km1 := hM1.1.1
    have ho1 : ksh X g1 (c + 740) = some (.inr (1, 1)) := ksh_g ho hF1.1
    show ZV X E_L_law _ _ (vi 1 :: _) _ _ _ _ _
    refine ZV_istore5 dL_law_995 rfl (by decide) ?_
    refine ZV_aload_n dL_law_997 rfl ?_
    refine ZV_aload_n dL_law_998 rfl ?_
    refine ZV_iload dL_law_999 rfl ?_
    refine ZV_iconst dL_law_1001 ?_
    refine ZV_iadd dL_law_1002 ?_
    refine ZV_sld (n + 1) rfl dL_law_1003 (by omega) (by omega) (by omega) ?_
    rw [← ha1]
    refine cl_X7_setOrder kL_law_157 rfl dL_law_1004 (by assumption) (Nat.le_of_ble_eq_true rfl) ?_
    refine sp_X7_setOrder hM1 hr1 (fun f0 I2 mp => ?_) (fun f0 => by first | omega | exact absurd e0 f0 | exact absurd f0 e0 | exact absurd e1 f1 | exact absurd f1 e1 | exact absurd (show oneW Q.1 from ⟨e1, s, e2, e3⟩) f0 | exact absurd (show oneW Q.1 from ⟨f1, s, f2, f3⟩) e0 | exact absurd (show oneW Q.1 from ⟨e2, s, e3, e4⟩) f1 | exact absurd (show oneW Q.1 from ⟨f2, s, f3, f4⟩) e1 | (rw [e1] at f2; cases f2) | (rw [e2] at f1; cases f1))
    show ZV X E_L_law _ _ (vi 0 :: _) _ _ _ _ _
    exact lw_t17 (v := 0) ⟨hC1.mfr mp.1 (Nat.le_refl _), mp.2.1, ho1⟩ hn (by dsimp only; omega) (by dsimp only; omega) (by omega) mp.2.2 (fun e => absurd e (by decide))
  · intro e0 g1 I1 J1 hF1 hC1 v hv1 hv2 hv3
    have hM1 := hM.cfr hF1 (Nat.le_refl _)
    have km1 := hM1.1.1
    have ho1 : ksh X g1 (c + 740) = some (.inr (1, 1)) := ksh_g ho hF1.1
    show ZV X E_L_law _ _ (vi 0 :: _) _ _ _ _ _
    refine ZV_istore5 dL_law_995 rfl (by decide) ?_
    refine ZV_aload_n dL_law_997 rfl ?_
    refine ZV_aload_n dL_law_998 rfl ?_
    refine ZV_iload dL_law_999 rfl ?_
    refine ZV_iconst dL_law_1001 ?_
    refine ZV_iadd dL_law_1002 ?_
    refine ZV_sld (n + 1) rfl dL_law_1003 (by omega) (by omega) (by omega) ?_
    rw [← ha1]
    refine cl_X7_setOrder kL_law_157 rfl dL_law_1004 (by assumption) (Nat.le_of_ble_eq_true rfl) ?_
    refine sp_X7_setOrder hM1 hr1 (fun f0 => by first | omega | exact absurd e0 f0 | exact absurd f0 e0 | exact absurd e1 f1 | exact absurd f1 e1 | exact absurd (show oneW Q.1 from ⟨e1, s, e2, e3⟩) f0 | exact absurd (show oneW Q.1 from ⟨f1, s, f2, f3⟩) e0 | exact absurd (show oneW Q.1 from ⟨e2, s, e3, e4⟩) f1 | exact absurd (show oneW Q.1 from ⟨f2, s, f3, f4⟩) e1 | (rw [e1] at f2; cases f2) | (rw [e2] at f1; cases f1)) (fun f0 I2 mp => ?_)
    show ZV X E_L_law _ _ (vi (chgN (aOrd Q.2.1 a1) (keyOf Q.2.1)) :: _) _ _ _ _ _
    exact lw_t17 ⟨hC1.mfr mp.1 (Nat.le_refl _), mp.2.1, ho1⟩ hn (by dsimp only; omega) (by dsimp only; omega) (Or.inl rfl) mp.2.2 (fun _ => ⟨hv1, hv3, hv2⟩)
theorem lw_c18 {o5 o6 : Option Value} (hI : LI X g I J c Q) (hn : LNx X c b z) : ZV X E_L_law 1040 [some (.ref X.2.2.2.2.1), some (.ref c), some (.ref (c + 726)), some (.ref (c + 740)), some (vi z), o5, o6] [] b g I J okv := by
  obtain ⟨hC, hM, ho⟩ := hI
  have kc := hC.1.1.1
  have km := hM.1.1
  refine ZV_aload_n dL_law_1040 rfl ?_
  refine cl_X6_print kL_law_158 rfl dL_law_1041 (by assumption) (Nat.le_of_ble_eq_true rfl) ?_
  refine sp_X6_print hC ?_
  intro I1 J1 hF1 hC1
  have hM1 := hM.cfr (hF1.lf (c + 740) J1) (Nat.le_refl _)
  have km1 := hM1.1.1
  obtain ⟨v, hv1, hv2⟩ := vi_rep (aN Q.2.1 : Int)
  obtain ⟨hv3, hv4⟩ := hv1
  show ZV X E_L_law _ _ (vi (aN Q.2.1 : Int) :: _) _ _ _ _ _
  rw [hv2]
  refine ZV_aload_n dL_law_1044 rfl ?_
  refine cl_X7_print kL_law_161 rfl dL_law_1045 (by assumption) (Nat.le_of_ble_eq_true rfl) ?_
  refine sp_X7_print hM1 ?_
  intro I2 mp
  show ZV X E_L_law _ _ (vi (aN Q.2.1 : Int) :: _) _ _ _ _ _
  rw [hv2]
  refine ZV_icmp_eq (tgt := 1603) dL_law_1048 (by decide) ⟨by omega, by omega⟩ ⟨by omega, by omega⟩ (fun h1048 => ?_) (fun h1048 => ?_)
  · exact hn g I2 J1 (Q.1, aPrint Q.2.1 (keyOf Q.2.1), hpush Q.2.2.1 Q.2.1, Q.2.2.2) _ _ _ (by omega) (by omega) ⟨hC1.mfr mp.1 (Nat.le_refl _), mp.2.1, ksh_g ho hF1.1⟩
  · omega
theorem lw_t19 {o6 : Option Value} {w v x : Int} {b2 : Nat × Nat} (hI : LI X g I J c Q) (hn : LNx X c b z) (hb1 : b.1 ≤ b2.1 + 2) (hb2 : b.2 ≤ b2.2 + 12) (hw : w = 0 ∨ w = 1 ∨ w = 2) (hth : I (c + 726) 0 = w) (hv : w = 0 → r32 v ∧ J (c + 740) 0 = v ∧ vi x = vi v) : ZV X E_L_law 1064 [some (.ref X.2.2.2.2.1), some (.ref c), some (.ref (c + 726)), some (.ref (c + 740)), some (vi z), some (vi w), o6] [vi x] b2 g I J okv := by
  obtain ⟨x', hx1, hx2⟩ := vi_rep x
  obtain ⟨hx3, hx4⟩ := hx1
  have km := hI.2.1.1.1
  have ho := hI.2.2
  rw [hx2]
  have fin : ∀ y : Int, ZV X E_L_law 1094 [some (.ref X.2.2.2.2.1), some (.ref c), some (.ref (c + 726)), some (.ref (c + 740)), some (vi z), some (vi w), some (vi y)] [] b2 g I J okv := by
    intro y
    refine ZV_goto (tgt := 1603) dL_law_1094 (by decide) ?_
    exact hn g I J Q _ _ _ hb1 hb2 hI
  refine ZV_istore6 dL_law_1064 rfl (by decide) ?_
  refine ZV_aload_n dL_law_1066 rfl ?_
  refine cl_X7_thrown kL_law_97 rfl dL_law_1067 (by assumption) (Nat.le_of_ble_eq_true rfl) ?_
  refine sp_X7_thrown hI.2.1.1 ?_
  rw [hth]
  refine ZV_iload dL_law_1070 rfl ?_
  refine ZV_icmp_eq (tgt := 1077) dL_law_1072 (by decide) ⟨by omega, by omega⟩ ⟨by omega, by omega⟩ (fun h1072 => ?_) (fun h1072 => ?_)
  · refine ZV_iload dL_law_1077 rfl ?_
    refine ZV_if_ne (tgt := 1094) dL_law_1079 (by decide) ⟨by omega, by omega⟩ (fun h1079 => ?_) (fun h1079 => ?_)
    · exact fin _
    · have hw0 : w = 0 := by omega
      obtain ⟨⟨hv3, hv4⟩, hv5, hv6⟩ := hv hw0
      have exv : x' = v := by
        have e : vi x' = vi v := by rw [← hx2]; exact hv6
        have e2 : i32 x' = i32 v := by injection e
        exact i32_inj hx3 hx4 hv3 hv4 e2
      subst exv
      refine ZV_aload_n dL_law_1082 rfl ?_
      refine ZV_iconst dL_law_1083 ?_
      refine ZV_lald (0) dL_law_1084 (by assumption) (by first | rfl | omega) (by omega) (by omega) ?_
      rw [hv5]
      refine ZV_iload dL_law_1085 rfl ?_
      refine ZV_i2l dL_law_1087 ⟨by omega, by omega⟩ ?_
      refine ZV_lif_eq (tgt := 1094) dL_law_1088 dL_law_1089 (by decide) ⟨by omega, by omega⟩ ⟨by omega, by omega⟩ (fun h1088 => ?_) (fun h1088 => ?_)
      · exact fin _
      · omega
  · omega
theorem lw_c19 {o5 o6 : Option Value} (hI : LI X g I J c Q) (hn : LNx X c b z) (hb : 2 ≤ b.1 ∧ 12 ≤ b.2) (hz : z = (n : Int)) (hlen : n + 3 < X.2.2.2.2.2.1) (hl2 : X.2.2.2.2.2.1 ≤ 65536) : ZV X E_L_law 1053 [some (.ref X.2.2.2.2.1), some (.ref c), some (.ref (c + 726)), some (.ref (c + 740)), some (vi z), o5, o6] [] b g I J okv := by
  obtain ⟨hC, hM, ho⟩ := hI
  subst hz
  have kc := hC.1.1.1
  have km := hM.1.1
  refine ZV_aload_n dL_law_1053 rfl ?_
  refine ZV_aload_n dL_law_1054 rfl ?_
  refine cl_L_undo kL_law_162 rfl dL_law_1055 ⟨by omega, by omega⟩ (Nat.le_of_ble_eq_true rfl) ?_
  refine sp_L_undo hC ho (by omega)  ⟨by decide, by decide⟩ ?_ ?_
  · intro e0 g1 I1 J1 hF1 hC1
    have hM1 := hM.cfr hF1 (Nat.le_refl _)
    have km1 := hM1.1.1
    have ho1 : ksh X g1 (c + 740) = some (.inr (1, 1)) := ksh_g ho hF1.1
    show ZV X E_L_law _ _ (vi 1 :: _) _ _ _ _ _
    refine ZV_istore5 dL_law_1058 rfl (by decide) ?_
    refine ZV_aload_n dL_law_1060 rfl ?_
    refine cl_X7_undo kL_law_164 rfl dL_law_1061 (by assumption) (Nat.le_of_ble_eq_true rfl) ?_
    refine sp_X7_undo hM1  (fun f0 I2 mp => ?_) (fun k f1 => by first | omega | exact absurd e0 f0 | exact absurd f0 e0 | exact absurd e1 f1 | exact absurd f1 e1 | exact absurd (show oneW Q.1 from ⟨e1, s, e2, e3⟩) f0 | exact absurd (show oneW Q.1 from ⟨f1, s, f2, f3⟩) e0 | exact absurd (show oneW Q.1 from ⟨e2, s, e3, e4⟩) f1 | exact absurd (show oneW Q.1 from ⟨f2, s, f3, f4⟩) e1 | (rw [e1] at f2; cases f2) | (rw [e2] at f1; cases f1))
    show ZV X E_L_law _ _ (vi 0 :: _) _ _ _ _ _
    exact lw_t19 (v := 0) ⟨hC1.mfr mp.1 (Nat.le_refl _), mp.2.1, ho1⟩ hn (by dsimp only; omega) (by dsimp only; omega) (by omega) mp.2.2 (fun e => absurd e (by decide))
  · intro k e1 g1 I1 J1 hF1 hC1 v hv1 hv2 hv3
    have hM1 := hM.cfr hF1 (Nat.le_refl _)
    have km1 := hM1.1.1
    have ho1 : ksh X g1 (c + 740) = some (.inr (1, 1)) := ksh_g ho hF1.1
    show ZV X E_L_law _ _ (vi 0 :: _) _ _ _ _ _
    refine ZV_istore5 dL_law_1058 rfl (by decide) ?_
    refine ZV_aload_n dL_law_1060 rfl ?_
    refine cl_X7_undo kL_law_164 rfl dL_law_1061 (by assumption) (Nat.le_of_ble_eq_true rfl) ?_
    refine sp_X7_undo hM1  (fun f0 => by first | omega | exact absurd e0 f0 | exact absurd f0 e0 | exact absurd e1 f1 | exact absurd f1 e1 | exact absurd (show oneW Q.1 from ⟨e1, s, e2, e3⟩) f0 | exact absurd (show oneW Q.1 from ⟨f1, s, f2, f3⟩) e0 | exact absurd (show oneW Q.1 from ⟨e2, s, e3, e4⟩) f1 | exact absurd (show oneW Q.1 from ⟨f2, s, f3, f4⟩) e1 | (rw [e1] at f2; cases f2) | (rw [e2] at f1; cases f1)) (fun k' f1 I2 mp => ?_)
    have es := (by omega : k = k')
    subst es
    show ZV X E_L_law _ _ (vi (k : Int) :: _) _ _ _ _ _
    exact lw_t19 ⟨hC1.mfr mp.1 (Nat.le_refl _), mp.2.1, ho1⟩ hn (by dsimp only; omega) (by dsimp only; omega) (Or.inl rfl) mp.2.2 (fun _ => ⟨hv1, hv3, hv2⟩)
theorem lw_t20 {o6 : Option Value} {w v x : Int} {b2 : Nat × Nat} (hI : LI X g I J c Q) (hn : LNx X c b z) (hb1 : b.1 ≤ b2.1 + 2) (hb2 : b.2 ≤ b2.2 + 12) (hw : w = 0 ∨ w = 1 ∨ w = 2) (hth : I (c + 726) 0 = w) (hv : w = 0 → r32 v ∧ J (c + 740) 0 = v ∧ vi x = vi v) : ZV X E_L_law 1120 [some (.ref X.2.2.2.2.1), some (.ref c), some (.ref (c + 726)), some (.ref (c + 740)), some (vi z), some (vi w), o6] [vi x] b2 g I J okv := by
  obtain ⟨x', hx1, hx2⟩ := vi_rep x
  obtain ⟨hx3, hx4⟩ := hx1
  have km := hI.2.1.1.1
  have ho := hI.2.2
  rw [hx2]
  have fin : ∀ y : Int, ZV X E_L_law 1150 [some (.ref X.2.2.2.2.1), some (.ref c), some (.ref (c + 726)), some (.ref (c + 740)), some (vi z), some (vi w), some (vi y)] [] b2 g I J okv := by
    intro y
    refine ZV_goto (tgt := 1603) dL_law_1150 (by decide) ?_
    exact hn g I J Q _ _ _ hb1 hb2 hI
  refine ZV_istore6 dL_law_1120 rfl (by decide) ?_
  refine ZV_aload_n dL_law_1122 rfl ?_
  refine cl_X7_thrown kL_law_97 rfl dL_law_1123 (by assumption) (Nat.le_of_ble_eq_true rfl) ?_
  refine sp_X7_thrown hI.2.1.1 ?_
  rw [hth]
  refine ZV_iload dL_law_1126 rfl ?_
  refine ZV_icmp_eq (tgt := 1133) dL_law_1128 (by decide) ⟨by omega, by omega⟩ ⟨by omega, by omega⟩ (fun h1128 => ?_) (fun h1128 => ?_)
  · refine ZV_iload dL_law_1133 rfl ?_
    refine ZV_if_ne (tgt := 1150) dL_law_1135 (by decide) ⟨by omega, by omega⟩ (fun h1135 => ?_) (fun h1135 => ?_)
    · exact fin _
    · have hw0 : w = 0 := by omega
      obtain ⟨⟨hv3, hv4⟩, hv5, hv6⟩ := hv hw0
      have exv : x' = v := by
        have e : vi x' = vi v := by rw [← hx2]; exact hv6
        have e2 : i32 x' = i32 v := by injection e
        exact i32_inj hx3 hx4 hv3 hv4 e2
      subst exv
      refine ZV_aload_n dL_law_1138 rfl ?_
      refine ZV_iconst dL_law_1139 ?_
      refine ZV_lald (0) dL_law_1140 (by assumption) (by first | rfl | omega) (by omega) (by omega) ?_
      rw [hv5]
      refine ZV_iload dL_law_1141 rfl ?_
      refine ZV_i2l dL_law_1143 ⟨by omega, by omega⟩ ?_
      refine ZV_lif_eq (tgt := 1150) dL_law_1144 dL_law_1145 (by decide) ⟨by omega, by omega⟩ ⟨by omega, by omega⟩ (fun h1144 => ?_) (fun h1144 => ?_)
      · exact fin _
      · omega
  · omega
theorem lw_c20 {o5 o6 : Option Value} (hI : LI X g I J c Q) (hn : LNx X c b z) (hb : 2 ≤ b.1 ∧ 12 ≤ b.2) (hz : z = (n : Int)) (hlen : n + 3 < X.2.2.2.2.2.1) (hl2 : X.2.2.2.2.2.1 ≤ 65536) : ZV X E_L_law 1097 [some (.ref X.2.2.2.2.1), some (.ref c), some (.ref (c + 726)), some (.ref (c + 740)), some (vi z), o5, o6] [] b g I J okv := by
  obtain ⟨hC, hM, ho⟩ := hI
  subst hz
  have kc := hC.1.1.1
  have km := hM.1.1
  obtain ⟨a1, ha1⟩ : ∃ a, a = (X.2.2.2.2.2.2 (n + 1)).toInt := ⟨_, rfl⟩
  have hr1 : r32 a1 := by rw [ha1]; exact i32r _
  obtain ⟨hl1, hu1⟩ := id hr1
  refine ZV_aload_n dL_law_1097 rfl ?_
  refine ZV_aload_n dL_law_1098 rfl ?_
  refine ZV_iload dL_law_1099 rfl ?_
  refine ZV_iconst dL_law_1101 ?_
  refine ZV_iadd dL_law_1102 ?_
  refine ZV_sld (n + 1) rfl dL_law_1103 (by omega) (by omega) (by omega) ?_
  rw [← ha1]
  refine ZV_aload_n dL_law_1104 rfl ?_
  refine cl_L_ifRemoved kL_law_165 rfl dL_law_1105 ⟨by omega, by omega⟩ (Nat.le_of_ble_eq_true rfl) ?_
  refine sp_L_ifRemoved hC ho (by omega) hr1 ⟨by decide, by decide⟩ ?_ ?_
  · intro e0 g1 I1 J1 hF1 hC1
    have hM1 := hM.cfr hF1 (Nat.le_refl _)
    have km1 := hM1.1.1
    have ho1 : ksh X g1 (c + 740) = some (.inr (1, 1)) := ksh_g ho hF1.1
    show ZV X E_L_law _ _ (vi 1 :: _) _ _ _ _ _
    refine ZV_istore5 dL_law_1108 rfl (by decide) ?_
    refine ZV_aload_n dL_law_1110 rfl ?_
    refine ZV_aload_n dL_law_1111 rfl ?_
    refine ZV_iload dL_law_1112 rfl ?_
    refine ZV_iconst dL_law_1114 ?_
    refine ZV_iadd dL_law_1115 ?_
    refine ZV_sld (n + 1) rfl dL_law_1116 (by omega) (by omega) (by omega) ?_
    rw [← ha1]
    refine cl_X7_ifRemoved kL_law_167 rfl dL_law_1117 (by assumption) (Nat.le_of_ble_eq_true rfl) ?_
    refine sp_X7_ifRemoved hM1 hr1 (fun f0 I2 mp => ?_) (fun f0 => by first | omega | exact absurd e0 f0 | exact absurd f0 e0 | exact absurd e1 f1 | exact absurd f1 e1 | exact absurd (show oneW Q.1 from ⟨e1, s, e2, e3⟩) f0 | exact absurd (show oneW Q.1 from ⟨f1, s, f2, f3⟩) e0 | exact absurd (show oneW Q.1 from ⟨e2, s, e3, e4⟩) f1 | exact absurd (show oneW Q.1 from ⟨f2, s, f3, f4⟩) e1 | (rw [e1] at f2; cases f2) | (rw [e2] at f1; cases f1))
    show ZV X E_L_law _ _ (vi 0 :: _) _ _ _ _ _
    exact lw_t20 (v := 0) ⟨hC1.mfr mp.1 (Nat.le_refl _), mp.2.1, ho1⟩ hn (by dsimp only; omega) (by dsimp only; omega) (by omega) mp.2.2 (fun e => absurd e (by decide))
  · intro e0 g1 I1 J1 hF1 hC1 v hv1 hv2 hv3
    have hM1 := hM.cfr hF1 (Nat.le_refl _)
    have km1 := hM1.1.1
    have ho1 : ksh X g1 (c + 740) = some (.inr (1, 1)) := ksh_g ho hF1.1
    show ZV X E_L_law _ _ (vi 0 :: _) _ _ _ _ _
    refine ZV_istore5 dL_law_1108 rfl (by decide) ?_
    refine ZV_aload_n dL_law_1110 rfl ?_
    refine ZV_aload_n dL_law_1111 rfl ?_
    refine ZV_iload dL_law_1112 rfl ?_
    refine ZV_iconst dL_law_1114 ?_
    refine ZV_iadd dL_law_1115 ?_
    refine ZV_sld (n + 1) rfl dL_law_1116 (by omega) (by omega) (by omega) ?_
    rw [← ha1]
    refine cl_X7_ifRemoved kL_law_167 rfl dL_law_1117 (by assumption) (Nat.le_of_ble_eq_true rfl) ?_
    refine sp_X7_ifRemoved hM1 hr1 (fun f0 => by first | omega | exact absurd e0 f0 | exact absurd f0 e0 | exact absurd e1 f1 | exact absurd f1 e1 | exact absurd (show oneW Q.1 from ⟨e1, s, e2, e3⟩) f0 | exact absurd (show oneW Q.1 from ⟨f1, s, f2, f3⟩) e0 | exact absurd (show oneW Q.1 from ⟨e2, s, e3, e4⟩) f1 | exact absurd (show oneW Q.1 from ⟨f2, s, f3, f4⟩) e1 | (rw [e1] at f2; cases f2) | (rw [e2] at f1; cases f1)) (fun f0 I2 mp => ?_)
    show ZV X E_L_law _ _ (vi (hangN Q.2.1 a1.toNat) :: _) _ _ _ _ _
    exact lw_t20 ⟨hC1.mfr mp.1 (Nat.le_refl _), mp.2.1, ho1⟩ hn (by dsimp only; omega) (by dsimp only; omega) (Or.inl rfl) mp.2.2 (fun _ => ⟨hv1, hv3, hv2⟩)
theorem lw_t21 {o6 : Option Value} {w v x : Int} {b2 : Nat × Nat} (hI : LI X g I J c Q) (hn : LNx X c b z) (hb1 : b.1 ≤ b2.1 + 2) (hb2 : b.2 ≤ b2.2 + 12) (hw : w = 0 ∨ w = 1 ∨ w = 2) (hth : I (c + 726) 0 = w) (hv : w = 0 → r32 v ∧ J (c + 740) 0 = v ∧ vi x = vi v) : ZV X E_L_law 1176 [some (.ref X.2.2.2.2.1), some (.ref c), some (.ref (c + 726)), some (.ref (c + 740)), some (vi z), some (vi w), o6] [vi x] b2 g I J okv := by
  obtain ⟨x', hx1, hx2⟩ := vi_rep x
  obtain ⟨hx3, hx4⟩ := hx1
  have km := hI.2.1.1.1
  have ho := hI.2.2
  rw [hx2]
  have fin : ∀ y : Int, ZV X E_L_law 1206 [some (.ref X.2.2.2.2.1), some (.ref c), some (.ref (c + 726)), some (.ref (c + 740)), some (vi z), some (vi w), some (vi y)] [] b2 g I J okv := by
    intro y
    refine ZV_goto (tgt := 1603) dL_law_1206 (by decide) ?_
    exact hn g I J Q _ _ _ hb1 hb2 hI
  refine ZV_istore6 dL_law_1176 rfl (by decide) ?_
  refine ZV_aload_n dL_law_1178 rfl ?_
  refine cl_X7_thrown kL_law_97 rfl dL_law_1179 (by assumption) (Nat.le_of_ble_eq_true rfl) ?_
  refine sp_X7_thrown hI.2.1.1 ?_
  rw [hth]
  refine ZV_iload dL_law_1182 rfl ?_
  refine ZV_icmp_eq (tgt := 1189) dL_law_1184 (by decide) ⟨by omega, by omega⟩ ⟨by omega, by omega⟩ (fun h1184 => ?_) (fun h1184 => ?_)
  · refine ZV_iload dL_law_1189 rfl ?_
    refine ZV_if_ne (tgt := 1206) dL_law_1191 (by decide) ⟨by omega, by omega⟩ (fun h1191 => ?_) (fun h1191 => ?_)
    · exact fin _
    · have hw0 : w = 0 := by omega
      obtain ⟨⟨hv3, hv4⟩, hv5, hv6⟩ := hv hw0
      have exv : x' = v := by
        have e : vi x' = vi v := by rw [← hx2]; exact hv6
        have e2 : i32 x' = i32 v := by injection e
        exact i32_inj hx3 hx4 hv3 hv4 e2
      subst exv
      refine ZV_aload_n dL_law_1194 rfl ?_
      refine ZV_iconst dL_law_1195 ?_
      refine ZV_lald (0) dL_law_1196 (by assumption) (by first | rfl | omega) (by omega) (by omega) ?_
      rw [hv5]
      refine ZV_iload dL_law_1197 rfl ?_
      refine ZV_i2l dL_law_1199 ⟨by omega, by omega⟩ ?_
      refine ZV_lif_eq (tgt := 1206) dL_law_1200 dL_law_1201 (by decide) ⟨by omega, by omega⟩ ⟨by omega, by omega⟩ (fun h1200 => ?_) (fun h1200 => ?_)
      · exact fin _
      · omega
  · omega
theorem lw_c21 {o5 o6 : Option Value} (hI : LI X g I J c Q) (hn : LNx X c b z) (hb : 2 ≤ b.1 ∧ 12 ≤ b.2) (hz : z = (n : Int)) (hlen : n + 3 < X.2.2.2.2.2.1) (hl2 : X.2.2.2.2.2.1 ≤ 65536) : ZV X E_L_law 1153 [some (.ref X.2.2.2.2.1), some (.ref c), some (.ref (c + 726)), some (.ref (c + 740)), some (vi z), o5, o6] [] b g I J okv := by
  obtain ⟨hC, hM, ho⟩ := hI
  subst hz
  have kc := hC.1.1.1
  have km := hM.1.1
  obtain ⟨a1, ha1⟩ : ∃ a, a = (X.2.2.2.2.2.2 (n + 1)).toInt := ⟨_, rfl⟩
  have hr1 : r32 a1 := by rw [ha1]; exact i32r _
  obtain ⟨hl1, hu1⟩ := id hr1
  refine ZV_aload_n dL_law_1153 rfl ?_
  refine ZV_aload_n dL_law_1154 rfl ?_
  refine ZV_iload dL_law_1155 rfl ?_
  refine ZV_iconst dL_law_1157 ?_
  refine ZV_iadd dL_law_1158 ?_
  refine ZV_sld (n + 1) rfl dL_law_1159 (by omega) (by omega) (by omega) ?_
  rw [← ha1]
  refine ZV_aload_n dL_law_1160 rfl ?_
  refine cl_L_freeYear kL_law_168 rfl dL_law_1161 ⟨by omega, by omega⟩ (Nat.le_of_ble_eq_true rfl) ?_
  refine sp_L_freeYear hC ho (by omega) hr1 ⟨by decide, by decide⟩ ?_ ?_
  · intro e0 g1 I1 J1 hF1 hC1
    have hM1 := hM.cfr hF1 (Nat.le_refl _)
    have km1 := hM1.1.1
    have ho1 : ksh X g1 (c + 740) = some (.inr (1, 1)) := ksh_g ho hF1.1
    show ZV X E_L_law _ _ (vi 1 :: _) _ _ _ _ _
    refine ZV_istore5 dL_law_1164 rfl (by decide) ?_
    refine ZV_aload_n dL_law_1166 rfl ?_
    refine ZV_aload_n dL_law_1167 rfl ?_
    refine ZV_iload dL_law_1168 rfl ?_
    refine ZV_iconst dL_law_1170 ?_
    refine ZV_iadd dL_law_1171 ?_
    refine ZV_sld (n + 1) rfl dL_law_1172 (by omega) (by omega) (by omega) ?_
    rw [← ha1]
    refine cl_X7_freeYear kL_law_170 rfl dL_law_1173 (by assumption) (Nat.le_of_ble_eq_true rfl) ?_
    refine sp_X7_freeYear hM1 hr1 (fun f0 I2 mp => ?_) (fun f0 => by first | omega | exact absurd e0 f0 | exact absurd f0 e0 | exact absurd e1 f1 | exact absurd f1 e1 | exact absurd (show oneW Q.1 from ⟨e1, s, e2, e3⟩) f0 | exact absurd (show oneW Q.1 from ⟨f1, s, f2, f3⟩) e0 | exact absurd (show oneW Q.1 from ⟨e2, s, e3, e4⟩) f1 | exact absurd (show oneW Q.1 from ⟨f2, s, f3, f4⟩) e1 | (rw [e1] at f2; cases f2) | (rw [e2] at f1; cases f1))
    show ZV X E_L_law _ _ (vi 0 :: _) _ _ _ _ _
    exact lw_t21 (v := 0) ⟨hC1.mfr mp.1 (Nat.le_refl _), mp.2.1, ho1⟩ hn (by dsimp only; omega) (by dsimp only; omega) (by omega) mp.2.2 (fun e => absurd e (by decide))
  · intro e0 g1 I1 J1 hF1 hC1 v hv1 hv2 hv3
    have hM1 := hM.cfr hF1 (Nat.le_refl _)
    have km1 := hM1.1.1
    have ho1 : ksh X g1 (c + 740) = some (.inr (1, 1)) := ksh_g ho hF1.1
    show ZV X E_L_law _ _ (vi 0 :: _) _ _ _ _ _
    refine ZV_istore5 dL_law_1164 rfl (by decide) ?_
    refine ZV_aload_n dL_law_1166 rfl ?_
    refine ZV_aload_n dL_law_1167 rfl ?_
    refine ZV_iload dL_law_1168 rfl ?_
    refine ZV_iconst dL_law_1170 ?_
    refine ZV_iadd dL_law_1171 ?_
    refine ZV_sld (n + 1) rfl dL_law_1172 (by omega) (by omega) (by omega) ?_
    rw [← ha1]
    refine cl_X7_freeYear kL_law_170 rfl dL_law_1173 (by assumption) (Nat.le_of_ble_eq_true rfl) ?_
    refine sp_X7_freeYear hM1 hr1 (fun f0 => by first | omega | exact absurd e0 f0 | exact absurd f0 e0 | exact absurd e1 f1 | exact absurd f1 e1 | exact absurd (show oneW Q.1 from ⟨e1, s, e2, e3⟩) f0 | exact absurd (show oneW Q.1 from ⟨f1, s, f2, f3⟩) e0 | exact absurd (show oneW Q.1 from ⟨e2, s, e3, e4⟩) f1 | exact absurd (show oneW Q.1 from ⟨f2, s, f3, f4⟩) e1 | (rw [e1] at f2; cases f2) | (rw [e2] at f1; cases f1)) (fun f0 I2 mp => ?_)
    show ZV X E_L_law _ _ (vi (fyF Q.2.1 a1.toNat 2000) :: _) _ _ _ _ _
    exact lw_t21 ⟨hC1.mfr mp.1 (Nat.le_refl _), mp.2.1, ho1⟩ hn (by dsimp only; omega) (by dsimp only; omega) (Or.inl rfl) mp.2.2 (fun _ => ⟨hv1, hv3, hv2⟩)
theorem lw_t22 {o6 : Option Value} {w v x : Int} {b2 : Nat × Nat} (hI : LI X g I J c Q) (hn : LNx X c b z) (hb1 : b.1 ≤ b2.1 + 2) (hb2 : b.2 ≤ b2.2 + 12) (hw : w = 0 ∨ w = 1 ∨ w = 2) (hth : I (c + 726) 0 = w) (hv : w = 0 → r32 v ∧ J (c + 740) 0 = v ∧ vi x = vi v) : ZV X E_L_law 1232 [some (.ref X.2.2.2.2.1), some (.ref c), some (.ref (c + 726)), some (.ref (c + 740)), some (vi z), some (vi w), o6] [vi x] b2 g I J okv := by
  obtain ⟨x', hx1, hx2⟩ := vi_rep x
  obtain ⟨hx3, hx4⟩ := hx1
  have km := hI.2.1.1.1
  have ho := hI.2.2
  rw [hx2]
  have fin : ∀ y : Int, ZV X E_L_law 1262 [some (.ref X.2.2.2.2.1), some (.ref c), some (.ref (c + 726)), some (.ref (c + 740)), some (vi z), some (vi w), some (vi y)] [] b2 g I J okv := by
    intro y
    refine ZV_goto (tgt := 1603) dL_law_1262 (by decide) ?_
    exact hn g I J Q _ _ _ hb1 hb2 hI
  refine ZV_istore6 dL_law_1232 rfl (by decide) ?_
  refine ZV_aload_n dL_law_1234 rfl ?_
  refine cl_X7_thrown kL_law_97 rfl dL_law_1235 (by assumption) (Nat.le_of_ble_eq_true rfl) ?_
  refine sp_X7_thrown hI.2.1.1 ?_
  rw [hth]
  refine ZV_iload dL_law_1238 rfl ?_
  refine ZV_icmp_eq (tgt := 1245) dL_law_1240 (by decide) ⟨by omega, by omega⟩ ⟨by omega, by omega⟩ (fun h1240 => ?_) (fun h1240 => ?_)
  · refine ZV_iload dL_law_1245 rfl ?_
    refine ZV_if_ne (tgt := 1262) dL_law_1247 (by decide) ⟨by omega, by omega⟩ (fun h1247 => ?_) (fun h1247 => ?_)
    · exact fin _
    · have hw0 : w = 0 := by omega
      obtain ⟨⟨hv3, hv4⟩, hv5, hv6⟩ := hv hw0
      have exv : x' = v := by
        have e : vi x' = vi v := by rw [← hx2]; exact hv6
        have e2 : i32 x' = i32 v := by injection e
        exact i32_inj hx3 hx4 hv3 hv4 e2
      subst exv
      refine ZV_aload_n dL_law_1250 rfl ?_
      refine ZV_iconst dL_law_1251 ?_
      refine ZV_lald (0) dL_law_1252 (by assumption) (by first | rfl | omega) (by omega) (by omega) ?_
      rw [hv5]
      refine ZV_iload dL_law_1253 rfl ?_
      refine ZV_i2l dL_law_1255 ⟨by omega, by omega⟩ ?_
      refine ZV_lif_eq (tgt := 1262) dL_law_1256 dL_law_1257 (by decide) ⟨by omega, by omega⟩ ⟨by omega, by omega⟩ (fun h1256 => ?_) (fun h1256 => ?_)
      · exact fin _
      · omega
  · omega
theorem lw_c22 {o5 o6 : Option Value} (hI : LI X g I J c Q) (hn : LNx X c b z) (hb : 2 ≤ b.1 ∧ 12 ≤ b.2) (hz : z = (n : Int)) (hlen : n + 3 < X.2.2.2.2.2.1) (hl2 : X.2.2.2.2.2.1 ≤ 65536) : ZV X E_L_law 1209 [some (.ref X.2.2.2.2.1), some (.ref c), some (.ref (c + 726)), some (.ref (c + 740)), some (vi z), o5, o6] [] b g I J okv := by
  obtain ⟨hC, hM, ho⟩ := hI
  subst hz
  have kc := hC.1.1.1
  have km := hM.1.1
  obtain ⟨a1, ha1⟩ : ∃ a, a = (X.2.2.2.2.2.2 (n + 1)).toInt := ⟨_, rfl⟩
  have hr1 : r32 a1 := by rw [ha1]; exact i32r _
  obtain ⟨hl1, hu1⟩ := id hr1
  refine ZV_aload_n dL_law_1209 rfl ?_
  refine ZV_aload_n dL_law_1210 rfl ?_
  refine ZV_iload dL_law_1211 rfl ?_
  refine ZV_iconst dL_law_1213 ?_
  refine ZV_iadd dL_law_1214 ?_
  refine ZV_sld (n + 1) rfl dL_law_1215 (by omega) (by omega) (by omega) ?_
  rw [← ha1]
  refine ZV_aload_n dL_law_1216 rfl ?_
  refine cl_L_lettersWith kL_law_171 rfl dL_law_1217 ⟨by omega, by omega⟩ (Nat.le_of_ble_eq_true rfl) ?_
  refine sp_L_lettersWith hC ho (by omega) hr1 ⟨by decide, by decide⟩ ?_ ?_
  · intro e0 g1 I1 J1 hF1 hC1
    have hM1 := hM.cfr hF1 (Nat.le_refl _)
    have km1 := hM1.1.1
    have ho1 : ksh X g1 (c + 740) = some (.inr (1, 1)) := ksh_g ho hF1.1
    show ZV X E_L_law _ _ (vi 1 :: _) _ _ _ _ _
    refine ZV_istore5 dL_law_1220 rfl (by decide) ?_
    refine ZV_aload_n dL_law_1222 rfl ?_
    refine ZV_aload_n dL_law_1223 rfl ?_
    refine ZV_iload dL_law_1224 rfl ?_
    refine ZV_iconst dL_law_1226 ?_
    refine ZV_iadd dL_law_1227 ?_
    refine ZV_sld (n + 1) rfl dL_law_1228 (by omega) (by omega) (by omega) ?_
    rw [← ha1]
    refine cl_X7_lettersWith kL_law_173 rfl dL_law_1229 (by assumption) (Nat.le_of_ble_eq_true rfl) ?_
    refine sp_X7_lettersWith hM1 hr1 (fun f0 I2 mp => ?_) (fun f0 => by first | omega | exact absurd e0 f0 | exact absurd f0 e0 | exact absurd e1 f1 | exact absurd f1 e1 | exact absurd (show oneW Q.1 from ⟨e1, s, e2, e3⟩) f0 | exact absurd (show oneW Q.1 from ⟨f1, s, f2, f3⟩) e0 | exact absurd (show oneW Q.1 from ⟨e2, s, e3, e4⟩) f1 | exact absurd (show oneW Q.1 from ⟨f2, s, f3, f4⟩) e1 | (rw [e1] at f2; cases f2) | (rw [e2] at f1; cases f1))
    show ZV X E_L_law _ _ (vi 0 :: _) _ _ _ _ _
    exact lw_t22 (v := 0) ⟨hC1.mfr mp.1 (Nat.le_refl _), mp.2.1, ho1⟩ hn (by dsimp only; omega) (by dsimp only; omega) (by omega) mp.2.2 (fun e => absurd e (by decide))
  · intro e0 g1 I1 J1 hF1 hC1 v hv1 hv2 hv3
    have hM1 := hM.cfr hF1 (Nat.le_refl _)
    have km1 := hM1.1.1
    have ho1 : ksh X g1 (c + 740) = some (.inr (1, 1)) := ksh_g ho hF1.1
    show ZV X E_L_law _ _ (vi 0 :: _) _ _ _ _ _
    refine ZV_istore5 dL_law_1220 rfl (by decide) ?_
    refine ZV_aload_n dL_law_1222 rfl ?_
    refine ZV_aload_n dL_law_1223 rfl ?_
    refine ZV_iload dL_law_1224 rfl ?_
    refine ZV_iconst dL_law_1226 ?_
    refine ZV_iadd dL_law_1227 ?_
    refine ZV_sld (n + 1) rfl dL_law_1228 (by omega) (by omega) (by omega) ?_
    rw [← ha1]
    refine cl_X7_lettersWith kL_law_173 rfl dL_law_1229 (by assumption) (Nat.le_of_ble_eq_true rfl) ?_
    refine sp_X7_lettersWith hM1 hr1 (fun f0 => by first | omega | exact absurd e0 f0 | exact absurd f0 e0 | exact absurd e1 f1 | exact absurd f1 e1 | exact absurd (show oneW Q.1 from ⟨e1, s, e2, e3⟩) f0 | exact absurd (show oneW Q.1 from ⟨f1, s, f2, f3⟩) e0 | exact absurd (show oneW Q.1 from ⟨e2, s, e3, e4⟩) f1 | exact absurd (show oneW Q.1 from ⟨f2, s, f3, f4⟩) e1 | (rw [e1] at f2; cases f2) | (rw [e2] at f1; cases f1)) (fun f0 I2 mp => ?_)
    show ZV X E_L_law _ _ (vi (letdN (aSty Q.2.1 a1)) :: _) _ _ _ _ _
    exact lw_t22 ⟨hC1.mfr mp.1 (Nat.le_refl _), mp.2.1, ho1⟩ hn (by dsimp only; omega) (by dsimp only; omega) (Or.inl rfl) mp.2.2 (fun _ => ⟨hv1, hv3, hv2⟩)
theorem lw_c23 {o5 o6 : Option Value} (hI : LI X g I J c Q) (hn : LNx X c b z) : ZV X E_L_law 1265 [some (.ref X.2.2.2.2.1), some (.ref c), some (.ref (c + 726)), some (.ref (c + 740)), some (vi z), o5, o6] [] b g I J okv := by
  obtain ⟨hC, hM, ho⟩ := hI
  have kc := hC.1.1.1
  have km := hM.1.1
  refine ZV_aload_n dL_law_1265 rfl ?_
  refine cl_X6_bestStyle kL_law_174 rfl dL_law_1266 (by assumption) (Nat.le_of_ble_eq_true rfl) ?_
  refine sp_X6_bestStyle hC ?_
  intro I1 J1 hF1 hC1
  have hM1 := hM.cfr (hF1.lf (c + 740) J1) (Nat.le_refl _)
  have km1 := hM1.1.1
  obtain ⟨v, hv1, hv2⟩ := vi_rep (bsF Q.2.1 4).1
  obtain ⟨hv3, hv4⟩ := hv1
  show ZV X E_L_law _ _ (vi (bsF Q.2.1 4).1 :: _) _ _ _ _ _
  rw [hv2]
  refine ZV_aload_n dL_law_1269 rfl ?_
  refine cl_X7_bestStyle kL_law_177 rfl dL_law_1270 (by assumption) (Nat.le_of_ble_eq_true rfl) ?_
  refine sp_X7_bestStyle hM1 ?_
  intro I2 mp
  show ZV X E_L_law _ _ (vi (bsF Q.2.1 4).1 :: _) _ _ _ _ _
  rw [hv2]
  refine ZV_icmp_eq (tgt := 1603) dL_law_1273 (by decide) ⟨by omega, by omega⟩ ⟨by omega, by omega⟩ (fun h1273 => ?_) (fun h1273 => ?_)
  · exact hn g I2 J1 Q _ _ _ (by omega) (by omega) ⟨hC1.mfr mp.1 (Nat.le_refl _), mp.2.1, ksh_g ho hF1.1⟩
  · omega
theorem lw_c24 {o5 o6 : Option Value} (hI : LI X g I J c Q) (hn : LNx X c b z) : ZV X E_L_law 1278 [some (.ref X.2.2.2.2.1), some (.ref c), some (.ref (c + 726)), some (.ref (c + 740)), some (vi z), o5, o6] [] b g I J okv := by
  obtain ⟨hC, hM, ho⟩ := hI
  have kc := hC.1.1.1
  have km := hM.1.1
  refine ZV_aload_n dL_law_1278 rfl ?_
  refine cl_X6_weightiest kL_law_178 rfl dL_law_1279 (by assumption) (Nat.le_of_ble_eq_true rfl) ?_
  refine sp_X6_weightiest hC ?_
  intro g1 I1 J1 hF1 hC1
  have hM1 := hM.cfr (hF1.lf (c + 740) J1) (Nat.le_refl _)
  have km1 := hM1.1.1
  obtain ⟨v, hv1, hv2⟩ := vi_rep (wtF Q.2.1 (aN Q.2.1)).1
  obtain ⟨hv3, hv4⟩ := hv1
  show ZV X E_L_law _ _ (vi (wtF Q.2.1 (aN Q.2.1)).1 :: _) _ _ _ _ _
  rw [hv2]
  refine ZV_aload_n dL_law_1282 rfl ?_
  refine cl_X7_weightiest kL_law_181 rfl dL_law_1283 (by assumption) (Nat.le_of_ble_eq_true rfl) ?_
  refine sp_X7_weightiest hM1 ?_
  intro I2 mp
  show ZV X E_L_law _ _ (vi (wtF Q.2.1 (aN Q.2.1)).1 :: _) _ _ _ _ _
  rw [hv2]
  refine ZV_icmp_eq (tgt := 1603) dL_law_1286 (by decide) ⟨by omega, by omega⟩ ⟨by omega, by omega⟩ (fun h1286 => ?_) (fun h1286 => ?_)
  · exact hn g1 I2 J1 Q _ _ _ (by omega) (by omega) ⟨hC1.mfr mp.1 (Nat.le_refl _), mp.2.1, ksh_g ho hF1.1⟩
  · omega
theorem lw_t25 {o6 : Option Value} {w v x : Int} {b2 : Nat × Nat} (hI : LI X g I J c Q) (hn : LNx X c b z) (hb1 : b.1 ≤ b2.1 + 2) (hb2 : b.2 ≤ b2.2 + 12) (hw : w = 0 ∨ w = 1 ∨ w = 2) (hth : I (c + 726) 0 = w) (hv : w = 0 → r32 v ∧ J (c + 740) 0 = v ∧ vi x = vi v) : ZV X E_L_law 1358 [some (.ref X.2.2.2.2.1), some (.ref c), some (.ref (c + 726)), some (.ref (c + 740)), some (vi z), some (vi w), o6] [vi x] b2 g I J okv := by
  obtain ⟨x', hx1, hx2⟩ := vi_rep x
  obtain ⟨hx3, hx4⟩ := hx1
  have km := hI.2.1.1.1
  have ho := hI.2.2
  rw [hx2]
  have fin : ∀ y : Int, ZV X E_L_law 1388 [some (.ref X.2.2.2.2.1), some (.ref c), some (.ref (c + 726)), some (.ref (c + 740)), some (vi z), some (vi w), some (vi y)] [] b2 g I J okv := by
    intro y
    refine ZV_goto (tgt := 1603) dL_law_1388 (by decide) ?_
    exact hn g I J Q _ _ _ hb1 hb2 hI
  refine ZV_istore6 dL_law_1358 rfl (by decide) ?_
  refine ZV_aload_n dL_law_1360 rfl ?_
  refine cl_X7_thrown kL_law_97 rfl dL_law_1361 (by assumption) (Nat.le_of_ble_eq_true rfl) ?_
  refine sp_X7_thrown hI.2.1.1 ?_
  rw [hth]
  refine ZV_iload dL_law_1364 rfl ?_
  refine ZV_icmp_eq (tgt := 1371) dL_law_1366 (by decide) ⟨by omega, by omega⟩ ⟨by omega, by omega⟩ (fun h1366 => ?_) (fun h1366 => ?_)
  · refine ZV_iload dL_law_1371 rfl ?_
    refine ZV_if_ne (tgt := 1388) dL_law_1373 (by decide) ⟨by omega, by omega⟩ (fun h1373 => ?_) (fun h1373 => ?_)
    · exact fin _
    · have hw0 : w = 0 := by omega
      obtain ⟨⟨hv3, hv4⟩, hv5, hv6⟩ := hv hw0
      have exv : x' = v := by
        have e : vi x' = vi v := by rw [← hx2]; exact hv6
        have e2 : i32 x' = i32 v := by injection e
        exact i32_inj hx3 hx4 hv3 hv4 e2
      subst exv
      refine ZV_aload_n dL_law_1376 rfl ?_
      refine ZV_iconst dL_law_1377 ?_
      refine ZV_lald (0) dL_law_1378 (by assumption) (by first | rfl | omega) (by omega) (by omega) ?_
      rw [hv5]
      refine ZV_iload dL_law_1379 rfl ?_
      refine ZV_i2l dL_law_1381 ⟨by omega, by omega⟩ ?_
      refine ZV_lif_eq (tgt := 1388) dL_law_1382 dL_law_1383 (by decide) ⟨by omega, by omega⟩ ⟨by omega, by omega⟩ (fun h1382 => ?_) (fun h1382 => ?_)
      · exact fin _
      · omega
  · omega
theorem lw_c25 {o5 o6 : Option Value} (hI : LI X g I J c Q) (hn : LNx X c b z) (hb : 2 ≤ b.1 ∧ 12 ≤ b.2) (hz : z = (n : Int)) (hlen : n + 3 < X.2.2.2.2.2.1) (hl2 : X.2.2.2.2.2.1 ≤ 65536) : ZV X E_L_law 1291 [some (.ref X.2.2.2.2.1), some (.ref c), some (.ref (c + 726)), some (.ref (c + 740)), some (vi z), o5, o6] [] b g I J okv := by
  obtain ⟨hC, hM, ho⟩ := hI
  subst hz
  have kc := hC.1.1.1
  have km := hM.1.1
  obtain ⟨a1, ha1⟩ : ∃ a, a = (X.2.2.2.2.2.2 (n + 1)).toInt := ⟨_, rfl⟩
  have hr1 : r32 a1 := by rw [ha1]; exact i32r _
  obtain ⟨hl1, hu1⟩ := id hr1
  obtain ⟨a2, ha2⟩ : ∃ a, a = (X.2.2.2.2.2.2 (n + 2)).toInt := ⟨_, rfl⟩
  have hr2 : r32 a2 := by rw [ha2]; exact i32r _
  obtain ⟨hl2, hu2⟩ := id hr2
  obtain ⟨a3, ha3⟩ : ∃ a, a = (X.2.2.2.2.2.2 (n + 3)).toInt := ⟨_, rfl⟩
  have hr3 : r32 a3 := by rw [ha3]; exact i32r _
  obtain ⟨hl3, hu3⟩ := id hr3
  refine ZV_aload_n dL_law_1291 rfl ?_
  refine ZV_aload_n dL_law_1292 rfl ?_
  refine ZV_iload dL_law_1293 rfl ?_
  refine ZV_iconst dL_law_1295 ?_
  refine ZV_iadd dL_law_1296 ?_
  refine ZV_sld (n + 1) rfl dL_law_1297 (by omega) (by omega) (by omega) ?_
  rw [← ha1]
  refine ZV_aload_n dL_law_1298 rfl ?_
  refine ZV_iload dL_law_1299 rfl ?_
  refine ZV_iconst dL_law_1301 ?_
  refine ZV_iadd dL_law_1302 ?_
  refine ZV_sld (n + 2) rfl dL_law_1303 (by omega) (by omega) (by omega) ?_
  rw [← ha2]
  refine ZV_i2l dL_law_1304 ⟨by omega, by omega⟩ ?_
  refine ZV_bipush dL_law_1305 (by decide) ?_
  refine ZV_lshl dL_law_1307 (32) (by omega) (by omega) ?_
  refine ZV_aload_n dL_law_1308 rfl ?_
  refine ZV_iload dL_law_1309 rfl ?_
  refine ZV_iconst dL_law_1311 ?_
  refine ZV_iadd dL_law_1312 ?_
  refine ZV_sld (n + 3) rfl dL_law_1313 (by omega) (by omega) (by omega) ?_
  rw [← ha3]
  refine ZV_i2l dL_law_1314 ⟨by omega, by omega⟩ ?_
  refine ZV_ldc2 (z := 4294967295) dL_law_1315 lL_law_182 ?_
  refine ZV_land dL_law_1318 32 (by decide) (by decide) ?_
  refine ZV_lor dL_law_1319 32 (by omega) (by omega) (by omega) (by omega) ?_
  refine ZV_aload_n dL_law_1320 rfl ?_
  refine cl_L_runScript kL_law_184 rfl dL_law_1321 ⟨by omega, by omega⟩ (Nat.le_of_ble_eq_true rfl) ?_
  refine sp_L_runScript hC ho (by omega) hr1 (lg_rng hr2 a3) ⟨by decide, by decide⟩ ?_ ?_ ?_
  · intro e0 g1 I1 J1 hF1 hC1
    have hM1 := hM.cfr hF1 (Nat.le_refl _)
    have km1 := hM1.1.1
    have ho1 : ksh X g1 (c + 740) = some (.inr (1, 1)) := ksh_g ho hF1.1
    show ZV X E_L_law _ _ (vi 1 :: _) _ _ _ _ _
    refine ZV_istore5 dL_law_1324 rfl (by decide) ?_
    refine ZV_aload_n dL_law_1326 rfl ?_
    refine ZV_aload_n dL_law_1327 rfl ?_
    refine ZV_iload dL_law_1328 rfl ?_
    refine ZV_iconst dL_law_1330 ?_
    refine ZV_iadd dL_law_1331 ?_
    refine ZV_sld (n + 1) rfl dL_law_1332 (by omega) (by omega) (by omega) ?_
    rw [← ha1]
    refine ZV_aload_n dL_law_1333 rfl ?_
    refine ZV_iload dL_law_1334 rfl ?_
    refine ZV_iconst dL_law_1336 ?_
    refine ZV_iadd dL_law_1337 ?_
    refine ZV_sld (n + 2) rfl dL_law_1338 (by omega) (by omega) (by omega) ?_
    rw [← ha2]
    refine ZV_i2l dL_law_1339 ⟨by omega, by omega⟩ ?_
    refine ZV_bipush dL_law_1340 (by decide) ?_
    refine ZV_lshl dL_law_1342 (32) (by omega) (by omega) ?_
    refine ZV_aload_n dL_law_1343 rfl ?_
    refine ZV_iload dL_law_1344 rfl ?_
    refine ZV_iconst dL_law_1346 ?_
    refine ZV_iadd dL_law_1347 ?_
    refine ZV_sld (n + 3) rfl dL_law_1348 (by omega) (by omega) (by omega) ?_
    rw [← ha3]
    refine ZV_i2l dL_law_1349 ⟨by omega, by omega⟩ ?_
    refine ZV_ldc2 (z := 4294967295) dL_law_1350 lL_law_182 ?_
    refine ZV_land dL_law_1353 32 (by decide) (by decide) ?_
    refine ZV_lor dL_law_1354 32 (by omega) (by omega) (by omega) (by omega) ?_
    refine cl_X7_runScript kL_law_187 rfl dL_law_1355 (by assumption) (Nat.le_of_ble_eq_true rfl) ?_
    refine sp_X7_runScript hM1 hr1 (lg_rng hr2 a3) (fun f0 I2 mp => ?_) (fun f0 f1 => by first | omega | exact absurd e0 f0 | exact absurd f0 e0 | exact absurd e1 f1 | exact absurd f1 e1 | exact absurd (show oneW Q.1 from ⟨e1, s, e2, e3⟩) f0 | exact absurd (show oneW Q.1 from ⟨f1, s, f2, f3⟩) e0 | exact absurd (show oneW Q.1 from ⟨e2, s, e3, e4⟩) f1 | exact absurd (show oneW Q.1 from ⟨f2, s, f3, f4⟩) e1 | (rw [e1] at f2; cases f2) | (rw [e2] at f1; cases f1)) (fun f0 f1 => by first | omega | exact absurd e0 f0 | exact absurd f0 e0 | exact absurd e1 f1 | exact absurd f1 e1 | exact absurd (show oneW Q.1 from ⟨e1, s, e2, e3⟩) f0 | exact absurd (show oneW Q.1 from ⟨f1, s, f2, f3⟩) e0 | exact absurd (show oneW Q.1 from ⟨e2, s, e3, e4⟩) f1 | exact absurd (show oneW Q.1 from ⟨f2, s, f3, f4⟩) e1 | (rw [e1] at f2; cases f2) | (rw [e2] at f1; cases f1))
    show ZV X E_L_law _ _ (vi 0 :: _) _ _ _ _ _
    exact lw_t25 (v := 0) ⟨hC1.mfr mp.1 (Nat.le_refl _), mp.2.1, ho1⟩ hn (by dsimp only; omega) (by dsimp only; omega) (by omega) mp.2.2 (fun e => absurd e (by decide))
  · intro e0 e1 g1 I1 J1 hF1 hC1
    have hM1 := hM.cfr hF1 (Nat.le_refl _)
    have km1 := hM1.1.1
    have ho1 : ksh X g1 (c + 740) = some (.inr (1, 1)) := ksh_g ho hF1.1
    show ZV X E_L_law _ _ (vi 1 :: _) _ _ _ _ _
    refine ZV_istore5 dL_law_1324 rfl (by decide) ?_
    refine ZV_aload_n dL_law_1326 rfl ?_
    refine ZV_aload_n dL_law_1327 rfl ?_
    refine ZV_iload dL_law_1328 rfl ?_
    refine ZV_iconst dL_law_1330 ?_
    refine ZV_iadd dL_law_1331 ?_
    refine ZV_sld (n + 1) rfl dL_law_1332 (by omega) (by omega) (by omega) ?_
    rw [← ha1]
    refine ZV_aload_n dL_law_1333 rfl ?_
    refine ZV_iload dL_law_1334 rfl ?_
    refine ZV_iconst dL_law_1336 ?_
    refine ZV_iadd dL_law_1337 ?_
    refine ZV_sld (n + 2) rfl dL_law_1338 (by omega) (by omega) (by omega) ?_
    rw [← ha2]
    refine ZV_i2l dL_law_1339 ⟨by omega, by omega⟩ ?_
    refine ZV_bipush dL_law_1340 (by decide) ?_
    refine ZV_lshl dL_law_1342 (32) (by omega) (by omega) ?_
    refine ZV_aload_n dL_law_1343 rfl ?_
    refine ZV_iload dL_law_1344 rfl ?_
    refine ZV_iconst dL_law_1346 ?_
    refine ZV_iadd dL_law_1347 ?_
    refine ZV_sld (n + 3) rfl dL_law_1348 (by omega) (by omega) (by omega) ?_
    rw [← ha3]
    refine ZV_i2l dL_law_1349 ⟨by omega, by omega⟩ ?_
    refine ZV_ldc2 (z := 4294967295) dL_law_1350 lL_law_182 ?_
    refine ZV_land dL_law_1353 32 (by decide) (by decide) ?_
    refine ZV_lor dL_law_1354 32 (by omega) (by omega) (by omega) (by omega) ?_
    refine cl_X7_runScript kL_law_187 rfl dL_law_1355 (by assumption) (Nat.le_of_ble_eq_true rfl) ?_
    refine sp_X7_runScript hM1 hr1 (lg_rng hr2 a3) (fun f0 => by first | omega | exact absurd e0 f0 | exact absurd f0 e0 | exact absurd e1 f1 | exact absurd f1 e1 | exact absurd (show oneW Q.1 from ⟨e1, s, e2, e3⟩) f0 | exact absurd (show oneW Q.1 from ⟨f1, s, f2, f3⟩) e0 | exact absurd (show oneW Q.1 from ⟨e2, s, e3, e4⟩) f1 | exact absurd (show oneW Q.1 from ⟨f2, s, f3, f4⟩) e1 | (rw [e1] at f2; cases f2) | (rw [e2] at f1; cases f1)) (fun f0 f1 I2 mp => ?_) (fun f0 f1 => by first | omega | exact absurd e0 f0 | exact absurd f0 e0 | exact absurd e1 f1 | exact absurd f1 e1 | exact absurd (show oneW Q.1 from ⟨e1, s, e2, e3⟩) f0 | exact absurd (show oneW Q.1 from ⟨f1, s, f2, f3⟩) e0 | exact absurd (show oneW Q.1 from ⟨e2, s, e3, e4⟩) f1 | exact absurd (show oneW Q.1 from ⟨f2, s, f3, f4⟩) e1 | (rw [e1] at f2; cases f2) | (rw [e2] at f1; cases f1))
    show ZV X E_L_law _ _ (vi 0 :: _) _ _ _ _ _
    exact lw_t25 (v := 0) ⟨hC1.mfr mp.1 (Nat.le_refl _), mp.2.1, ho1⟩ hn (by dsimp only; omega) (by dsimp only; omega) (by omega) mp.2.2 (fun e => absurd e (by decide))
  · intro e0 e1 g1 I1 J1 hF1 hC1 v hv1 hv2 hv3
    have hM1 := hM.cfr hF1 (Nat.le_refl _)
    have km1 := hM1.1.1
    have ho1 : ksh X g1 (c + 740) = some (.inr (1, 1)) := ksh_g ho hF1.1
    show ZV X E_L_law _ _ (vi 0 :: _) _ _ _ _ _
    refine ZV_istore5 dL_law_1324 rfl (by decide) ?_
    refine ZV_aload_n dL_law_1326 rfl ?_
    refine ZV_aload_n dL_law_1327 rfl ?_
    refine ZV_iload dL_law_1328 rfl ?_
    refine ZV_iconst dL_law_1330 ?_
    refine ZV_iadd dL_law_1331 ?_
    refine ZV_sld (n + 1) rfl dL_law_1332 (by omega) (by omega) (by omega) ?_
    rw [← ha1]
    refine ZV_aload_n dL_law_1333 rfl ?_
    refine ZV_iload dL_law_1334 rfl ?_
    refine ZV_iconst dL_law_1336 ?_
    refine ZV_iadd dL_law_1337 ?_
    refine ZV_sld (n + 2) rfl dL_law_1338 (by omega) (by omega) (by omega) ?_
    rw [← ha2]
    refine ZV_i2l dL_law_1339 ⟨by omega, by omega⟩ ?_
    refine ZV_bipush dL_law_1340 (by decide) ?_
    refine ZV_lshl dL_law_1342 (32) (by omega) (by omega) ?_
    refine ZV_aload_n dL_law_1343 rfl ?_
    refine ZV_iload dL_law_1344 rfl ?_
    refine ZV_iconst dL_law_1346 ?_
    refine ZV_iadd dL_law_1347 ?_
    refine ZV_sld (n + 3) rfl dL_law_1348 (by omega) (by omega) (by omega) ?_
    rw [← ha3]
    refine ZV_i2l dL_law_1349 ⟨by omega, by omega⟩ ?_
    refine ZV_ldc2 (z := 4294967295) dL_law_1350 lL_law_182 ?_
    refine ZV_land dL_law_1353 32 (by decide) (by decide) ?_
    refine ZV_lor dL_law_1354 32 (by omega) (by omega) (by omega) (by omega) ?_
    refine cl_X7_runScript kL_law_187 rfl dL_law_1355 (by assumption) (Nat.le_of_ble_eq_true rfl) ?_
    refine sp_X7_runScript hM1 hr1 (lg_rng hr2 a3) (fun f0 => by first | omega | exact absurd e0 f0 | exact absurd f0 e0 | exact absurd e1 f1 | exact absurd f1 e1 | exact absurd (show oneW Q.1 from ⟨e1, s, e2, e3⟩) f0 | exact absurd (show oneW Q.1 from ⟨f1, s, f2, f3⟩) e0 | exact absurd (show oneW Q.1 from ⟨e2, s, e3, e4⟩) f1 | exact absurd (show oneW Q.1 from ⟨f2, s, f3, f4⟩) e1 | (rw [e1] at f2; cases f2) | (rw [e2] at f1; cases f1)) (fun f0 f1 => by first | omega | exact absurd e0 f0 | exact absurd f0 e0 | exact absurd e1 f1 | exact absurd f1 e1 | exact absurd (show oneW Q.1 from ⟨e1, s, e2, e3⟩) f0 | exact absurd (show oneW Q.1 from ⟨f1, s, f2, f3⟩) e0 | exact absurd (show oneW Q.1 from ⟨e2, s, e3, e4⟩) f1 | exact absurd (show oneW Q.1 from ⟨f2, s, f3, f4⟩) e1 | (rw [e1] at f2; cases f2) | (rw [e2] at f1; cases f1)) (fun f0 f1 I2 mp => ?_)
    show ZV X E_L_law _ _ (vi (scF Q.2.1 (a2 * 2 ^ 32 + a3 % 2 ^ 32) a1.toNat) :: _) _ _ _ _ _
    exact lw_t25 ⟨hC1.mfr mp.1 (Nat.le_refl _), mp.2.1, ho1⟩ hn (by dsimp only; omega) (by dsimp only; omega) (Or.inl rfl) mp.2.2 (fun _ => ⟨hv1, hv3, hv2⟩)
theorem lw_t26 {o6 : Option Value} {w v x : Int} {b2 : Nat × Nat} (hI : LI X g I J c Q) (hn : LNx X c b z) (hb1 : b.1 ≤ b2.1 + 2) (hb2 : b.2 ≤ b2.2 + 12) (hw : w = 0 ∨ w = 1 ∨ w = 2) (hth : I (c + 726) 0 = w) (hv : w = 0 → r32 v ∧ J (c + 740) 0 = v ∧ vi x = vi v) : ZV X E_L_law 1458 [some (.ref X.2.2.2.2.1), some (.ref c), some (.ref (c + 726)), some (.ref (c + 740)), some (vi z), some (vi w), o6] [vi x] b2 g I J okv := by
  obtain ⟨x', hx1, hx2⟩ := vi_rep x
  obtain ⟨hx3, hx4⟩ := hx1
  have km := hI.2.1.1.1
  have ho := hI.2.2
  rw [hx2]
  have fin : ∀ y : Int, ZV X E_L_law 1488 [some (.ref X.2.2.2.2.1), some (.ref c), some (.ref (c + 726)), some (.ref (c + 740)), some (vi z), some (vi w), some (vi y)] [] b2 g I J okv := by
    intro y
    refine ZV_goto (tgt := 1603) dL_law_1488 (by decide) ?_
    exact hn g I J Q _ _ _ hb1 hb2 hI
  refine ZV_istore6 dL_law_1458 rfl (by decide) ?_
  refine ZV_aload_n dL_law_1460 rfl ?_
  refine cl_X7_thrown kL_law_97 rfl dL_law_1461 (by assumption) (Nat.le_of_ble_eq_true rfl) ?_
  refine sp_X7_thrown hI.2.1.1 ?_
  rw [hth]
  refine ZV_iload dL_law_1464 rfl ?_
  refine ZV_icmp_eq (tgt := 1471) dL_law_1466 (by decide) ⟨by omega, by omega⟩ ⟨by omega, by omega⟩ (fun h1466 => ?_) (fun h1466 => ?_)
  · refine ZV_iload dL_law_1471 rfl ?_
    refine ZV_if_ne (tgt := 1488) dL_law_1473 (by decide) ⟨by omega, by omega⟩ (fun h1473 => ?_) (fun h1473 => ?_)
    · exact fin _
    · have hw0 : w = 0 := by omega
      obtain ⟨⟨hv3, hv4⟩, hv5, hv6⟩ := hv hw0
      have exv : x' = v := by
        have e : vi x' = vi v := by rw [← hx2]; exact hv6
        have e2 : i32 x' = i32 v := by injection e
        exact i32_inj hx3 hx4 hv3 hv4 e2
      subst exv
      refine ZV_aload_n dL_law_1476 rfl ?_
      refine ZV_iconst dL_law_1477 ?_
      refine ZV_lald (0) dL_law_1478 (by assumption) (by first | rfl | omega) (by omega) (by omega) ?_
      rw [hv5]
      refine ZV_iload dL_law_1479 rfl ?_
      refine ZV_i2l dL_law_1481 ⟨by omega, by omega⟩ ?_
      refine ZV_lif_eq (tgt := 1488) dL_law_1482 dL_law_1483 (by decide) ⟨by omega, by omega⟩ ⟨by omega, by omega⟩ (fun h1482 => ?_) (fun h1482 => ?_)
      · exact fin _
      · omega
  · omega
theorem lw_c26 {o5 o6 : Option Value} (hI : LI X g I J c Q) (hn : LNx X c b z) (hb : 2 ≤ b.1 ∧ 12 ≤ b.2) (hz : z = (n : Int)) (hlen : n + 3 < X.2.2.2.2.2.1) (hl2 : X.2.2.2.2.2.1 ≤ 65536) : ZV X E_L_law 1391 [some (.ref X.2.2.2.2.1), some (.ref c), some (.ref (c + 726)), some (.ref (c + 740)), some (vi z), o5, o6] [] b g I J okv := by
  obtain ⟨hC, hM, ho⟩ := hI
  subst hz
  have kc := hC.1.1.1
  have km := hM.1.1
  obtain ⟨a1, ha1⟩ : ∃ a, a = (X.2.2.2.2.2.2 (n + 1)).toInt := ⟨_, rfl⟩
  have hr1 : r32 a1 := by rw [ha1]; exact i32r _
  obtain ⟨hl1, hu1⟩ := id hr1
  obtain ⟨a2, ha2⟩ : ∃ a, a = (X.2.2.2.2.2.2 (n + 2)).toInt := ⟨_, rfl⟩
  have hr2 : r32 a2 := by rw [ha2]; exact i32r _
  obtain ⟨hl2, hu2⟩ := id hr2
  obtain ⟨a3, ha3⟩ : ∃ a, a = (X.2.2.2.2.2.2 (n + 3)).toInt := ⟨_, rfl⟩
  have hr3 : r32 a3 := by rw [ha3]; exact i32r _
  obtain ⟨hl3, hu3⟩ := id hr3
  refine ZV_aload_n dL_law_1391 rfl ?_
  refine ZV_aload_n dL_law_1392 rfl ?_
  refine ZV_iload dL_law_1393 rfl ?_
  refine ZV_iconst dL_law_1395 ?_
  refine ZV_iadd dL_law_1396 ?_
  refine ZV_sld (n + 1) rfl dL_law_1397 (by omega) (by omega) (by omega) ?_
  rw [← ha1]
  refine ZV_i2l dL_law_1398 ⟨by omega, by omega⟩ ?_
  refine ZV_bipush dL_law_1399 (by decide) ?_
  refine ZV_lshl dL_law_1401 (32) (by omega) (by omega) ?_
  refine ZV_aload_n dL_law_1402 rfl ?_
  refine ZV_iload dL_law_1403 rfl ?_
  refine ZV_iconst dL_law_1405 ?_
  refine ZV_iadd dL_law_1406 ?_
  refine ZV_sld (n + 2) rfl dL_law_1407 (by omega) (by omega) (by omega) ?_
  rw [← ha2]
  refine ZV_i2l dL_law_1408 ⟨by omega, by omega⟩ ?_
  refine ZV_ldc2 (z := 4294967295) dL_law_1409 lL_law_182 ?_
  refine ZV_land dL_law_1412 32 (by decide) (by decide) ?_
  refine ZV_lor dL_law_1413 32 (by omega) (by omega) (by omega) (by omega) ?_
  refine ZV_aload_n dL_law_1414 rfl ?_
  refine ZV_iload dL_law_1415 rfl ?_
  refine ZV_iconst dL_law_1417 ?_
  refine ZV_iadd dL_law_1418 ?_
  refine ZV_sld (n + 3) rfl dL_law_1419 (by omega) (by omega) (by omega) ?_
  rw [← ha3]
  refine ZV_aload_n dL_law_1420 rfl ?_
  refine cl_L_simulate kL_law_188 rfl dL_law_1421 ⟨by omega, by omega⟩ (Nat.le_of_ble_eq_true rfl) ?_
  refine sp_L_simulate hC ho (by omega) (lg_rng hr1 a2) hr3 ⟨by decide, by decide⟩ ?_ ?_
  · intro e0 g1 I1 J1 hF1 hC1
    have hM1 := hM.cfr hF1 (Nat.le_refl _)
    have km1 := hM1.1.1
    have ho1 : ksh X g1 (c + 740) = some (.inr (1, 1)) := ksh_g ho hF1.1
    show ZV X E_L_law _ _ (vi 1 :: _) _ _ _ _ _
    refine ZV_istore5 dL_law_1424 rfl (by decide) ?_
    refine ZV_aload_n dL_law_1426 rfl ?_
    refine ZV_aload_n dL_law_1427 rfl ?_
    refine ZV_iload dL_law_1428 rfl ?_
    refine ZV_iconst dL_law_1430 ?_
    refine ZV_iadd dL_law_1431 ?_
    refine ZV_sld (n + 1) rfl dL_law_1432 (by omega) (by omega) (by omega) ?_
    rw [← ha1]
    refine ZV_i2l dL_law_1433 ⟨by omega, by omega⟩ ?_
    refine ZV_bipush dL_law_1434 (by decide) ?_
    refine ZV_lshl dL_law_1436 (32) (by omega) (by omega) ?_
    refine ZV_aload_n dL_law_1437 rfl ?_
    refine ZV_iload dL_law_1438 rfl ?_
    refine ZV_iconst dL_law_1440 ?_
    refine ZV_iadd dL_law_1441 ?_
    refine ZV_sld (n + 2) rfl dL_law_1442 (by omega) (by omega) (by omega) ?_
    rw [← ha2]
    refine ZV_i2l dL_law_1443 ⟨by omega, by omega⟩ ?_
    refine ZV_ldc2 (z := 4294967295) dL_law_1444 lL_law_182 ?_
    refine ZV_land dL_law_1447 32 (by decide) (by decide) ?_
    refine ZV_lor dL_law_1448 32 (by omega) (by omega) (by omega) (by omega) ?_
    refine ZV_aload_n dL_law_1449 rfl ?_
    refine ZV_iload dL_law_1450 rfl ?_
    refine ZV_iconst dL_law_1452 ?_
    refine ZV_iadd dL_law_1453 ?_
    refine ZV_sld (n + 3) rfl dL_law_1454 (by omega) (by omega) (by omega) ?_
    rw [← ha3]
    refine cl_X7_simulate kL_law_191 rfl dL_law_1455 (by assumption) (Nat.le_of_ble_eq_true rfl) ?_
    refine sp_X7_simulate hM1 hr3 (fun f0 I2 mp => ?_) (fun f0 => by first | omega | exact absurd e0 f0 | exact absurd f0 e0 | exact absurd e1 f1 | exact absurd f1 e1 | exact absurd (show oneW Q.1 from ⟨e1, s, e2, e3⟩) f0 | exact absurd (show oneW Q.1 from ⟨f1, s, f2, f3⟩) e0 | exact absurd (show oneW Q.1 from ⟨e2, s, e3, e4⟩) f1 | exact absurd (show oneW Q.1 from ⟨f2, s, f3, f4⟩) e1 | (rw [e1] at f2; cases f2) | (rw [e2] at f1; cases f1))
    show ZV X E_L_law _ _ (vi 0 :: _) _ _ _ _ _
    exact lw_t26 (v := 0) ⟨hC1.mfr mp.1 (Nat.le_refl _), mp.2.1, ho1⟩ hn (by dsimp only; omega) (by dsimp only; omega) (by omega) mp.2.2 (fun e => absurd e (by decide))
  · intro e0 g1 I1 J1 hF1 hC1 v hv1 hv2 hv3
    have hM1 := hM.cfr hF1 (Nat.le_refl _)
    have km1 := hM1.1.1
    have ho1 : ksh X g1 (c + 740) = some (.inr (1, 1)) := ksh_g ho hF1.1
    show ZV X E_L_law _ _ (vi 0 :: _) _ _ _ _ _
    refine ZV_istore5 dL_law_1424 rfl (by decide) ?_
    refine ZV_aload_n dL_law_1426 rfl ?_
    refine ZV_aload_n dL_law_1427 rfl ?_
    refine ZV_iload dL_law_1428 rfl ?_
    refine ZV_iconst dL_law_1430 ?_
    refine ZV_iadd dL_law_1431 ?_
    refine ZV_sld (n + 1) rfl dL_law_1432 (by omega) (by omega) (by omega) ?_
    rw [← ha1]
    refine ZV_i2l dL_law_1433 ⟨by omega, by omega⟩ ?_
    refine ZV_bipush dL_law_1434 (by decide) ?_
    refine ZV_lshl dL_law_1436 (32) (by omega) (by omega) ?_
    refine ZV_aload_n dL_law_1437 rfl ?_
    refine ZV_iload dL_law_1438 rfl ?_
    refine ZV_iconst dL_law_1440 ?_
    refine ZV_iadd dL_law_1441 ?_
    refine ZV_sld (n + 2) rfl dL_law_1442 (by omega) (by omega) (by omega) ?_
    rw [← ha2]
    refine ZV_i2l dL_law_1443 ⟨by omega, by omega⟩ ?_
    refine ZV_ldc2 (z := 4294967295) dL_law_1444 lL_law_182 ?_
    refine ZV_land dL_law_1447 32 (by decide) (by decide) ?_
    refine ZV_lor dL_law_1448 32 (by omega) (by omega) (by omega) (by omega) ?_
    refine ZV_aload_n dL_law_1449 rfl ?_
    refine ZV_iload dL_law_1450 rfl ?_
    refine ZV_iconst dL_law_1452 ?_
    refine ZV_iadd dL_law_1453 ?_
    refine ZV_sld (n + 3) rfl dL_law_1454 (by omega) (by omega) (by omega) ?_
    rw [← ha3]
    refine cl_X7_simulate kL_law_191 rfl dL_law_1455 (by assumption) (Nat.le_of_ble_eq_true rfl) ?_
    refine sp_X7_simulate hM1 hr3 (fun f0 => by first | omega | exact absurd e0 f0 | exact absurd f0 e0 | exact absurd e1 f1 | exact absurd f1 e1 | exact absurd (show oneW Q.1 from ⟨e1, s, e2, e3⟩) f0 | exact absurd (show oneW Q.1 from ⟨f1, s, f2, f3⟩) e0 | exact absurd (show oneW Q.1 from ⟨e2, s, e3, e4⟩) f1 | exact absurd (show oneW Q.1 from ⟨f2, s, f3, f4⟩) e1 | (rw [e1] at f2; cases f2) | (rw [e2] at f1; cases f1)) (fun f0 I2 mp => ?_)
    show ZV X E_L_law _ _ (vi (100 * (aN (smS Q.2.1 (a1 * 2 ^ 32 + a2 % 2 ^ 32) a3.toNat) : Int) + letdN (smS Q.2.1 (a1 * 2 ^ 32 + a2 % 2 ^ 32) a3.toNat)) :: _) _ _ _ _ _
    exact lw_t26 ⟨hC1.mfr mp.1 (Nat.le_refl _), mp.2.1, ho1⟩ hn (by dsimp only; omega) (by dsimp only; omega) (Or.inl rfl) mp.2.2 (fun _ => ⟨hv1, hv3, hv2⟩)
theorem lw_t27 {o6 : Option Value} {w v x : Int} {b2 : Nat × Nat} (hI : LI X g I J c Q) (hn : LNx X c b z) (hb1 : b.1 ≤ b2.1 + 2) (hb2 : b.2 ≤ b2.2 + 12) (hw : w = 0 ∨ w = 1 ∨ w = 2) (hth : I (c + 726) 0 = w) (hv : w = 0 → r32 v ∧ J (c + 740) 0 = v ∧ vi x = vi v) : ZV X E_L_law 1514 [some (.ref X.2.2.2.2.1), some (.ref c), some (.ref (c + 726)), some (.ref (c + 740)), some (vi z), some (vi w), o6] [vi x] b2 g I J okv := by
  obtain ⟨x', hx1, hx2⟩ := vi_rep x
  obtain ⟨hx3, hx4⟩ := hx1
  have km := hI.2.1.1.1
  have ho := hI.2.2
  rw [hx2]
  have fin : ∀ y : Int, ZV X E_L_law 1544 [some (.ref X.2.2.2.2.1), some (.ref c), some (.ref (c + 726)), some (.ref (c + 740)), some (vi z), some (vi w), some (vi y)] [] b2 g I J okv := by
    intro y
    refine ZV_goto (tgt := 1603) dL_law_1544 (by decide) ?_
    exact hn g I J Q _ _ _ hb1 hb2 hI
  refine ZV_istore6 dL_law_1514 rfl (by decide) ?_
  refine ZV_aload_n dL_law_1516 rfl ?_
  refine cl_X7_thrown kL_law_97 rfl dL_law_1517 (by assumption) (Nat.le_of_ble_eq_true rfl) ?_
  refine sp_X7_thrown hI.2.1.1 ?_
  rw [hth]
  refine ZV_iload dL_law_1520 rfl ?_
  refine ZV_icmp_eq (tgt := 1527) dL_law_1522 (by decide) ⟨by omega, by omega⟩ ⟨by omega, by omega⟩ (fun h1522 => ?_) (fun h1522 => ?_)
  · refine ZV_iload dL_law_1527 rfl ?_
    refine ZV_if_ne (tgt := 1544) dL_law_1529 (by decide) ⟨by omega, by omega⟩ (fun h1529 => ?_) (fun h1529 => ?_)
    · exact fin _
    · have hw0 : w = 0 := by omega
      obtain ⟨⟨hv3, hv4⟩, hv5, hv6⟩ := hv hw0
      have exv : x' = v := by
        have e : vi x' = vi v := by rw [← hx2]; exact hv6
        have e2 : i32 x' = i32 v := by injection e
        exact i32_inj hx3 hx4 hv3 hv4 e2
      subst exv
      refine ZV_aload_n dL_law_1532 rfl ?_
      refine ZV_iconst dL_law_1533 ?_
      refine ZV_lald (0) dL_law_1534 (by assumption) (by first | rfl | omega) (by omega) (by omega) ?_
      rw [hv5]
      refine ZV_iload dL_law_1535 rfl ?_
      refine ZV_i2l dL_law_1537 ⟨by omega, by omega⟩ ?_
      refine ZV_lif_eq (tgt := 1544) dL_law_1538 dL_law_1539 (by decide) ⟨by omega, by omega⟩ ⟨by omega, by omega⟩ (fun h1538 => ?_) (fun h1538 => ?_)
      · exact fin _
      · omega
  · omega
theorem lw_c27 {o5 o6 : Option Value} (hI : LI X g I J c Q) (hn : LNx X c b z) (hb : 2 ≤ b.1 ∧ 12 ≤ b.2) (hz : z = (n : Int)) (hlen : n + 3 < X.2.2.2.2.2.1) (hl2 : X.2.2.2.2.2.1 ≤ 65536) : ZV X E_L_law 1491 [some (.ref X.2.2.2.2.1), some (.ref c), some (.ref (c + 726)), some (.ref (c + 740)), some (vi z), o5, o6] [] b g I J okv := by
  obtain ⟨hC, hM, ho⟩ := hI
  subst hz
  have kc := hC.1.1.1
  have km := hM.1.1
  obtain ⟨a1, ha1⟩ : ∃ a, a = (X.2.2.2.2.2.2 (n + 1)).toInt := ⟨_, rfl⟩
  have hr1 : r32 a1 := by rw [ha1]; exact i32r _
  obtain ⟨hl1, hu1⟩ := id hr1
  refine ZV_aload_n dL_law_1491 rfl ?_
  refine ZV_aload_n dL_law_1492 rfl ?_
  refine ZV_iload dL_law_1493 rfl ?_
  refine ZV_iconst dL_law_1495 ?_
  refine ZV_iadd dL_law_1496 ?_
  refine ZV_sld (n + 1) rfl dL_law_1497 (by omega) (by omega) (by omega) ?_
  rw [← ha1]
  refine ZV_aload_n dL_law_1498 rfl ?_
  refine cl_L_save kL_law_192 rfl dL_law_1499 ⟨by omega, by omega⟩ (Nat.le_of_ble_eq_true rfl) ?_
  refine sp_L_save hC ho (by omega) hr1 ⟨by decide, by decide⟩ ?_ ?_
  · intro e0 g1 I1 J1 hF1 hC1
    have hM1 := hM.cfr hF1 (Nat.le_refl _)
    have km1 := hM1.1.1
    have ho1 : ksh X g1 (c + 740) = some (.inr (1, 1)) := ksh_g ho hF1.1
    show ZV X E_L_law _ _ (vi 1 :: _) _ _ _ _ _
    refine ZV_istore5 dL_law_1502 rfl (by decide) ?_
    refine ZV_aload_n dL_law_1504 rfl ?_
    refine ZV_aload_n dL_law_1505 rfl ?_
    refine ZV_iload dL_law_1506 rfl ?_
    refine ZV_iconst dL_law_1508 ?_
    refine ZV_iadd dL_law_1509 ?_
    refine ZV_sld (n + 1) rfl dL_law_1510 (by omega) (by omega) (by omega) ?_
    rw [← ha1]
    refine cl_X7_save kL_law_194 rfl dL_law_1511 (by assumption) (Nat.le_of_ble_eq_true rfl) ?_
    refine sp_X7_save hM1 hr1 (fun f0 I2 mp => ?_) (fun f0 => by first | omega | exact absurd e0 f0 | exact absurd f0 e0 | exact absurd e1 f1 | exact absurd f1 e1 | exact absurd (show oneW Q.1 from ⟨e1, s, e2, e3⟩) f0 | exact absurd (show oneW Q.1 from ⟨f1, s, f2, f3⟩) e0 | exact absurd (show oneW Q.1 from ⟨e2, s, e3, e4⟩) f1 | exact absurd (show oneW Q.1 from ⟨f2, s, f3, f4⟩) e1 | (rw [e1] at f2; cases f2) | (rw [e2] at f1; cases f1))
    show ZV X E_L_law _ _ (vi 0 :: _) _ _ _ _ _
    exact lw_t27 (v := 0) ⟨hC1.mfr mp.1 (Nat.le_refl _), mp.2.1, ho1⟩ hn (by dsimp only; omega) (by dsimp only; omega) (by omega) mp.2.2 (fun e => absurd e (by decide))
  · intro e0 g1 I1 J1 hF1 hC1 v hv1 hv2 hv3
    have hM1 := hM.cfr hF1 (Nat.le_refl _)
    have km1 := hM1.1.1
    have ho1 : ksh X g1 (c + 740) = some (.inr (1, 1)) := ksh_g ho hF1.1
    show ZV X E_L_law _ _ (vi 0 :: _) _ _ _ _ _
    refine ZV_istore5 dL_law_1502 rfl (by decide) ?_
    refine ZV_aload_n dL_law_1504 rfl ?_
    refine ZV_aload_n dL_law_1505 rfl ?_
    refine ZV_iload dL_law_1506 rfl ?_
    refine ZV_iconst dL_law_1508 ?_
    refine ZV_iadd dL_law_1509 ?_
    refine ZV_sld (n + 1) rfl dL_law_1510 (by omega) (by omega) (by omega) ?_
    rw [← ha1]
    refine cl_X7_save kL_law_194 rfl dL_law_1511 (by assumption) (Nat.le_of_ble_eq_true rfl) ?_
    refine sp_X7_save hM1 hr1 (fun f0 => by first | omega | exact absurd e0 f0 | exact absurd f0 e0 | exact absurd e1 f1 | exact absurd f1 e1 | exact absurd (show oneW Q.1 from ⟨e1, s, e2, e3⟩) f0 | exact absurd (show oneW Q.1 from ⟨f1, s, f2, f3⟩) e0 | exact absurd (show oneW Q.1 from ⟨e2, s, e3, e4⟩) f1 | exact absurd (show oneW Q.1 from ⟨f2, s, f3, f4⟩) e1 | (rw [e1] at f2; cases f2) | (rw [e2] at f1; cases f1)) (fun f0 I2 mp => ?_)
    show ZV X E_L_law _ _ (vi (aN Q.2.1 : Int) :: _) _ _ _ _ _
    exact lw_t27 ⟨hC1.mfr mp.1 (Nat.le_refl _), mp.2.1, ho1⟩ hn (by dsimp only; omega) (by dsimp only; omega) (Or.inl rfl) mp.2.2 (fun _ => ⟨hv1, hv3, hv2⟩)
theorem lw_t28 {o6 : Option Value} {w v x : Int} {b2 : Nat × Nat} (hI : LI X g I J c Q) (hn : LNx X c b z) (hb1 : b.1 ≤ b2.1 + 2) (hb2 : b.2 ≤ b2.2 + 12) (hw : w = 0 ∨ w = 1 ∨ w = 2) (hth : I (c + 726) 0 = w) (hv : w = 0 → r32 v ∧ J (c + 740) 0 = v ∧ vi x = vi v) : ZV X E_L_law 1570 [some (.ref X.2.2.2.2.1), some (.ref c), some (.ref (c + 726)), some (.ref (c + 740)), some (vi z), some (vi w), o6] [vi x] b2 g I J okv := by
  obtain ⟨x', hx1, hx2⟩ := vi_rep x
  obtain ⟨hx3, hx4⟩ := hx1
  have km := hI.2.1.1.1
  have ho := hI.2.2
  rw [hx2]
  have fin : ∀ y : Int, ZV X E_L_law 1600 [some (.ref X.2.2.2.2.1), some (.ref c), some (.ref (c + 726)), some (.ref (c + 740)), some (vi z), some (vi w), some (vi y)] [] b2 g I J okv := by
    intro y
    refine ZV_goto (tgt := 1603) dL_law_1600 (by decide) ?_
    exact hn g I J Q _ _ _ hb1 hb2 hI
  refine ZV_istore6 dL_law_1570 rfl (by decide) ?_
  refine ZV_aload_n dL_law_1572 rfl ?_
  refine cl_X7_thrown kL_law_97 rfl dL_law_1573 (by assumption) (Nat.le_of_ble_eq_true rfl) ?_
  refine sp_X7_thrown hI.2.1.1 ?_
  rw [hth]
  refine ZV_iload dL_law_1576 rfl ?_
  refine ZV_icmp_eq (tgt := 1583) dL_law_1578 (by decide) ⟨by omega, by omega⟩ ⟨by omega, by omega⟩ (fun h1578 => ?_) (fun h1578 => ?_)
  · refine ZV_iload dL_law_1583 rfl ?_
    refine ZV_if_ne (tgt := 1600) dL_law_1585 (by decide) ⟨by omega, by omega⟩ (fun h1585 => ?_) (fun h1585 => ?_)
    · exact fin _
    · have hw0 : w = 0 := by omega
      obtain ⟨⟨hv3, hv4⟩, hv5, hv6⟩ := hv hw0
      have exv : x' = v := by
        have e : vi x' = vi v := by rw [← hx2]; exact hv6
        have e2 : i32 x' = i32 v := by injection e
        exact i32_inj hx3 hx4 hv3 hv4 e2
      subst exv
      refine ZV_aload_n dL_law_1588 rfl ?_
      refine ZV_iconst dL_law_1589 ?_
      refine ZV_lald (0) dL_law_1590 (by assumption) (by first | rfl | omega) (by omega) (by omega) ?_
      rw [hv5]
      refine ZV_iload dL_law_1591 rfl ?_
      refine ZV_i2l dL_law_1593 ⟨by omega, by omega⟩ ?_
      refine ZV_lif_eq (tgt := 1600) dL_law_1594 dL_law_1595 (by decide) ⟨by omega, by omega⟩ ⟨by omega, by omega⟩ (fun h1594 => ?_) (fun h1594 => ?_)
      · exact fin _
      · omega
  · omega
theorem lw_c28 {o5 o6 : Option Value} (hI : LI X g I J c Q) (hn : LNx X c b z) (hb : 2 ≤ b.1 ∧ 12 ≤ b.2) (hz : z = (n : Int)) (hlen : n + 3 < X.2.2.2.2.2.1) (hl2 : X.2.2.2.2.2.1 ≤ 65536) : ZV X E_L_law 1547 [some (.ref X.2.2.2.2.1), some (.ref c), some (.ref (c + 726)), some (.ref (c + 740)), some (vi z), o5, o6] [] b g I J okv := by
  obtain ⟨hC, hM, ho⟩ := hI
  subst hz
  have kc := hC.1.1.1
  have km := hM.1.1
  obtain ⟨a1, ha1⟩ : ∃ a, a = (X.2.2.2.2.2.2 (n + 1)).toInt := ⟨_, rfl⟩
  have hr1 : r32 a1 := by rw [ha1]; exact i32r _
  obtain ⟨hl1, hu1⟩ := id hr1
  refine ZV_aload_n dL_law_1547 rfl ?_
  refine ZV_aload_n dL_law_1548 rfl ?_
  refine ZV_iload dL_law_1549 rfl ?_
  refine ZV_iconst dL_law_1551 ?_
  refine ZV_iadd dL_law_1552 ?_
  refine ZV_sld (n + 1) rfl dL_law_1553 (by omega) (by omega) (by omega) ?_
  rw [← ha1]
  refine ZV_aload_n dL_law_1554 rfl ?_
  refine cl_L_restore kL_law_195 rfl dL_law_1555 ⟨by omega, by omega⟩ (Nat.le_of_ble_eq_true rfl) ?_
  refine sp_L_restore hC ho (by omega) hr1 ⟨by decide, by decide⟩ ?_ ?_ ?_
  · intro e0 g1 I1 J1 hF1 hC1
    have hM1 := hM.cfr hF1 (Nat.le_refl _)
    have km1 := hM1.1.1
    have ho1 : ksh X g1 (c + 740) = some (.inr (1, 1)) := ksh_g ho hF1.1
    show ZV X E_L_law _ _ (vi 1 :: _) _ _ _ _ _
    refine ZV_istore5 dL_law_1558 rfl (by decide) ?_
    refine ZV_aload_n dL_law_1560 rfl ?_
    refine ZV_aload_n dL_law_1561 rfl ?_
    refine ZV_iload dL_law_1562 rfl ?_
    refine ZV_iconst dL_law_1564 ?_
    refine ZV_iadd dL_law_1565 ?_
    refine ZV_sld (n + 1) rfl dL_law_1566 (by omega) (by omega) (by omega) ?_
    rw [← ha1]
    refine cl_X7_restore kL_law_197 rfl dL_law_1567 (by assumption) (Nat.le_of_ble_eq_true rfl) ?_
    refine sp_X7_restore hM1 hr1 (fun f0 I2 mp => ?_) (fun f0 f1 => by first | omega | exact absurd e0 f0 | exact absurd f0 e0 | exact absurd e1 f1 | exact absurd f1 e1 | exact absurd (show oneW Q.1 from ⟨e1, s, e2, e3⟩) f0 | exact absurd (show oneW Q.1 from ⟨f1, s, f2, f3⟩) e0 | exact absurd (show oneW Q.1 from ⟨e2, s, e3, e4⟩) f1 | exact absurd (show oneW Q.1 from ⟨f2, s, f3, f4⟩) e1 | (rw [e1] at f2; cases f2) | (rw [e2] at f1; cases f1)) (fun f0 B f2 => by first | omega | exact absurd e0 f0 | exact absurd f0 e0 | exact absurd e1 f1 | exact absurd f1 e1 | exact absurd (show oneW Q.1 from ⟨e1, s, e2, e3⟩) f0 | exact absurd (show oneW Q.1 from ⟨f1, s, f2, f3⟩) e0 | exact absurd (show oneW Q.1 from ⟨e2, s, e3, e4⟩) f1 | exact absurd (show oneW Q.1 from ⟨f2, s, f3, f4⟩) e1 | (rw [e1] at f2; cases f2) | (rw [e2] at f1; cases f1))
    show ZV X E_L_law _ _ (vi 0 :: _) _ _ _ _ _
    exact lw_t28 (v := 0) ⟨hC1.mfr mp.1 (Nat.le_refl _), mp.2.1, ho1⟩ hn (by dsimp only; omega) (by dsimp only; omega) (by omega) mp.2.2 (fun e => absurd e (by decide))
  · intro e0 e1 g1 I1 J1 hF1 hC1
    have hM1 := hM.cfr hF1 (Nat.le_refl _)
    have km1 := hM1.1.1
    have ho1 : ksh X g1 (c + 740) = some (.inr (1, 1)) := ksh_g ho hF1.1
    show ZV X E_L_law _ _ (vi 2 :: _) _ _ _ _ _
    refine ZV_istore5 dL_law_1558 rfl (by decide) ?_
    refine ZV_aload_n dL_law_1560 rfl ?_
    refine ZV_aload_n dL_law_1561 rfl ?_
    refine ZV_iload dL_law_1562 rfl ?_
    refine ZV_iconst dL_law_1564 ?_
    refine ZV_iadd dL_law_1565 ?_
    refine ZV_sld (n + 1) rfl dL_law_1566 (by omega) (by omega) (by omega) ?_
    rw [← ha1]
    refine cl_X7_restore kL_law_197 rfl dL_law_1567 (by assumption) (Nat.le_of_ble_eq_true rfl) ?_
    refine sp_X7_restore hM1 hr1 (fun f0 => by first | omega | exact absurd e0 f0 | exact absurd f0 e0 | exact absurd e1 f1 | exact absurd f1 e1 | exact absurd (show oneW Q.1 from ⟨e1, s, e2, e3⟩) f0 | exact absurd (show oneW Q.1 from ⟨f1, s, f2, f3⟩) e0 | exact absurd (show oneW Q.1 from ⟨e2, s, e3, e4⟩) f1 | exact absurd (show oneW Q.1 from ⟨f2, s, f3, f4⟩) e1 | (rw [e1] at f2; cases f2) | (rw [e2] at f1; cases f1)) (fun f0 f1 I2 mp => ?_) (fun f0 B f2 => by first | omega | exact absurd e0 f0 | exact absurd f0 e0 | exact absurd e1 f1 | exact absurd f1 e1 | exact absurd (show oneW Q.1 from ⟨e1, s, e2, e3⟩) f0 | exact absurd (show oneW Q.1 from ⟨f1, s, f2, f3⟩) e0 | exact absurd (show oneW Q.1 from ⟨e2, s, e3, e4⟩) f1 | exact absurd (show oneW Q.1 from ⟨f2, s, f3, f4⟩) e1 | (rw [e1] at f2; cases f2) | (rw [e2] at f1; cases f1))
    show ZV X E_L_law _ _ (vi 0 :: _) _ _ _ _ _
    exact lw_t28 (v := 0) ⟨hC1.mfr mp.1 (Nat.le_refl _), mp.2.1, ho1⟩ hn (by dsimp only; omega) (by dsimp only; omega) (by omega) mp.2.2 (fun e => absurd e (by decide))
  · intro e0 B e2 g1 I1 J1 hF1 hC1 v hv1 hv2 hv3
    have hM1 := hM.cfr hF1 (Nat.le_refl _)
    have km1 := hM1.1.1
    have ho1 : ksh X g1 (c + 740) = some (.inr (1, 1)) := ksh_g ho hF1.1
    show ZV X E_L_law _ _ (vi 0 :: _) _ _ _ _ _
    refine ZV_istore5 dL_law_1558 rfl (by decide) ?_
    refine ZV_aload_n dL_law_1560 rfl ?_
    refine ZV_aload_n dL_law_1561 rfl ?_
    refine ZV_iload dL_law_1562 rfl ?_
    refine ZV_iconst dL_law_1564 ?_
    refine ZV_iadd dL_law_1565 ?_
    refine ZV_sld (n + 1) rfl dL_law_1566 (by omega) (by omega) (by omega) ?_
    rw [← ha1]
    refine cl_X7_restore kL_law_197 rfl dL_law_1567 (by assumption) (Nat.le_of_ble_eq_true rfl) ?_
    refine sp_X7_restore hM1 hr1 (fun f0 => by first | omega | exact absurd e0 f0 | exact absurd f0 e0 | exact absurd e1 f1 | exact absurd f1 e1 | exact absurd (show oneW Q.1 from ⟨e1, s, e2, e3⟩) f0 | exact absurd (show oneW Q.1 from ⟨f1, s, f2, f3⟩) e0 | exact absurd (show oneW Q.1 from ⟨e2, s, e3, e4⟩) f1 | exact absurd (show oneW Q.1 from ⟨f2, s, f3, f4⟩) e1 | (rw [e1] at f2; cases f2) | (rw [e2] at f1; cases f1)) (fun f0 f1 => by first | omega | exact absurd e0 f0 | exact absurd f0 e0 | exact absurd e1 f1 | exact absurd f1 e1 | exact absurd (show oneW Q.1 from ⟨e1, s, e2, e3⟩) f0 | exact absurd (show oneW Q.1 from ⟨f1, s, f2, f3⟩) e0 | exact absurd (show oneW Q.1 from ⟨e2, s, e3, e4⟩) f1 | exact absurd (show oneW Q.1 from ⟨f2, s, f3, f4⟩) e1 | (rw [e1] at f2; cases f2) | (rw [e2] at f1; cases f1)) (fun f0 B' f2 I2 mp => ?_)
    have es := (Option.some.inj (e2.symm.trans f2) : B = B')
    subst es
    show ZV X E_L_law _ _ (vi (aN B : Int) :: _) _ _ _ _ _
    exact lw_t28 ⟨hC1.mfr mp.1 (Nat.le_refl _), mp.2.1, ho1⟩ hn (by dsimp only; omega) (by dsimp only; omega) (Or.inl rfl) mp.2.2 (fun _ => ⟨hv1, hv3, hv2⟩)
end ZLW

