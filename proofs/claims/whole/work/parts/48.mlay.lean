/-! the reference: laying out letters, places and keys -/
def shr (B : ASt) (i : Nat) : Int := zsum (fun j => if stemOf B j = stemOf B i then 1 else 0) (aN B)
def plc (B : ASt) (i : Nat) : Int := zsum (fun j => bz (aO B) (aW B j) (aW B i) j i) (aN B)
def Laid (I : Mm) (m : Nat) (B : ASt) : Prop := ∀ i, i < aN B → KeA (I (m + 8)) (14 * i) (keyOf B i) ∧ I (m + 9) i = letOf B i ∧ I (m + 10) i = shr B i ∧ I (m + 11) i = plc B i
def LFr (I I' : Mm) (m : Nat) : Prop := ∀ q, q ≠ m + 8 → q ≠ m + 9 → q ≠ m + 10 → q ≠ m + 11 → q ≠ m + 13 → I' q = I q
theorem stemOf_KWF {B : ASt} (h : GoodSt B) {i : Nat} (hi : i < aN B) : KWF (stemOf B i) := ⟨aW B i, aS B, 0, h.2.1 i hi, h.1.2.2.1, ⟨by decide, by decide⟩, (Int.add_zero _).symm⟩
theorem keyOf_KWF {B : ASt} (h : GoodSt B) {i : Nat} (hi : i < aN B) : KWF (keyOf B i) := ⟨aW B i, aS B, letOf B i, h.2.1 i hi, h.1.2.2.1, letOf_rng h.1 i, rfl⟩
theorem acmp_self (f : Nat → Int) : ∀ n, acmp f f n = 0 := fun n => acmp_zero (n := 0) rfl n (Nat.zero_le n) (fun _ _ _ => rfl)
theorem bz_self (od : Int) (W : AWk) (i : Int) : bz od W W i i = 0 := by
  have e1 : ∀ x : Int, zcmp x x = 0 := fun x => (zcmp_sg x x).2.2 rfl
  unfold bz ch3
  rw [acmp_self, e1, e1]
  split <;> simp
theorem key_ext {W : AWk} {s y l : Int} (hW : AWF W) (hs : 0 ≤ s ∧ s ≤ 3) (hy : 0 ≤ y ∧ y < 4096) (hl : 0 < l ∧ l < 32) : klen (stm W s y + l) = klen (stm W s y) + 1 ∧ (∀ k : Nat, (k : Int) < klen (stm W s y) → kch (stm W s y + l) k = kch (stm W s y) k) ∧ kch (stm W s y + l) (klen (stm W s y)) = 96 + l := by
  obtain ⟨a1, a2, a3, a4, a5⟩ := stm_rd hW hs hy (l := l) ⟨by omega, by omega⟩
  have rd := stm_rd hW hs hy (l := 0) ⟨by omega, by omega⟩
  rw [Int.add_zero] at rd
  obtain ⟨b1, b2, b3, b4, b5⟩ := rd
  rw [if_pos hl.1] at a1
  rw [if_neg (by omega)] at b1
  have s1 := hS_01 W s
  refine ⟨by omega, fun k hk => ?_, by rw [b1, Int.add_zero]; exact a5 hl.1⟩
  by_cases c : k < hN W s
  · rw [a2 k c, b2 k c]
  · by_cases c2 : k = hN W s ∧ hS W s = 1
    · rw [c2.1, a3 c2.2, b3 c2.2]
    · have e : (k : Int) = (hN W s : Int) + hS W s + ((k - hN W s - (hS W s).toNat : Nat) : Int) := by omega
      rw [e, a4 _ (by omega), b4 _ (by omega)]
def fill (F : Nat → Nat → Int) (n q p j : Nat) : Int := if j < q then zsum (F j) n else if j = q then zsum (F q) p else 0
theorem fill_next (F : Nat → Nat → Int) (n q j : Nat) : fill F n q n j = fill F n (q + 1) 0 j := by
  unfold fill
  by_cases c : j < q
  · rw [if_pos c, if_pos (by omega)]
  · by_cases c2 : j = q
    · rw [if_neg c, if_pos c2, if_pos (by omega), c2]
    · rw [if_neg c, if_neg c2, if_neg (by omega)]
      by_cases c3 : j = q + 1
      · rw [if_pos c3]; rfl
      · rw [if_neg c3]
theorem fill_add (F : Nat → Nat → Int) (n q p j : Nat) : fill F n q (p + 1) j = if j = q then fill F n q p q + F q p else fill F n q p j := by
  unfold fill
  by_cases c : j = q
  · rw [if_pos c, if_neg (by omega), if_pos c, if_neg (by omega), if_pos rfl]; rfl
  · rw [if_neg c, if_neg c, if_neg c]
def F1 (B : ASt) (i j : Nat) : Int := if stemOf B j = stemOf B i then 1 else 0
def F2 (B : ASt) (i j : Nat) : Int := if stemOf B j = stemOf B i then bz (aO B) (aW B j) (aW B i) j i else 0
def F3 (B : ASt) (i j : Nat) : Int := bz (aO B) (aW B j) (aW B i) j i
theorem fill_rng (F : Nat → Nat → Int) (hF : ∀ i j, F i j = 0 ∨ F i j = 1) (n q p j : Nat) (hn : n ≤ 16) (hp : p ≤ 16) : 0 ≤ fill F n q p j ∧ fill F n q p j ≤ 16 := by
  have h1 := zsum_01 (f := F j) n (fun i _ => hF j i)
  have h2 := zsum_01 (f := F q) p (fun i _ => hF q i)
  unfold fill
  repeat' split
  all_goals omega
theorem F1_01 (B : ASt) (i j : Nat) : F1 B i j = 0 ∨ F1 B i j = 1 := by unfold F1; split <;> simp
theorem F3_01 (B : ASt) (i j : Nat) : F3 B i j = 0 ∨ F3 B i j = 1 := bz_01 ..
theorem F2_01 (B : ASt) (i j : Nat) : F2 B i j = 0 ∨ F2 B i j = 1 := by
  unfold F2
  split
  · exact bz_01 ..
  · exact Or.inl rfl
/-- where the second loop stands -/
def L2 (I I' : Mm) (m : Nat) (B : ASt) (q p : Nat) : Prop := LFr I I' m ∧ ∀ j, j < aN B → KeA (I' (m + 8)) (14 * j) (stemOf B j) ∧ I' (m + 10) j = fill (F1 B) (aN B) q p j ∧ I' (m + 9) j = fill (F2 B) (aN B) q p j ∧ I' (m + 11) j = fill (F3 B) (aN B) q p j
section ZM4
variable {X : Xt} {g : Geo} {I J : Mm} {b : Nat × Nat} {post : Out → Geo → Mm → Mm → Prop}
theorem sp_X7_lay {m r : Nat} {A : ASt} {s : Int} (hL : ML X g m) (hr : r = m + 3 ∨ r = m + 4) (hR : MR (I r) A) (hGA : GoodSt A) (hs : 0 ≤ s ∧ s ≤ 3) (h : ∀ I', LFr I I' m → Laid I' m (aSty A s) → post (.inl none) g I' J) : ZV X E_X7_lay 0 [some (.ref m), some (.ref r), some (vi s), none, none, none, none, none] [] b g I J post := by
  obtain ⟨l0, -, ⟨l1, l2, l3, l4, l5, l6⟩, ⟨j1, j2, j3, j4, j5, j6, j7⟩, ⟨k1, k2, k3, k4, k5, k6⟩⟩ := id hL
  have hrk : ksh X g r = some (.inr (0, 980)) := by rcases hr with e | e <;> rw [e] <;> assumption
  have hG : GoodSt (aSty A s) := hGA.sty hs
  obtain ⟨B, hB⟩ : ∃ B, B = aSty A s := ⟨_, rfl⟩
  have eN : aN B = aN A := by rw [hB]; rfl
  have eW : ∀ i, aW B i = aW A i := fun i => by rw [hB]; rfl
  have eO : aO B = aO A := by rw [hB]; rfl
  have eS : ∀ i, stemOf B i = stm (aW A i) s (aW A i).2.2.1 := fun i => by rw [hB]; rfl
  rw [← hB] at hG h
  have h16 := hG.1.1
  have r0 : I r 0 = (aN B : Int) := by rw [eN]; exact hR.1.1
  have r2 : I r 2 = aO B := by rw [eO]; exact hR.1.2.2.1
  have hWk : ∀ i, i < aN B → WkA (I r) (4 + 47 * i) (aW B i) := fun i hi => by rw [eW]; exact hR.2.1 i (by omega)
  have hWf : ∀ i, i < aN B → AWF (aW B i) := fun i hi => hG.2.1 i hi
  have ho2 := hG.1.2.2.2.1
  have eSS : aS B = s := by rw [hB]; rfl
  have rows : ∀ I', LFr I I' m → I' r = I r := fun I' hF => hF r (by omega) (by omega) (by omega) (by omega) (by omega)
  -- the fourth loop
  have loop4 : ∀ q : Nat, q ≤ aN B → ∀ (z : Int) (o5 o6 o7 : Option Value) (I' : Mm), z = (q : Int) → LFr I I' m → (∀ j, j < aN B → KeA (I' (m + 8)) (14 * j) (if j < q then keyOf B j else stemOf B j) ∧ I' (m + 9) j = letOf B j ∧ I' (m + 10) j = shr B j ∧ I' (m + 11) j = plc B j) → ZV X E_X7_lay 262 [some (.ref m), some (.ref r), some (vi s), some (vi (aN B : Int)), some (vi z), o5, o6, o7] [] b g I' J post := by
    refine loop_up (aN B) ?_ ?_
    · intro z o5 o6 o7 I' hz hF hV
      refine ZV_iload dX7_lay_262 rfl ?_
      refine ZV_iload_n dX7_lay_264 rfl ?_
      refine ZV_icmp_ge (tgt := 329) dX7_lay_265 (by decide) ⟨by omega, by omega⟩ ⟨by omega, by omega⟩ (fun h265 => ?_) (fun h265 => ?_)
      · refine ZV_vret dX7_lay_329 rfl ?_
        refine h I' hF fun i hi => ?_
        have := hV i hi
        rw [if_pos hi] at this
        exact this
      · omega
    · intro q hq ih z o5 o6 o7 I' hz hF hV
      subst hz
      obtain ⟨v1, v2, v3, v4⟩ := hV q hq
      rw [if_neg (by omega)] at v1
      have lr := letOf_rng hG.1 q
      have kl := (stemOf_KWF hG hq).len
      have hy := (hWf q hq).2.2.2.1
      refine ZV_iload dX7_lay_262 rfl ?_
      refine ZV_iload_n dX7_lay_264 rfl ?_
      refine ZV_icmp_ge (tgt := 329) dX7_lay_265 (by decide) ⟨by omega, by omega⟩ ⟨by omega, by omega⟩ (fun h265 => ?_) (fun h265 => ?_)
      · omega
      · refine ZV_aload_n dX7_lay_268 rfl ?_
        refine ZV_getR fX7_lay_35 dX7_lay_269 (by assumption) rfl (by assumption) ?_
        refine ZV_iload dX7_lay_272 rfl ?_
        refine ZV_iald (q) dX7_lay_274 (by assumption) (by first | rfl | omega) (by omega) (by omega) ?_
        rw [v2]
        refine ZV_if_le (tgt := 323) dX7_lay_275 (by decide) ⟨by omega, by omega⟩ (fun h275 => ?_) (fun h275 => ?_)
        · refine ZV_jinc4 dX7_lay_323 rfl (by decide) ?_
          refine ZV_goto (tgt := 262) dX7_lay_326 (by decide) ?_
          refine ih _ _ _ _ _ (by omega) hF fun j hj => ?_
          obtain ⟨w1, w2, w3, w4⟩ := hV j hj
          refine ⟨?_, w2, w3, w4⟩
          by_cases e : j = q
          · rw [if_pos (by omega), e]
            have ek : keyOf B q = stemOf B q := by unfold keyOf; omega
            rw [ek]; exact v1
          · by_cases e2 : j < q
            · rw [if_pos e2] at w1; rw [if_pos (by omega)]; exact w1
            · rw [if_neg e2] at w1; rw [if_neg (by omega)]; exact w1
        · have hx := key_ext (hWf q hq) hG.1.2.2.1 (y := (aW B q).2.2.1) (l := letOf B q) ⟨by omega, by omega⟩ ⟨by omega, by omega⟩
          have es : stm (aW B q) (aS B) (aW B q).2.2.1 = stemOf B q := rfl
          have ek : stemOf B q + letOf B q = keyOf B q := rfl
          rw [es, ek] at hx
          obtain ⟨x1, x2, x3⟩ := hx
          obtain ⟨K, hK⟩ : ∃ K : Nat, klen (stemOf B q) = K := ⟨(klen (stemOf B q)).toNat, by omega⟩
          have v10 : I' (m + 8) (14 * q) = (K : Int) := by rw [v1.1, hK]
          refine ZV_bipush dX7_lay_278 (by decide) ?_
          refine ZV_iload dX7_lay_280 rfl ?_
          refine ZV_imul dX7_lay_282 ?_
          refine ZV_istore5 dX7_lay_283 rfl (by decide) ?_
          refine ZV_aload_n dX7_lay_285 rfl ?_
          refine ZV_getR fX7_lay_32 dX7_lay_286 (by assumption) rfl (by assumption) ?_
          refine ZV_iload dX7_lay_289 rfl ?_
          first | refine ZV_dup2 dX7_lay_291 rfl rfl ?_ | refine ZV_dup2l dX7_lay_291 rfl ?_
          refine ZV_iald (14 * q) dX7_lay_292 (by assumption) (by first | rfl | omega) (by omega) (by omega) ?_
          rw [v10]
          refine ZV_iconst dX7_lay_293 ?_
          refine ZV_iadd dX7_lay_294 ?_
          refine ZV_iast (14 * q) dX7_lay_295 (by assumption) (by first | rfl | omega) (by omega) (by omega) ?_
          refine ZV_aload_n dX7_lay_296 rfl ?_
          refine ZV_getR fX7_lay_32 dX7_lay_297 (by assumption) rfl (by assumption) ?_
          refine ZV_iload dX7_lay_300 rfl ?_
          refine ZV_aload_n dX7_lay_302 rfl ?_
          refine ZV_getR fX7_lay_32 dX7_lay_303 (by assumption) rfl (by assumption) ?_
          refine ZV_iload dX7_lay_306 rfl ?_
          refine ZV_iald (14 * q) dX7_lay_308 (by assumption) (by first | rfl | omega) (by omega) (by omega) ?_
          rw [up2_same]
          refine ZV_iadd dX7_lay_309 ?_
          refine ZV_bipush dX7_lay_310 (by decide) ?_
          refine ZV_aload_n dX7_lay_312 rfl ?_
          refine ZV_getR fX7_lay_35 dX7_lay_313 (by assumption) rfl (by assumption) ?_
          refine ZV_iload dX7_lay_316 rfl ?_
          refine ZV_iald (q) dX7_lay_318 (by assumption) (by first | rfl | omega) (by omega) (by omega) ?_
          rw [up2_a (by omega), v2]
          refine ZV_iadd dX7_lay_319 ?_
          refine ZV_iconst dX7_lay_320 ?_
          refine ZV_isub dX7_lay_321 ?_
          refine ZV_iast (14 * q + (K + 1)) dX7_lay_322 (by assumption) (by first | rfl | omega) (by omega) (by omega) ?_
          refine ZV_jinc4 dX7_lay_323 rfl (by decide) ?_
          refine ZV_goto (tgt := 262) dX7_lay_326 (by decide) ?_
          refine ih _ _ _ _ _ (by omega) (fun a a1 a2 a3 a4 a5 => by rw [up2_row _ _ a1, up2_row _ _ a1]; exact hF a a1 a2 a3 a4 a5) fun j hj => ?_
          obtain ⟨w1, w2, w3, w4⟩ := hV j hj
          refine ⟨?_, by rw [up2_a (by omega), up2_a (by omega)]; exact w2, by rw [up2_a (by omega), up2_a (by omega)]; exact w3, by rw [up2_a (by omega), up2_a (by omega)]; exact w4⟩
          by_cases e : j = q
          · rw [if_pos (by omega), e]
            refine ⟨?_, fun k hk => ?_⟩
            · rw [up2_k (by omega), up2_same, x1, hK]
            · by_cases e2 : k = K
              · rw [e2, show 14 * q + 1 + K = 14 * q + (K + 1) by omega, up2_same]
                show 97 + letOf B q - 1 = kch (keyOf B q) (K : Int)
                rw [← hK, x3]; omega
              · rw [up2_k (by omega), up2_k (by omega), v1.2 k (by omega)]
                exact (x2 k (by omega)).symm
          · have hs13 : (if j < q + 1 then keyOf B j else stemOf B j) = if j < q then keyOf B j else stemOf B j := by
              by_cases e2 : j < q
              · rw [if_pos e2, if_pos (by omega)]
              · rw [if_neg e2, if_neg (by omega)]
            rw [hs13]
            have l12 : klen (if j < q then keyOf B j else stemOf B j) ≤ 12 := by
              split
              · exact (keyOf_KWF hG hj).len.2
              · exact (stemOf_KWF hG hj).len.2
            exact w1.move (p := 14 * j) fun k hk => by rw [up2_k (by omega), up2_k (by omega)]
  -- the third loop
  have loop3 : ∀ q : Nat, q ≤ aN B → ∀ (z : Int) (o5 o6 o7 : Option Value) (I' : Mm), z = (q : Int) → LFr I I' m → (∀ j, j < aN B → KeA (I' (m + 8)) (14 * j) (stemOf B j) ∧ I' (m + 9) j = (if j < q then letOf B j else zsum (F2 B j) (aN B)) ∧ I' (m + 10) j = shr B j ∧ I' (m + 11) j = plc B j) → ZV X E_X7_lay 216 [some (.ref m), some (.ref r), some (vi s), some (vi (aN B : Int)), some (vi z), o5, o6, o7] [] b g I' J post := by
    refine loop_up (aN B) ?_ ?_
    · intro z o5 o6 o7 I' hz hF hV
      refine ZV_iload dX7_lay_216 rfl ?_
      refine ZV_iload_n dX7_lay_218 rfl ?_
      refine ZV_icmp_ge (tgt := 259) dX7_lay_219 (by decide) ⟨by omega, by omega⟩ ⟨by omega, by omega⟩ (fun h219 => ?_) (fun h219 => ?_)
      · refine ZV_iconst dX7_lay_259 ?_
        refine ZV_istore4 dX7_lay_260 rfl (by decide) ?_
        refine loop4 0 (by omega) _ _ _ _ _ rfl hF fun j hj => ?_
        obtain ⟨w1, w2, w3, w4⟩ := hV j hj
        rw [if_neg (by omega)]
        rw [if_pos hj] at w2
        exact ⟨w1, w2, w3, w4⟩
      · omega
    · intro q hq ih z o5 o6 o7 I' hz hF hV
      subst hz
      obtain ⟨v1, v2, v3, v4⟩ := hV q hq
      rw [if_neg (by omega)] at v2
      have z1 := zsum_01 (f := F1 B q) (aN B) (fun i _ => F1_01 B q i)
      have z2 := zsum_01 (f := F2 B q) (aN B) (fun i _ => F2_01 B q i)
      have e1 : shr B q = zsum (F1 B q) (aN B) := rfl
      have el : letOf B q = if 1 < shr B q then zsum (F2 B q) (aN B) + 1 else 0 := rfl
      have step : ∀ v, v = letOf B q → ∀ j, j < aN B → KeA (up2 I' (m + 9) q v (m + 8)) (14 * j) (stemOf B j) ∧ up2 I' (m + 9) q v (m + 9) j = (if j < q + 1 then letOf B j else zsum (F2 B j) (aN B)) ∧ up2 I' (m + 9) q v (m + 10) j = shr B j ∧ up2 I' (m + 9) q v (m + 11) j = plc B j := by
        intro v hv j hj
        obtain ⟨w1, w2, w3, w4⟩ := hV j hj
        refine ⟨by rw [up2_row _ _ (by omega)]; exact w1, ?_, by rw [up2_a (by omega)]; exact w3, by rw [up2_a (by omega)]; exact w4⟩
        by_cases e : j = q
        · rw [e, up2_same, if_pos (by omega), hv]
        · rw [up2_k e, w2]
          by_cases e2 : j < q
          · rw [if_pos e2, if_pos (by omega)]
          · rw [if_neg e2, if_neg (by omega)]
      have hFr : ∀ v, LFr I (up2 I' (m + 9) q v) m := fun v a a1 a2 a3 a4 a5 => by rw [up2_row _ _ a2]; exact hF a a1 a2 a3 a4 a5
      refine ZV_iload dX7_lay_216 rfl ?_
      refine ZV_iload_n dX7_lay_218 rfl ?_
      refine ZV_icmp_ge (tgt := 259) dX7_lay_219 (by decide) ⟨by omega, by omega⟩ ⟨by omega, by omega⟩ (fun h219 => ?_) (fun h219 => ?_)
      · omega
      · refine ZV_aload_n dX7_lay_222 rfl ?_
        refine ZV_getR fX7_lay_35 dX7_lay_223 (by assumption) rfl (by assumption) ?_
        refine ZV_iload dX7_lay_226 rfl ?_
        refine ZV_aload_n dX7_lay_228 rfl ?_
        refine ZV_getR fX7_lay_38 dX7_lay_229 (by assumption) rfl (by assumption) ?_
        refine ZV_iload dX7_lay_232 rfl ?_
        refine ZV_iald (q) dX7_lay_234 (by assumption) (by first | rfl | omega) (by omega) (by omega) ?_
        rw [v3]
        refine ZV_iconst dX7_lay_235 ?_
        refine ZV_icmp_le (tgt := 251) dX7_lay_236 (by decide) ⟨by omega, by omega⟩ ⟨by omega, by omega⟩ (fun h236 => ?_) (fun h236 => ?_)
        · refine ZV_iconst dX7_lay_251 ?_
          refine ZV_iast (q) dX7_lay_252 (by assumption) (by first | rfl | omega) (by omega) (by omega) ?_
          refine ZV_jinc4 dX7_lay_253 rfl (by decide) ?_
          refine ZV_goto (tgt := 216) dX7_lay_256 (by decide) ?_
          exact ih _ _ _ _ _ (by omega) (hFr _) (step _ (by rw [el, if_neg (by omega)]))
        · refine ZV_aload_n dX7_lay_239 rfl ?_
          refine ZV_getR fX7_lay_35 dX7_lay_240 (by assumption) rfl (by assumption) ?_
          refine ZV_iload dX7_lay_243 rfl ?_
          refine ZV_iald (q) dX7_lay_245 (by assumption) (by first | rfl | omega) (by omega) (by omega) ?_
          rw [v2]
          refine ZV_iconst dX7_lay_246 ?_
          refine ZV_iadd dX7_lay_247 ?_
          refine ZV_goto (tgt := 252) dX7_lay_248 (by decide) ?_
          refine ZV_iast (q) dX7_lay_252 (by assumption) (by first | rfl | omega) (by omega) (by omega) ?_
          refine ZV_jinc4 dX7_lay_253 rfl (by decide) ?_
          refine ZV_goto (tgt := 216) dX7_lay_256 (by decide) ?_
          exact ih _ _ _ _ _ (by omega) (hFr _) (step _ (by rw [el, if_pos (by omega)]))
  -- the second loop, within
  have inner : ∀ q : Nat, q < aN B → (∀ (o5 o6 o7 : Option Value) (I' : Mm), L2 I I' m B q (aN B) → ZV X E_X7_lay 207 [some (.ref m), some (.ref r), some (vi s), some (vi (aN B : Int)), some (vi (q : Int)), o5, o6, o7] [] b g I' J post) → ∀ p : Nat, p ≤ aN B → ∀ (z : Int) (o6 o7 : Option Value) (I' : Mm), z = (p : Int) → L2 I I' m B q p → ZV X E_X7_lay 82 [some (.ref m), some (.ref r), some (vi s), some (vi (aN B : Int)), some (vi (q : Int)), some (vi z), o6, o7] [] b g I' J post := by
    intro q hq next
    refine loop_up (aN B) ?_ ?_
    · intro z o6 o7 I' hz hV
      refine ZV_iload dX7_lay_82 rfl ?_
      refine ZV_iload_n dX7_lay_84 rfl ?_
      refine ZV_icmp_ge (tgt := 207) dX7_lay_85 (by decide) ⟨by omega, by omega⟩ ⟨by omega, by omega⟩ (fun h85 => ?_) (fun h85 => ?_)
      · exact next _ _ _ I' hV
      · omega
    · intro p hp ih z o6 o7 I' hz hV
      subst hz
      obtain ⟨hF, hV2⟩ := hV
      obtain ⟨v1, v2, v3, v4⟩ := hV2 q hq
      obtain ⟨w1, -⟩ := hV2 p hp
      have g1 := fill_rng (F1 B) (F1_01 B) (aN B) q p q h16 (by omega)
      have g2 := fill_rng (F2 B) (F2_01 B) (aN B) q p q h16 (by omega)
      have g3 := fill_rng (F3 B) (F3_01 B) (aN B) q p q h16 (by omega)
      have rr := rows I' hF
      have seg3 : ∀ (lk : Int) (I2 : Mm), I2 (m + 11) q = fill (F3 B) (aN B) q p q → (∀ I3, (∀ a, a ≠ m + 11 → I3 a = I2 a) → (∀ j, I3 (m + 11) j = if j = q then fill (F3 B) (aN B) q p q + F3 B q p else I2 (m + 11) j) → L2 I I3 m B q (p + 1)) → ZV X E_X7_lay 181 [some (.ref m), some (.ref r), some (vi s), some (vi (aN B : Int)), some (vi (q : Int)), some (vi (p : Int)), some (vi lk), some (vi (F3 B q p))] [] b g I2 J post := by
        intro lk I2 e1 hfin
        have f3 := F3_01 B q p
        have m3 : ∀ x, x = F3 B q p → ZV X E_X7_lay 199 [some (.ref m), some (.ref r), some (vi s), some (vi (aN B : Int)), some (vi (q : Int)), some (vi (p : Int)), some (vi lk), some (vi (F3 B q p))] [vi x, vi (fill (F3 B) (aN B) q p q), vi (q : Int), .ref (m + 11)] b g I2 J post := by
          intro x hx
          refine ZV_iadd dX7_lay_199 ?_
          refine ZV_iast (q) dX7_lay_200 (by assumption) (by first | rfl | omega) (by omega) (by omega) ?_
          refine ZV_jinc5 dX7_lay_201 rfl (by decide) ?_
          refine ZV_goto (tgt := 82) dX7_lay_204 (by decide) ?_
          refine ih _ _ _ _ (by omega) (hfin _ (fun a ha => up2_row _ _ ha) (fun j => ?_))
          by_cases e : j = q
          · rw [e, up2_same, if_pos rfl, hx]
          · rw [up2_k e, if_neg e]
        refine ZV_aload_n dX7_lay_181 rfl ?_
        refine ZV_getR fX7_lay_41 dX7_lay_182 (by assumption) rfl (by assumption) ?_
        refine ZV_iload dX7_lay_185 rfl ?_
        first | refine ZV_dup2 dX7_lay_187 rfl rfl ?_ | refine ZV_dup2l dX7_lay_187 rfl ?_
        refine ZV_iald (q) dX7_lay_188 (by assumption) (by first | rfl | omega) (by omega) (by omega) ?_
        rw [e1]
        refine ZV_iload dX7_lay_189 rfl ?_
        refine ZV_if_eq (tgt := 198) dX7_lay_191 (by decide) ⟨by omega, by omega⟩ (fun h191 => ?_) (fun h191 => ?_)
        · refine ZV_iconst dX7_lay_198 ?_
          exact m3 _ (by omega)
        · refine ZV_iconst dX7_lay_194 ?_
          refine ZV_goto (tgt := 199) dX7_lay_195 (by decide) ?_
          exact m3 _ (by omega)
      have seg2 : ∀ (I2 : Mm), I2 (m + 9) q = fill (F2 B) (aN B) q p q → (∀ I3, (∀ a, a ≠ m + 9 → I3 a = I2 a) → (∀ j, I3 (m + 9) j = if j = q then fill (F2 B) (aN B) q p q + F2 B q p else I2 (m + 9) j) → ZV X E_X7_lay 181 [some (.ref m), some (.ref r), some (vi s), some (vi (aN B : Int)), some (vi (q : Int)), some (vi (p : Int)), some (vi (F1 B q p)), some (vi (F3 B q p))] [] b g I3 J post) → ZV X E_X7_lay 156 [some (.ref m), some (.ref r), some (vi s), some (vi (aN B : Int)), some (vi (q : Int)), some (vi (p : Int)), some (vi (F1 B q p)), some (vi (F3 B q p))] [] b g I2 J post := by
        intro I2 e1 hfin
        have f1 := F1_01 B q p
        have f3 := F3_01 B q p
        have e2 : F2 B q p = if F1 B q p = 0 then 0 else F3 B q p := by
          unfold F2 F1 F3
          by_cases c : stemOf B p = stemOf B q
          · rw [if_pos c, if_pos c, if_neg (by decide)]
          · rw [if_neg c, if_neg c, if_pos rfl]
        have m2 : ∀ x, x = F2 B q p → ZV X E_X7_lay 179 [some (.ref m), some (.ref r), some (vi s), some (vi (aN B : Int)), some (vi (q : Int)), some (vi (p : Int)), some (vi (F1 B q p)), some (vi (F3 B q p))] [vi x, vi (fill (F2 B) (aN B) q p q), vi (q : Int), .ref (m + 9)] b g I2 J post := by
          intro x hx
          refine ZV_iadd dX7_lay_179 ?_
          refine ZV_iast (q) dX7_lay_180 (by assumption) (by first | rfl | omega) (by omega) (by omega) ?_
          refine hfin _ (fun a ha => up2_row _ _ ha) (fun j => ?_)
          by_cases e : j = q
          · rw [e, up2_same, if_pos rfl, hx]
          · rw [up2_k e, if_neg e]
        refine ZV_aload_n dX7_lay_156 rfl ?_
        refine ZV_getR fX7_lay_35 dX7_lay_157 (by assumption) rfl (by assumption) ?_
        refine ZV_iload dX7_lay_160 rfl ?_
        first | refine ZV_dup2 dX7_lay_162 rfl rfl ?_ | refine ZV_dup2l dX7_lay_162 rfl ?_
        refine ZV_iald (q) dX7_lay_163 (by assumption) (by first | rfl | omega) (by omega) (by omega) ?_
        rw [e1]
        refine ZV_iload dX7_lay_164 rfl ?_
        refine ZV_if_eq (tgt := 178) dX7_lay_166 (by decide) ⟨by omega, by omega⟩ (fun h166 => ?_) (fun h166 => ?_)
        · refine ZV_iconst dX7_lay_178 ?_
          exact m2 _ (by rw [e2, if_pos (by omega)])
        · refine ZV_iload dX7_lay_169 rfl ?_
          refine ZV_if_eq (tgt := 178) dX7_lay_171 (by decide) ⟨by omega, by omega⟩ (fun h171 => ?_) (fun h171 => ?_)
          · refine ZV_iconst dX7_lay_178 ?_
            exact m2 _ (by rw [e2, if_neg (by omega)]; omega)
          · refine ZV_iconst dX7_lay_174 ?_
            refine ZV_goto (tgt := 179) dX7_lay_175 (by decide) ?_
            exact m2 _ (by rw [e2, if_neg (by omega)]; omega)
      have seg1 : ZV X E_X7_lay 136 [some (.ref m), some (.ref r), some (vi s), some (vi (aN B : Int)), some (vi (q : Int)), some (vi (p : Int)), some (vi (F1 B q p)), some (vi (F3 B q p))] [] b g I' J post := by
        have f1 := F1_01 B q p
        have m1 : ∀ x, x = F1 B q p → ZV X E_X7_lay 154 [some (.ref m), some (.ref r), some (vi s), some (vi (aN B : Int)), some (vi (q : Int)), some (vi (p : Int)), some (vi (F1 B q p)), some (vi (F3 B q p))] [vi x, vi (fill (F1 B) (aN B) q p q), vi (q : Int), .ref (m + 10)] b g I' J post := by
          intro x hx
          refine ZV_iadd dX7_lay_154 ?_
          refine ZV_iast (q) dX7_lay_155 (by assumption) (by first | rfl | omega) (by omega) (by omega) ?_
          refine seg2 _ (by rw [up2_a (by omega)]; exact v3) ?_
          intro I3 hI3 hI3q
          refine seg3 _ _ (by rw [hI3 _ (by omega), up2_a (by omega)]; exact v4) ?_
          intro I4 hI4 hI4q
          refine ⟨fun a a1 a2 a3 a4 a5 => by rw [hI4 a a4, hI3 a a2, up2_row _ _ a3]; exact hF a a1 a2 a3 a4 a5, fun j hj => ?_⟩
          obtain ⟨y1, y2, y3, y4⟩ := hV2 j hj
          refine ⟨?_, ?_, ?_, ?_⟩
          · rw [hI4 _ (by omega), hI3 _ (by omega), up2_row _ _ (by omega)]; exact y1
          · rw [hI4 _ (by omega), hI3 _ (by omega), fill_add]
            by_cases e : j = q
            · rw [e, up2_same, if_pos rfl, hx]
            · rw [up2_k e, if_neg e]; exact y2
          · rw [hI4 _ (by omega), hI3q j, fill_add]
            by_cases e : j = q
            · rw [if_pos e, if_pos e]
            · rw [if_neg e, if_neg e, up2_a (by omega)]; exact y3
          · rw [hI4q j, fill_add]
            by_cases e : j = q
            · rw [if_pos e, if_pos e]
            · rw [if_neg e, if_neg e, hI3 _ (by omega), up2_a (by omega)]; exact y4
        refine ZV_aload_n dX7_lay_136 rfl ?_
        refine ZV_getR fX7_lay_38 dX7_lay_137 (by assumption) rfl (by assumption) ?_
        refine ZV_iload dX7_lay_140 rfl ?_
        first | refine ZV_dup2 dX7_lay_142 rfl rfl ?_ | refine ZV_dup2l dX7_lay_142 rfl ?_
        refine ZV_iald (q) dX7_lay_143 (by assumption) (by first | rfl | omega) (by omega) (by omega) ?_
        rw [v2]
        refine ZV_iload dX7_lay_144 rfl ?_
        refine ZV_if_eq (tgt := 153) dX7_lay_146 (by decide) ⟨by omega, by omega⟩ (fun h146 => ?_) (fun h146 => ?_)
        · refine ZV_iconst dX7_lay_153 ?_
          exact m1 _ (by omega)
        · refine ZV_iconst dX7_lay_149 ?_
          refine ZV_goto (tgt := 154) dX7_lay_150 (by decide) ?_
          exact m1 _ (by omega)
      have seg0 : ∀ x, x = F3 B q p → ZV X E_X7_lay 134 [some (.ref m), some (.ref r), some (vi s), some (vi (aN B : Int)), some (vi (q : Int)), some (vi (p : Int)), some (vi (F1 B q p)), o7] [vi x] b g I' J post → True := fun _ _ _ => trivial
      refine ZV_iload dX7_lay_82 rfl ?_
      refine ZV_iload_n dX7_lay_84 rfl ?_
      refine ZV_icmp_ge (tgt := 207) dX7_lay_85 (by decide) ⟨by omega, by omega⟩ ⟨by omega, by omega⟩ (fun h85 => ?_) (fun h85 => ?_)
      · omega
      · refine ZV_aload_n dX7_lay_88 rfl ?_
        refine ZV_getR fX7_lay_32 dX7_lay_89 (by assumption) rfl (by assumption) ?_
        refine ZV_bipush dX7_lay_92 (by decide) ?_
        refine ZV_iload dX7_lay_94 rfl ?_
        refine ZV_imul dX7_lay_96 ?_
        rw [show 14 * (q : Int) = ((14 * q : Nat) : Int) by omega]
        refine ZV_aload_n dX7_lay_97 rfl ?_
        refine ZV_getR fX7_lay_32 dX7_lay_98 (by assumption) rfl (by assumption) ?_
        refine ZV_bipush dX7_lay_101 (by decide) ?_
        refine ZV_iload dX7_lay_103 rfl ?_
        refine ZV_imul dX7_lay_105 ?_
        rw [show 14 * (p : Int) = ((14 * p : Nat) : Int) by omega]
        refine cl_X7_areLike kX7_lay_97 rfl dX7_lay_106 (Nat.le_of_ble_eq_true rfl) ?_
        refine sp_X7_areLike k1 k1 (by omega) (by omega) (by omega) (by omega) v1 w1 (stemOf_KWF hG hq) (stemOf_KWF hG hp) ?_
        have ef : (if stemOf B q = stemOf B p then (1 : Int) else 0) = F1 B q p := by
          unfold F1
          by_cases c : stemOf B q = stemOf B p
          · rw [if_pos c, if_pos c.symm]
          · rw [if_neg c, if_neg (fun d => c d.symm)]
        rw [ef]
        have f1 := F1_01 B q p
        have f3 := F3_01 B q p
        have at134 : ∀ (x : Int) (o7 : Option Value), znl o7 = true ∨ True → x = F3 B q p → ZV X E_X7_lay 136 [some (.ref m), some (.ref r), some (vi s), some (vi (aN B : Int)), some (vi (q : Int)), some (vi (p : Int)), some (vi (F1 B q p)), some (vi x)] [] b g I' J post := by
          intro x o7 _ hx
          rw [hx]
          exact seg1
        refine ZV_istore6 dX7_lay_109 rfl (by decide) ?_
        refine ZV_iload dX7_lay_111 rfl ?_
        refine ZV_iload dX7_lay_113 rfl ?_
        refine ZV_icmp_eq (tgt := 133) dX7_lay_115 (by decide) ⟨by omega, by omega⟩ ⟨by omega, by omega⟩ (fun h115 => ?_) (fun h115 => ?_)
        · refine ZV_iconst dX7_lay_133 ?_
          refine ZV_istore7 dX7_lay_134 rfl (by decide) ?_
          exact at134 0 none (Or.inr trivial) (by unfold F3; rw [show p = q by omega, bz_self])
        · refine ZV_aload_n dX7_lay_118 rfl ?_
          refine ZV_iload dX7_lay_119 rfl ?_
          refine ZV_iload dX7_lay_121 rfl ?_
          refine cl_X7_isAhead kX7_lay_101 rfl dX7_lay_123 (Nat.le_of_ble_eq_true rfl) ?_
          refine sp_X7_isAhead hrk (by omega) (by omega) (by rw [rr]; exact hWk p hp) (by rw [rr]; exact hWk q hq) (hWf p hp) (hWf q hq) (by rw [rr]; exact r2) ho2 ?_
          rw [show bz (aO B) (aW B p) (aW B q) p q = F3 B q p from rfl]
          refine ZV_if_eq (tgt := 133) dX7_lay_126 (by decide) ⟨by omega, by omega⟩ (fun h126 => ?_) (fun h126 => ?_)
          · refine ZV_iconst dX7_lay_133 ?_
            refine ZV_istore7 dX7_lay_134 rfl (by decide) ?_
            exact at134 0 none (Or.inr trivial) (by omega)
          · refine ZV_iconst dX7_lay_129 ?_
            refine ZV_goto (tgt := 134) dX7_lay_130 (by decide) ?_
            refine ZV_istore7 dX7_lay_134 rfl (by decide) ?_
            exact at134 1 none (Or.inr trivial) (by omega)
  -- the second loop
  have loop2 : ∀ q : Nat, q ≤ aN B → ∀ (z : Int) (o5 o6 o7 : Option Value) (I' : Mm), z = (q : Int) → L2 I I' m B q 0 → ZV X E_X7_lay 73 [some (.ref m), some (.ref r), some (vi s), some (vi (aN B : Int)), some (vi z), o5, o6, o7] [] b g I' J post := by
    refine loop_up (aN B) ?_ ?_
    · intro z o5 o6 o7 I' hz hV
      obtain ⟨hF, hV2⟩ := hV
      refine ZV_iload dX7_lay_73 rfl ?_
      refine ZV_iload_n dX7_lay_75 rfl ?_
      refine ZV_icmp_ge (tgt := 213) dX7_lay_76 (by decide) ⟨by omega, by omega⟩ ⟨by omega, by omega⟩ (fun h76 => ?_) (fun h76 => ?_)
      · refine ZV_iconst dX7_lay_213 ?_
        refine ZV_istore4 dX7_lay_214 rfl (by decide) ?_
        refine loop3 0 (by omega) _ _ _ _ _ rfl hF fun j hj => ?_
        obtain ⟨w1, w2, w3, w4⟩ := hV2 j hj
        unfold fill at w2 w3 w4
        rw [if_pos hj] at w2 w3 w4
        rw [if_neg (by omega)]
        exact ⟨w1, w3, w2, w4⟩
      · omega
    · intro q hq ih z o5 o6 o7 I' hz hV
      subst hz
      refine ZV_iload dX7_lay_73 rfl ?_
      refine ZV_iload_n dX7_lay_75 rfl ?_
      refine ZV_icmp_ge (tgt := 213) dX7_lay_76 (by decide) ⟨by omega, by omega⟩ ⟨by omega, by omega⟩ (fun h76 => ?_) (fun h76 => ?_)
      · omega
      · refine ZV_iconst dX7_lay_79 ?_
        refine ZV_istore5 dX7_lay_80 rfl (by decide) ?_
        refine inner q hq ?_ 0 (by omega) _ _ _ _ rfl hV
        intro o5 o6 o7 I2 hV2
        refine ZV_jinc4 dX7_lay_207 rfl (by decide) ?_
        refine ZV_goto (tgt := 73) dX7_lay_210 (by decide) ?_
        refine ih _ _ _ _ _ (by omega) ⟨hV2.1, fun j hj => ?_⟩
        obtain ⟨w1, w2, w3, w4⟩ := hV2.2 j hj
        rw [fill_next] at w2 w3 w4
        exact ⟨w1, w2, w3, w4⟩
  -- the first loop
  have loop1 : ∀ q : Nat, q ≤ aN B → ∀ (z : Int) (I' : Mm), z = (q : Int) → LFr I I' m → (∀ j, j < q → KeA (I' (m + 8)) (14 * j) (stemOf B j) ∧ I' (m + 10) j = 0 ∧ I' (m + 9) j = 0 ∧ I' (m + 11) j = 0) → ZV X E_X7_lay 7 [some (.ref m), some (.ref r), some (vi s), some (vi (aN B : Int)), some (vi z), none, none, none] [] b g I' J post := by
    refine loop_up (aN B) ?_ ?_
    · intro z I' hz hF hV
      refine ZV_iload dX7_lay_7 rfl ?_
      refine ZV_iload_n dX7_lay_9 rfl ?_
      refine ZV_icmp_ge (tgt := 70) dX7_lay_10 (by decide) ⟨by omega, by omega⟩ ⟨by omega, by omega⟩ (fun h10 => ?_) (fun h10 => ?_)
      · refine ZV_iconst dX7_lay_70 ?_
        refine ZV_istore4 dX7_lay_71 rfl (by decide) ?_
        refine loop2 0 (by omega) _ _ _ _ _ rfl ⟨hF, fun j hj => ?_⟩
        obtain ⟨w1, w2, w3, w4⟩ := hV j hj
        have e0 : ∀ F : Nat → Nat → Int, fill F (aN B) 0 0 j = 0 := fun F => by
          unfold fill
          rw [if_neg (by omega)]
          by_cases e : j = 0
          · rw [if_pos e]; rfl
          · rw [if_neg e]
        rw [e0, e0, e0]
        exact ⟨w1, w2, w3, w4⟩
      · omega
    · intro q hq ih z I' hz hF hV
      subst hz
      have rr := rows I' hF
      refine ZV_iload dX7_lay_7 rfl ?_
      refine ZV_iload_n dX7_lay_9 rfl ?_
      refine ZV_icmp_ge (tgt := 70) dX7_lay_10 (by decide) ⟨by omega, by omega⟩ ⟨by omega, by omega⟩ (fun h10 => ?_) (fun h10 => ?_)
      · omega
      · refine ZV_aload_n dX7_lay_13 rfl ?_
        refine ZV_aload_n dX7_lay_14 rfl ?_
        refine ZV_iload dX7_lay_15 rfl ?_
        refine ZV_iload_n dX7_lay_17 rfl ?_
        refine cl_X7_layStem kX7_lay_93 rfl dX7_lay_18 (by assumption) (Nat.le_of_ble_eq_true rfl) ?_
        refine sp_X7_layStem hL hr (by omega) (by rw [rr]; exact hWk q hq) (hWf q hq) hs ?_
        intro I2 hI2 hK2
        refine ZV_aload_n dX7_lay_21 rfl ?_
        refine ZV_getR fX7_lay_47 dX7_lay_22 (by assumption) rfl (by assumption) ?_
        refine ZV_iconst dX7_lay_25 ?_
        refine ZV_aload_n dX7_lay_26 rfl ?_
        refine ZV_getR fX7_lay_32 dX7_lay_27 (by assumption) rfl (by assumption) ?_
        refine ZV_bipush dX7_lay_30 (by decide) ?_
        refine ZV_iload dX7_lay_32 rfl ?_
        refine ZV_imul dX7_lay_34 ?_
        rw [show 14 * (q : Int) = ((14 * q : Nat) : Int) by omega]
        refine ZV_bipush dX7_lay_35 (by decide) ?_
        refine cl_X7_copy kX7_lay_63 rfl dX7_lay_37 (Nat.le_of_ble_eq_true rfl) ?_
        refine sp_X7_copy (x := 0) (n := 14) k6 k1 (by omega) (by omega) (by omega) (by omega) (Or.inl (by omega)) ?_
        intro I3 hI3 hI3q
        refine ZV_aload_n dX7_lay_40 rfl ?_
        refine ZV_getR fX7_lay_38 dX7_lay_41 (by assumption) rfl (by assumption) ?_
        refine ZV_iload dX7_lay_44 rfl ?_
        refine ZV_iconst dX7_lay_46 ?_
        refine ZV_iast (q) dX7_lay_47 (by assumption) (by first | rfl | omega) (by omega) (by omega) ?_
        refine ZV_aload_n dX7_lay_48 rfl ?_
        refine ZV_getR fX7_lay_35 dX7_lay_49 (by assumption) rfl (by assumption) ?_
        refine ZV_iload dX7_lay_52 rfl ?_
        refine ZV_iconst dX7_lay_54 ?_
        refine ZV_iast (q) dX7_lay_55 (by assumption) (by first | rfl | omega) (by omega) (by omega) ?_
        refine ZV_aload_n dX7_lay_56 rfl ?_
        refine ZV_getR fX7_lay_41 dX7_lay_57 (by assumption) rfl (by assumption) ?_
        refine ZV_iload dX7_lay_60 rfl ?_
        refine ZV_iconst dX7_lay_62 ?_
        refine ZV_iast (q) dX7_lay_63 (by assumption) (by first | rfl | omega) (by omega) (by omega) ?_
        refine ZV_jinc4 dX7_lay_64 rfl (by decide) ?_
        refine ZV_goto (tgt := 7) dX7_lay_67 (by decide) ?_
        have hk : KeA (I3 (m + 8)) (14 * q) (stemOf B q) := by
          have e1 : stemOf B q = stm (aW B q) s (aW B q).2.2.1 := by rw [eS, eW]
          rw [e1]
          have l12 : klen (stm (aW B q) s (aW B q).2.2.1) ≤ 12 := by rw [← e1]; exact (stemOf_KWF hG hq).len.2
          refine hK2.move fun k hk9 => ?_
          rw [hI3q, if_pos ⟨by omega, by omega⟩, show 0 + (14 * q + k - 14 * q) = 0 + k by omega]
        refine ih _ _ (by omega) (fun a a1 a2 a3 a4 a5 => by rw [up2_row _ _ a4, up2_row _ _ a2, up2_row _ _ a3, hI3 a a1, hI2 a a5]; exact hF a a1 a2 a3 a4 a5) fun j hj => ?_
        have sm : ∀ a, a ≠ m + 8 → a ≠ m + 13 → I3 a = I' a := fun a a1 a2 => by rw [hI3 a a1, hI2 a a2]
        by_cases e : j = q
        · rw [e]
          refine ⟨?_, ?_, ?_, up2_same _ _ _ _⟩
          · rw [up2_row _ _ (by omega), up2_row _ _ (by omega), up2_row _ _ (by omega)]; exact hk
          · rw [up2_a (by omega), up2_a (by omega), up2_same]
          · rw [up2_a (by omega), up2_same]
        · obtain ⟨w1, w2, w3, w4⟩ := hV j (by omega)
          refine ⟨?_, ?_, ?_, ?_⟩
          · rw [up2_row _ _ (by omega), up2_row _ _ (by omega), up2_row _ _ (by omega)]
            have l12 := (stemOf_KWF hG (show j < aN B by omega)).len.2
            exact w1.move (p := 14 * j) fun k hk9 => by rw [hI3q, if_neg (by omega), hI2 _ (by omega)]
          · rw [up2_a (by omega), up2_a (by omega), up2_k e, sm _ (by omega) (by omega)]; exact w2
          · rw [up2_a (by omega), up2_k e, up2_a (by omega), sm _ (by omega) (by omega)]; exact w3
          · rw [up2_k e, up2_a (by omega), up2_a (by omega), sm _ (by omega) (by omega)]; exact w4
  refine ZV_aload_n dX7_lay_0 rfl ?_
  refine ZV_iconst dX7_lay_1 ?_
  refine ZV_iald (0) dX7_lay_2 (by assumption) (by first | rfl | omega) (by omega) (by omega) ?_
  rw [r0]
  refine ZV_istore3 dX7_lay_3 rfl (by decide) ?_
  refine ZV_iconst dX7_lay_4 ?_
  refine ZV_istore4 dX7_lay_5 rfl (by decide) ?_
  exact loop1 0 (by omega) _ _ rfl (fun _ _ _ _ _ _ => rfl) (fun j hj => absurd hj (Nat.not_lt_zero j))
end ZM4

