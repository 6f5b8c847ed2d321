/-! letters go by the order, in works that share a stem; no two works have one key: the inner loop -/
section ZL6
variable {X : Xt} {g : Geo} {I J : Mm} {b : Nat × Nat} {post : Out → Geo → Mm → Mm → Prop}
theorem sp_kept2 {c i : Nat} {Q : AC} {lt st lg z : Int} (hC : CInv X g I J c Q) (hi : i < aN Q.2.1) (hz : z = (i : Int)) (hx : ∀ (s l y : Int) (o12 o13 o14 : Option Value) (b' : Nat × Nat), s = zsum (F1 Q.2.1 i) (aN Q.2.1) → l = 1 + zsum (F2 Q.2.1 i) (aN Q.2.1) → b.1 ≤ b'.1 + 144 * aN Q.2.1 → b.2 ≤ b'.2 + 864 * aN Q.2.1 → ZV X E_L_kept 364 [some (.ref c), some (vi (aN Q.2.1 : Int)), some (vi (aO Q.2.1)), some (vi 1), some (vi lt), some (vi st), some (vl lg), none, some (vi z), some (vi s), some (vi l), some (vi y), o12, o13, o14] [] b' g I J post) : ∀ q : Nat, q ≤ aN Q.2.1 → ∀ (s l y : Int) (o12 o13 o14 : Option Value) (b' : Nat × Nat), y = (q : Int) → s = zsum (F1 Q.2.1 i) q → l = 1 + zsum (F2 Q.2.1 i) q → 144 * (aN Q.2.1 - q) ≤ b'.1 → 864 * (aN Q.2.1 - q) ≤ b'.2 → b.1 ≤ b'.1 + 144 * q → b.2 ≤ b'.2 + 864 * q → ZV X E_L_kept 266 [some (.ref c), some (vi (aN Q.2.1 : Int)), some (vi (aO Q.2.1)), some (vi 1), some (vi lt), some (vi st), some (vl lg), none, some (vi z), some (vi s), some (vi l), some (vi y), o12, o13, o14] [] b' g I J post := by
  have hG := hC.good
  have h16 := hG.1.1
  refine loop_up (aN Q.2.1) ?_ ?_
  · intro s l y o12 o13 o14 b' hy hs hl hb1 hb2 hb3 hb4
    refine ZV_iload dL_kept_266 rfl ?_
    refine ZV_iload_n dL_kept_268 rfl ?_
    refine ZV_icmp_ge (tgt := 364) dL_kept_269 (by decide) ⟨by omega, by omega⟩ ⟨by omega, by omega⟩ (fun h269 => ?_) (fun h269 => ?_)
    · exact hx _ _ _ _ _ _ _ hs hl (by first | omega | (dsimp only; omega)) (by first | omega | (dsimp only; omega))
    · omega
  · intro j hj ih s l y o12 o13 o14 b' hy hs hl hb1 hb2 hb3 hb4
    have f1 := F1_01 Q.2.1 i j
    have f2 := F2_01 Q.2.1 i j
    have w5i : wkL Q.2.1 z 5 = plN Q.2.1 i := by rw [hz]; exact (wk_at (k := 5) hi (by decide)).trans rfl
    have w5j : wkL Q.2.1 y 5 = plN Q.2.1 j := by rw [hy]; exact (wk_at (k := 5) hj (by decide)).trans rfl
    have pi1 := pl_rng hi
    have pj1 := pl_rng hj
    have r1 := zsum_01 (f := F1 Q.2.1 i) j (fun k _ => F1_01 Q.2.1 i k)
    have r2 := zsum_01 (f := F2 Q.2.1 i) j (fun k _ => F2_01 Q.2.1 i k)
    have n1 : zsum (F1 Q.2.1 i) (j + 1) = zsum (F1 Q.2.1 i) j + F1 Q.2.1 i j := rfl
    have n2 : zsum (F2 Q.2.1 i) (j + 1) = zsum (F2 Q.2.1 i) j + F2 Q.2.1 i j := rfl
    have p352 : ∀ (s2 l2 : Int) (o3 : Int) (o12 o13 o14 : Option Value) (b2 : Nat × Nat), s2 = zsum (F1 Q.2.1 i) (j + 1) → l2 = 1 + zsum (F2 Q.2.1 i) (j + 1) → b'.1 ≤ b2.1 + 144 → b'.2 ≤ b2.2 + 864 → ZV X E_L_kept 352 [some (.ref c), some (vi (aN Q.2.1 : Int)), some (vi (aO Q.2.1)), some (vi o3), some (vi lt), some (vi st), some (vl lg), none, some (vi z), some (vi s2), some (vi l2), some (vi y), o12, o13, o14] [] b2 g I J post := by
      intro s2 l2 o3 o12 o13 o14 b2 e1 e2 k1 k2
      refine ZV_iconst dL_kept_352 ?_
      refine ZV_goto (tgt := 357) dL_kept_353 (by decide) ?_
      refine ZV_istore3 dL_kept_357 rfl (by decide) ?_
      refine ZV_jinc11 dL_kept_358 rfl (by decide) ?_
      refine ZV_goto (tgt := 266) dL_kept_361 (by decide) ?_
      exact ih _ _ _ _ _ _ _ (by omega) e1 e2 (by first | omega | (dsimp only; omega)) (by first | omega | (dsimp only; omega)) (by first | omega | (dsimp only; omega)) (by first | omega | (dsimp only; omega))
    have p334 : ∀ (s2 l2 : Int) (o12 o13 o14 : Option Value) (b2 : Nat × Nat), s2 = zsum (F1 Q.2.1 i) (j + 1) → l2 = 1 + zsum (F2 Q.2.1 i) (j + 1) → b'.1 ≤ b2.1 + 64 → b'.2 ≤ b2.2 + 384 → ZV X E_L_kept 334 [some (.ref c), some (vi (aN Q.2.1 : Int)), some (vi (aO Q.2.1)), some (vi 1), some (vi lt), some (vi st), some (vl lg), none, some (vi z), some (vi s2), some (vi l2), some (vi y), o12, o13, o14] [] b2 g I J post := by
      intro s2 l2 o12 o13 o14 b2 e1 e2 k1 k2
      refine ZV_iload dL_kept_334 rfl ?_
      refine ZV_iload dL_kept_336 rfl ?_
      refine ZV_icmp_eq (tgt := 352) dL_kept_338 (by decide) ⟨by omega, by omega⟩ ⟨by omega, by omega⟩ (fun h338 => ?_) (fun h338 => ?_)
      · exact p352 _ _ _ _ _ _ _ e1 e2 (by first | omega | (dsimp only; omega)) (by first | omega | (dsimp only; omega))
      · refine ZV_aload_n dL_kept_341 rfl ?_
        refine ZV_iload dL_kept_342 rfl ?_
        refine ZV_iload dL_kept_344 rfl ?_
        refine cl_L_sameKey kL_kept_178 rfl dL_kept_346 ⟨by first | omega | (dsimp only; omega), by first | omega | (dsimp only; omega)⟩ (Nat.le_of_ble_eq_true rfl) ?_
        refine sp_L_sameKey hC hi hj hz hy ⟨by decide, by decide⟩ ?_
        rw [if_neg (fun q => by have := key_inj hG hi hj q; omega)]
        refine ZV_if_ne (tgt := 356) dL_kept_349 (by decide) ⟨by omega, by omega⟩ (fun h349 => ?_) (fun h349 => ?_)
        · omega
        · exact p352 _ _ _ _ _ _ _ e1 e2 (by first | omega | (dsimp only; omega)) (by first | omega | (dsimp only; omega))
    refine ZV_iload dL_kept_266 rfl ?_
    refine ZV_iload_n dL_kept_268 rfl ?_
    refine ZV_icmp_ge (tgt := 364) dL_kept_269 (by decide) ⟨by omega, by omega⟩ ⟨by omega, by omega⟩ (fun h269 => ?_) (fun h269 => ?_)
    · omega
    · refine ZV_iload_n dL_kept_272 rfl ?_
      refine ZV_one_eq (tgt := 364) dL_kept_273 (by decide) ?_
      refine ZV_aload_n dL_kept_276 rfl ?_
      refine ZV_iload dL_kept_277 rfl ?_
      refine ZV_iload dL_kept_279 rfl ?_
      refine cl_L_sameStem kL_kept_174 rfl dL_kept_281 ⟨by first | omega | (dsimp only; omega), by first | omega | (dsimp only; omega)⟩ (Nat.le_of_ble_eq_true rfl) ?_
      refine sp_L_sameStem hC hi hj hz hy ⟨by decide, by decide⟩ ?_
      have ef : (if stemOf Q.2.1 i = stemOf Q.2.1 j then (1 : Int) else 0) = F1 Q.2.1 i j := by
        unfold F1
        by_cases e : stemOf Q.2.1 i = stemOf Q.2.1 j
        · rw [if_pos e, if_pos e.symm]
        · rw [if_neg e, if_neg (fun q => e q.symm)]
      rw [ef]
      by_cases c1 : stemOf Q.2.1 j = stemOf Q.2.1 i
      · have g1 : F1 Q.2.1 i j = 1 := if_pos c1
        have g2 : F2 Q.2.1 i j = bz (aO Q.2.1) (aW Q.2.1 j) (aW Q.2.1 i) j i := if_pos c1
        rw [g1]
        refine ZV_istore12 dL_kept_284 rfl (by decide) ?_
        refine ZV_iload dL_kept_286 rfl ?_
        refine ZV_iload dL_kept_288 rfl ?_
        refine ZV_if_eq (tgt := 297) dL_kept_290 (by decide) ⟨by omega, by omega⟩ (fun h290 => ?_) (fun h290 => ?_)
        · omega
        · refine ZV_iconst dL_kept_293 ?_
          refine ZV_goto (tgt := 298) dL_kept_294 (by decide) ?_
          refine ZV_iadd dL_kept_298 ?_
          refine ZV_istore9 dL_kept_299 rfl (by decide) ?_
          refine ZV_iload dL_kept_301 rfl ?_
          refine ZV_iload dL_kept_303 rfl ?_
          refine ZV_if_eq (tgt := 330) dL_kept_305 (by decide) ⟨by omega, by omega⟩ (fun h305 => ?_) (fun h305 => ?_)
          · omega
          · refine ZV_aload_n dL_kept_308 rfl ?_
            refine ZV_iload dL_kept_309 rfl ?_
            refine ZV_iconst dL_kept_311 ?_
            refine cl_L_work kL_kept_104 rfl dL_kept_312 ⟨by first | omega | (dsimp only; omega), by first | omega | (dsimp only; omega)⟩ (Nat.le_of_ble_eq_true rfl) ?_
            refine sp_L_work hC ⟨by omega, by omega⟩ ⟨by omega, by omega⟩ ⟨by decide, by decide⟩ ?_
            rw [w5j]
            refine ZV_aload_n dL_kept_315 rfl ?_
            refine ZV_iload dL_kept_316 rfl ?_
            refine ZV_iconst dL_kept_318 ?_
            refine cl_L_work kL_kept_104 rfl dL_kept_319 ⟨by first | omega | (dsimp only; omega), by first | omega | (dsimp only; omega)⟩ (Nat.le_of_ble_eq_true rfl) ?_
            refine sp_L_work hC ⟨by omega, by omega⟩ ⟨by omega, by omega⟩ ⟨by decide, by decide⟩ ?_
            rw [w5i]
            refine ZV_lif_ge (tgt := 330) dL_kept_322 dL_kept_323 (by decide) ⟨by omega, by omega⟩ ⟨by omega, by omega⟩ (fun h322 => ?_) (fun h322 => ?_)
            · have g3 : F2 Q.2.1 i j = 0 := by
                rcases f2 with e | e
                · exact e
                · have := (pl_iff hi hj).mpr (g2.symm.trans e)
                  omega
              refine ZV_iconst dL_kept_330 ?_
              refine ZV_iadd dL_kept_331 ?_
              refine ZV_istore10 dL_kept_332 rfl (by decide) ?_
              exact p334 _ _ _ _ _ _ (by rw [hs, n1, g1]) (by rw [hl, n2, g3]; omega) (by first | omega | (dsimp only; omega)) (by first | omega | (dsimp only; omega))
            · have g3 : F2 Q.2.1 i j = 1 := g2.trans ((pl_iff hi hj).mp (by omega))
              refine ZV_iconst dL_kept_326 ?_
              refine ZV_goto (tgt := 331) dL_kept_327 (by decide) ?_
              refine ZV_iadd dL_kept_331 ?_
              refine ZV_istore10 dL_kept_332 rfl (by decide) ?_
              exact p334 _ _ _ _ _ _ (by rw [hs, n1, g1]) (by rw [hl, n2, g3]; omega) (by first | omega | (dsimp only; omega)) (by first | omega | (dsimp only; omega))
      · have g1 : F1 Q.2.1 i j = 0 := if_neg c1
        have g2 : F2 Q.2.1 i j = 0 := if_neg c1
        rw [g1]
        refine ZV_istore12 dL_kept_284 rfl (by decide) ?_
        refine ZV_iload dL_kept_286 rfl ?_
        refine ZV_iload dL_kept_288 rfl ?_
        refine ZV_if_eq (tgt := 297) dL_kept_290 (by decide) ⟨by omega, by omega⟩ (fun h290 => ?_) (fun h290 => ?_)
        · refine ZV_iconst dL_kept_297 ?_
          refine ZV_iadd dL_kept_298 ?_
          refine ZV_istore9 dL_kept_299 rfl (by decide) ?_
          refine ZV_iload dL_kept_301 rfl ?_
          refine ZV_iload dL_kept_303 rfl ?_
          refine ZV_if_eq (tgt := 330) dL_kept_305 (by decide) ⟨by omega, by omega⟩ (fun h305 => ?_) (fun h305 => ?_)
          · refine ZV_iconst dL_kept_330 ?_
            refine ZV_iadd dL_kept_331 ?_
            refine ZV_istore10 dL_kept_332 rfl (by decide) ?_
            exact p334 _ _ _ _ _ _ (by rw [hs, n1, g1]) (by rw [hl, n2, g2]; omega) (by first | omega | (dsimp only; omega)) (by first | omega | (dsimp only; omega))
          · omega
        · omega
end ZL6

