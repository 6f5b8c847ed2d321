/-! CitationKeys: runScript -/
def scS (A : ASt) (s : Int) (n : Nat) : Nat → Option ASt
  | 0 => some A
  | q + 1 => match scS A s n q with
    | some B => cmdF B (sdiv s (n - 1 - q) % 10000)
    | none => none
def scF (A : ASt) (s : Int) (n : Nat) : Int := zfst (fun q => if (scS A s n (q + 1)).isNone then 1 else 0) n
def un : Nat → Int
  | 0 => 1
  | n + 1 => un n * 10000
theorem un_rng : ∀ n, n ≤ 4 → 1 ≤ un n ∧ un n ≤ 10000000000000000
  | 0, _ => by decide
  | 1, _ => by decide
  | 2, _ => by decide
  | 3, _ => by decide
  | 4, _ => by decide
  | n + 5, h => by omega
section ZA9
variable {X : Xt} {g : Geo} {I J : Mm} {b : Nat × Nat} {post : Out → Geo → Mm → Mm → Prop}
theorem sp_X6_runScript {c : Nat} {n s : Int} {Q : AC} (hC : CInv X g I J c Q) (hn : r32 n) (hs : r64 s) (hb : 1 ≤ b.1 ∧ 6 ≤ b.2) (hx1 : ¬ (1 ≤ n ∧ n ≤ 4) → post (.inr zIAE) g I J) (hx2 : (1 ≤ n ∧ n ≤ 4) → ¬ (0 ≤ s ∧ s < un n.toNat) → post (.inr zIAE) g I J) (hx3 : (1 ≤ n ∧ n ≤ 4) → (0 ≤ s ∧ s < un n.toNat) → ∀ g' I' J', CFr g g' I I' J J' c → CInv X g' I' J' c Q → post (.inl (some (vi (scF Q.2.1 s n.toNat)))) g' I' J') : ZV X E_X6_runScript 0 [some (.ref c), some (vi n), some (vl s), none, none, none, none] [] b g I J post := by
  obtain ⟨⟨l0, l1, l2, l3, l4, l5, l6, l7⟩, lT, lN, lR, -⟩ := id hC.1
  have lr := lR.1.1
  have hg := hC.2.1
  have hGd := hC.2.2.2.1.2
  have h16 := hGd.1.1
  obtain ⟨⟨hA, hK, hS⟩, -⟩ := hC.2.2.2.1
  obtain ⟨n1, n2⟩ := hn
  obtain ⟨r1, r2⟩ := id hs
  refine ZV_iload_n dX6_runScript_0 rfl ?_
  refine ZV_iconst dX6_runScript_1 ?_
  refine ZV_icmp_lt (tgt := 10) dX6_runScript_2 (by decide) ⟨by omega, by omega⟩ ⟨by omega, by omega⟩ (fun h2 => ?_) (fun h2 => ?_)
  · refine ZV_throw tX6_runScript_10 rfl dX6_runScript_10 dX6_runScript_13 dX6_runScript_14 dX6_runScript_16 dX6_runScript_19 ⟨by decide, by decide⟩ ⟨by first | omega | (dsimp only; omega), by first | omega | (dsimp only; omega)⟩ (by assumption) ?_
    exact hx1 (by omega)
  · refine ZV_iload_n dX6_runScript_5 rfl ?_
    refine ZV_iconst dX6_runScript_6 ?_
    refine ZV_icmp_le (tgt := 20) dX6_runScript_7 (by decide) ⟨by omega, by omega⟩ ⟨by omega, by omega⟩ (fun h7 => ?_) (fun h7 => ?_)
    · refine ZV_lconst (z := 1) dX6_runScript_20 (by decide) ?_
      refine ZV_lstore4 dX6_runScript_21 rfl (by decide) ?_
      refine ZV_iconst dX6_runScript_23 ?_
      refine ZV_istore6 dX6_runScript_24 rfl (by decide) ?_
      obtain ⟨N, rfl⟩ : ∃ N : Nat, n = N := ⟨n.toNat, by omega⟩
      rw [Int.toNat_natCast] at hx2 hx3
      have hgood : 1 ≤ (N : Int) ∧ (N : Int) ≤ 4 := ⟨by omega, by omega⟩
      have loop2 : ∀ q : Nat, q ≤ N → ∀ (z : Int) (u : Int) (g' : Geo) (I' J' : Mm) (B : ASt), z = (q : Int) → (0 ≤ s ∧ s < un N) → scS Q.2.1 s N q = some B → zfst (fun q => if (scS Q.2.1 s N (q + 1)).isNone then 1 else 0) q = -9 → CFr g g' I I' J J' c → CInv X g' I' J' c Q → StF g' I' J' (c + 74) B → ZV X E_X6_runScript 83 [some (.ref c), some (vi (N : Int)), some (vl s), none, some (vl u), none, some (vi z)] [] b g' I' J' post := by
        refine loop_up N ?_ ?_
        · intro z u g' I' J' B hz hsu hB hf hF hC' hB'
          have h := hx3 hgood hsu _ _ _ hF hC'
          unfold scF at h
          rw [hf] at h
          refine ZV_iload dX6_runScript_83 rfl ?_
          refine ZV_iload_n dX6_runScript_85 rfl ?_
          refine ZV_icmp_ge (tgt := 126) dX6_runScript_86 (by decide) ⟨by omega, by omega⟩ ⟨by omega, by omega⟩ (fun h86 => ?_) (fun h86 => ?_)
          · refine ZV_bipush dX6_runScript_126 (by decide) ?_
            refine ZV_iret dX6_runScript_128 rfl ?_
            exact h
          · omega
        · intro q hq ih z u g' I' J' B hz hsu hB hf hF hC' hB'
          obtain ⟨⟨l0, l1, l2, l3, l4, l5, l6, l7⟩, lT, lN, lR, -⟩ := id hC'.1
          have lr := lR.1.1
          subst hz
          have eS : scS Q.2.1 s N (q + 1) = cmdF B (sdiv s (N - 1 - q) % 10000) := by
            show (match scS Q.2.1 s N q with | some B => cmdF B (sdiv s (N - 1 - q) % 10000) | none => none) = _
            rw [hB]
          refine ZV_iload dX6_runScript_83 rfl ?_
          refine ZV_iload_n dX6_runScript_85 rfl ?_
          refine ZV_icmp_ge (tgt := 126) dX6_runScript_86 (by decide) ⟨by omega, by omega⟩ ⟨by omega, by omega⟩ (fun h86 => ?_) (fun h86 => ?_)
          · omega
          · refine ZV_aload_n dX6_runScript_89 rfl ?_
            refine ZV_getR fX6_runScript_23 dX6_runScript_90 (by assumption) rfl (by assumption) ?_
            refine ZV_lload_n dX6_runScript_93 rfl ?_
            refine ZV_iload_n dX6_runScript_94 rfl ?_
            refine ZV_iconst dX6_runScript_95 ?_
            refine ZV_isub dX6_runScript_96 ?_
            refine ZV_iload dX6_runScript_97 rfl ?_
            refine ZV_isub dX6_runScript_99 ?_
            rw [show (N : Int) - 1 - (q : Int) = ((N - 1 - q : Nat) : Int) by omega]
            refine cl_X6_commandAt kX6_runScript_256 rfl dX6_runScript_100 (Nat.le_of_ble_eq_true rfl) ?_
            refine sp_X6_commandAt hsu.1 hs (by omega) ?_
            refine cl_X6_succeeds kX6_runScript_259 rfl dX6_runScript_103 (Nat.le_of_ble_eq_true rfl) ?_
            have hb := sdiv_rng hsu.1 (N - 1 - q)
            refine sp_X6_succeeds lR hB' ⟨by omega, by omega⟩ (fun e => ?_) (fun A' e g2 I2 J2 hTF hTI => ?_)
            · have h := hx3 hgood hsu _ _ _ hF hC'
              unfold scF at h
              rw [zfst_hit hf (by rw [eS, e]; rfl) hq] at h
              refine ZV_if_ne (tgt := 112) dX6_runScript_106 (by decide) ⟨by omega, by omega⟩ (fun h106 => ?_) (fun h106 => ?_)
              · omega
              · refine ZV_iload dX6_runScript_109 rfl ?_
                refine ZV_iret dX6_runScript_111 rfl ?_
                exact h
            · have hF2 : FrO I' I2 J' J2 (c + 74) (c + 112) := hTF.2.mono (by omega) (by omega)
              have hC2 := hC'.trial hTF.1 hTI.1 hF2
              obtain ⟨⟨m0, m1, m2, m3, m4, m5, m6, m7⟩, mT, mN, mR, -⟩ := id hC2.1
              have mr := mR.1.1
              refine ZV_if_ne (tgt := 112) dX6_runScript_106 (by decide) ⟨by omega, by omega⟩ (fun h106 => ?_) (fun h106 => ?_)
              · refine ZV_aload_n dX6_runScript_112 rfl ?_
                refine ZV_getR fX6_runScript_23 dX6_runScript_113 (by assumption) rfl (by assumption) ?_
                refine cl_X3_rekey kX6_runScript_88 rfl dX6_runScript_116 (by assumption) (Nat.le_of_ble_eq_true rfl) ?_
                refine hTI.rekey ?_
                intro J3 v hF3 hB3
                have hF4 : FrO I2 I2 J2 J3 (c + 74) (c + 112) := hF3.mono (by omega) (by omega)
                refine ZV_pop dX6_runScript_119 rfl ?_
                refine ZV_jinc6 dX6_runScript_120 rfl (by decide) ?_
                refine ZV_goto (tgt := 83) dX6_runScript_123 (by decide) ?_
                exact ih _ _ _ _ _ A' (by omega) hsu (by rw [eS, e]) (zfst_miss hf (by rw [eS, e]; simp)) (hF.tr ((hF2.cfg hTF.1 (by omega) (by omega) (by omega) (by omega)).tr (hF4.cf g2 (by omega) (by omega)))) (hC2.trial (GeoFr.rf g2 _) mR hF4) hB3
              · omega
      have loop1 : ∀ q : Nat, q ≤ N → ∀ z u : Int, z = (q : Int) → u = un q → ZV X E_X6_runScript 26 [some (.ref c), some (vi (N : Int)), some (vl s), none, some (vl u), none, some (vi z)] [] b g I J post := by
        refine loop_up N ?_ ?_
        · intro z u hz hu
          have hur := un_rng N (by omega)
          subst hu
          refine ZV_iload dX6_runScript_26 rfl ?_
          refine ZV_iload_n dX6_runScript_28 rfl ?_
          refine ZV_icmp_ge (tgt := 46) dX6_runScript_29 (by decide) ⟨by omega, by omega⟩ ⟨by omega, by omega⟩ (fun h29 => ?_) (fun h29 => ?_)
          · refine ZV_lload_n dX6_runScript_46 rfl ?_
            refine ZV_lconst (z := 0) dX6_runScript_47 (by decide) ?_
            refine ZV_lif_lt (tgt := 59) dX6_runScript_48 dX6_runScript_49 (by decide) ⟨by omega, by omega⟩ ⟨by omega, by omega⟩ (fun h48 => ?_) (fun h48 => ?_)
            · refine ZV_throw tX6_runScript_59 rfl dX6_runScript_59 dX6_runScript_62 dX6_runScript_63 dX6_runScript_65 dX6_runScript_68 ⟨by decide, by decide⟩ ⟨by first | omega | (dsimp only; omega), by first | omega | (dsimp only; omega)⟩ (by assumption) ?_
              exact hx2 hgood (by omega)
            · refine ZV_lload_n dX6_runScript_52 rfl ?_
              refine ZV_lload dX6_runScript_53 rfl ?_
              refine ZV_lif_lt (tgt := 69) dX6_runScript_55 dX6_runScript_56 (by decide) ⟨by omega, by omega⟩ ⟨by omega, by omega⟩ (fun h55 => ?_) (fun h55 => ?_)
              · refine ZV_aload_n dX6_runScript_69 rfl ?_
                refine ZV_getR fX6_runScript_23 dX6_runScript_70 (by assumption) rfl (by assumption) ?_
                refine ZV_aload_n dX6_runScript_73 rfl ?_
                refine ZV_getR fX6_runScript_19 dX6_runScript_74 (by assumption) rfl (by assumption) ?_
                refine cl_X3_copyFrom kX6_runScript_254 rfl dX6_runScript_77 (by assumption) (Nat.le_of_ble_eq_true rfl) ?_
                refine sp_X3_copyFrom lR lN (by omega) hA hGd.1 hK hS ?_
                intro I1 J1 hA1 hK1 hS1 hF1
                have hFF : FrO I I1 J J1 (c + 74) (c + 112) := hF1.mono (by omega) (by omega)
                refine ZV_iconst dX6_runScript_80 ?_
                refine ZV_istore6 dX6_runScript_81 rfl (by decide) ?_
                exact loop2 0 (by omega) _ _ _ _ _ Q.2.1 rfl ⟨by omega, by omega⟩ rfl rfl (hFF.cf g (by omega) (by omega)) (hC.trial (GeoFr.rf g _) lR hFF) ⟨⟨hA1, hK1, hS1⟩, hGd⟩
              · refine ZV_throw tX6_runScript_59 rfl dX6_runScript_59 dX6_runScript_62 dX6_runScript_63 dX6_runScript_65 dX6_runScript_68 ⟨by decide, by decide⟩ ⟨by first | omega | (dsimp only; omega), by first | omega | (dsimp only; omega)⟩ (by assumption) ?_
                exact hx2 hgood (by omega)
          · omega
        · intro q hq ih z u hz hu
          subst hu
          refine ZV_iload dX6_runScript_26 rfl ?_
          refine ZV_iload_n dX6_runScript_28 rfl ?_
          refine ZV_icmp_ge (tgt := 46) dX6_runScript_29 (by decide) ⟨by omega, by omega⟩ ⟨by omega, by omega⟩ (fun h29 => ?_) (fun h29 => ?_)
          · omega
          · refine ZV_lload dX6_runScript_32 rfl ?_
            refine ZV_ldc2 (z := 10000) dX6_runScript_34 lX6_runScript_250 ?_
            refine ZV_lmul dX6_runScript_37 ?_
            refine ZV_lstore4 dX6_runScript_38 rfl (by decide) ?_
            refine ZV_jinc6 dX6_runScript_40 rfl (by decide) ?_
            refine ZV_goto (tgt := 26) dX6_runScript_43 (by decide) ?_
            exact ih _ _ (by omega) rfl
      exact loop1 0 (by omega) _ _ rfl rfl
    · refine ZV_throw tX6_runScript_10 rfl dX6_runScript_10 dX6_runScript_13 dX6_runScript_14 dX6_runScript_16 dX6_runScript_19 ⟨by decide, by decide⟩ ⟨by first | omega | (dsimp only; omega), by first | omega | (dsimp only; omega)⟩ (by assumption) ?_
      exact hx1 (by omega)
end ZA9

