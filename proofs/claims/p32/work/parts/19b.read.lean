/-! CitationKeys$Text: takes, read -/
def P0 : PSt := (1, 0, 0, setW (fun _ => wk0) 0 wk0)
/-- the reading's state behind the first p characters -/
def rn (c : Nat → Int) : Nat → Option PSt
  | 0 => some P0
  | p + 1 => match rn c p with
    | some s => stp s (c p)
    | none => none
def badAt (c : Nat → Int) (p : Nat) : Int := if (rn c (p + 1)).isNone then 1 else 0
/-- the error position, -9 for none -/
def rdv (c : Nat → Int) (len : Nat) : Int := if zfst (badAt c) len = -9 then (match rn c len with
  | some s => if s.2.1 = 2 ∧ 0 < s.2.2.1 then -9 else (len : Int)
  | none => -9) else zfst (badAt c) len
theorem P0_SIn : SIn P0 := ⟨⟨by decide, by decide⟩, by
  show CWF 0 0 (setW (fun _ => wk0) 0 wk0 0)
  unfold setW
  rw [if_pos rfl]
  exact wk0_CWF, fun k hk => absurd hk (Nat.not_lt_zero k)⟩
theorem rn_SIn {c : Nat → Int} : ∀ {p : Nat} {s : PSt}, rn c p = some s → SIn s := by
  intro p
  induction p with
  | zero => intro s h; cases h; exact P0_SIn
  | succ p ih =>
    intro s h
    unfold rn at h
    cases e : rn c p with
    | none => rw [e] at h; cases h
    | some s0 => rw [e] at h; exact stp_SIn (ih e) h
theorem RA_Tx {I I' J J' : Mm} {T n : Nat} {s : PSt} {o : TStep} {r : Int} (hs : s.1 = n + 1) (hF : TF2 I I' J J' T (T + 3 + 2 * n)) (hT : TxAt I J T s) (hR : RA T (T + 3 + 2 * n) o r I' J') : (r = 1 ∧ ∃ s', lift s o = some s' ∧ TxAt I' J' T s') ∨ (r = 0 ∧ lift s o = none) := by
  rcases hR with ⟨p, t, W, rfl, rfl, h4, h5, hW⟩ | ⟨rfl, rfl⟩
  · refine Or.inl ⟨rfl, _, rfl, ?_, h4, h5, fun k hk => ?_⟩
    · rw [hF.2.2]; exact hT.1
    · have hk' : k < s.1 := hk
      show WkAt I' J' (T + 3 + 2 * k) (setW s.2.2.2 (s.1 - 1) W k)
      unfold setW
      by_cases e : k = s.1 - 1
      · rw [if_pos e, show k = n by omega]; exact hW
      · rw [if_neg e]
        obtain ⟨w1, w2, w3, w4⟩ := hT.2.2.2 k hk'
        have f1 := hF.1 (T + 3 + 2 * k) (by omega)
        have f2 := hF.1 (T + 3 + 2 * k + 1) (by omega)
        exact ⟨fun a ha => by rw [f2.2]; exact w1 a ha, by rw [f1.1]; exact w2, by rw [f1.1]; exact w3, by rw [f1.2]; exact w4⟩
  · exact Or.inr ⟨rfl, rfl⟩
section ZRd
variable {X : Xt} {b : Nat × Nat} {g : Geo} {I J : Mm} {post : Out → Geo → Mm → Mm → Prop}
theorem sp_X4_takes {T : Nat} {s : PSt} {c : Int} (hL : TL X g T) (hs : TxAt I J T s) (hI : SIn s) (hc : 0 ≤ c ∧ c < 256) (h : ∀ r I' J', (∀ q, q ≠ T ∧ (q < T + 3 ∨ T + 35 ≤ q) → I' q = I q ∧ J' q = J q) → I' T 1 = I T 1 → ((r = 1 ∧ ∃ s', stp s c = some s' ∧ TxAt I' J' T s') ∨ (r = 0 ∧ stp s c = none)) → post (.inl (some (vi r))) g I' J') : ZV X E_X4_takes 0 [some (.ref T), some (vi c), none] [] b g I J post := by
  have hL' := hL
  have hs' := hs
  obtain ⟨⟨l1, l2, l3, l4, l5⟩, l6⟩ := hL
  obtain ⟨hn1, hC, -⟩ := hI
  obtain ⟨n, hn⟩ : ∃ n, s.1 = n + 1 := ⟨s.1 - 1, by omega⟩
  obtain ⟨e3, e4, e5, hws⟩ := hs
  obtain ⟨m1, m2⟩ := l6 n (by omega)
  have m3 := m2.1
  have hsn : s.1 - 1 = n := by omega
  rw [hsn] at hC
  have hWn := hws n (by omega)
  obtain ⟨ok, ci⟩ := CWF_ok hC
  have tk := hC.2.1
  refine ZV_aload_n dX4_takes_0 rfl ?_
  refine ZV_getI fX4_takes_35 dX4_takes_1 (by assumption) rfl ?_
  rw [e3]
  refine ZV_iconst dX4_takes_4 ?_
  refine ZV_icmp_lt (tgt := 17) dX4_takes_5 (by decide) ⟨by omega, by omega⟩ ⟨by omega, by omega⟩ (fun h5 => ?_) (fun h5 => ?_)
  · omega
  · refine ZV_aload_n dX4_takes_8 rfl ?_
    refine ZV_getI fX4_takes_35 dX4_takes_9 (by assumption) rfl ?_
    rw [e3]
    refine ZV_bipush dX4_takes_12 (by decide) ?_
    refine ZV_icmp_le (tgt := 19) dX4_takes_14 (by decide) ⟨by omega, by omega⟩ ⟨by omega, by omega⟩ (fun h14 => ?_) (fun h14 => ?_)
    · refine ZV_aload_n dX4_takes_19 rfl ?_
      refine ZV_getR fX4_takes_17 dX4_takes_20 (by assumption) rfl (by assumption) ?_
      refine ZV_aload_n dX4_takes_23 rfl ?_
      refine ZV_getI fX4_takes_35 dX4_takes_24 (by assumption) rfl ?_
      rw [e3]
      refine ZV_iconst dX4_takes_27 ?_
      refine ZV_isub dX4_takes_28 ?_
      first | refine ZV_aaldW (n) dX4_takes_29 (by assumption) (by first | rfl | omega) (by omega) (by omega) (by assumption) ?_ | refine ZV_aaldS (n) dX4_takes_29 (by assumption) (by first | rfl | omega) (by omega) (by omega) (by assumption) ?_
      refine ZV_astore2 dX4_takes_30 rfl (by decide) ?_
      refine ZV_aload_n dX4_takes_31 rfl ?_
      refine ZV_getI fX4_takes_46 dX4_takes_32 (by assumption) rfl ?_
      rw [e4]
      rcases hC.2.2.2.2 with ⟨p0, -⟩ | ⟨p0, p1, -⟩ | ⟨p0, -⟩
      · have est : stp s c = lift s (tA s.2.2.1 (s.2.2.2 n) c) := by unfold stp; rw [if_pos p0, hsn]
        rw [est] at h
        rw [p0] at ci ⊢
        refine ZV_lookup (z := 0) (off := 25) (tgt := 60) dX4_takes_35 ⟨by decide, by decide⟩ (by decide) (by decide) (by decide) ?_
        refine ZV_aload_n dX4_takes_60 rfl ?_
        refine ZV_aload_n dX4_takes_61 rfl ?_
        refine ZV_iload_n dX4_takes_62 rfl ?_
        refine cl_X4_takesAuthors kX4_takes_62 rfl dX4_takes_63 (by assumption) (Nat.le_of_ble_eq_true rfl) ?_
        refine sp_X4_takesAuthors l1 m2 ⟨by omega, by omega⟩ (by rw [e4, p0]) e5 tk hWn ci hc ?_
        intro r I' J' hF hR
        have hz : r = 0 ∨ r = 1 := by rcases hR with ⟨_, _, _, _, q, _⟩ | ⟨_, q⟩ <;> omega
        refine ZV_zret dX4_takes_66 rfl (by first | exact Or.inl rfl | exact Or.inr rfl | assumption | omega) ?_
        exact h r I' J' (fun q hq => hF.1 q (by omega)) hF.2.1 (RA_Tx hn hF hs' hR)
      · have est : stp s c = lift s (tY s.2.2.1 (s.2.2.2 n) c) := by unfold stp; rw [if_neg (by omega), if_pos p0, hsn]
        rw [est] at h
        rw [p0] at ci ⊢
        refine ZV_lookup (z := 1) (off := 32) (tgt := 67) dX4_takes_35 ⟨by decide, by decide⟩ (by decide) (by decide) (by decide) ?_
        refine ZV_aload_n dX4_takes_67 rfl ?_
        refine ZV_aload_n dX4_takes_68 rfl ?_
        refine ZV_iload_n dX4_takes_69 rfl ?_
        refine cl_X4_takesYear kX4_takes_66 rfl dX4_takes_70 (by assumption) (Nat.le_of_ble_eq_true rfl) ?_
        refine sp_X4_takesYear l1 m2 ⟨by omega, by omega⟩ (by rw [e4, p0]) e5 ⟨tk.1, p1⟩ hWn ci hc ?_
        intro r I' J' hF hR
        have hz : r = 0 ∨ r = 1 := by rcases hR with ⟨_, _, _, _, q, _⟩ | ⟨_, q⟩ <;> omega
        refine ZV_zret dX4_takes_73 rfl (by first | exact Or.inl rfl | exact Or.inr rfl | assumption | omega) ?_
        exact h r I' J' (fun q hq => hF.1 q (by omega)) hF.2.1 (RA_Tx hn hF hs' hR)
      · rw [p0] at ci ⊢
        have es : s = (n + 1, 2, s.2.2.1, s.2.2.2) := by
          obtain ⟨x1, x2, x3, x4⟩ := s
          have y1 : x1 = n + 1 := hn
          have y2 : x2 = 2 := p0
          rw [y1, y2]
        refine ZV_lookup (z := 2) (off := 39) (tgt := 74) dX4_takes_35 ⟨by decide, by decide⟩ (by decide) (by decide) (by decide) ?_
        refine ZV_aload_n dX4_takes_74 rfl ?_
        refine ZV_aload_n dX4_takes_75 rfl ?_
        refine ZV_iload_n dX4_takes_76 rfl ?_
        refine cl_X4_takesTitle kX4_takes_69 rfl dX4_takes_77 (by assumption) (Nat.le_of_ble_eq_true rfl) ?_
        refine sp_X4_takesTitle (n := n) (ws := s.2.2.2) hL' (by rw [e3, hn]) (by omega) (by rw [e4, p0]) e5 tk (fun k hk => hws k (by omega)) rfl ci hc ?_
        intro r I' J' hF h1 hR
        have hz : r = 0 ∨ r = 1 := by rcases hR with ⟨q, _⟩ | ⟨q, _⟩ <;> omega
        rw [← es] at hR
        refine ZV_zret dX4_takes_80 rfl (by first | exact Or.inl rfl | exact Or.inr rfl | assumption | omega) ?_
        exact h r I' J' hF h1 hR
    · omega
theorem sp_X4_read {T len : Nat} (hL : TL X g T) (h1 : I T 1 = (len : Int)) (hlen : len ≤ 100) (hch : ∀ p, p < len → 0 ≤ I (T + 1) p ∧ I (T + 1) p < 256) (h : ∀ I' J', (∀ q, q ≠ T ∧ (q < T + 3 ∨ T + 35 ≤ q) → I' q = I q ∧ J' q = J q) → I' T 1 = I T 1 → (rdv (I (T + 1)) len = -9 → ∃ s, rn (I (T + 1)) len = some s ∧ s.2.1 = 2 ∧ 0 < s.2.2.1 ∧ TxAt I' J' T s ∧ SIn s) → post (.inl (some (vi (rdv (I (T + 1)) len)))) g I' J') : ZV X E_X4_read 0 [some (.ref T), none] [] b g I J post := by
  have hL' := hL
  obtain ⟨⟨l1, l2, l3, l4, l5⟩, l6⟩ := hL
  refine ZV_aload_n dX4_read_0 rfl ?_
  refine ZV_iconst dX4_read_1 ?_
  refine ZV_putI fX4_read_35 dX4_read_2 (by assumption) rfl ?_
  refine ZV_aload_n dX4_read_5 rfl ?_
  refine cl_X4_beginWork kX4_read_38 rfl dX4_read_6 (by assumption) (Nat.le_of_ble_eq_true rfl) ?_
  refine sp_X4_beginWork (n := 0) (ws := fun _ => wk0) hL' (by rw [up2_same]; rfl) (by decide) (fun k hk => absurd hk (Nat.not_lt_zero k)) ?_
  intro r I0 J0 hF0 h10 hr
  have hr2 : TxAt I0 J0 T P0 := by
    rcases hr with ⟨-, -, q⟩ | ⟨-, q⟩
    · exact q
    · omega
  have hz : r = 0 ∨ r = 1 := by rcases hr with ⟨q, _⟩ | ⟨q, _⟩ <;> omega
  refine ZV_pop dX4_read_9 rfl ?_
  refine ZV_iconst dX4_read_10 ?_
  refine ZV_istore1 dX4_read_11 rfl (by decide) ?_
  have key : ∀ p : Nat, p ≤ len → ∀ (z : Int) (I' J' : Mm) (s : PSt), z = (p : Int) → rn (I (T + 1)) p = some s → zfst (badAt (I (T + 1))) p = -9 → TxAt I' J' T s → (∀ q, q ≠ T ∧ (q < T + 3 ∨ T + 35 ≤ q) → I' q = I q ∧ J' q = J q) → I' T 1 = I T 1 → ZV X E_X4_read 12 [some (.ref T), some (vi z)] [] b g I' J' post := by
    refine loop_up len ?_ ?_
    · intro z I' J' s hz hs hb hT hF h11
      have hI := rn_SIn hs
      have hC := hI.2.1
      have ev : rdv (I (T + 1)) len = if s.2.1 = 2 ∧ 0 < s.2.2.1 then -9 else (len : Int) := by unfold rdv; rw [if_pos hb, hs]
      have h := h I' J' hF h11
      rw [ev] at h
      have r2 : r32 s.2.1 := by rcases hC.2.2.2.2 with ⟨q, -⟩ | ⟨q, -⟩ | ⟨q, -⟩ <;> (rw [q]; exact ⟨by decide, by decide⟩)
      obtain ⟨r21, r22⟩ := r2
      have r3 := hC.2.1
      refine ZV_iload_n dX4_read_12 rfl ?_
      refine ZV_aload_n dX4_read_13 rfl ?_
      refine ZV_getI fX4_read_22 dX4_read_14 (by assumption) rfl ?_
      rw [h11, h1]
      refine ZV_icmp_ge (tgt := 41) dX4_read_17 (by decide) ⟨by omega, by omega⟩ ⟨by omega, by omega⟩ (fun h17 => ?_) (fun h17 => ?_)
      · refine ZV_aload_n dX4_read_41 rfl ?_
        refine ZV_getI fX4_read_46 dX4_read_42 (by assumption) rfl ?_
        rw [hT.2.1]
        refine ZV_iconst dX4_read_45 ?_
        refine ZV_icmp_ne (tgt := 61) dX4_read_46 (by decide) ⟨by omega, by omega⟩ ⟨by omega, by omega⟩ (fun h46 => ?_) (fun h46 => ?_)
        · rw [if_neg (by omega)] at h
          refine ZV_aload_n dX4_read_61 rfl ?_
          refine ZV_getI fX4_read_22 dX4_read_62 (by assumption) rfl ?_
          rw [h11, h1]
          refine ZV_iret dX4_read_65 rfl ?_
          exact h (fun q => by omega)
        · refine ZV_aload_n dX4_read_49 rfl ?_
          refine ZV_getI fX4_read_49 dX4_read_50 (by assumption) rfl ?_
          rw [hT.2.2.1]
          refine ZV_if_le (tgt := 61) dX4_read_53 (by decide) ⟨by omega, by omega⟩ (fun h53 => ?_) (fun h53 => ?_)
          · rw [if_neg (by omega)] at h
            refine ZV_aload_n dX4_read_61 rfl ?_
            refine ZV_getI fX4_read_22 dX4_read_62 (by assumption) rfl ?_
            rw [h11, h1]
            refine ZV_iret dX4_read_65 rfl ?_
            exact h (fun q => by omega)
          · rw [if_pos ⟨by omega, by omega⟩] at h
            refine ZV_bipush dX4_read_56 (by decide) ?_
            refine ZV_goto (tgt := 65) dX4_read_58 (by decide) ?_
            refine ZV_iret dX4_read_65 rfl ?_
            exact h (fun _ => ⟨s, hs, by omega, by omega, hT, hI⟩)
      · omega
    · intro p hp ih z I' J' s hz hs hb hT hF h11
      have hI := rn_SIn hs
      have hrow := (hF (T + 1) (by omega)).1
      refine ZV_iload_n dX4_read_12 rfl ?_
      refine ZV_aload_n dX4_read_13 rfl ?_
      refine ZV_getI fX4_read_22 dX4_read_14 (by assumption) rfl ?_
      rw [h11, h1]
      refine ZV_icmp_ge (tgt := 41) dX4_read_17 (by decide) ⟨by omega, by omega⟩ ⟨by omega, by omega⟩ (fun h17 => ?_) (fun h17 => ?_)
      · omega
      · refine ZV_aload_n dX4_read_20 rfl ?_
        refine ZV_aload_n dX4_read_21 rfl ?_
        refine ZV_getR fX4_read_9 dX4_read_22 (by assumption) rfl (by assumption) ?_
        refine ZV_iload_n dX4_read_25 rfl ?_
        refine ZV_cald (p) dX4_read_26 (by assumption) (by first | rfl | omega) (by omega) (by omega) ?_
        rw [hrow]
        refine cl_X4_takes kX4_read_42 rfl dX4_read_27 (by assumption) (Nat.le_of_ble_eq_true rfl) ?_
        refine sp_X4_takes hL' hT hI (hch p hp) ?_
        intro r I'' J'' hF2 h12 hr
        have ern : rn (I (T + 1)) (p + 1) = stp s (I (T + 1) p) := by
          show (match rn (I (T + 1)) p with | some s => stp s (I (T + 1) p) | none => none) = _
          rw [hs]
        have hF3 : ∀ q, q ≠ T ∧ (q < T + 3 ∨ T + 35 ≤ q) → I'' q = I q ∧ J'' q = J q := fun q hq => ⟨(hF2 q hq).1.trans (hF q hq).1, (hF2 q hq).2.trans (hF q hq).2⟩
        rcases hr with ⟨rfl, s', hs', hT'⟩ | ⟨rfl, hs'⟩
        · rw [hs'] at ern
          have hb1 : badAt (I (T + 1)) p ≠ 1 := by
            unfold badAt
            rw [ern]
            simp
          refine ZV_if_ne (tgt := 35) dX4_read_30 (by decide) ⟨by omega, by omega⟩ (fun h30 => ?_) (fun h30 => ?_)
          · refine ZV_jinc1 dX4_read_35 rfl (by decide) ?_
            refine ZV_goto (tgt := 12) dX4_read_38 (by decide) ?_
            exact ih _ _ _ s' (by omega) ern (zfst_miss hb hb1) hT' hF3 (h12.trans h11)
          · omega
        · rw [hs'] at ern
          have hb1 : badAt (I (T + 1)) p = 1 := by unfold badAt; rw [ern]; rfl
          have ev : rdv (I (T + 1)) len = (p : Int) := by
            unfold rdv
            rw [zfst_hit hb hb1 hp, if_neg (by omega)]
          have h := h I'' J'' hF3 (h12.trans h11)
          rw [ev, ← hz] at h
          refine ZV_if_ne (tgt := 35) dX4_read_30 (by decide) ⟨by omega, by omega⟩ (fun h30 => ?_) (fun h30 => ?_)
          · omega
          · refine ZV_iload_n dX4_read_33 rfl ?_
            refine ZV_iret dX4_read_34 rfl ?_
            exact h (fun q => by omega)
  refine key 0 (by omega) _ _ _ P0 rfl rfl rfl hr2 (fun q hq => ⟨(hF0 q hq).1.trans (up2_row _ _ hq.1), (hF0 q hq).2⟩) (h10.trans (up2_k (by decide)))
theorem sp_X4_put {T len : Nat} {c : Int} (hL : TL X g T) (h1 : I T 1 = (len : Int)) (hlen : len < 100) (hc : 0 ≤ c ∧ c < 256) (h : post (.inl none) g (up2 (up2 I (T + 1) len c) T 1 ((len : Int) + 1)) J) : ZV X E_X4_put 0 [some (.ref T), some (vi c)] [] b g I J post := by
  obtain ⟨⟨l1, l2, l3, l4, l5⟩, l6⟩ := hL
  refine ZV_aload_n dX4_put_0 rfl ?_
  refine ZV_getI fX4_put_22 dX4_put_1 (by assumption) rfl ?_
  rw [h1]
  refine ZV_bipush dX4_put_4 (by decide) ?_
  refine ZV_icmp_ge (tgt := 29) dX4_put_6 (by decide) ⟨by omega, by omega⟩ ⟨by omega, by omega⟩ (fun h6 => ?_) (fun h6 => ?_)
  · omega
  · refine ZV_aload_n dX4_put_9 rfl ?_
    refine ZV_getR fX4_put_9 dX4_put_10 (by assumption) rfl (by assumption) ?_
    refine ZV_aload_n dX4_put_13 rfl ?_
    refine ZV_getI fX4_put_22 dX4_put_14 (by assumption) rfl ?_
    rw [h1]
    refine ZV_iload_n dX4_put_17 rfl ?_
    refine ZV_cast (len) dX4_put_18 (by assumption) (by first | rfl | omega) (by omega) (by omega) ⟨by omega, by omega⟩ ?_
    refine ZV_aload_n dX4_put_19 rfl ?_
    refine ZV_dup dX4_put_20 rfl ?_
    refine ZV_getI fX4_put_22 dX4_put_21 (by assumption) rfl ?_
    rw [up2_a (by omega), h1]
    refine ZV_iconst dX4_put_24 ?_
    refine ZV_iadd dX4_put_25 ?_
    refine ZV_putI fX4_put_22 dX4_put_26 (by assumption) rfl ?_
    refine ZV_vret dX4_put_29 rfl ?_
    exact h
theorem sp_X4_spells {T len : Nat} {κ : Int} (hL : TL X g T) (h1 : I T 1 = (len : Int)) (hlen : len ≤ 100) (hch : ∀ p, p < len → 0 ≤ I (T + 1) p ∧ I (T + 1) p < 256) (h0 : 0 ≤ κ) (hr : r64 κ) (h : ∀ r, ((r = 1 ∧ (len : Int) = klen κ ∧ ∀ p : Nat, p < len → I (T + 1) p = kch κ p) ∨ (r = 0 ∧ ¬ ((len : Int) = klen κ ∧ ∀ p : Nat, p < len → I (T + 1) p = kch κ p))) → post (.inl (some (vi r))) g I J) : ZV X E_X4_spells 0 [some (.ref T), some (vl κ), none, none] [] b g I J post := by
  obtain ⟨⟨l1, l2, l3, l4, l5⟩, l6⟩ := hL
  have kl := klen_rng κ
  refine ZV_aload_n dX4_spells_0 rfl ?_
  refine ZV_getI fX4_spells_22 dX4_spells_1 (by assumption) rfl ?_
  rw [h1]
  refine ZV_lload_n dX4_spells_4 rfl ?_
  refine cl_X1_length kX4_spells_26 rfl dX4_spells_5 (Nat.le_of_ble_eq_true rfl) ?_
  refine sp_X1_length h0 hr ?_
  refine ZV_icmp_eq (tgt := 13) dX4_spells_8 (by decide) ⟨by omega, by omega⟩ ⟨by omega, by omega⟩ (fun h8 => ?_) (fun h8 => ?_)
  · refine ZV_iconst dX4_spells_13 ?_
    refine ZV_istore3 dX4_spells_14 rfl (by decide) ?_
    have key : ∀ p : Nat, p ≤ len → ∀ z : Int, z = (p : Int) → (∀ q : Nat, q < p → I (T + 1) q = kch κ q) → ZV X E_X4_spells 15 [some (.ref T), some (vl κ), none, some (vi z)] [] b g I J post := by
      refine loop_up len ?_ ?_
      · intro z hz hq
        refine ZV_iload_n dX4_spells_15 rfl ?_
        refine ZV_aload_n dX4_spells_16 rfl ?_
        refine ZV_getI fX4_spells_22 dX4_spells_17 (by assumption) rfl ?_
        rw [h1]
        refine ZV_icmp_ge (tgt := 45) dX4_spells_20 (by decide) ⟨by omega, by omega⟩ ⟨by omega, by omega⟩ (fun h20 => ?_) (fun h20 => ?_)
        · refine ZV_iconst dX4_spells_45 ?_
          refine ZV_zret dX4_spells_46 rfl (by first | exact Or.inl rfl | exact Or.inr rfl | assumption | omega) ?_
          exact h 1 (Or.inl ⟨rfl, h8, hq⟩)
        · omega
      · intro p hp ih z hz hq
        have hcp := hch p hp
        refine ZV_iload_n dX4_spells_15 rfl ?_
        refine ZV_aload_n dX4_spells_16 rfl ?_
        refine ZV_getI fX4_spells_22 dX4_spells_17 (by assumption) rfl ?_
        rw [h1]
        refine ZV_icmp_ge (tgt := 45) dX4_spells_20 (by decide) ⟨by omega, by omega⟩ ⟨by omega, by omega⟩ (fun h20 => ?_) (fun h20 => ?_)
        · omega
        · refine ZV_aload_n dX4_spells_23 rfl ?_
          refine ZV_getR fX4_spells_9 dX4_spells_24 (by assumption) rfl (by assumption) ?_
          refine ZV_iload_n dX4_spells_27 rfl ?_
          refine ZV_cald (p) dX4_spells_28 (by assumption) (by first | rfl | omega) (by omega) (by omega) ?_
          refine ZV_lload_n dX4_spells_29 rfl ?_
          refine ZV_iload_n dX4_spells_30 rfl ?_
          refine cl_X1_codeAt kX4_spells_31 rfl dX4_spells_31 (Nat.le_of_ble_eq_true rfl) ?_
          refine sp_X1_codeAt h0 hr ⟨by omega, by omega⟩ ?_
          have kr : r32 (kch κ z) := by
            have a1 := nlen_rng (khd κ)
            have a2 := klet_rng κ
            have a3 := dgz_rng (khd κ) z
            unfold kch codeAt r32
            repeat' split
            all_goals omega
          obtain ⟨kr1, kr2⟩ := kr
          refine ZV_icmp_eq (tgt := 39) dX4_spells_34 (by decide) ⟨by omega, by omega⟩ ⟨by omega, by omega⟩ (fun h34 => ?_) (fun h34 => ?_)
          · refine ZV_jinc3 dX4_spells_39 rfl (by decide) ?_
            refine ZV_goto (tgt := 15) dX4_spells_42 (by decide) ?_
            exact ih _ (by omega) (fun q hq9 => by
              by_cases e : q = p
              · rw [e, h34, hz]
              · exact hq q (by omega))
          · refine ZV_iconst dX4_spells_37 ?_
            refine ZV_zret dX4_spells_38 rfl (by first | exact Or.inl rfl | exact Or.inr rfl | assumption | omega) ?_
            exact h 0 (Or.inr ⟨rfl, fun q => h34 (by rw [hz]; exact q.2 p hp)⟩)
    exact key 0 (by omega) _ rfl (fun q hq => absurd hq (Nat.not_lt_zero q))
  · refine ZV_iconst dX4_spells_11 ?_
    refine ZV_zret dX4_spells_12 rfl (by first | exact Or.inl rfl | exact Or.inr rfl | assumption | omega) ?_
    exact h 0 (Or.inr ⟨rfl, fun q => h8 q.1⟩)
end ZRd

