/-! the claim out of the walk of the law's body -/
def R_law : String := "CitationKeysLaw"
def lw_P (b : Addr) (xs : List Int32) (args : Array Value) (s : State) : Prop := args = #[.ref b] ∧ s.IntsAt b xs ∧ xs.length ≤ 260 ∧ (Jvm.Cond.and given_1 narrow_1).before args s = true
def lw_Q (_ : Array Value) (s : State) (o : Outcome) (t : State) : Prop := o = .returned (some (.int 1)) ∧ Framed s o t [] 603858 7289893
def lw_Z (below : List Frame) (a : Array Value) (s : State) : State → Prop := fun t => ∃ o, t.status = .running ∧ Ended t below o ∧ lw_Q a s o t
theorem arr_of {s : State} {args : Array Value} {ty : FieldType} (h : (Cond.arrayClass ty).before args s = true) (hty : ∀ C, ty ≠ .object C) : ∃ cA : ClassId, ArrOfT s cA ty ∧ va_RA s cA ty := by
  obtain ⟨c, k, comp, h1, h2, h3⟩ := Cond.arrayClass_spec h
  refine ⟨c, fun n z => ⟨fun k h => (by cases h), k, h2, comp, h3⟩, ?_⟩
  cases ty with
  | object C => exact absurd rfl (hty C)
  | _ => exact h1
theorem arr_ov {s : State} {args : Array Value} {C : String} (h : (Cond.arrayOver (.object C)).before args s = true) : ∃ cA : ClassId, ArrOfT s cA (.object C) ∧ va_RA s cA (.object C) := by
  obtain ⟨comp, c, k, f1, f2, f3, f4, f5⟩ := Cond.arrayOver_spec h
  exact ⟨c, fun n z => ⟨fun k h => (by cases h), k, f3, comp, f4⟩, k, comp, f3, f4, f1, f5⟩
theorem wStr : ∀ q ∈ zStr, Cond.stringRef RX6 q.1 q.2 ∈ lw_tbl := by decide +kernel
theorem wCast : ∀ C ∈ [zIAE, zISE, zIOB], Cond.castable C C ∈ lw_tbl := by decide +kernel
theorem wDecl : ∀ C ∈ zSup, Cond.declares (Bundle.initS C) ∈ lw_tbl := by decide +kernel
theorem wIns : Cond.instantiable RX0 3 ∈ lw_tbl ∧ Cond.instantiable RX3 9 ∈ lw_tbl ∧ Cond.instantiable RX4 6 ∈ lw_tbl ∧ Cond.instantiable RX5 4 ∈ lw_tbl ∧ Cond.instantiable RX6 7 ∈ lw_tbl := ⟨by decide +kernel, by decide +kernel, by decide +kernel, by decide +kernel, by decide +kernel⟩
theorem wArr : Cond.arrayClass .int ∈ lw_tbl ∧ Cond.arrayClass .long ∈ lw_tbl ∧ Cond.arrayClass .char ∈ lw_tbl ∧ Cond.arrayClass .boolean ∈ lw_tbl ∧ Cond.arrayOver (.object RX3) ∈ lw_tbl ∧ Cond.arrayOver (.object RX5) ∈ lw_tbl := ⟨by decide +kernel, by decide +kernel, by decide +kernel, by decide +kernel, by decide +kernel, by decide +kernel⟩
theorem wSta : Cond.laysStatic Bundle.tN "UNASSIGNED_STACK" Bundle.steD ∈ lw_tbl ∧ Cond.laysStatic Bundle.tN "SUPPRESSED_SENTINEL" Bundle.listD ∈ lw_tbl ∧ Cond.initialized Bundle.tN ∈ lw_tbl := ⟨by decide +kernel, by decide +kernel, by decide +kernel⟩
/-- the law from its entry to its end -/
theorem whole_start {p : Program} {e : Env} {s : State} {m : MethodId} {below : List Frame} {meth : Method} {c : Code} (l : Launch) (hflags : l.flags = flags0) {b L : Nat} {xs : Nat → Int32} (hL : L ≤ 260) (hx : p.tables.exec = Jvm.exec) (hb : c.code = code) (hr : meth.sig.returnType = ret) (hml : c.maxLocals = 7) (hown : s.vm.findClass R_law = some m.cls) (hts : ∀ w ∈ lw_tbl, w.before #[Value.ref b] s = true) (hX : va_X b L xs s s.heap) (hbl : b < s.heap.size) (hlocks : meth.locks = false) (hname : meth.name = x.name) (htab : c.exceptionTable.toList = []) (hgv : (Jvm.Cond.and given_1 narrow_1).before #[Value.ref b] s = true) : W p l e room_1 s m #[Value.ref b] below meth c s.heap [] 0 0 (lw_Z below #[Value.ref b] s) (entryFrame m ([Value.ref b] : List Value).toArray 7) := by
  have hs := flat_of_before _ hgv
  obtain ⟨w0, w3, w4, w5, w6⟩ := wIns
  obtain ⟨c0, i0, K0⟩ := u_known (C := RX0) (T := TX0) (N := 3) (n := 3) hts inX0 (hts _ w0)
  obtain ⟨c1, i1, K1⟩ := u_known (C := RX3) (T := TX3) (N := 9) (n := 9) hts inX3 (hts _ w3)
  obtain ⟨c2, i2, K2⟩ := u_known (C := RX4) (T := TX4) (N := 6) (n := 6) hts inX4 (hts _ w4)
  obtain ⟨c3, i3, K3⟩ := u_known (C := RX5) (T := TX5) (N := 4) (n := 4) hts inX5 (hts _ w5)
  obtain ⟨c4, i4, K4⟩ := u_known (C := RX6) (T := TX6) (N := 7) (n := 7) hts inX6 (hts _ w6)
  obtain ⟨dC, dI, hKc⟩ : ∃ (dC : Nat → ClassId) (dI : Nat → Nat → Nat), ∀ (k : Nat) (q : vw_C), vwCl[k]? = some q → u_Kn s q.1 q.2.1 q.2.2 (dC k) (dI k) := by
    refine ⟨fun k => match k with | 0 => c0 | 1 => c1 | 2 => c2 | 3 => c3 | _ => c4, fun k => match k with | 0 => i0 | 1 => i1 | 2 => i2 | 3 => i3 | _ => i4, ?_⟩
    intro k q hq
    match k, hq with
    | 0, hq => cases hq; exact K0
    | 1, hq => cases hq; exact K1
    | 2, hq => cases hq; exact K2
    | 3, hq => cases hq; exact K3
    | 4, hq => cases hq; exact K4
    | k + 5, hq => cases hq
  obtain ⟨wa0, wa1, wa2, wa3, wa4, wa5⟩ := wArr
  obtain ⟨x0, A0, B0⟩ := arr_of (hts _ wa0) (fun C q => by cases q)
  obtain ⟨x1, A1, B1⟩ := arr_of (hts _ wa1) (fun C q => by cases q)
  obtain ⟨x2, A2, B2⟩ := arr_of (hts _ wa2) (fun C q => by cases q)
  obtain ⟨x3, A3, B3⟩ := arr_of (hts _ wa3) (fun C q => by cases q)
  obtain ⟨x4, A4, B4⟩ := arr_ov (hts _ wa4)
  obtain ⟨x5, A5, B5⟩ := arr_ov (hts _ wa5)
  obtain ⟨xCf, hxC⟩ : ∃ f : Nat → ClassId, f = fun k => match k with | 0 => x0 | 1 => x1 | 2 => x2 | 3 => x3 | 4 => x4 | _ => x5 := ⟨_, rfl⟩
  obtain ⟨X, hXe⟩ : ∃ X : Xt, X = (l, (dC, dI), xCf, s.heap.size, (b, L, xs)) := ⟨_, rfl⟩
  have hK : va_K (xD X) vwCl (xT X) s := by
    subst hXe
    refine ⟨hKc, fun k q hk => ?_⟩
    have hk6 : k < 6 := by
      have := (List.getElem?_eq_some_iff.mp hk).1
      unfold xT at this
      simpa using this
    rw [xT_get _ hk6] at hk
    cases hk
    subst hxC
    match k, hk6 with
    | 0, _ => exact ⟨A0, B0⟩
    | 1, _ => exact ⟨A1, B1⟩
    | 2, _ => exact ⟨A2, B2⟩
    | 3, _ => exact ⟨A3, B3⟩
    | 4, _ => exact ⟨A4, B4⟩
    | 5, _ => exact ⟨A5, B5⟩
    | k + 6, h => omega
  have hTh : Th s := by
    refine ⟨fun q hq => ?_, fun C hC => va_Nw.of rfl (hts _ (wCast C hC)), ⟨va_Nc.of (hs (.not (.castable zISE zIAE)) (by decide +kernel)), va_Nc.of (hs (.not (.castable zIAE zIOB)) (by decide +kernel)), va_Nc.of (hs (.not (.castable zISE zIOB)) (by decide +kernel)), fun C hC => va_Nw.of rfl (hts _ (wDecl C hC))⟩, va_AO.of (hts _ wa4), va_AO.of (hts _ wa5)⟩
    have h1 := hts _ (wStr q hq)
    obtain ⟨k, cf, i, a, -, -, -, -, -, h2⟩ := Cond.stringRef_spec K4.2.1 h1
    exact ⟨a, vk_R.of h1 h2⟩
  obtain ⟨ws1, ws2, ws3⟩ := wSta
  have hAx : ∀ a : Nat, a < s.heap.size → ¬ xA X a := fun a ha q => by
    subst hXe
    exact absurd ha (Nat.not_lt.mpr q)
  have hTz : Tz (xA X) s s.heap := ⟨vx_Zqof (hts _ ws1) (hts _ ws3) (hs (.isRef (.static Bundle.tN "UNASSIGNED_STACK" Bundle.steD)) (by decide +kernel)) hAx, vx_Zqof (hts _ ws2) (hts _ ws3) (hs (.isRef (.static Bundle.tN "SUPPRESSED_SENTINEL" Bundle.listD)) (by decide +kernel)) hAx⟩
  have hst : (xl X).stackTraces = false := by
    subst hXe
    show l.stackTraces = false
    unfold Launch.stackTraces
    rw [hflags]
    decide +kernel
  have C : Cx X E_L_law p s m #[Value.ref b] meth c := ⟨hx, hb, hml, fun w hw => hts w (wsL_law_in w hw), hown, hr, hlocks, hname, hK, hTh, hTz, (by subst hXe; exact Nat.le_refl _), htab, hst, (by subst hXe; exact ⟨hX, hbl⟩)⟩
  have hH : HH X ([], fun _ _ => none, true) (fun _ _ => 0) (fun _ _ => 0) s.heap := ⟨fun k q hk => (by have hk2 : ([] : List (Nat × va_E))[k]? = some q := hk; cases hk2), fun _ => (by subst hXe; rfl)⟩
  have hLX : X.2.2.2.2.2.1 ≤ 260 := by subst hXe; exact hL
  have hl := lv_entry ([Value.ref b]) (n := 7) (Nat.le_of_ble_eq_true rfl)
  rw [lg_entry_eq]
  obtain ⟨ls, hls, hlv⟩ : ∃ ls : Array Slot, ls = (lg_sl [Value.ref b] ++ List.replicate (7 - (lg_sl [Value.ref b]).length) Slot.unset).toArray ∧ lvd ls 7 [some (.ref X.2.2.2.2.1), none, none, none, none, none, none] := ⟨_, rfl, by subst hXe; exact (lvd_entry hl : lvd _ 7 (entP [Value.ref b] 7))⟩
  have hw := law_start hLX (fun _ _ => 0) (fun _ _ => 0) p e s m #[Value.ref b] below meth c C s.heap [] 0 0 ls hH va_S.rf (by decide) (by decide) hlv
  subst hls
  have hxl : xl X = l := by subst hXe; rfl
  rw [hxl] at hw
  intro T hT Xs
  obtain ⟨t, a1, o, b1, b2, b3⟩ := hw T hT Xs
  refine ⟨t, a1, o, b1, b2, ?_⟩
  rcases b3 with ⟨⟨v, g', I', J', ho, hp, -, -⟩, L9, ⟨f1, f2, f3⟩, hf⟩ | ⟨q, ho, Ex, ce, L9, ⟨g', I', J', hp, -⟩, -⟩
  · have hp2 : (Sum.inl v : Out) = .inl (some (vi 1)) := hp
    cases hp2
    refine ⟨by rw [ho]; rfl, f1, f2, ?_⟩
    have f4 : s.sameButNew ({ t with vm := s.vm } : State) ([] ++ L9) 603858 7289893 := f3
    exact State.sameButNew.drop_fresh f4 (fun z hz => by
      have := hf z hz
      subst hXe
      exact this)
  · have hp2 : (Sum.inr Ex : Out) = .inl (some (vi 1)) := hp
    cases hp2
set_option maxHeartbeats 4000000 in
theorem lw_walk (l : Launch) (hflags : l.flags = flags0) (b : Addr) (xs : List Int32) : MetFree l x (headSpec (Jvm.Cond.code x code maxLocals ret :: tables_1) room_1) (lw_P b xs) (fun _ _ _ _ _ => True) lw_Q := by
  refine MetFree.of_bodyS (code := code) (maxLocals := maxLocals) (ret := ret) (by decide) ?_ ?_
  · intro args s m h hn
    obtain ⟨meth, c, h1, h2, h3, h4, h5, h6, -, -⟩ := Cond.code_spec hn (atoms_spec (ws := Jvm.Cond.code x code maxLocals ret :: tables_1) h _ List.mem_cons_self)
    exact ⟨meth, c, h1, h2, h3, h4, h5, h6⟩
  · intro p e s m args below meth c s₁ B hml0 hP _
    obtain ⟨rfl, hx, hbd, hgv⟩ := hP
    obtain ⟨scr, harrAt, hlist, hof, hsmall⟩ := hx
    obtain ⟨hcb, hkn, -, -⟩ := State.arrayAt?_spec harrAt
    have hown : s.vm.findClass R_law = some m.cls := findClass_of_methodNamed B.named
    have hts0 : ∀ c ∈ (Jvm.Cond.code x code maxLocals ret :: tables_1), c.before #[Value.ref b] s = true := atoms_spec (ws := Jvm.Cond.code x code maxLocals ret :: tables_1) B.pre
    have hts : ∀ w ∈ lw_tbl, w.before #[Value.ref b] s = true := k2_hts_sels lw_privs (fun w hw => hts0 w (List.mem_cons_of_mem _ hw)) lw_privs_ok
    have hml : c.maxLocals = 7 := B.maxLocals_eq (hts0 _ List.mem_cons_self)
    have X₀ : Stand p l e room_1 s m #[Value.ref b] below meth c s₁ [] 0 0 := Stand.of_body B
    have hh0 : s₁.heap = s.heap := by rw [B.state]; rfl
    have htab : c.exceptionTable.toList = [] := by
      obtain ⟨meth9, c9, h1, h2, -, -, -, -, h7, -⟩ := Cond.code_spec B.named (hts0 _ List.mem_cons_self)
      cases Option.some.inj (h1.symm.trans B.method)
      cases Option.some.inj (h2.symm.trans (Stand.of_body B).code)
      rw [Array.isEmpty_iff.mp h7]
    have hsz : scr.slots.size = xs.length := by rw [← Array.length_toList, hlist, List.length_map]
    have hval : ∀ j : Nat, j < xs.length → scr.slots[j]? = some (.int (xs.getD j 0)) := fun j hj => by
      rw [← Array.getElem?_toList, hlist]
      simp [hj]
    have hbl : b < s.heap.size := (Array.getElem?_eq_some_iff.mp hcb).1
    have hX : va_X b xs.length (fun j => xs.getD j 0) s s.heap := ⟨scr, hcb, hof, hkn, hsz, hval⟩
    have K : W p l e room_1 s m #[Value.ref b] below meth c s₁.heap [] 0 0 (lw_Z below #[Value.ref b] s) (entryFrame m ([Value.ref b] : List Value).toArray 7) := by
      rw [hh0]
      exact whole_start l hflags hbd B.exec B.bytes B.returns hml hown hts hX hbl B.notSynchronized (name_of_methodNamed B.named B.method).1 htab hgv
    obtain ⟨t, a1, o, b1, b2, b3⟩ := K s₁ rfl X₀
    exact ⟨t, o, a1, b1, b2, b3⟩
theorem lw_pre_spec {args : Array Value} {s : State} (h : (Jvm.Cond.and given_1 narrow_1).before args s = true) (hr : rest_1_c.before args s = true) : ∃ (b : Addr) (xs : List Int32), lw_P b xs args s := by
  have hs := flat_of_before _ h
  have hq := flat_of_before _ hr
  have hc : (Cond.count 1).before args s = true := hs _ (by decide +kernel)
  have harr : (Cond.arrayOf (.arg 0) .int).before args s = true := hs _ (by decide +kernel)
  have hle : (Cond.le (.length (.arg 0)) (.int 260)).before args s = true := hs _ (by decide +kernel)
  have hlen : (Cond.isInt (.length (.arg 0))).before args s = true := hq _ (by decide +kernel)
  have hall : (Cond.all (.arg 0) (.isInt (.elem (.arg 0) (.index 0)))).before args s = true := hq _ (by decide +kernel)
  obtain ⟨b, xs, hb, hx⟩ := State.ints_of_pre rfl harr hlen hall
  have hsm : xs.length < 2 ^ 31 := hx.choose_spec.2.2.2
  have hev : (Term.length (.arg 0)).eval args s none [] s = some (.int xs.length.toInt32) := hx.length_eval hb
  have hv := Cond.le_ints hev (show (Term.int 260).eval args s none [] s = some (.int 260) from rfl)
  have hd : xs.length.toInt32 ≤ 260 := by
    simpa [Cond.before, Cond.holds, hv] using hle
  have hN : xs.length ≤ 260 := (Int32.ofNat_le_ofNat hsm (by decide)).mp (show Int32.ofNat xs.length ≤ Int32.ofNat 260 from hd)
  exact ⟨b, xs, Cond.one_arg hc (show args[0]? = some (.ref b) from hb), hx, hN, h⟩
theorem lw_comes (l : Launch) (hflags : l.flags = flags0) : Comes l x (Jvm.Cond.code x code maxLocals ret :: tables_1) room_1 (fun tb e args s => Calls_1 tb e args s ∧ rest_1 tb e args s ∧ Pre_1 tb e args s)
    (fun _ _ args s o t => lw_Q args s o t) := by
  intro p e ha hc hk s m args below hf hfit hheap happ hpre
  obtain ⟨b, xs, hP⟩ := lw_pre_spec hpre.2.2 hpre.2.1
  obtain ⟨k, o, h1, h2, h3, hQ⟩ := lw_walk l hflags b xs p e ha hc hk s m args below hf ((Spec.applies_iff_loose hf).mp happ).1 hP trivial
  exact ⟨k, o, h1, h2, h3, hQ⟩
theorem lw_frame {s t : State} {o : Outcome} {args : Array Value} (h : Framed s o t [] 603858 7289893) :
    Framed s o t (fieldLocs frame_1_writes args s ++ arrayLocs frame_1_arrays args s ++ staticLocs frame_1_statics s) 603858 7289893 := h
theorem lw_limb (L : Cond) (hL : ∀ (args : Array Value) (s t : State), L.after args s (.returned (some (.int 1))) t = true) :
    ArmFor flags0 classFile x code maxLocals ret World_1 tables_1 room_1 Calls_1 rest_1 Pre_1
      (fun tb e a s o t => postC L tb e a s o t ∧ Framed s o t (fieldLocs frame_1_writes a s ++ arrayLocs frame_1_arrays a s ++ staticLocs frame_1_statics s) 603858 7289893) := by
  intro l hflags _ _ p e ha hc hk s m args below hf hfit hheap happ hpre
  obtain ⟨k, o, h1, h2, h3, rfl, hF⟩ := lw_comes l hflags p e ha hc hk s m args below hf hfit hheap happ hpre
  exact ⟨k, _, h1, h2, h3, hL args s _, lw_frame hF⟩
theorem i_vc : Claimed_1_1 ∧ Claimed_1_2 := ⟨lw_limb limb_1_1 (fun args s t => by simp [limb_1_1, Cond.after, Cond.holds, Cond.value]), lw_limb limb_1_2 (fun args s t => Cond.after_iff.mpr (by
  first | (rw [show limb_1_2 = Cond.eq .result (.int 1) from rfl, Cond.eq_ints (x := 1) (y := 1) rfl rfl]; simp; done) | (simp [limb_1_2, Cond.value, Term.eval]; done)))⟩

