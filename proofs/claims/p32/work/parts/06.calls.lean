/-! calls: a callee's judgement is its contract -/
/-- the callee's first locals -/
def entL : List Value → List (Option Value)
  | [] => []
  | v :: vs => some v :: (if v.category = 2 then none :: entL vs else entL vs)
def entP (vs : List Value) (n : Nat) : List (Option Value) := entL vs ++ List.replicate (n - (entL vs).length) none
theorem entL_args (vs : List Value) : ∀ (i k : Nat) (v : Value), (entL vs)[k]? = some (some v) → (i + k, v) ∈ lv_args i vs := by
  induction vs with
  | nil => intro i k v h; simp [entL] at h
  | cons u us ih =>
    intro i k v h
    unfold entL at h
    unfold lv_args
    cases k with
    | zero =>
      rw [List.getElem?_cons_zero] at h
      cases h
      exact List.mem_cons_self
    | succ k =>
      rw [List.getElem?_cons_succ] at h
      refine List.mem_cons_of_mem _ ?_
      by_cases hc : u.category = 2
      · rw [if_pos hc] at h ⊢
        cases k with
        | zero => rw [List.getElem?_cons_zero] at h; cases h
        | succ k =>
          rw [List.getElem?_cons_succ] at h
          have := ih (i + 2) k v h
          rw [show i + 2 + k = i + (k + 1 + 1) by omega] at this
          exact this
      · rw [if_neg hc] at h ⊢
        have := ih (i + 1) k v h
        rw [show i + 1 + k = i + (k + 1) by omega] at this
        exact this
theorem lvd_entry {ls : Array Slot} {vs : List Value} {n m : Nat} (h : lv_has ls n (lv_args 0 vs)) : lvd ls n (entP vs m) := by
  refine ⟨h.1, h.2.1, fun k v hk => ?_⟩
  by_cases hl : k < (entL vs).length
  · unfold entP at hk
    rw [List.getElem?_append_left hl] at hk
    have := entL_args vs 0 k v hk
    rw [Nat.zero_add] at this
    exact h.2.2 _ this
  · unfold entP at hk
    rw [List.getElem?_append_right (by omega), List.getElem?_replicate] at hk
    split at hk <;> simp at hk
def EOK (E : Me) : Prop := plainName (mY E).cls = true ∧ (∃ ws', mW E = Cond.code (mY E) (mC E) (mL E) (mR E) :: ws') ∧ mH E = [] ∧ mY E ≠ x
def EOKh (E : Me) : Prop := plainName (mY E).cls = true ∧ (∃ ws', mW E = Cond.codeWith (mY E) (mC E) (mL E) (mR E) (mH E) :: ws') ∧ mY E ≠ x
theorem zblind (X : Xt) (as : List Value) (g : Geo) (I J : Mm) : FrameBlind (va_Pc as (HO X g I J)) := by
  intro a U f mk q
  obtain ⟨q0, qH, qB, qK, qT, qZ, qX, qX2⟩ := q
  exact ⟨q0, qH, qB, va_K.moved (u := U) (U := U.calling f mk a) (Vm.Alike.refl U.vm) qK, Th.same rfl qT, ⟨vx_Zq.moved (u := U) (U := U.calling f mk a) (Vm.Alike.refl U.vm) qZ.1, vx_Zq.moved (u := U) (U := U.calling f mk a) (Vm.Alike.refl U.vm) qZ.2⟩, va_X.moved (u := U) (U := U.calling f mk a) (Vm.Alike.refl U.vm) qX, qX2⟩
section ZC
variable {X : Xt} {E E' : Me} {pc : Nat} {L : List (Option Value)} {S : List Value} {b : Nat × Nat} {g : Geo} {I J : Mm} {post : Out → Geo → Mm → Mm → Prop}
theorem z_met {vs : List Value} (hok : EOK E) (hst : (xl X).stackTraces = false) (hlen : (lg_sl vs).length ≤ mL E) (h : ZV X E 0 (entP vs (mL E)) [] (mB E) g I J post) :
    vx_Met (xl X) (mY E) (mW E) (mRm E) (va_Pc vs (HO X g I J)) (zQ X post) (zX X post) (mB E).1 (mB E).2 (xA X) := by
  obtain ⟨hpl, ⟨ws', hws⟩, hH0, hne⟩ := hok
  refine vx_ofW (cc := mC E) (maxL := mL E) (ret := mR E) hpl hws ?_
  intro p e s m args below meth c s₁ B hml htab hv
  obtain ⟨rfl, hHH, hBs, hK, hT, hZ, hXX⟩ := hv
  have hin : meth.name = (mY E).name := (name_of_methodNamed B.named B.method).1
  have htb : c.exceptionTable.toList = tableOf (mH E) := by
    rw [hH0]
    exact List.eq_nil_iff_forall_not_mem.mpr (fun q hq => htab q hq)
  have C : Cx X E p s m vs.toArray meth c := ⟨B.exec, B.bytes, hml, atoms_spec (ws := mW E) B.pre, findClass_of_methodNamed B.named, B.returns, B.notSynchronized, hin, hK, hT, hZ, hBs, htb, hst, hXX⟩
  have hl := lv_entry vs (n := mL E) hlen
  rw [lg_entry_eq]
  exact h p e s m _ below meth c C s.heap [] 0 0 _ hHH va_S.rf (by omega) (by omega) (lvd_entry hl)
theorem z_metH {vs : List Value} (hok : EOKh E) (hst : (xl X).stackTraces = false) (hlen : (lg_sl vs).length ≤ mL E) (h : ZV X E 0 (entP vs (mL E)) [] (mB E) g I J post) :
    vx_Met (xl X) (mY E) (mW E) (mRm E) (va_Pc vs (HO X g I J)) (zQ X post) (zX X post) (mB E).1 (mB E).2 (xA X) := by
  obtain ⟨hpl, ⟨ws', hws⟩, hne⟩ := hok
  refine vx_ofWH (cc := mC E) (maxL := mL E) (ret := mR E) hpl hws ?_
  intro p e s m args below meth c s₁ B hml hv
  obtain ⟨rfl, hHH, hBs, hK, hT, hZ, hXX⟩ := hv
  have hin : meth.name = (mY E).name := (name_of_methodNamed B.named B.method).1
  have hts := atoms_spec (ws := mW E) B.pre
  have htb : c.exceptionTable.toList = tableOf (mH E) := vx_table (x := mY E) B (hts _ (by rw [hws]; exact List.mem_cons_self))
  have C : Cx X E p s m vs.toArray meth c := ⟨B.exec, B.bytes, hml, hts, findClass_of_methodNamed B.named, B.returns, B.notSynchronized, hin, hK, hT, hZ, hBs, htb, hst, hXX⟩
  have hl := lv_entry vs (n := mL E) hlen
  rw [lg_entry_eq]
  exact h p e s m _ below meth c C s.heap [] 0 0 _ hHH va_S.rf (by omega) (by omega) (lvd_entry hl)
/-- behind a call -/
theorem z_ret {p : Program} {e : Env} {R : Room} {s : State} {m : MethodId} {args : Array Value} {below : List Frame} {meth : Method} {c : Code} {H : Heap} {locs : List Loc} {cells slots mc ms : Nat} {ls : Array Slot} {st0 rest : List Value} {a : Array Value} {Q : State → Prop} {post' : Out → Geo → Mm → Mm → Prop}
    (hr : vx_Run p (xl X) e R s m args below meth c H locs cells slots mc ms (F0 m pc ls st0) rest (zQ X post' a) (zX X post') (xA X)) (hS : va_S (xA X) s.heap H locs)
    (kk : ∀ (v : Option Value) (g' : Geo) (I' J' : Mm) (H1 : Heap) (locs1 : List Loc), post' (.inl v) g' I' J' → HH X g' I' J' H1 → va_S (xA X) s.heap H1 locs1 → W p (xl X) e R s m args below meth c H1 locs1 (cells + mc) (slots + ms) Q (F0 m (pc + 3) ls (v.toList ++ rest)))
    (kx : ∀ (Ex : String) (ce : Cell) (q : Nat) (g' : Geo) (I' J' : Mm) (H1 : Heap) (locs1 : List Loc), post' (.inr Ex) g' I' J' → HH X g' I' J' H1 → va_S (xA X) s.heap H1 locs1 → H1[q]? = some ce → ce.vm = .none → s.vm.findClass Ex = some ce.cls → vx_W p (xl X) e R s m args below meth c H1 locs1 (cells + mc) (slots + ms) Q (F0 m pc ls rest) q) :
    W p (xl X) e R s m args below meth c H locs cells slots Q (F0 m pc ls st0) := by
  intro T hT Xs
  rcases hr T hT Xs with ⟨v, st₀, t, T', L9, h0, X', hL, e1, e2, ⟨v', g', I', J', ho, hp, hh, hF⟩, st⟩ | ⟨q, st₀, t, T', L9, Ex, ce, h0, X', hL, e1, e2, ⟨g', I', J', hp, hh, hF⟩, hce, hcv, hcl, st⟩
  · cases ho
    obtain ⟨k1, k2, k3⟩ := vx_keep h0 e1 hS (fun q _ h => h) (fun q h => h) hL hF
    obtain ⟨t2, a1, b1⟩ := kk v g' I' J' T'.heap (locs ++ L9) hp (by rw [e1]; exact hh) k3 T' rfl X'
    exact ⟨t2, st t2 a1, b1⟩
  · obtain ⟨k1, k2, k3⟩ := vx_keep h0 e1 hS (fun q _ h => h) (fun q h => h) hL hF
    obtain ⟨t2, a1, b1⟩ := kx Ex ce q g' I' J' T'.heap (locs ++ L9) hp (by rw [e1]; exact hh) k3 (by rw [e1]; exact hce) hcv hcl T' rfl X'
    exact ⟨t2, st.trans a1, b1⟩
/-- what holds at a callee's start -/
theorem z_pre {p : Program} {s : State} {m : MethodId} {args : Array Value} {meth : Method} {c : Code} {H : Heap} {locs : List Loc} (C : Cx X E p s m args meth c) (hH : HH X g I J H) (hS : va_S (xA X) s.heap H locs) {U : State} (hU : U.heap = H) (hW : s.WarmedH U.vm) : HO X g I J U := by
  obtain ⟨-, -, -, -, -, -, -, -, hK, hT, hZ, hBs, -, -, hX1, hX2⟩ := C
  refine ⟨by rw [hU]; exact hH, by rw [hU]; have := hS.1; omega, va_K.moved hW.alike hK, Th.warm hW hT, ?_⟩
  rw [hU]
  exact ⟨⟨vx_Zq.moved hW.alike (vx_Zq.kept hZ.1 (fun q h1 h2 => hS.2.1 q h1 h2)), vx_Zq.moved hW.alike (vx_Zq.kept hZ.2 (fun q h1 h2 => hS.2.1 q h1 h2))⟩, va_X.moved hW.alike (hX1.kept (hS.2.1 _ (by omega) (by show ¬ xB X ≤ _; omega))), hX2⟩
/-- what follows a call that answers or throws on -/
def zK (X : Xt) (E : Me) (pc : Nat) (L : List (Option Value)) (S : List Value) (b : Nat × Nat) (post : Out → Geo → Mm → Mm → Prop) : Out → Geo → Mm → Mm → Prop := fun o g I J => match o with
  | .inl (some v) => ZV X E pc L (v :: S) b g I J post
  | .inl none => ZV X E pc L S b g I J post
  | .inr q => post (.inr q) g I J
def zLV (E : Me) (idx : Nat) (E' : Me) (n : Nat) : Prop := ∀ {s : State} {args : Array Value}, (∀ w ∈ mW E, w.before args s = true) → CallW (mRm E) s args (mY E).cls (mY E').cls idx (mY E') (mC E') (mL E') (mR E') (mW E') (mRm E') (mB E').1 (mB E').2 n
def zLS (E : Me) (idx : Nat) (E' : Me) (n : Nat) : Prop := ∀ {s : State} {args : Array Value}, (∀ w ∈ mW E, w.before args s = true) → CallB (mRm E) s args (mY E).cls idx (mY E') (mC E') (mL E') (mR E') (mW E') (mRm E') (mB E').1 (mB E').2 n ∧ (Cond.static (mY E')).before args s = true
def zLI (E : Me) (idx : Nat) (E' : Me) (n : Nat) : Prop := ∀ {s : State} {args : Array Value}, (∀ w ∈ mW E, w.before args s = true) → CallB (mRm E) s args (mY E).cls idx (mY E') (mC E') (mL E') none (mW E') (mRm E') (mB E').1 (mB E').2 n ∧ (mY E').name = "<init>" ∧ (Cond.instanceMethod (mY E')).before args s = true
def zLX (E : Me) (idx : Nat) (E' : Me) (n : Nat) : Prop := ∀ {s : State} {args : Array Value}, (∀ w ∈ mW E, w.before args s = true) → vx_CSW (mRm E) s args (mY E).cls idx (mY E') (mC E') (mL E') (mR E') (mH E') (mW E') (mRm E') (mB E').1 (mB E').2 n
theorem zLV.of {idx n : Nat} (hT : GoodIn (mW E) (wsV (mY E).cls idx (mY E').cls (mY E') (mW E'))) (hok : EOK E') (hd : (mY E').cls ≠ "java/lang/invoke/MethodHandle" ∧ (mY E').cls ≠ "java/lang/invoke/VarHandle" ∧ (parseMethodDescriptor (mY E').desc).map (fun d => d.parameters.length) = some n) (hR : (mG E').1 + 1 ≤ (mG E).1 ∧ 8 + (mL E' + 11) + (mG E').2 ≤ (mG E).2) : zLV E idx E' n := by
  intro s args ht
  obtain ⟨ws', hws⟩ := hok.2.1
  exact cwV n ht hT hws rfl rfl ⟨rfl, hd⟩ hR
theorem zLS.of {idx n : Nat} (hT : GoodIn (mW E) (va_wsS (mY E).cls idx (mY E') (mW E'))) (hok : EOK E') (hd : (mY E').cls ≠ "java/lang/invoke/MethodHandle" ∧ (mY E').cls ≠ "java/lang/invoke/VarHandle" ∧ (parseMethodDescriptor (mY E').desc).map (fun d => d.parameters.length) = some n) (hR : (mG E').1 + 1 ≤ (mG E).1 ∧ 8 + (mL E' + 11) + (mG E').2 ≤ (mG E).2) : zLS E idx E' n := by
  intro s args ht
  obtain ⟨ws', hws⟩ := hok.2.1
  exact va_cwS n ht hT hws rfl rfl hd hR
theorem zLX.of {idx n : Nat} (hT : GoodIn (mW E) (va_wsS (mY E).cls idx (mY E') (mW E'))) (hok : EOKh E') (hd : (mY E').cls ≠ "java/lang/invoke/MethodHandle" ∧ (mY E').cls ≠ "java/lang/invoke/VarHandle" ∧ (parseMethodDescriptor (mY E').desc).map (fun d => d.parameters.length) = some n) (hR : (mG E').1 + 1 ≤ (mG E).1 ∧ 8 + (mL E' + 11) + (mG E').2 ≤ (mG E).2) : zLX E idx E' n := by
  intro s args ht
  obtain ⟨ws', hws⟩ := hok.2.1
  exact vx_cwSW n ht hT hws rfl rfl hd hR
theorem zLI.of {idx n : Nat} (hG : GoodIn (mW E) (mW E')) (hok : EOK E') (hr : mR E' = none) (hw : Cond.initialized (mY E').cls ∈ mW E ∧ Cond.methodLink (mY E).cls idx (mY E') ∈ mW E ∧ Cond.instanceMethod (mY E') ∈ mW E) (hy1 : (mY E').name = "<init>") (hd : (mY E').cls ≠ "java/lang/invoke/MethodHandle" ∧ (mY E').cls ≠ "java/lang/invoke/VarHandle" ∧ (parseMethodDescriptor (mY E').desc).map (fun d => d.parameters.length) = some n) (hR : (mG E').1 + 1 ≤ (mG E).1 ∧ 8 + (mL E' + 11) + (mG E').2 ≤ (mG E).2) : zLI E idx E' n := by
  intro s args ht
  obtain ⟨ws', hws⟩ := hok.2.1
  rw [hr] at hws
  exact cwI n ht hG hws rfl rfl (ht _ hw.1) (ht _ hw.2.1) (ht _ hw.2.2) hy1 hd hR
/-- a throw that this method's table doesn't take goes on -/
theorem z_out {p : Program} {e : Env} {s : State} {m : MethodId} {args : Array Value} {below : List Frame} {meth : Method} {c : Code} (C : Cx X E p s m args meth c) (hH0 : mH E = []) {H : Heap} {locs : List Loc} {cells slots : Nat} {ls : Array Slot} {rest : List Value} {Ex : String} {ce : Cell} {q : Nat} (hH : HH X g I J H) (hS : va_S (xA X) s.heap H locs) (hc : cells ≤ (mB E).1) (hs : slots ≤ (mB E).2) (hp : post (.inr Ex) g I J)
    (h1 : H[q]? = some ce) (h2 : ce.vm = .none) (h3 : s.vm.findClass Ex = some ce.cls) : vx_W p (xl X) e (mRm E) s m args below meth c H locs cells slots (vx_MQ below (zQ X post) (zX X post) args s (mB E).1 (mB E).2 (xA X)) (F0 m pc ls rest) q := by
  have htb : c.exceptionTable.toList = [] := by rw [C.2.2.2.2.2.2.2.2.2.2.2.2.1, hH0]; rfl
  exact vx_out (fun z hz => by rw [htb] at hz; cases hz) C.2.2.2.2.2.2.1 h1 h2 h3 (fun t ht _ => ⟨g, I, J, hp, by rw [ht]; exact hH, hS.F ht⟩) hS.2.2 hc hs
theorem zK_kk {p : Program} {e : Env} {s : State} {m : MethodId} {args : Array Value} {below : List Frame} {meth : Method} {c : Code} (C : Cx X E p s m args meth c) {cells slots mc ms : Nat} {ls : Array Slot} (hc : cells + b.1 ≤ (mB E).1) (hs : slots + b.2 ≤ (mB E).2) (hb : mc ≤ b.1 ∧ ms ≤ b.2) (hl : lvd ls (mL E) L) :
    ∀ (v : Option Value) (g' : Geo) (I' J' : Mm) (H1 : Heap) (locs1 : List Loc), zK X E (pc + 3) L S (b.1 - mc, b.2 - ms) post (.inl v) g' I' J' → HH X g' I' J' H1 → va_S (xA X) s.heap H1 locs1 → W p (xl X) e (mRm E) s m args below meth c H1 locs1 (cells + mc) (slots + ms) (vx_MQ below (zQ X post) (zX X post) args s (mB E).1 (mB E).2 (xA X)) (F0 m (pc + 3) ls (v.toList ++ S)) := by
  intro v g' I' J' H1 locs1 hp hH1 hS1
  cases v with
  | none => exact hp p e s m args below meth c C H1 locs1 _ _ ls hH1 hS1 (by show _ + (b.1 - mc) ≤ _; omega) (by show _ + (b.2 - ms) ≤ _; omega) hl
  | some v => exact hp p e s m args below meth c C H1 locs1 _ _ ls hH1 hS1 (by show _ + (b.1 - mc) ≤ _; omega) (by show _ + (b.2 - ms) ≤ _; omega) hl
theorem ZV_callV {idx n a cl : Nat} {As S0 : List Value} (hok : EOK E') (hH0 : mH E = []) (hlen : (lg_sl (.ref a :: As)).length ≤ mL E') (hl : zLV E idx E' n) (hd : decode (mC E) pc = .ok (.invokevirtual idx, 3)) (hk : ksh X g a = some (.inl cl)) (hcn : cl < 5 ∧ zC cl = (mY E').cls) (hn : As.length = n) (hb : (mB E').1 ≤ b.1 ∧ (mB E').2 ≤ b.2) (hs8 : (S.map fun v => v.category).sum ≤ 8) (hS0 : S0 = As.reverse ++ .ref a :: S)
    (h : ZV X E' 0 (entP (.ref a :: As) (mL E')) [] (mB E') g I J (zK X E (pc + 3) L S (b.1 - (mB E').1, b.2 - (mB E').2) post)) : ZV X E pc L S0 b g I J post := by
  subst hS0
  intro p e s m args below meth c C H locs cells slots ls hH hS hc hs hls
  have C' := C
  obtain ⟨hx, hbd, hml, hts, hown, hret, hlk, hin, hK, hT, hZ, hBs, htb, hst, -⟩ := C'
  have hM := z_met (X := X) hok hst hlen h
  have hrv := va_recv hK hH.1 (zc_vw cl hcn.1) (mWd_get (I := I) (J := J) hk)
  dsimp only at hrv
  rw [hcn.2] at hrv
  refine z_ret (vx_runV (As := As) (rest := S) ⟨hx, hbd, hml, hown, hts⟩ hM (hl hts) ⟨zblind X _ g I J, hrv, fun U hU hW => ⟨rfl, z_pre C hH hS hU hW⟩⟩ rfl hn hls.1 rfl (lv_room hs8) hd ⟨by show cells + _ ≤ (mB E).1; omega, by show slots + _ ≤ (mB E).2; omega⟩) hS (zK_kk C hc hs hb hls) ?_
  intro Ex ce q g' I' J' H1 locs1 hp hH1 hS1 h1 h2 h3
  exact z_out C hH0 hH1 hS1 (by omega) (by omega) hp h1 h2 h3
theorem ZV_callS {idx n : Nat} {As S0 : List Value} (hok : EOK E') (hH0 : mH E = []) (hlen : (lg_sl As).length ≤ mL E') (hl : zLS E idx E' n) (hd : decode (mC E) pc = .ok (.invokestatic idx, 3)) (hn : As.length = n) (hb : (mB E').1 ≤ b.1 ∧ (mB E').2 ≤ b.2) (hs8 : (S.map fun v => v.category).sum ≤ 8) (hS0 : S0 = As.reverse ++ S)
    (h : ZV X E' 0 (entP As (mL E')) [] (mB E') g I J (zK X E (pc + 3) L S (b.1 - (mB E').1, b.2 - (mB E').2) post)) : ZV X E pc L S0 b g I J post := by
  subst hS0
  intro p e s m args below meth c C H locs cells slots ls hH hS hc hs hls
  have C' := C
  obtain ⟨hx, hbd, hml, hts, hown, hret, hlk, hin, hK, hT, hZ, hBs, htb, hst, -⟩ := C'
  have hM := z_met (X := X) hok hst hlen h
  refine z_ret (vx_runS (As := As) (rest := S) ⟨hx, hbd, hml, hown, hts⟩ hM (hl hts) ⟨zblind X _ g I J, fun U hU hW => ⟨rfl, z_pre C hH hS hU hW⟩⟩ rfl hn hls.1 rfl (lv_room hs8) hd ⟨by show cells + _ ≤ (mB E).1; omega, by show slots + _ ≤ (mB E).2; omega⟩) hS (zK_kk C hc hs hb hls) ?_
  intro Ex ce q g' I' J' H1 locs1 hp hH1 hS1 h1 h2 h3
  exact z_out C hH0 hH1 hS1 (by omega) (by omega) hp h1 h2 h3
/-- a static method with a table of its own that throws nothing on -/
theorem ZV_callX {idx n : Nat} {As S0 : List Value} (hok : EOKh E') (hH0 : mH E = []) (hlen : (lg_sl As).length ≤ mL E') (hl : zLX E idx E' n) (hd : decode (mC E) pc = .ok (.invokestatic idx, 3)) (hn : As.length = n) (hb : (mB E').1 ≤ b.1 ∧ (mB E').2 ≤ b.2) (hs8 : (S.map fun v => v.category).sum ≤ 8) (hS0 : S0 = As.reverse ++ S)
    (h : ZV X E' 0 (entP As (mL E')) [] (mB E') g I J (zK X E (pc + 3) L S (b.1 - (mB E').1, b.2 - (mB E').2) post)) : ZV X E pc L S0 b g I J post := by
  subst hS0
  intro p e s m args below meth c C H locs cells slots ls hH hS hc hs hls
  have C' := C
  obtain ⟨hx, hbd, hml, hts, hown, hret, hlk, hin, hK, hT, hZ, hBs, htb, hst, -⟩ := C'
  have hM := z_metH (X := X) hok hst hlen h
  refine z_ret (vx_runSX (As := As) (rest := S) ⟨hx, hbd, hml, hown, hts⟩ hM (hl hts) ⟨zblind X _ g I J, fun U hU hW => ⟨rfl, z_pre C hH hS hU hW⟩⟩ rfl hn hls.1 rfl (lv_room hs8) hd ⟨by show cells + _ ≤ (mB E).1; omega, by show slots + _ ≤ (mB E).2; omega⟩) hS (zK_kk C hc hs hb hls) ?_
  intro Ex ce q g' I' J' H1 locs1 hp hH1 hS1 h1 h2 h3
  exact z_out C hH0 hH1 hS1 (by omega) (by omega) hp h1 h2 h3
/-- constructors: they throw nothing -/
def zI (X : Xt) (E : Me) (pc : Nat) (L : List (Option Value)) (S : List Value) (b : Nat × Nat) (post : Out → Geo → Mm → Mm → Prop) : Out → Geo → Mm → Mm → Prop := fun o g I J => match o with
  | .inl none => ZV X E pc L S b g I J post
  | _ => False
theorem ZV_callI {idx n a : Nat} {As S0 : List Value} (hok : EOK E') (hH0 : mH E = []) (hr : mR E' = none) (hlen : (lg_sl (.ref a :: As)).length ≤ mL E') (hl : zLI E idx E' n) (hd : decode (mC E) pc = .ok (.invokespecial idx, 3)) (hn : As.length = n) (hb : (mB E').1 ≤ b.1 ∧ (mB E').2 ≤ b.2) (hs8 : (S.map fun v => v.category).sum ≤ 8) (hS0 : S0 = As.reverse ++ .ref a :: S)
    (h : ZV X E' 0 (entP (.ref a :: As) (mL E')) [] (mB E') g I J (zI X E (pc + 3) L S (b.1 - (mB E').1, b.2 - (mB E').2) post)) : ZV X E pc L S0 b g I J post := by
  subst hS0
  intro p e s m args below meth c C H locs cells slots ls hH hS hc hs hls
  have C' := C
  obtain ⟨hx, hbd, hml, hts, hown, hret, hlk, hin, hK, hT, hZ, hBs, htb, hst, -⟩ := C'
  have hM0 := z_met (X := X) hok hst hlen h
  have hM : Met (xl X) (mY E') (mW E') (mRm E') (va_Pc (.ref a :: As) (HO X g I J)) (zQ X (zI X E (pc + 3) L S (b.1 - (mB E').1, b.2 - (mB E').2) post)) (mB E').1 (mB E').2 (xA X) := by
    refine MetFree.mono hM0 (fun _ _ q => q) (fun _ _ _ _ _ q => q) (fun a9 s9 o t _ q => ?_)
    rcases q with q | ⟨q, -, Ex, ce, L9, ⟨g9, I9, J9, hf, -⟩, -⟩
    · exact q
    · exact absurd hf (fun z => z)
  have hrun := va_runI (As := As) (rest := S) ⟨hx, hbd, hml, hown, hts⟩ hM (hl hts) ⟨zblind X _ g I J, fun U hU hW => ⟨rfl, z_pre C hH hS hU hW⟩⟩ rfl hn hls.1 rfl (lv_room hs8) hd ⟨by show cells + _ ≤ (mB E).1; omega, by show slots + _ ≤ (mB E).2; omega⟩ (p := p) (e := e) (s := s) (m := m) (args := args) (below := below) (meth := meth) (c := c) (H := H) (locs := locs) (g := F0 m pc ls (As.reverse ++ .ref a :: S))
  intro T hT Xs
  obtain ⟨v, st₀, t, T', L9, h0, X', hL, e1, e2, ⟨v', g', I', J', ho, hp, hh, hF⟩, st⟩ := hrun T hT Xs
  cases ho
  obtain ⟨k1, k2, k3⟩ := vx_keep h0 e1 hS (fun q _ h => h) (fun q h => h) hL hF
  cases v with
  | some v => exact absurd hp (fun z => z)
  | none =>
    have hp' : ZV X E (pc + 3) L S (b.1 - (mB E').1, b.2 - (mB E').2) g' I' J' post := hp
    obtain ⟨t2, a1, b1⟩ := hp' p e s m args below meth c C T'.heap (locs ++ L9) (cells + (mB E').1) (slots + (mB E').2) ls (by rw [e1]; exact hh) k3 (by show _ + (b.1 - (mB E').1) ≤ _; omega) (by show _ + (b.2 - (mB E').2) ≤ _; omega) hls T' rfl X'
    exact ⟨t2, st t2 a1, b1⟩
/-- Object.<init> -/
theorem ZV_objInit {idx a : Nat} (hd : decode (mC E) pc = .ok (.invokespecial idx, 3)) (hw : Cond.methodLink (mY E).cls idx Lib.objectInit ∈ mW E ∧ Cond.instanceMethod Lib.objectInit ∈ mW E ∧ Cond.code Lib.objectInit ⟨#[0xb1]⟩ 1 none ∈ mW E) (hfr : 1 ≤ (mG E).1 ∧ (S.map fun v => v.category).sum + 12 ≤ (mG E).2)
    (h : ZV X E (pc + 3) L S b g I J post) : ZV X E pc L (.ref a :: S) b g I J post := by
  intro p e s m args below meth c C H locs cells slots ls hH hS hc hs hls
  have hts := C.2.2.2.1
  refine W.objInit C.1 C.2.1 C.2.2.2.2.1 (hts _ hw.1) (hts _ hw.2.1) (hts _ hw.2.2) rfl (hls.1.trans C.2.2.1.symm) rfl hd hfr.1 (by show 2 * 0 + (S.map fun v => v.category).sum + 12 ≤ (mG E).2; have := hfr.2; omega) ?_
  exact h p e s m args below meth c C H locs cells slots ls hH hS hc hs hls
/-- Math.max of ints -/
theorem ZV_mmax {idx : Nat} {x1 y1 : Int} (hd : decode (mC E) pc = .ok (.invokestatic idx, 3)) (hw : Cond.methodLink (mY E).cls idx Lib.Math.max.name ∈ mW E ∧ Cond.static Lib.Math.max.name ∈ mW E ∧ Cond.initialized "java/lang/Math" ∈ mW E ∧ Cond.code Lib.Math.max.name Lib.Math.max.code 2 (some .int) ∈ mW E) (hfr : 1 ≤ (mG E).1 ∧ (S.map fun v => v.category).sum + 13 ≤ (mG E).2) (hx : r32 x1) (hy : r32 y1)
    (h : ZV X E (pc + 3) L (vi (if x1 < y1 then y1 else x1) :: S) b g I J post) : ZV X E pc L (vi y1 :: vi x1 :: S) b g I J post := by
  intro p e s m args below meth c C H locs cells slots ls hH hS hc hs hls
  have hts := C.2.2.2.1
  refine va_mmax C.1 C.2.1 (C.2.2.1.trans hls.1.symm) C.2.2.2.2.1 (hts _ hw.1) (hts _ hw.2.1) (hts _ hw.2.2.1) (hts _ hw.2.2.2) hfr.1 hfr.2 (by show cells ≤ (mB E).1; omega) (by show slots ≤ (mB E).2; omega) hd ?_
  have e1 : (if i32 x1 < i32 y1 then i32 y1 else i32 x1) = i32 (if x1 < y1 then y1 else x1) := by
    by_cases q : x1 < y1
    · rw [if_pos q, if_pos ((i32_lt hx hy).mpr q)]
    · rw [if_neg q, if_neg (fun z => q ((i32_lt hx hy).mp z))]
  rw [e1]
  exact h p e s m args below meth c C H locs cells slots ls hH hS hc hs hls
def zNames : List String := ["java/lang/RuntimeException", "java/lang/Exception"]
/-- the words of a throw, as this method has them -/
def TW (E : Me) (ik is ic : Nat) (Ex text : String) : Prop := Ex ∈ [zIAE, zISE, zIOB] ∧ (is, text) ∈ zStr ∧ (mY E).cls = RX6 ∧ Cond.classLink RX6 ik Ex ∈ mW E ∧ Cond.initialized Ex ∈ mW E ∧ (∀ w ∈ (vx_atS RX6 ic Ex zNames).filter goodWord, w ∈ mW E) ∧ (∀ w ∈ (vx_atS RX6 ic Ex zNames).filter (fun w => !goodWord w), w ∈ Cond.castable Ex Ex :: zSup.map (fun C => Cond.declares (Bundle.initS C))) ∧ (∀ w ∈ Cond.classLink RX6 ik Ex :: Cond.initialized Ex :: vx_atS RX6 ic Ex zNames, vx_ot w = true) ∧ Bundle.fit Ex = true ∧ ∀ n ∈ zNames, Bundle.fit n = true
theorem z_bad {args : Array Value} {s : State} {Ex : String} (hT : Th s) (t1 : Ex ∈ [zIAE, zISE, zIOB]) : ∀ w ∈ Cond.castable Ex Ex :: zSup.map (fun C => Cond.declares (Bundle.initS C)), w.before args s = true := by
  intro w hw
  rcases List.mem_cons.mp hw with rfl | hw
  · exact va_Nw.use rfl (hT.2.1 Ex t1)
  · obtain ⟨C, hC, rfl⟩ := List.mem_map.mp hw
    exact va_Nw.use rfl (hT.2.2.1.2.2.2 C hC)
theorem z_thr {s t : State} {H : Heap} {locs : List Loc} {Ex : String} (hg : g.2.2 = false) (hH : HH X g I J H) (hS : va_S (xA X) s.heap H locs) (h : post (.inr Ex) g I J) (h1 : H.size ≤ t.heap.size) (h2 : ∀ q : Nat, q < H.size → t.heap[q]? = H[q]?) : zX X post Ex s t :=
  ⟨g, I, J, h, ⟨hH.1.kept (fun k q hq => h2 q.1 (hH.1 k q hq).lt), fun q => by rw [hg] at q; cases q⟩, ⟨by have := hS.1; omega, fun q h3 h4 => (h2 q (by have := hS.1; omega)).trans (hS.2.1 q h3 h4)⟩⟩
theorem ZV_throw {ik is ic : Nat} {Ex text : String} (ht : TW E ik is ic Ex text) (hH0 : mH E = []) (d0 : decode (mC E) pc = .ok (.new ik, 3)) (d3 : decode (mC E) (pc + 3) = .ok (.dup, 1)) (d4 : decode (mC E) (pc + 4) = .ok (.ldc is, 2)) (d6 : decode (mC E) (pc + 6) = .ok (.invokespecial ic, 3)) (d9 : decode (mC E) (pc + 9) = .ok (.athrow, 1))
    (hfr : 5 < (mG E).1 ∧ (S.map fun v => v.category).sum + 82 ≤ (mG E).2) (hb : 1 ≤ b.1 ∧ 6 ≤ b.2) (hg : g.2.2 = false) (h : post (.inr Ex) g I J) : ZV X E pc L S b g I J post := by
  intro p e s m args below meth c C H locs cells slots ls hH hS hc hs hls
  obtain ⟨t1, t2, t3, t4, t5, t6, t7, t8, t9, t10⟩ := ht
  obtain ⟨hx, hbd, hml, hts, hown, hret, hlk, hin, hK, hT, hZ, hBs, htb, hst, -⟩ := C
  rw [t3] at hown
  obtain ⟨sa, hsa⟩ := hT.1 (is, text) t2
  have hat : ∀ w ∈ vx_atS RX6 ic Ex zNames, w.before args s = true := vx_hat (fun w hw => hts w (t6 w hw)) t7 (z_bad hT t1)
  have htab : c.exceptionTable.toList = [] := by rw [htb, hH0]; rfl
  exact vx_throwS (A := xA X) hx hbd hst hown t9 t10 (hts _ t4) (hts _ t5) hsa hat t8 hZ.1 hZ.2 hS (hls.1.trans hml.symm) d0 d3 d4 d6 d9 (fun z hz => by rw [htab] at hz; cases hz) hfr.1 hfr.2 (by show cells + 1 ≤ (mB E).1; omega) (by show slots + 6 ≤ (mB E).2; omega) hlk (fun t _ h1 h2 => z_thr hg hH hS h h1 h2) hS.2.2 (by omega) (by omega)
theorem ZV_throwW {ik is ic : Nat} {Ex text : String} (ht : TW E ik is ic Ex text) (hH0 : mH E = []) (d0 : decode (mC E) pc = .ok (.new ik, 3)) (d3 : decode (mC E) (pc + 3) = .ok (.dup, 1)) (d4 : decode (mC E) (pc + 4) = .ok (.ldc_w is, 3)) (d7 : decode (mC E) (pc + 7) = .ok (.invokespecial ic, 3)) (d10 : decode (mC E) (pc + 10) = .ok (.athrow, 1))
    (hfr : 5 < (mG E).1 ∧ (S.map fun v => v.category).sum + 82 ≤ (mG E).2) (hb : 1 ≤ b.1 ∧ 6 ≤ b.2) (hg : g.2.2 = false) (h : post (.inr Ex) g I J) : ZV X E pc L S b g I J post := by
  intro p e s m args below meth c C H locs cells slots ls hH hS hc hs hls
  obtain ⟨t1, t2, t3, t4, t5, t6, t7, t8, t9, t10⟩ := ht
  obtain ⟨hx, hbd, hml, hts, hown, hret, hlk, hin, hK, hT, hZ, hBs, htb, hst, -⟩ := C
  rw [t3] at hown
  obtain ⟨sa, hsa⟩ := hT.1 (is, text) t2
  have hat : ∀ w ∈ vx_atS RX6 ic Ex zNames, w.before args s = true := vx_hat (fun w hw => hts w (t6 w hw)) t7 (z_bad hT t1)
  have htab : c.exceptionTable.toList = [] := by rw [htb, hH0]; rfl
  exact vx_throwSW (A := xA X) hx hbd hst hown t9 t10 (hts _ t4) (hts _ t5) hsa hat t8 hZ.1 hZ.2 hS (hls.1.trans hml.symm) d0 d3 d4 d7 d10 (fun z hz => by rw [htab] at hz; cases hz) hfr.1 hfr.2 (by show cells + 1 ≤ (mB E).1; omega) (by show slots + 6 ≤ (mB E).2; omega) hlk (fun t _ h1 h2 => z_thr hg hH hS h h1 h2) hS.2.2 (by omega) (by omega)
/-- which handler takes a throw -/
def CK (E : Me) (pc : Nat) (Ex : String) (hpc : Nat) : Prop := ∃ (pre : List ExceptionTableEntry) (z : ExceptionTableEntry) (suf : List ExceptionTableEntry), tableOf (mH E) = pre ++ z :: suf ∧ (∀ q ∈ pre, q.catchType ≠ 0 ∧ ∃ nm : String, Cond.classLink (mY E).cls q.catchType nm ∈ mW E ∧ (Ex, nm) ∈ [(zISE, zIAE), (zIAE, zIOB), (zISE, zIOB)]) ∧ covers z pc = true ∧ z.catchType ≠ 0 ∧ Cond.classLink (mY E).cls z.catchType Ex ∈ mW E ∧ z.handlerPc = hpc ∧ Ex ∈ [zIAE, zISE, zIOB]
def zH (X : Xt) (E : Me) (pc0 pc : Nat) (L : List (Option Value)) (S : List Value) (b : Nat × Nat) (post : Out → Geo → Mm → Mm → Prop) : Out → Geo → Mm → Mm → Prop := fun o g I J => match o with
  | .inl (some v) => ZV X E pc L (v :: S) b g I J post
  | .inl none => ZV X E pc L S b g I J post
  | .inr Ex => ∃ hpc : Nat, CK E pc0 Ex hpc ∧ ∀ q : Nat, ZV X E hpc L [.ref q] b g I J post
theorem ZV_callVH {idx n a cl : Nat} {As S0 : List Value} (hok : EOK E') (hlen : (lg_sl (.ref a :: As)).length ≤ mL E') (hl : zLV E idx E' n) (hd : decode (mC E) pc = .ok (.invokevirtual idx, 3)) (hk : ksh X g a = some (.inl cl)) (hcn : cl < 5 ∧ zC cl = (mY E').cls) (hn : As.length = n) (hb : (mB E').1 ≤ b.1 ∧ (mB E').2 ≤ b.2) (hs8 : (S.map fun v => v.category).sum ≤ 8) (hS0 : S0 = As.reverse ++ .ref a :: S)
    (h : ZV X E' 0 (entP (.ref a :: As) (mL E')) [] (mB E') g I J (zH X E pc (pc + 3) L S (b.1 - (mB E').1, b.2 - (mB E').2) post)) : ZV X E pc L S0 b g I J post := by
  subst hS0
  intro p e s m args below meth c C H locs cells slots ls hH hS hc hs hls
  have C' := C
  obtain ⟨hx, hbd, hml, hts, hown, hret, hlk, hin, hK, hT, hZ, hBs, htb, hst, -⟩ := C'
  have hM := z_met (X := X) hok hst hlen h
  have hrv := va_recv hK hH.1 (zc_vw cl hcn.1) (mWd_get (I := I) (J := J) hk)
  dsimp only at hrv
  rw [hcn.2] at hrv
  refine z_ret (vx_runV (As := As) (rest := S) ⟨hx, hbd, hml, hown, hts⟩ hM (hl hts) ⟨zblind X _ g I J, hrv, fun U hU hW => ⟨rfl, z_pre C hH hS hU hW⟩⟩ rfl hn hls.1 rfl (lv_room hs8) hd ⟨by show cells + _ ≤ (mB E).1; omega, by show slots + _ ≤ (mB E).2; omega⟩) hS ?_ ?_
  · intro v g' I' J' H1 locs1 hp hH1 hS1
    cases v with
    | none => exact hp p e s m args below meth c C H1 locs1 _ _ ls hH1 hS1 (by show _ + (b.1 - _) ≤ _; omega) (by show _ + (b.2 - _) ≤ _; omega) hls
    | some v => exact hp p e s m args below meth c C H1 locs1 _ _ ls hH1 hS1 (by show _ + (b.1 - _) ≤ _; omega) (by show _ + (b.2 - _) ≤ _; omega) hls
  · intro Ex ce q g' I' J' H1 locs1 hp hH1 hS1 h1 h2 h3
    obtain ⟨hpc, ⟨pre, z, suf, c1, c2, c3, c4, c5, rfl, c7⟩, hk2⟩ := hp
    refine vx_catch (own := (mY E).cls) (name := Ex) hown pre z suf (htb.trans c1) (fun q9 hq9 => ?_) c3 c4 (hts _ c5) (va_Nw.use rfl (hT.2.1 Ex c7)) h1 h2 h3 ?_
    · obtain ⟨d1, nm, d2, d3⟩ := c2 q9 hq9
      refine Or.inr ⟨d1, nm, hts _ d2, ?_⟩
      obtain ⟨n1, n2, n3, -⟩ := hT.2.2.1
      simp only [List.mem_cons, Prod.mk.injEq, List.mem_nil_iff, or_false] at d3
      rcases d3 with ⟨rfl, rfl⟩ | ⟨rfl, rfl⟩ | ⟨rfl, rfl⟩
      · exact n1
      · exact n2
      · exact n3
    · exact hk2 q p e s m args below meth c C H1 locs1 _ _ ls hH1 hS1 (by show _ + (b.1 - _) ≤ _; omega) (by show _ + (b.2 - _) ≤ _; omega) hls
/-- the law's script -/
theorem ZV_sld {z : Int} (k : Nat) (hd : decode (mC E) pc = .ok (.iaload, 1)) (hz : z = (k : Int)) (hk : k < X.2.2.2.2.2.1) (hn : X.2.2.2.2.2.1 ≤ 65536)
    (h : ZV X E (pc + 1) L (vi (X.2.2.2.2.2.2 k).toInt :: S) b g I J post) : ZV X E pc L (vi z :: .ref X.2.2.2.2.1 :: S) b g I J post := by
  intro p e s m args below meth c C H locs cells slots ls hH hS hc hs hls
  obtain ⟨hX, hbB⟩ := C.2.2.2.2.2.2.2.2.2.2.2.2.2.2
  have hBs := C.2.2.2.2.2.2.2.2.2.2.2.1
  obtain ⟨h1, h2⟩ := zin hz hk hn
  refine va_sld C.1 C.2.1 hX (by omega) (by show ¬ xB X ≤ _; omega) hS h1 hd ?_
  rw [h2, ← i32_of (X.2.2.2.2.2.2 k)]
  exact h p e s m args below meth c C H locs cells slots ls hH hS hc hs hls
theorem ZV_slen (hd : decode (mC E) pc = .ok (.arraylength, 1)) (h : ZV X E (pc + 1) L (vi (X.2.2.2.2.2.1 : Int) :: S) b g I J post) : ZV X E pc L (.ref X.2.2.2.2.1 :: S) b g I J post := by
  intro p e s m args below meth c C H locs cells slots ls hH hS hc hs hls
  obtain ⟨hX, hbB⟩ := C.2.2.2.2.2.2.2.2.2.2.2.2.2.2
  have hBs := C.2.2.2.2.2.2.2.2.2.2.2.1
  refine va_slen C.1 C.2.1 hX (by omega) (by show ¬ xB X ≤ _; omega) hS hd ?_
  exact h p e s m args below meth c C H locs cells slots ls hH hS hc hs hls
/-- more room does no harm -/
theorem ZV_less {b' : Nat × Nat} (h1 : b'.1 ≤ b.1) (h2 : b'.2 ≤ b.2) (h : ZV X E pc L S b' g I J post) : ZV X E pc L S b g I J post := by
  intro p e s m args below meth c C H locs cells slots ls hH hS hc hs hls
  exact h p e s m args below meth c C H locs cells slots ls hH hS (by omega) (by omega) hls
end ZC
/-! comparisons of longs with the branch behind them -/
theorem zcmp_eq0 {x y : Int} : zcmp x y = 0 ↔ x = y := by unfold zcmp; split <;> (try split) <;> omega
theorem zcmp_lt0 {x y : Int} : zcmp x y < 0 ↔ x < y := by unfold zcmp; split <;> (try split) <;> omega
theorem zcmp_ge0 {x y : Int} : 0 ≤ zcmp x y ↔ y ≤ x := by unfold zcmp; split <;> (try split) <;> omega
theorem zcmp_gt0 {x y : Int} : 0 < zcmp x y ↔ y < x := by unfold zcmp; split <;> (try split) <;> omega
theorem zcmp_le0 {x y : Int} : zcmp x y ≤ 0 ↔ x ≤ y := by unfold zcmp; split <;> (try split) <;> omega
theorem zcmp_r (x y : Int) : r32 (zcmp x y) := by unfold zcmp r32; split <;> (try split) <;> omega
section ZLC
variable {X : Xt} {E : Me} {pc : Nat} {L : List (Option Value)} {S : List Value} {b : Nat × Nat} {g : Geo} {I J : Mm} {post : Out → Geo → Mm → Mm → Prop} {x y off : Int} {tgt : Nat}
theorem ZV_lif_eq (hd : decode (mC E) pc = .ok (.lcmp, 1)) (hd2 : decode (mC E) (pc + 1) = .ok (.ifCond .eq off, 3)) (ht : ((pc + 1 : Nat) : Int) + off = (tgt : Int)) (hx : r64 x) (hy : r64 y) (kt : x = y → ZV X E tgt L S b g I J post) (kf : x ≠ y → ZV X E (pc + 4) L S b g I J post) : ZV X E pc L (vl y :: vl x :: S) b g I J post :=
  ZV_lcmp hd hx hy (ZV_if_eq hd2 ht (zcmp_r x y) (fun q => kt (zcmp_eq0.mp q)) (fun q => kf (fun z => q (zcmp_eq0.mpr z))))
theorem ZV_lif_ne (hd : decode (mC E) pc = .ok (.lcmp, 1)) (hd2 : decode (mC E) (pc + 1) = .ok (.ifCond .ne off, 3)) (ht : ((pc + 1 : Nat) : Int) + off = (tgt : Int)) (hx : r64 x) (hy : r64 y) (kt : x ≠ y → ZV X E tgt L S b g I J post) (kf : x = y → ZV X E (pc + 4) L S b g I J post) : ZV X E pc L (vl y :: vl x :: S) b g I J post :=
  ZV_lcmp hd hx hy (ZV_if_ne hd2 ht (zcmp_r x y) (fun q => kt (fun z => q (zcmp_eq0.mpr z))) (fun q => kf (zcmp_eq0.mp q)))
theorem ZV_lif_lt (hd : decode (mC E) pc = .ok (.lcmp, 1)) (hd2 : decode (mC E) (pc + 1) = .ok (.ifCond .lt off, 3)) (ht : ((pc + 1 : Nat) : Int) + off = (tgt : Int)) (hx : r64 x) (hy : r64 y) (kt : x < y → ZV X E tgt L S b g I J post) (kf : y ≤ x → ZV X E (pc + 4) L S b g I J post) : ZV X E pc L (vl y :: vl x :: S) b g I J post :=
  ZV_lcmp hd hx hy (ZV_if_lt hd2 ht (zcmp_r x y) (fun q => kt (zcmp_lt0.mp q)) (fun q => kf (zcmp_ge0.mp q)))
theorem ZV_lif_ge (hd : decode (mC E) pc = .ok (.lcmp, 1)) (hd2 : decode (mC E) (pc + 1) = .ok (.ifCond .ge off, 3)) (ht : ((pc + 1 : Nat) : Int) + off = (tgt : Int)) (hx : r64 x) (hy : r64 y) (kt : y ≤ x → ZV X E tgt L S b g I J post) (kf : x < y → ZV X E (pc + 4) L S b g I J post) : ZV X E pc L (vl y :: vl x :: S) b g I J post :=
  ZV_lcmp hd hx hy (ZV_if_ge hd2 ht (zcmp_r x y) (fun q => kt (zcmp_ge0.mp q)) (fun q => kf (zcmp_lt0.mp q)))
theorem ZV_lif_gt (hd : decode (mC E) pc = .ok (.lcmp, 1)) (hd2 : decode (mC E) (pc + 1) = .ok (.ifCond .gt off, 3)) (ht : ((pc + 1 : Nat) : Int) + off = (tgt : Int)) (hx : r64 x) (hy : r64 y) (kt : y < x → ZV X E tgt L S b g I J post) (kf : x ≤ y → ZV X E (pc + 4) L S b g I J post) : ZV X E pc L (vl y :: vl x :: S) b g I J post :=
  ZV_lcmp hd hx hy (ZV_if_gt hd2 ht (zcmp_r x y) (fun q => kt (zcmp_gt0.mp q)) (fun q => kf (zcmp_le0.mp q)))
theorem ZV_lif_le (hd : decode (mC E) pc = .ok (.lcmp, 1)) (hd2 : decode (mC E) (pc + 1) = .ok (.ifCond .le off, 3)) (ht : ((pc + 1 : Nat) : Int) + off = (tgt : Int)) (hx : r64 x) (hy : r64 y) (kt : x ≤ y → ZV X E tgt L S b g I J post) (kf : y < x → ZV X E (pc + 4) L S b g I J post) : ZV X E pc L (vl y :: vl x :: S) b g I J post :=
  ZV_lcmp hd hx hy (ZV_if_le hd2 ht (zcmp_r x y) (fun q => kt (zcmp_le0.mp q)) (fun q => kf (zcmp_gt0.mp q)))
end ZLC
/-- loops: from the end backwards -/
theorem loop_up {P : Nat → Prop} (n : Nat) (he : P n) (hs : ∀ i, i < n → P (i + 1) → P i) : ∀ i, i ≤ n → P i := by
  have key : ∀ k i, i + k = n → P i := by
    intro k
    induction k with
    | zero => intro i h; rw [Nat.add_zero] at h; rw [h]; exact he
    | succ k ih => intro i h; exact hs i (by omega) (ih (i + 1) (by omega))
  exact fun i h => key (n - i) i (by omega)
def zsum (f : Nat → Int) : Nat → Int
  | 0 => 0
  | n + 1 => zsum f n + f n
