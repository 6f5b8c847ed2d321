/-! THE ABSTRACT MACHINE: the whole system's cells by three maps (whole numbers behind ints, behind longs; references) and a list of kinds; a judgement ZV over them, sound for W by the kit's rows -/
abbrev vi (z : Int) : Value := .int (i32 z)
abbrev vl (z : Int) : Value := .long (i64 z)
abbrev Kd : Type := Nat ⊕ (Nat × Nat)
abbrev Mm : Type := Nat → Nat → Int
abbrev Mr : Type := Nat → Nat → Option Nat
abbrev Geo : Type := List Kd × Mr × Bool
abbrev Out : Type := Option Value ⊕ String
/-- launch, class numbers and slots, array classes, where the system begins, the script -/
abbrev Xt : Type := Launch × va_G × (Nat → ClassId) × Nat × (Nat × Nat × (Nat → Int32))
abbrev xl (X : Xt) : Launch := X.1
abbrev xD (X : Xt) : va_G := X.2.1
abbrev xC (X : Xt) : Nat → ClassId := X.2.2.1
abbrev xB (X : Xt) : Nat := X.2.2.2.1
abbrev xA (X : Xt) : Nat → Prop := fun q => xB X ≤ q
/-- a method: its name, code, locals, answer, words, room (frames, locals), cells and slots it may make, its table of handlers -/
abbrev Me : Type := MethodName × ByteArray × Nat × Option FieldType × List Cond × (Nat × Nat) × (Nat × Nat) × List (Nat × Nat × Nat × Nat)
abbrev mY (E : Me) : MethodName := E.1
abbrev mC (E : Me) : ByteArray := E.2.1
abbrev mL (E : Me) : Nat := E.2.2.1
abbrev mR (E : Me) : Option FieldType := E.2.2.2.1
abbrev mW (E : Me) : List Cond := E.2.2.2.2.1
abbrev mG (E : Me) : Nat × Nat := E.2.2.2.2.2.1
abbrev mB (E : Me) : Nat × Nat := E.2.2.2.2.2.2.1
abbrev mH (E : Me) : List (Nat × Nat × Nat × Nat) := E.2.2.2.2.2.2.2
def mRm (E : Me) : Room := { frames := (mG E).1, cells := (mB E).1, slots := (mB E).2, locals := (mG E).2 }
/-- element types of arrays: 0 int, 1 long, 2 char, 3 boolean, 4 State, 5 Work -/
def tyl : Nat → FieldType := fun t => match t with
  | 0 => .int
  | 1 => .long
  | 2 => .char
  | 3 => .boolean
  | 4 => .object RX3
  | _ => .object RX5
def xT (X : Xt) : List (ClassId × FieldType) := (List.range 6).map fun t => (xC X t, tyl t)
theorem xT_get (X : Xt) {t : Nat} (h : t < 6) : (xT X)[t]? = some (xC X t, tyl t) := by
  unfold xT
  rw [List.getElem?_map, List.getElem?_range h]; rfl
/-- what a class's fields are, by slots: 0 int, 1 long, 2 a reference, 3 boolean -/
def fty : Nat → List Nat := fun c => match c with
  | 0 => [2, 0, 0]
  | 1 => [2, 0, 0, 0, 2, 2, 2, 2, 0]
  | 2 => [2, 0, 2, 0, 0, 0]
  | 3 => [2, 0, 0, 1]
  | 4 => [2, 2, 2, 2, 2, 2, 2]
  | 5 => [0, 2, 0, 0, 3, 2, 2, 2, 2, 0, 2, 2, 2, 2, 2, 2, 2, 2]
  | _ => []
def fvl (t : Nat) (r : Option Nat) (i j : Int) : Value := if t = 1 then vl j else if t = 2 then va_rf r else vi i
def fls (ts : List Nat) (r : Nat → Option Nat) (i j : Nat → Int) : List Value := (List.range ts.length).map fun k => fvl (ts.getD k 0) (r k) (i k) (j k)
def aE (t n : Nat) (r : Nat → Option Nat) (i j : Nat → Int) : vp_A := if t = 1 then (n, .inr (.inl (fun k => i64 (j k)))) else if t ≤ 3 then (n, .inl (fun k => i32 (i k))) else (n, .inr (.inr (.inr (.inr r))))
def cE (X : Xt) (kd : Kd) (r : Nat → Option Nat) (i j : Nat → Int) : va_E := match kd with
  | .inl c => .inr (c, fls (fty c) r i j)
  | .inr q => .inl (xC X q.1, aE q.1 q.2 r i j)
def mWd (X : Xt) (g : Geo) (I J : Mm) : va_W := (List.range g.1.length).map fun q => (xB X + q, cE X (g.1.getD q (.inl 0)) (g.2.1 (xB X + q)) (I (xB X + q)) (J (xB X + q)))
/-- the kind of the cell at an address -/
def ksh (X : Xt) (g : Geo) (a : Nat) : Option Kd := if xB X ≤ a then g.1[a - xB X]? else none
theorem fls_get {ts : List Nat} {r : Nat → Option Nat} {i j : Nat → Int} {k t : Nat} (h : ts[k]? = some t) : (fls ts r i j)[k]? = some (fvl t (r k) (i k) (j k)) := by
  have hl := (List.getElem?_eq_some_iff.mp h).1
  unfold fls
  rw [List.getElem?_map, List.getElem?_range hl]
  simp [List.getD, h]
theorem fls_len (ts : List Nat) (r : Nat → Option Nat) (i j : Nat → Int) : (fls ts r i j).length = ts.length := by simp [fls]
theorem fls_set {ts : List Nat} {r r' : Nat → Option Nat} {i i' j j' : Nat → Int} {k t : Nat} (h : ts[k]? = some t) (hr : ∀ q, q ≠ k → r' q = r q) (hi : ∀ q, q ≠ k → i' q = i q) (hj : ∀ q, q ≠ k → j' q = j q) : (fls ts r i j).set k (fvl t (r' k) (i' k) (j' k)) = fls ts r' i' j' := by
  have hl := (List.getElem?_eq_some_iff.mp h).1
  apply List.ext_getElem?
  intro q
  by_cases hq : q = k
  · subst hq
    rw [List.getElem?_set_self (by rw [fls_len]; exact hl), fls_get h]
  · rw [List.getElem?_set_ne (Ne.symm hq)]
    by_cases hql : q < ts.length
    · obtain ⟨t', ht'⟩ : ∃ t', ts[q]? = some t' := ⟨_, List.getElem?_eq_getElem hql⟩
      rw [fls_get ht', fls_get ht', hr q hq, hi q hq, hj q hq]
    · rw [List.getElem?_eq_none (by rw [fls_len]; omega), List.getElem?_eq_none (by rw [fls_len]; omega)]
theorem ksh_spec {X : Xt} {g : Geo} {a : Nat} {kd : Kd} (h : ksh X g a = some kd) : xB X ≤ a ∧ g.1[a - xB X]? = some kd := by
  unfold ksh at h
  by_cases hB : xB X ≤ a
  · rw [if_pos hB] at h; exact ⟨hB, h⟩
  · rw [if_neg hB] at h; cases h
theorem mWd_get {X : Xt} {g : Geo} {I J : Mm} {a : Nat} {kd : Kd} (h : ksh X g a = some kd) : (mWd X g I J)[a - xB X]? = some (a, cE X kd (g.2.1 a) (I a) (J a)) := by
  obtain ⟨hB, h1⟩ := ksh_spec h
  have hl := (List.getElem?_eq_some_iff.mp h1).1
  unfold mWd
  rw [List.getElem?_map, List.getElem?_range hl]
  have e : xB X + (a - xB X) = a := by omega
  simp only [Option.map_some, e, List.getD, h1, Option.getD_some]
theorem mWd_len (X : Xt) (g : Geo) (I J : Mm) : (mWd X g I J).length = g.1.length := by simp [mWd]
theorem mWd_set {X : Xt} {g : Geo} {I J I' J' : Mm} {r' : Mr} {a : Nat} {kd : Kd} (h : ksh X g a = some kd) (hr : ∀ b, b ≠ a → r' b = g.2.1 b) (hI : ∀ b, b ≠ a → I' b = I b) (hJ : ∀ b, b ≠ a → J' b = J b) :
    (mWd X g I J).set (a - xB X) (a, cE X kd (r' a) (I' a) (J' a)) = mWd X (g.1, r', g.2.2) I' J' := by
  obtain ⟨hB, h1⟩ := ksh_spec h
  have hl := (List.getElem?_eq_some_iff.mp h1).1
  apply List.ext_getElem?
  intro q
  by_cases hq : q = a - xB X
  · subst hq
    rw [List.getElem?_set_self (by rw [mWd_len]; exact hl)]
    exact (mWd_get (X := X) (g := (g.1, r', g.2.2)) (I := I') (J := J') (a := a) (kd := kd) h).symm
  · rw [List.getElem?_set_ne (Ne.symm hq)]
    unfold mWd
    rw [List.getElem?_map, List.getElem?_map]
    by_cases hql : q < g.1.length
    · rw [List.getElem?_range hql]
      have hne : xB X + q ≠ a := by omega
      simp only [Option.map_some, hr _ hne, hI _ hne, hJ _ hne]
    · rw [List.getElem?_eq_none (by simp; omega)]
      rfl
theorem mWd_D (X : Xt) (g : Geo) (I J : Mm) : va_D (xA X) (mWd X g I J) := by
  have key : ∀ (k : Nat) (q : Nat × va_E), (mWd X g I J)[k]? = some q → q.1 = xB X + k := by
    intro k q hk
    unfold mWd at hk
    rw [List.getElem?_map] at hk
    by_cases hl : k < g.1.length
    · rw [List.getElem?_range hl] at hk
      cases hk; rfl
    · rw [List.getElem?_eq_none (by simp; omega)] at hk
      cases hk
  refine ⟨fun i j p q hi hj hpq => ?_, fun k q hk => ?_⟩
  · rw [key i p hi, key j q hj] at hpq
    omega
  · show xB X ≤ q.1
    rw [key k q hk]; omega
/-- what the heap holds -/
def HH (X : Xt) (g : Geo) (I J : Mm) (H : Heap) : Prop := va_P (xD X) vwCl (mWd X g I J) H ∧ (g.2.2 = true → H.size = xB X + g.1.length)
def zIAE : String := "java/lang/IllegalArgumentException"
def zISE : String := "java/lang/IllegalStateException"
def zIOB : String := "java/lang/IndexOutOfBoundsException"
def zStr : List (Nat × String) := [(118, "there is no such number"), (157, "there is no such number of a work"), (159, "there is no such author"), (161, "letters are numbered from 0"), (171, "characters are numbered from 0"), (174, "places are numbered from 0"), (196, "there is no such count"), (202, "the text is not a list of just one work"), (204, "there are 16 works"), (217, "a year is 1000 to 2999"), (225, "an order is 0 or 1"), (233, "no state is remembered"), (248, "a script has 1 to 4 commands"), (252, "a script has at most four digits a command"), (263, "there are 1 to 99 rounds"), (276, "nothing has been saved in this slot"), (283, "there is no such work"), (289, "a style is 0 to 3"), (291, "a save slot is 0 or 1"), (50, "a character code is 0 to 255"), (61, "the text is full"), (72, "the text is not a list")]
def zSup : List String := ["java/lang/RuntimeException", "java/lang/Exception", "java/lang/Throwable"]
/-- what the tables say that no method's own words can -/
def Th (U : State) : Prop := (∀ q ∈ zStr, ∃ a : Nat, vk_R RX6 q.1 q.2 a U) ∧ (∀ C ∈ [zIAE, zISE, zIOB], va_Nw (.castable C C) U) ∧ (va_Nc zISE zIAE U ∧ va_Nc zIAE zIOB U ∧ va_Nc zISE zIOB U ∧ ∀ C ∈ zSup, va_Nw (.declares (Bundle.initS C)) U) ∧ va_AO RX3 U ∧ va_AO RX5 U
def Tz (A : Nat → Prop) (U : State) (H : Heap) : Prop := vx_Zq Bundle.tN "UNASSIGNED_STACK" Bundle.steD A U H ∧ vx_Zq Bundle.tN "SUPPRESSED_SENTINEL" Bundle.listD A U H
theorem Th.warm {s U : State} (hW : s.WarmedH U.vm) (h : Th s) : Th U := by
  obtain ⟨h1, h2, ⟨h3, h4, h5, h8⟩, h6, h7⟩ := h
  have hA := hW.alike
  exact ⟨fun q hq => by obtain ⟨a, ha⟩ := h1 q hq; exact ⟨a, vk_R.warm hW ha⟩, fun C hC => va_Nw.warmC hW (h2 C hC), ⟨va_Nc.moved hA h3, va_Nc.moved hA h4, va_Nc.moved hA h5, fun C hC => va_Nw.warmD hW (h8 C hC)⟩, va_AO.moved hA h6, va_AO.moved hA h7⟩
theorem Th.same {u U : State} (hv : U.vm = u.vm) (h : Th u) : Th U := by
  obtain ⟨h1, h2, ⟨h3, h4, h5, h8⟩, h6, h7⟩ := h
  have hA : u.vm.Alike U.vm := by rw [hv]; exact Vm.Alike.refl u.vm
  exact ⟨fun q hq => by obtain ⟨a, ha⟩ := h1 q hq; exact ⟨a, vk_R.same hv ha⟩, fun C hC => va_Nw.same rfl hv.symm (h2 C hC), ⟨va_Nc.moved hA h3, va_Nc.moved hA h4, va_Nc.moved hA h5, fun C hC => va_Nw.same rfl hv.symm (h8 C hC)⟩, va_AO.moved hA h6, va_AO.moved hA h7⟩
def HO (X : Xt) (g : Geo) (I J : Mm) (U : State) : Prop := HH X g I J U.heap ∧ xB X ≤ U.heap.size ∧ va_K (xD X) vwCl (xT X) U ∧ Th U ∧ Tz (xA X) U U.heap ∧ (va_X X.2.2.2.2.1 X.2.2.2.2.2.1 X.2.2.2.2.2.2 U U.heap ∧ X.2.2.2.2.1 < xB X)
/-- what holds of a method's frame -/
def Cx (X : Xt) (E : Me) (p : Program) (s : State) (m : MethodId) (args : Array Value) (meth : Method) (c : Code) : Prop :=
  p.tables.exec = Jvm.exec ∧ c.code = mC E ∧ c.maxLocals = mL E ∧ (∀ w ∈ mW E, w.before args s = true) ∧ s.vm.findClass (mY E).cls = some m.cls ∧ meth.sig.returnType = mR E ∧ meth.locks = false ∧ meth.name = (mY E).name ∧ va_K (xD X) vwCl (xT X) s ∧ Th s ∧ Tz (xA X) s s.heap ∧ xB X ≤ s.heap.size ∧ c.exceptionTable.toList = tableOf (mH E) ∧ (xl X).stackTraces = false ∧ (va_X X.2.2.2.2.1 X.2.2.2.2.2.1 X.2.2.2.2.2.2 s s.heap ∧ X.2.2.2.2.1 < xB X)
/-- the locals: what is known of each place -/
def lvd (ls : Array Slot) (n : Nat) (L : List (Option Value)) : Prop := ls.size = n ∧ lv_wf ls ∧ ∀ (k : Nat) (v : Value), L[k]? = some (some v) → ls[k]? = some (.val v)
def zQ (X : Xt) (post : Out → Geo → Mm → Mm → Prop) : Array Value → State → Outcome → State → Prop := fun _ st o t => ∃ (v : Option Value) (g : Geo) (I J : Mm), o = .returned v ∧ post (.inl v) g I J ∧ HH X g I J t.heap ∧ va_F (xA X) st t
def zX (X : Xt) (post : Out → Geo → Mm → Mm → Prop) : String → State → State → Prop := fun Ex st t => ∃ (g : Geo) (I J : Mm), post (.inr Ex) g I J ∧ HH X g I J t.heap ∧ va_F (xA X) st t
/-- THE JUDGEMENT: from this place of this method, with these locals, this stack, this room and this memory, every run ends in post -/
def ZV (X : Xt) (E : Me) (pc : Nat) (L : List (Option Value)) (S : List Value) (b : Nat × Nat) (g : Geo) (I J : Mm) (post : Out → Geo → Mm → Mm → Prop) : Prop :=
  ∀ (p : Program) (e : Env) (s : State) (m : MethodId) (args : Array Value) (below : List Frame) (meth : Method) (c : Code), Cx X E p s m args meth c →
    ∀ (H : Heap) (locs : List Loc) (cells slots : Nat) (ls : Array Slot), HH X g I J H → va_S (xA X) s.heap H locs → cells + b.1 ≤ (mB E).1 → slots + b.2 ≤ (mB E).2 → lvd ls (mL E) L →
      W p (xl X) e (mRm E) s m args below meth c H locs cells slots (vx_MQ below (zQ X post) (zX X post) args s (mB E).1 (mB E).2 (xA X)) (F0 m pc ls S)
