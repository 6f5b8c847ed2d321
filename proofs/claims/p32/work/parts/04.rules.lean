/-! the rules of ZV, one an instruction: each by a row of the kit -/
section ZR
variable {X : Xt} {E : Me} {pc : Nat} {L : List (Option Value)} {S : List Value} {b : Nat × Nat} {g : Geo} {I J : Mm} {post : Out → Geo → Mm → Mm → Prop}
theorem ZV_iconst {n : Int} (hd : decode (mC E) pc = .ok (.iconst n, 1)) (h : ZV X E (pc + 1) L (vi n :: S) b g I J post) : ZV X E (pc) L (S) b g I J post := by
  intro p e s m args below meth c C H locs cells slots ls hH hS hc hs hl
  refine lv_iconst C.1 C.2.1 hd rfl ?_
  exact h p e s m args below meth c C H locs cells slots ls hH hS hc hs hl
theorem ZV_bipush {n : Int} (hd : decode (mC E) pc = .ok (.bipush n, 2)) (hv : (Int8.ofInt n).toInt32 = i32 n) (h : ZV X E (pc + 2) L (vi n :: S) b g I J post) : ZV X E (pc) L (S) b g I J post := by
  intro p e s m args below meth c C H locs cells slots ls hH hS hc hs hl
  refine lv_bipush C.1 C.2.1 hd hv ?_
  exact h p e s m args below meth c C H locs cells slots ls hH hS hc hs hl
theorem ZV_sipush {n : Int} (hd : decode (mC E) pc = .ok (.sipush n, 3)) (hv : (Int16.ofInt n).toInt32 = i32 n) (h : ZV X E (pc + 3) L (vi n :: S) b g I J post) : ZV X E (pc) L (S) b g I J post := by
  intro p e s m args below meth c C H locs cells slots ls hH hS hc hs hl
  refine lv_sipush C.1 C.2.1 hd hv ?_
  exact h p e s m args below meth c C H locs cells slots ls hH hS hc hs hl
theorem ZV_lconst {n : Fin 2} {z : Int} (hd : decode (mC E) pc = .ok (.lconst n, 1)) (hv : Int64.ofNat (n : Nat) = i64 z) (h : ZV X E (pc + 1) L (vl z :: S) b g I J post) : ZV X E (pc) L (S) b g I J post := by
  intro p e s m args below meth c C H locs cells slots ls hH hS hc hs hl
  refine lv_lconst C.1 C.2.1 hd hv ?_
  exact h p e s m args below meth c C H locs cells slots ls hH hS hc hs hl
theorem ZV_ldc2 {k : Nat} {z : Int} (hd : decode (mC E) pc = .ok (.ldc2_w k, 3)) (hw : Cond.constantLong (mY E).cls k (i64 z) ∈ mW E) (h : ZV X E (pc + 3) L (vl z :: S) b g I J post) : ZV X E (pc) L (S) b g I J post := by
  intro p e s m args below meth c C H locs cells slots ls hH hS hc hs hl
  refine lv_ldc2 C.1 C.2.1 C.2.2.2.2.1 (C.2.2.2.1 _ hw) hd ?_
  exact h p e s m args below meth c C H locs cells slots ls hH hS hc hs hl
theorem ZV_ldc {k : Nat} {z : Int} (hd : decode (mC E) pc = .ok (.ldc k, 2)) (hw : Cond.constant (mY E).cls k (i32 z) ∈ mW E) (h : ZV X E (pc + 2) L (vi z :: S) b g I J post) : ZV X E (pc) L (S) b g I J post := by
  intro p e s m args below meth c C H locs cells slots ls hH hS hc hs hl
  refine lv_ldc C.1 C.2.1 C.2.2.2.2.1 (C.2.2.2.1 _ hw) hd ?_
  exact h p e s m args below meth c C H locs cells slots ls hH hS hc hs hl
theorem ZV_iload_n {k : Fin 4} {z : Int} (hd : decode (mC E) pc = .ok (.iload_n k, 1)) (hk : L[(k : Nat)]? = some (some (vi z))) (h : ZV X E (pc + 1) L (vi z :: S) b g I J post) : ZV X E (pc) L (S) b g I J post := by
  intro p e s m args below meth c C H locs cells slots ls hH hS hc hs hl
  refine lv_iload_n C.1 C.2.1 hd rfl (hl.2.2 _ _ hk) ?_
  exact h p e s m args below meth c C H locs cells slots ls hH hS hc hs hl
theorem ZV_iload {k : Nat} {z : Int} (hd : decode (mC E) pc = .ok (.iload k, 2)) (hk : L[k]? = some (some (vi z))) (h : ZV X E (pc + 2) L (vi z :: S) b g I J post) : ZV X E (pc) L (S) b g I J post := by
  intro p e s m args below meth c C H locs cells slots ls hH hS hc hs hl
  refine lv_iload C.1 C.2.1 hd (hl.2.2 _ _ hk) ?_
  exact h p e s m args below meth c C H locs cells slots ls hH hS hc hs hl
theorem ZV_lload_n {k : Fin 4} {z : Int} (hd : decode (mC E) pc = .ok (.lload_n k, 1)) (hk : L[(k : Nat)]? = some (some (vl z))) (h : ZV X E (pc + 1) L (vl z :: S) b g I J post) : ZV X E (pc) L (S) b g I J post := by
  intro p e s m args below meth c C H locs cells slots ls hH hS hc hs hl
  refine lv_lload_n C.1 C.2.1 hd rfl (hl.2.2 _ _ hk) ?_
  exact h p e s m args below meth c C H locs cells slots ls hH hS hc hs hl
theorem ZV_lload {k : Nat} {z : Int} (hd : decode (mC E) pc = .ok (.lload k, 2)) (hk : L[k]? = some (some (vl z))) (h : ZV X E (pc + 2) L (vl z :: S) b g I J post) : ZV X E (pc) L (S) b g I J post := by
  intro p e s m args below meth c C H locs cells slots ls hH hS hc hs hl
  refine lv_lload C.1 C.2.1 hd (hl.2.2 _ _ hk) ?_
  exact h p e s m args below meth c C H locs cells slots ls hH hS hc hs hl
theorem ZV_aload_n {k : Fin 4} {z : Nat} (hd : decode (mC E) pc = .ok (.aload_n k, 1)) (hk : L[(k : Nat)]? = some (some (.ref z))) (h : ZV X E (pc + 1) L (.ref z :: S) b g I J post) : ZV X E (pc) L (S) b g I J post := by
  intro p e s m args below meth c C H locs cells slots ls hH hS hc hs hl
  refine lv_aload_n C.1 C.2.1 hd rfl (hl.2.2 _ _ hk) ?_
  exact h p e s m args below meth c C H locs cells slots ls hH hS hc hs hl
theorem ZV_aload {k : Nat} {z : Nat} (hd : decode (mC E) pc = .ok (.aload k, 2)) (hk : L[k]? = some (some (.ref z))) (h : ZV X E (pc + 2) L (.ref z :: S) b g I J post) : ZV X E (pc) L (S) b g I J post := by
  intro p e s m args below meth c C H locs cells slots ls hH hS hc hs hl
  refine lv_aload C.1 C.2.1 hd (hl.2.2 _ _ hk) ?_
  exact h p e s m args below meth c C H locs cells slots ls hH hS hc hs hl
/-- no long at this place -/
def znl : Option Value → Bool
  | some v => v.category == 1
  | none => true
def zprev (L : List (Option Value)) (i : Nat) : Bool := match i with
  | 0 => true
  | k + 1 => znl (L.getD k none)
def asc (L : List (Option Value)) : List (Nat × Value) := (List.range L.length).filterMap fun k => (L.getD k none).map fun v => (k, v)
theorem asc_mem {L : List (Option Value)} {k : Nat} {v : Value} : (k, v) ∈ asc L ↔ L[k]? = some (some v) := by
  unfold asc
  rw [List.mem_filterMap]
  constructor
  · rintro ⟨a, ha, h⟩
    rw [List.mem_range] at ha
    have h1 : L[a]? = some L[a] := List.getElem?_eq_getElem ha
    rw [List.getD_eq_getElem?_getD, h1] at h
    simp only [Option.getD_some, Option.map_eq_some_iff, Prod.mk.injEq] at h
    obtain ⟨v', h2, rfl, rfl⟩ := h
    rw [h1, h2]
  · intro h
    have hl := (List.getElem?_eq_some_iff.mp h).1
    refine ⟨k, List.mem_range.mpr hl, ?_⟩
    rw [List.getD_eq_getElem?_getD, h]; rfl
theorem lvd_has {ls : Array Slot} {n : Nat} {L : List (Option Value)} (h : lvd ls n L) : lv_has ls n (asc L) := ⟨h.1, h.2.1, fun q hq => h.2.2 q.1 q.2 (asc_mem.mp hq)⟩
theorem lvd_set1 {ls' : Array Slot} {n : Nat} {L : List (Option Value)} {i : Nat} {v : Value} (hp : zprev L i = true) (hi : i < L.length) (h : lv_has ls' n ((i, v) :: (asc L).filter (fun q => !(q.1 == i) && !(q.1 + 1 == i && q.2.category == 2)))) : lvd ls' n (L.set i (some v)) := by
  refine ⟨h.1, h.2.1, fun k u hk => ?_⟩
  by_cases e : k = i
  · subst e
    rw [List.getElem?_set_self hi] at hk
    cases hk
    exact h.2.2 (k, v) List.mem_cons_self
  · rw [List.getElem?_set_ne (Ne.symm e)] at hk
    refine h.2.2 (k, u) (List.mem_cons_of_mem _ (List.mem_filter.mpr ⟨asc_mem.mpr hk, ?_⟩))
    have e1 : (k == i) = false := by simp [e]
    by_cases e2 : k + 1 = i
    · subst e2
      simp only [zprev, znl, List.getD_eq_getElem?_getD, hk, Option.getD_some, beq_iff_eq] at hp
      simp [hp]
    · simp [e, e2]
theorem lvd_set2 {ls' : Array Slot} {n : Nat} {L : List (Option Value)} {i : Nat} {v : Value} (hp : zprev L i = true) (hi : i + 1 < L.length) (h : lv_has ls' n ((i, v) :: (asc L).filter (fun q => !(q.1 == i) && (!(q.1 == i + 1) && !(q.1 + 1 == i && q.2.category == 2))))) : lvd ls' n ((L.set i (some v)).set (i + 1) none) := by
  refine ⟨h.1, h.2.1, fun k u hk => ?_⟩
  by_cases e0 : k = i + 1
  · subst e0
    rw [List.getElem?_set_self (by simp; omega)] at hk
    cases hk
  · rw [List.getElem?_set_ne (Ne.symm e0)] at hk
    by_cases e : k = i
    · subst e
      rw [List.getElem?_set_self (by omega)] at hk
      cases hk
      exact h.2.2 (k, v) List.mem_cons_self
    · rw [List.getElem?_set_ne (Ne.symm e)] at hk
      refine h.2.2 (k, u) (List.mem_cons_of_mem _ (List.mem_filter.mpr ⟨asc_mem.mpr hk, ?_⟩))
      by_cases e2 : k + 1 = i
      · subst e2
        simp only [zprev, znl, List.getD_eq_getElem?_getD, hk, Option.getD_some, beq_iff_eq] at hp
        simp [hp] <;> omega
      · simp [e, e2, e0]
theorem ZV_istore_nG {k : Nat} {kf : Fin 4} {z : Int} (hd : decode (mC E) pc = .ok (.istore_n kf, 1)) (hk : (kf : Nat) = k) (hp : zprev L k = true) (hi : k < L.length) (hn : k < mL E) (h : ZV X E (pc + 1) (L.set k (some (vi z))) (S) b g I J post) : ZV X E (pc) L (vi z :: S) b g I J post := by
  intro p e s m args below meth c C H locs cells slots ls hH hS hc hs hl
  refine lv_istore_n (lv' := _) C.1 C.2.1 hd hk (lvd_has hl) hn rfl (fun ls2 hl2 => ?_)
  exact h p e s m args below meth c C H locs cells slots ls2 hH hS hc hs (lvd_set1 hp hi hl2)
theorem ZV_istoreG {k : Nat} {z : Int} (hd : decode (mC E) pc = .ok (.istore k, 2)) (hp : zprev L k = true) (hi : k < L.length) (hn : k < mL E) (h : ZV X E (pc + 2) (L.set k (some (vi z))) (S) b g I J post) : ZV X E (pc) L (vi z :: S) b g I J post := by
  intro p e s m args below meth c C H locs cells slots ls hH hS hc hs hl
  refine lv_istore (lv' := _) C.1 C.2.1 hd (lvd_has hl) hn rfl (fun ls2 hl2 => ?_)
  exact h p e s m args below meth c C H locs cells slots ls2 hH hS hc hs (lvd_set1 hp hi hl2)
theorem ZV_lstore_nG {k : Nat} {kf : Fin 4} {z : Int} (hd : decode (mC E) pc = .ok (.lstore_n kf, 1)) (hk : (kf : Nat) = k) (hp : zprev L k = true) (hi : k + 1 < L.length) (hn : k + 1 < mL E) (h : ZV X E (pc + 1) ((L.set k (some (vl z))).set (k + 1) none) (S) b g I J post) : ZV X E (pc) L (vl z :: S) b g I J post := by
  intro p e s m args below meth c C H locs cells slots ls hH hS hc hs hl
  refine lv_lstore_n (lv' := _) C.1 C.2.1 hd hk (lvd_has hl) hn rfl (fun ls2 hl2 => ?_)
  exact h p e s m args below meth c C H locs cells slots ls2 hH hS hc hs (lvd_set2 hp hi hl2)
theorem ZV_lstoreG {k : Nat} {z : Int} (hd : decode (mC E) pc = .ok (.lstore k, 2)) (hp : zprev L k = true) (hi : k + 1 < L.length) (hn : k + 1 < mL E) (h : ZV X E (pc + 2) ((L.set k (some (vl z))).set (k + 1) none) (S) b g I J post) : ZV X E (pc) L (vl z :: S) b g I J post := by
  intro p e s m args below meth c C H locs cells slots ls hH hS hc hs hl
  refine lv_lstore (lv' := _) C.1 C.2.1 hd (lvd_has hl) hn rfl (fun ls2 hl2 => ?_)
  exact h p e s m args below meth c C H locs cells slots ls2 hH hS hc hs (lvd_set2 hp hi hl2)
theorem ZV_astore_nG {k : Nat} {kf : Fin 4} {z : Nat} (hd : decode (mC E) pc = .ok (.astore_n kf, 1)) (hk : (kf : Nat) = k) (hp : zprev L k = true) (hi : k < L.length) (hn : k < mL E) (h : ZV X E (pc + 1) (L.set k (some (.ref z))) (S) b g I J post) : ZV X E (pc) L (.ref z :: S) b g I J post := by
  intro p e s m args below meth c C H locs cells slots ls hH hS hc hs hl
  refine lv_astore_n (lv' := _) C.1 C.2.1 hd hk (lvd_has hl) hn rfl (fun ls2 hl2 => ?_)
  exact h p e s m args below meth c C H locs cells slots ls2 hH hS hc hs (lvd_set1 hp hi hl2)
theorem ZV_astoreG {k : Nat} {z : Nat} (hd : decode (mC E) pc = .ok (.astore k, 2)) (hp : zprev L k = true) (hi : k < L.length) (hn : k < mL E) (h : ZV X E (pc + 2) (L.set k (some (.ref z))) (S) b g I J post) : ZV X E (pc) L (.ref z :: S) b g I J post := by
  intro p e s m args below meth c C H locs cells slots ls hH hS hc hs hl
  refine lv_astore (lv' := _) C.1 C.2.1 hd (lvd_has hl) hn rfl (fun ls2 hl2 => ?_)
  exact h p e s m args below meth c C H locs cells slots ls2 hH hS hc hs (lvd_set1 hp hi hl2)
theorem ZV_iincG {k : Nat} {n z : Int} (hd : decode (mC E) pc = .ok (.iinc k n, 3)) (hk : L[k]? = some (some (vi z))) (hp : zprev L k = true) (hn : k < mL E) (h : ZV X E (pc + 3) (L.set k (some (vi (z + n)))) (S) b g I J post) : ZV X E (pc) L (S) b g I J post := by
  intro p e s m args below meth c C H locs cells slots ls hH hS hc hs hl
  obtain ⟨q, hq⟩ := List.getElem?_of_mem (asc_mem.mpr hk)
  refine lv_iinc (lv' := _) C.1 C.2.1 hd (lvd_has hl) hq (i32_add z n) hn rfl (fun ls2 hl2 => ?_)
  exact h p e s m args below meth c C H locs cells slots ls2 hH hS hc hs (lvd_set1 hp (List.getElem?_eq_some_iff.mp hk).1 hl2)
theorem ZV_istore0 {a0 : Option Value} {z : Int} (hd : decode (mC E) pc = .ok (.istore_n 0, 1)) (hn : 0 < mL E) (h : ZV X E (pc + 1) (some (vi z) :: L) (S) b g I J post) : ZV X E (pc) (a0 :: L) (vi z :: S) b g I J post := ZV_istore_nG (k := 0) hd rfl rfl (by simp) hn h
theorem ZV_astore0 {a0 : Option Value} {z : Nat} (hd : decode (mC E) pc = .ok (.astore_n 0, 1)) (hn : 0 < mL E) (h : ZV X E (pc + 1) (some (.ref z) :: L) (S) b g I J post) : ZV X E (pc) (a0 :: L) (.ref z :: S) b g I J post := ZV_astore_nG (k := 0) hd rfl rfl (by simp) hn h
theorem ZV_iinc0 {a0 : Option Value} {z n : Int} (hd : decode (mC E) pc = .ok (.iinc 0 n, 3)) (hn : 0 < mL E) (h : ZV X E (pc + 3) (some (vi (z + n)) :: L) (S) b g I J post) : ZV X E (pc) (some (vi z) :: L) (S) b g I J post := ZV_iincG (k := 0) hd (by simp) rfl hn h
theorem ZV_lstore0 {a0 a1 : Option Value} {z : Int} (hd : decode (mC E) pc = .ok (.lstore_n 0, 1)) (hn : 0 + 1 < mL E) (h : ZV X E (pc + 1) (some (vl z) :: none :: L) (S) b g I J post) : ZV X E (pc) (a0 :: a1 :: L) (vl z :: S) b g I J post := ZV_lstore_nG (k := 0) hd rfl rfl (by simp) hn h
theorem ZV_istore1 {a0 a1 : Option Value} {z : Int} (hd : decode (mC E) pc = .ok (.istore_n 1, 1)) (hp : znl a0 = true) (hn : 1 < mL E) (h : ZV X E (pc + 1) (a0 :: some (vi z) :: L) (S) b g I J post) : ZV X E (pc) (a0 :: a1 :: L) (vi z :: S) b g I J post := ZV_istore_nG (k := 1) hd rfl hp (by simp) hn h
theorem ZV_astore1 {a0 a1 : Option Value} {z : Nat} (hd : decode (mC E) pc = .ok (.astore_n 1, 1)) (hp : znl a0 = true) (hn : 1 < mL E) (h : ZV X E (pc + 1) (a0 :: some (.ref z) :: L) (S) b g I J post) : ZV X E (pc) (a0 :: a1 :: L) (.ref z :: S) b g I J post := ZV_astore_nG (k := 1) hd rfl hp (by simp) hn h
theorem ZV_iinc1 {a0 a1 : Option Value} {z n : Int} (hd : decode (mC E) pc = .ok (.iinc 1 n, 3)) (hp : znl a0 = true) (hn : 1 < mL E) (h : ZV X E (pc + 3) (a0 :: some (vi (z + n)) :: L) (S) b g I J post) : ZV X E (pc) (a0 :: some (vi z) :: L) (S) b g I J post := ZV_iincG (k := 1) hd (by simp) hp hn h
theorem ZV_lstore1 {a0 a1 a2 : Option Value} {z : Int} (hd : decode (mC E) pc = .ok (.lstore_n 1, 1)) (hp : znl a0 = true) (hn : 1 + 1 < mL E) (h : ZV X E (pc + 1) (a0 :: some (vl z) :: none :: L) (S) b g I J post) : ZV X E (pc) (a0 :: a1 :: a2 :: L) (vl z :: S) b g I J post := ZV_lstore_nG (k := 1) hd rfl hp (by simp) hn h
theorem ZV_istore2 {a0 a1 a2 : Option Value} {z : Int} (hd : decode (mC E) pc = .ok (.istore_n 2, 1)) (hp : znl a1 = true) (hn : 2 < mL E) (h : ZV X E (pc + 1) (a0 :: a1 :: some (vi z) :: L) (S) b g I J post) : ZV X E (pc) (a0 :: a1 :: a2 :: L) (vi z :: S) b g I J post := ZV_istore_nG (k := 2) hd rfl hp (by simp) hn h
theorem ZV_astore2 {a0 a1 a2 : Option Value} {z : Nat} (hd : decode (mC E) pc = .ok (.astore_n 2, 1)) (hp : znl a1 = true) (hn : 2 < mL E) (h : ZV X E (pc + 1) (a0 :: a1 :: some (.ref z) :: L) (S) b g I J post) : ZV X E (pc) (a0 :: a1 :: a2 :: L) (.ref z :: S) b g I J post := ZV_astore_nG (k := 2) hd rfl hp (by simp) hn h
theorem ZV_iinc2 {a0 a1 a2 : Option Value} {z n : Int} (hd : decode (mC E) pc = .ok (.iinc 2 n, 3)) (hp : znl a1 = true) (hn : 2 < mL E) (h : ZV X E (pc + 3) (a0 :: a1 :: some (vi (z + n)) :: L) (S) b g I J post) : ZV X E (pc) (a0 :: a1 :: some (vi z) :: L) (S) b g I J post := ZV_iincG (k := 2) hd (by simp) hp hn h
theorem ZV_lstore2 {a0 a1 a2 a3 : Option Value} {z : Int} (hd : decode (mC E) pc = .ok (.lstore_n 2, 1)) (hp : znl a1 = true) (hn : 2 + 1 < mL E) (h : ZV X E (pc + 1) (a0 :: a1 :: some (vl z) :: none :: L) (S) b g I J post) : ZV X E (pc) (a0 :: a1 :: a2 :: a3 :: L) (vl z :: S) b g I J post := ZV_lstore_nG (k := 2) hd rfl hp (by simp) hn h
theorem ZV_istore3 {a0 a1 a2 a3 : Option Value} {z : Int} (hd : decode (mC E) pc = .ok (.istore_n 3, 1)) (hp : znl a2 = true) (hn : 3 < mL E) (h : ZV X E (pc + 1) (a0 :: a1 :: a2 :: some (vi z) :: L) (S) b g I J post) : ZV X E (pc) (a0 :: a1 :: a2 :: a3 :: L) (vi z :: S) b g I J post := ZV_istore_nG (k := 3) hd rfl hp (by simp) hn h
theorem ZV_astore3 {a0 a1 a2 a3 : Option Value} {z : Nat} (hd : decode (mC E) pc = .ok (.astore_n 3, 1)) (hp : znl a2 = true) (hn : 3 < mL E) (h : ZV X E (pc + 1) (a0 :: a1 :: a2 :: some (.ref z) :: L) (S) b g I J post) : ZV X E (pc) (a0 :: a1 :: a2 :: a3 :: L) (.ref z :: S) b g I J post := ZV_astore_nG (k := 3) hd rfl hp (by simp) hn h
theorem ZV_iinc3 {a0 a1 a2 a3 : Option Value} {z n : Int} (hd : decode (mC E) pc = .ok (.iinc 3 n, 3)) (hp : znl a2 = true) (hn : 3 < mL E) (h : ZV X E (pc + 3) (a0 :: a1 :: a2 :: some (vi (z + n)) :: L) (S) b g I J post) : ZV X E (pc) (a0 :: a1 :: a2 :: some (vi z) :: L) (S) b g I J post := ZV_iincG (k := 3) hd (by simp) hp hn h
theorem ZV_lstore3 {a0 a1 a2 a3 a4 : Option Value} {z : Int} (hd : decode (mC E) pc = .ok (.lstore_n 3, 1)) (hp : znl a2 = true) (hn : 3 + 1 < mL E) (h : ZV X E (pc + 1) (a0 :: a1 :: a2 :: some (vl z) :: none :: L) (S) b g I J post) : ZV X E (pc) (a0 :: a1 :: a2 :: a3 :: a4 :: L) (vl z :: S) b g I J post := ZV_lstore_nG (k := 3) hd rfl hp (by simp) hn h
theorem ZV_istore4 {a0 a1 a2 a3 a4 : Option Value} {z : Int} (hd : decode (mC E) pc = .ok (.istore 4, 2)) (hp : znl a3 = true) (hn : 4 < mL E) (h : ZV X E (pc + 2) (a0 :: a1 :: a2 :: a3 :: some (vi z) :: L) (S) b g I J post) : ZV X E (pc) (a0 :: a1 :: a2 :: a3 :: a4 :: L) (vi z :: S) b g I J post := ZV_istoreG (k := 4) hd hp (by simp) hn h
theorem ZV_astore4 {a0 a1 a2 a3 a4 : Option Value} {z : Nat} (hd : decode (mC E) pc = .ok (.astore 4, 2)) (hp : znl a3 = true) (hn : 4 < mL E) (h : ZV X E (pc + 2) (a0 :: a1 :: a2 :: a3 :: some (.ref z) :: L) (S) b g I J post) : ZV X E (pc) (a0 :: a1 :: a2 :: a3 :: a4 :: L) (.ref z :: S) b g I J post := ZV_astoreG (k := 4) hd hp (by simp) hn h
theorem ZV_iinc4 {a0 a1 a2 a3 a4 : Option Value} {z n : Int} (hd : decode (mC E) pc = .ok (.iinc 4 n, 3)) (hp : znl a3 = true) (hn : 4 < mL E) (h : ZV X E (pc + 3) (a0 :: a1 :: a2 :: a3 :: some (vi (z + n)) :: L) (S) b g I J post) : ZV X E (pc) (a0 :: a1 :: a2 :: a3 :: some (vi z) :: L) (S) b g I J post := ZV_iincG (k := 4) hd (by simp) hp hn h
theorem ZV_lstore4 {a0 a1 a2 a3 a4 a5 : Option Value} {z : Int} (hd : decode (mC E) pc = .ok (.lstore 4, 2)) (hp : znl a3 = true) (hn : 4 + 1 < mL E) (h : ZV X E (pc + 2) (a0 :: a1 :: a2 :: a3 :: some (vl z) :: none :: L) (S) b g I J post) : ZV X E (pc) (a0 :: a1 :: a2 :: a3 :: a4 :: a5 :: L) (vl z :: S) b g I J post := ZV_lstoreG (k := 4) hd hp (by simp) hn h
theorem ZV_istore5 {a0 a1 a2 a3 a4 a5 : Option Value} {z : Int} (hd : decode (mC E) pc = .ok (.istore 5, 2)) (hp : znl a4 = true) (hn : 5 < mL E) (h : ZV X E (pc + 2) (a0 :: a1 :: a2 :: a3 :: a4 :: some (vi z) :: L) (S) b g I J post) : ZV X E (pc) (a0 :: a1 :: a2 :: a3 :: a4 :: a5 :: L) (vi z :: S) b g I J post := ZV_istoreG (k := 5) hd hp (by simp) hn h
theorem ZV_astore5 {a0 a1 a2 a3 a4 a5 : Option Value} {z : Nat} (hd : decode (mC E) pc = .ok (.astore 5, 2)) (hp : znl a4 = true) (hn : 5 < mL E) (h : ZV X E (pc + 2) (a0 :: a1 :: a2 :: a3 :: a4 :: some (.ref z) :: L) (S) b g I J post) : ZV X E (pc) (a0 :: a1 :: a2 :: a3 :: a4 :: a5 :: L) (.ref z :: S) b g I J post := ZV_astoreG (k := 5) hd hp (by simp) hn h
theorem ZV_iinc5 {a0 a1 a2 a3 a4 a5 : Option Value} {z n : Int} (hd : decode (mC E) pc = .ok (.iinc 5 n, 3)) (hp : znl a4 = true) (hn : 5 < mL E) (h : ZV X E (pc + 3) (a0 :: a1 :: a2 :: a3 :: a4 :: some (vi (z + n)) :: L) (S) b g I J post) : ZV X E (pc) (a0 :: a1 :: a2 :: a3 :: a4 :: some (vi z) :: L) (S) b g I J post := ZV_iincG (k := 5) hd (by simp) hp hn h
theorem ZV_lstore5 {a0 a1 a2 a3 a4 a5 a6 : Option Value} {z : Int} (hd : decode (mC E) pc = .ok (.lstore 5, 2)) (hp : znl a4 = true) (hn : 5 + 1 < mL E) (h : ZV X E (pc + 2) (a0 :: a1 :: a2 :: a3 :: a4 :: some (vl z) :: none :: L) (S) b g I J post) : ZV X E (pc) (a0 :: a1 :: a2 :: a3 :: a4 :: a5 :: a6 :: L) (vl z :: S) b g I J post := ZV_lstoreG (k := 5) hd hp (by simp) hn h
theorem ZV_istore6 {a0 a1 a2 a3 a4 a5 a6 : Option Value} {z : Int} (hd : decode (mC E) pc = .ok (.istore 6, 2)) (hp : znl a5 = true) (hn : 6 < mL E) (h : ZV X E (pc + 2) (a0 :: a1 :: a2 :: a3 :: a4 :: a5 :: some (vi z) :: L) (S) b g I J post) : ZV X E (pc) (a0 :: a1 :: a2 :: a3 :: a4 :: a5 :: a6 :: L) (vi z :: S) b g I J post := ZV_istoreG (k := 6) hd hp (by simp) hn h
theorem ZV_astore6 {a0 a1 a2 a3 a4 a5 a6 : Option Value} {z : Nat} (hd : decode (mC E) pc = .ok (.astore 6, 2)) (hp : znl a5 = true) (hn : 6 < mL E) (h : ZV X E (pc + 2) (a0 :: a1 :: a2 :: a3 :: a4 :: a5 :: some (.ref z) :: L) (S) b g I J post) : ZV X E (pc) (a0 :: a1 :: a2 :: a3 :: a4 :: a5 :: a6 :: L) (.ref z :: S) b g I J post := ZV_astoreG (k := 6) hd hp (by simp) hn h
theorem ZV_iinc6 {a0 a1 a2 a3 a4 a5 a6 : Option Value} {z n : Int} (hd : decode (mC E) pc = .ok (.iinc 6 n, 3)) (hp : znl a5 = true) (hn : 6 < mL E) (h : ZV X E (pc + 3) (a0 :: a1 :: a2 :: a3 :: a4 :: a5 :: some (vi (z + n)) :: L) (S) b g I J post) : ZV X E (pc) (a0 :: a1 :: a2 :: a3 :: a4 :: a5 :: some (vi z) :: L) (S) b g I J post := ZV_iincG (k := 6) hd (by simp) hp hn h
theorem ZV_lstore6 {a0 a1 a2 a3 a4 a5 a6 a7 : Option Value} {z : Int} (hd : decode (mC E) pc = .ok (.lstore 6, 2)) (hp : znl a5 = true) (hn : 6 + 1 < mL E) (h : ZV X E (pc + 2) (a0 :: a1 :: a2 :: a3 :: a4 :: a5 :: some (vl z) :: none :: L) (S) b g I J post) : ZV X E (pc) (a0 :: a1 :: a2 :: a3 :: a4 :: a5 :: a6 :: a7 :: L) (vl z :: S) b g I J post := ZV_lstoreG (k := 6) hd hp (by simp) hn h
theorem ZV_istore7 {a0 a1 a2 a3 a4 a5 a6 a7 : Option Value} {z : Int} (hd : decode (mC E) pc = .ok (.istore 7, 2)) (hp : znl a6 = true) (hn : 7 < mL E) (h : ZV X E (pc + 2) (a0 :: a1 :: a2 :: a3 :: a4 :: a5 :: a6 :: some (vi z) :: L) (S) b g I J post) : ZV X E (pc) (a0 :: a1 :: a2 :: a3 :: a4 :: a5 :: a6 :: a7 :: L) (vi z :: S) b g I J post := ZV_istoreG (k := 7) hd hp (by simp) hn h
theorem ZV_astore7 {a0 a1 a2 a3 a4 a5 a6 a7 : Option Value} {z : Nat} (hd : decode (mC E) pc = .ok (.astore 7, 2)) (hp : znl a6 = true) (hn : 7 < mL E) (h : ZV X E (pc + 2) (a0 :: a1 :: a2 :: a3 :: a4 :: a5 :: a6 :: some (.ref z) :: L) (S) b g I J post) : ZV X E (pc) (a0 :: a1 :: a2 :: a3 :: a4 :: a5 :: a6 :: a7 :: L) (.ref z :: S) b g I J post := ZV_astoreG (k := 7) hd hp (by simp) hn h
theorem ZV_iinc7 {a0 a1 a2 a3 a4 a5 a6 a7 : Option Value} {z n : Int} (hd : decode (mC E) pc = .ok (.iinc 7 n, 3)) (hp : znl a6 = true) (hn : 7 < mL E) (h : ZV X E (pc + 3) (a0 :: a1 :: a2 :: a3 :: a4 :: a5 :: a6 :: some (vi (z + n)) :: L) (S) b g I J post) : ZV X E (pc) (a0 :: a1 :: a2 :: a3 :: a4 :: a5 :: a6 :: some (vi z) :: L) (S) b g I J post := ZV_iincG (k := 7) hd (by simp) hp hn h
theorem ZV_lstore7 {a0 a1 a2 a3 a4 a5 a6 a7 a8 : Option Value} {z : Int} (hd : decode (mC E) pc = .ok (.lstore 7, 2)) (hp : znl a6 = true) (hn : 7 + 1 < mL E) (h : ZV X E (pc + 2) (a0 :: a1 :: a2 :: a3 :: a4 :: a5 :: a6 :: some (vl z) :: none :: L) (S) b g I J post) : ZV X E (pc) (a0 :: a1 :: a2 :: a3 :: a4 :: a5 :: a6 :: a7 :: a8 :: L) (vl z :: S) b g I J post := ZV_lstoreG (k := 7) hd hp (by simp) hn h
theorem ZV_istore8 {a0 a1 a2 a3 a4 a5 a6 a7 a8 : Option Value} {z : Int} (hd : decode (mC E) pc = .ok (.istore 8, 2)) (hp : znl a7 = true) (hn : 8 < mL E) (h : ZV X E (pc + 2) (a0 :: a1 :: a2 :: a3 :: a4 :: a5 :: a6 :: a7 :: some (vi z) :: L) (S) b g I J post) : ZV X E (pc) (a0 :: a1 :: a2 :: a3 :: a4 :: a5 :: a6 :: a7 :: a8 :: L) (vi z :: S) b g I J post := ZV_istoreG (k := 8) hd hp (by simp) hn h
theorem ZV_astore8 {a0 a1 a2 a3 a4 a5 a6 a7 a8 : Option Value} {z : Nat} (hd : decode (mC E) pc = .ok (.astore 8, 2)) (hp : znl a7 = true) (hn : 8 < mL E) (h : ZV X E (pc + 2) (a0 :: a1 :: a2 :: a3 :: a4 :: a5 :: a6 :: a7 :: some (.ref z) :: L) (S) b g I J post) : ZV X E (pc) (a0 :: a1 :: a2 :: a3 :: a4 :: a5 :: a6 :: a7 :: a8 :: L) (.ref z :: S) b g I J post := ZV_astoreG (k := 8) hd hp (by simp) hn h
theorem ZV_iinc8 {a0 a1 a2 a3 a4 a5 a6 a7 a8 : Option Value} {z n : Int} (hd : decode (mC E) pc = .ok (.iinc 8 n, 3)) (hp : znl a7 = true) (hn : 8 < mL E) (h : ZV X E (pc + 3) (a0 :: a1 :: a2 :: a3 :: a4 :: a5 :: a6 :: a7 :: some (vi (z + n)) :: L) (S) b g I J post) : ZV X E (pc) (a0 :: a1 :: a2 :: a3 :: a4 :: a5 :: a6 :: a7 :: some (vi z) :: L) (S) b g I J post := ZV_iincG (k := 8) hd (by simp) hp hn h
theorem ZV_lstore8 {a0 a1 a2 a3 a4 a5 a6 a7 a8 a9 : Option Value} {z : Int} (hd : decode (mC E) pc = .ok (.lstore 8, 2)) (hp : znl a7 = true) (hn : 8 + 1 < mL E) (h : ZV X E (pc + 2) (a0 :: a1 :: a2 :: a3 :: a4 :: a5 :: a6 :: a7 :: some (vl z) :: none :: L) (S) b g I J post) : ZV X E (pc) (a0 :: a1 :: a2 :: a3 :: a4 :: a5 :: a6 :: a7 :: a8 :: a9 :: L) (vl z :: S) b g I J post := ZV_lstoreG (k := 8) hd hp (by simp) hn h
theorem ZV_istore9 {a0 a1 a2 a3 a4 a5 a6 a7 a8 a9 : Option Value} {z : Int} (hd : decode (mC E) pc = .ok (.istore 9, 2)) (hp : znl a8 = true) (hn : 9 < mL E) (h : ZV X E (pc + 2) (a0 :: a1 :: a2 :: a3 :: a4 :: a5 :: a6 :: a7 :: a8 :: some (vi z) :: L) (S) b g I J post) : ZV X E (pc) (a0 :: a1 :: a2 :: a3 :: a4 :: a5 :: a6 :: a7 :: a8 :: a9 :: L) (vi z :: S) b g I J post := ZV_istoreG (k := 9) hd hp (by simp) hn h
theorem ZV_astore9 {a0 a1 a2 a3 a4 a5 a6 a7 a8 a9 : Option Value} {z : Nat} (hd : decode (mC E) pc = .ok (.astore 9, 2)) (hp : znl a8 = true) (hn : 9 < mL E) (h : ZV X E (pc + 2) (a0 :: a1 :: a2 :: a3 :: a4 :: a5 :: a6 :: a7 :: a8 :: some (.ref z) :: L) (S) b g I J post) : ZV X E (pc) (a0 :: a1 :: a2 :: a3 :: a4 :: a5 :: a6 :: a7 :: a8 :: a9 :: L) (.ref z :: S) b g I J post := ZV_astoreG (k := 9) hd hp (by simp) hn h
theorem ZV_iinc9 {a0 a1 a2 a3 a4 a5 a6 a7 a8 a9 : Option Value} {z n : Int} (hd : decode (mC E) pc = .ok (.iinc 9 n, 3)) (hp : znl a8 = true) (hn : 9 < mL E) (h : ZV X E (pc + 3) (a0 :: a1 :: a2 :: a3 :: a4 :: a5 :: a6 :: a7 :: a8 :: some (vi (z + n)) :: L) (S) b g I J post) : ZV X E (pc) (a0 :: a1 :: a2 :: a3 :: a4 :: a5 :: a6 :: a7 :: a8 :: some (vi z) :: L) (S) b g I J post := ZV_iincG (k := 9) hd (by simp) hp hn h
theorem ZV_lstore9 {a0 a1 a2 a3 a4 a5 a6 a7 a8 a9 a10 : Option Value} {z : Int} (hd : decode (mC E) pc = .ok (.lstore 9, 2)) (hp : znl a8 = true) (hn : 9 + 1 < mL E) (h : ZV X E (pc + 2) (a0 :: a1 :: a2 :: a3 :: a4 :: a5 :: a6 :: a7 :: a8 :: some (vl z) :: none :: L) (S) b g I J post) : ZV X E (pc) (a0 :: a1 :: a2 :: a3 :: a4 :: a5 :: a6 :: a7 :: a8 :: a9 :: a10 :: L) (vl z :: S) b g I J post := ZV_lstoreG (k := 9) hd hp (by simp) hn h
theorem ZV_istore10 {a0 a1 a2 a3 a4 a5 a6 a7 a8 a9 a10 : Option Value} {z : Int} (hd : decode (mC E) pc = .ok (.istore 10, 2)) (hp : znl a9 = true) (hn : 10 < mL E) (h : ZV X E (pc + 2) (a0 :: a1 :: a2 :: a3 :: a4 :: a5 :: a6 :: a7 :: a8 :: a9 :: some (vi z) :: L) (S) b g I J post) : ZV X E (pc) (a0 :: a1 :: a2 :: a3 :: a4 :: a5 :: a6 :: a7 :: a8 :: a9 :: a10 :: L) (vi z :: S) b g I J post := ZV_istoreG (k := 10) hd hp (by simp) hn h
theorem ZV_astore10 {a0 a1 a2 a3 a4 a5 a6 a7 a8 a9 a10 : Option Value} {z : Nat} (hd : decode (mC E) pc = .ok (.astore 10, 2)) (hp : znl a9 = true) (hn : 10 < mL E) (h : ZV X E (pc + 2) (a0 :: a1 :: a2 :: a3 :: a4 :: a5 :: a6 :: a7 :: a8 :: a9 :: some (.ref z) :: L) (S) b g I J post) : ZV X E (pc) (a0 :: a1 :: a2 :: a3 :: a4 :: a5 :: a6 :: a7 :: a8 :: a9 :: a10 :: L) (.ref z :: S) b g I J post := ZV_astoreG (k := 10) hd hp (by simp) hn h
theorem ZV_iinc10 {a0 a1 a2 a3 a4 a5 a6 a7 a8 a9 a10 : Option Value} {z n : Int} (hd : decode (mC E) pc = .ok (.iinc 10 n, 3)) (hp : znl a9 = true) (hn : 10 < mL E) (h : ZV X E (pc + 3) (a0 :: a1 :: a2 :: a3 :: a4 :: a5 :: a6 :: a7 :: a8 :: a9 :: some (vi (z + n)) :: L) (S) b g I J post) : ZV X E (pc) (a0 :: a1 :: a2 :: a3 :: a4 :: a5 :: a6 :: a7 :: a8 :: a9 :: some (vi z) :: L) (S) b g I J post := ZV_iincG (k := 10) hd (by simp) hp hn h
theorem ZV_lstore10 {a0 a1 a2 a3 a4 a5 a6 a7 a8 a9 a10 a11 : Option Value} {z : Int} (hd : decode (mC E) pc = .ok (.lstore 10, 2)) (hp : znl a9 = true) (hn : 10 + 1 < mL E) (h : ZV X E (pc + 2) (a0 :: a1 :: a2 :: a3 :: a4 :: a5 :: a6 :: a7 :: a8 :: a9 :: some (vl z) :: none :: L) (S) b g I J post) : ZV X E (pc) (a0 :: a1 :: a2 :: a3 :: a4 :: a5 :: a6 :: a7 :: a8 :: a9 :: a10 :: a11 :: L) (vl z :: S) b g I J post := ZV_lstoreG (k := 10) hd hp (by simp) hn h
theorem ZV_istore11 {a0 a1 a2 a3 a4 a5 a6 a7 a8 a9 a10 a11 : Option Value} {z : Int} (hd : decode (mC E) pc = .ok (.istore 11, 2)) (hp : znl a10 = true) (hn : 11 < mL E) (h : ZV X E (pc + 2) (a0 :: a1 :: a2 :: a3 :: a4 :: a5 :: a6 :: a7 :: a8 :: a9 :: a10 :: some (vi z) :: L) (S) b g I J post) : ZV X E (pc) (a0 :: a1 :: a2 :: a3 :: a4 :: a5 :: a6 :: a7 :: a8 :: a9 :: a10 :: a11 :: L) (vi z :: S) b g I J post := ZV_istoreG (k := 11) hd hp (by simp) hn h
theorem ZV_astore11 {a0 a1 a2 a3 a4 a5 a6 a7 a8 a9 a10 a11 : Option Value} {z : Nat} (hd : decode (mC E) pc = .ok (.astore 11, 2)) (hp : znl a10 = true) (hn : 11 < mL E) (h : ZV X E (pc + 2) (a0 :: a1 :: a2 :: a3 :: a4 :: a5 :: a6 :: a7 :: a8 :: a9 :: a10 :: some (.ref z) :: L) (S) b g I J post) : ZV X E (pc) (a0 :: a1 :: a2 :: a3 :: a4 :: a5 :: a6 :: a7 :: a8 :: a9 :: a10 :: a11 :: L) (.ref z :: S) b g I J post := ZV_astoreG (k := 11) hd hp (by simp) hn h
theorem ZV_iinc11 {a0 a1 a2 a3 a4 a5 a6 a7 a8 a9 a10 a11 : Option Value} {z n : Int} (hd : decode (mC E) pc = .ok (.iinc 11 n, 3)) (hp : znl a10 = true) (hn : 11 < mL E) (h : ZV X E (pc + 3) (a0 :: a1 :: a2 :: a3 :: a4 :: a5 :: a6 :: a7 :: a8 :: a9 :: a10 :: some (vi (z + n)) :: L) (S) b g I J post) : ZV X E (pc) (a0 :: a1 :: a2 :: a3 :: a4 :: a5 :: a6 :: a7 :: a8 :: a9 :: a10 :: some (vi z) :: L) (S) b g I J post := ZV_iincG (k := 11) hd (by simp) hp hn h
theorem ZV_lstore11 {a0 a1 a2 a3 a4 a5 a6 a7 a8 a9 a10 a11 a12 : Option Value} {z : Int} (hd : decode (mC E) pc = .ok (.lstore 11, 2)) (hp : znl a10 = true) (hn : 11 + 1 < mL E) (h : ZV X E (pc + 2) (a0 :: a1 :: a2 :: a3 :: a4 :: a5 :: a6 :: a7 :: a8 :: a9 :: a10 :: some (vl z) :: none :: L) (S) b g I J post) : ZV X E (pc) (a0 :: a1 :: a2 :: a3 :: a4 :: a5 :: a6 :: a7 :: a8 :: a9 :: a10 :: a11 :: a12 :: L) (vl z :: S) b g I J post := ZV_lstoreG (k := 11) hd hp (by simp) hn h
theorem ZV_istore12 {a0 a1 a2 a3 a4 a5 a6 a7 a8 a9 a10 a11 a12 : Option Value} {z : Int} (hd : decode (mC E) pc = .ok (.istore 12, 2)) (hp : znl a11 = true) (hn : 12 < mL E) (h : ZV X E (pc + 2) (a0 :: a1 :: a2 :: a3 :: a4 :: a5 :: a6 :: a7 :: a8 :: a9 :: a10 :: a11 :: some (vi z) :: L) (S) b g I J post) : ZV X E (pc) (a0 :: a1 :: a2 :: a3 :: a4 :: a5 :: a6 :: a7 :: a8 :: a9 :: a10 :: a11 :: a12 :: L) (vi z :: S) b g I J post := ZV_istoreG (k := 12) hd hp (by simp) hn h
theorem ZV_astore12 {a0 a1 a2 a3 a4 a5 a6 a7 a8 a9 a10 a11 a12 : Option Value} {z : Nat} (hd : decode (mC E) pc = .ok (.astore 12, 2)) (hp : znl a11 = true) (hn : 12 < mL E) (h : ZV X E (pc + 2) (a0 :: a1 :: a2 :: a3 :: a4 :: a5 :: a6 :: a7 :: a8 :: a9 :: a10 :: a11 :: some (.ref z) :: L) (S) b g I J post) : ZV X E (pc) (a0 :: a1 :: a2 :: a3 :: a4 :: a5 :: a6 :: a7 :: a8 :: a9 :: a10 :: a11 :: a12 :: L) (.ref z :: S) b g I J post := ZV_astoreG (k := 12) hd hp (by simp) hn h
theorem ZV_iinc12 {a0 a1 a2 a3 a4 a5 a6 a7 a8 a9 a10 a11 a12 : Option Value} {z n : Int} (hd : decode (mC E) pc = .ok (.iinc 12 n, 3)) (hp : znl a11 = true) (hn : 12 < mL E) (h : ZV X E (pc + 3) (a0 :: a1 :: a2 :: a3 :: a4 :: a5 :: a6 :: a7 :: a8 :: a9 :: a10 :: a11 :: some (vi (z + n)) :: L) (S) b g I J post) : ZV X E (pc) (a0 :: a1 :: a2 :: a3 :: a4 :: a5 :: a6 :: a7 :: a8 :: a9 :: a10 :: a11 :: some (vi z) :: L) (S) b g I J post := ZV_iincG (k := 12) hd (by simp) hp hn h
theorem ZV_lstore12 {a0 a1 a2 a3 a4 a5 a6 a7 a8 a9 a10 a11 a12 a13 : Option Value} {z : Int} (hd : decode (mC E) pc = .ok (.lstore 12, 2)) (hp : znl a11 = true) (hn : 12 + 1 < mL E) (h : ZV X E (pc + 2) (a0 :: a1 :: a2 :: a3 :: a4 :: a5 :: a6 :: a7 :: a8 :: a9 :: a10 :: a11 :: some (vl z) :: none :: L) (S) b g I J post) : ZV X E (pc) (a0 :: a1 :: a2 :: a3 :: a4 :: a5 :: a6 :: a7 :: a8 :: a9 :: a10 :: a11 :: a12 :: a13 :: L) (vl z :: S) b g I J post := ZV_lstoreG (k := 12) hd hp (by simp) hn h
theorem ZV_iadd {x y : Int} (hd : decode (mC E) pc = .ok (.iadd, 1)) (h : ZV X E (pc + 1) L (vi (x + y) :: S) b g I J post) : ZV X E (pc) L (vi y :: vi x :: S) b g I J post := by
  intro p e s m args below meth c C H locs cells slots ls hH hS hc hs hl
  refine lv_iadd C.1 C.2.1 hd ?_
  rw [i32_add]
  exact h p e s m args below meth c C H locs cells slots ls hH hS hc hs hl
theorem ZV_isub {x y : Int} (hd : decode (mC E) pc = .ok (.isub, 1)) (h : ZV X E (pc + 1) L (vi (x - y) :: S) b g I J post) : ZV X E (pc) L (vi y :: vi x :: S) b g I J post := by
  intro p e s m args below meth c C H locs cells slots ls hH hS hc hs hl
  refine lv_isub C.1 C.2.1 hd ?_
  rw [i32_sub]
  exact h p e s m args below meth c C H locs cells slots ls hH hS hc hs hl
theorem ZV_imul {x y : Int} (hd : decode (mC E) pc = .ok (.imul, 1)) (h : ZV X E (pc + 1) L (vi (x * y) :: S) b g I J post) : ZV X E (pc) L (vi y :: vi x :: S) b g I J post := by
  intro p e s m args below meth c C H locs cells slots ls hH hS hc hs hl
  refine lv_imul C.1 C.2.1 hd ?_
  rw [i32_mul]
  exact h p e s m args below meth c C H locs cells slots ls hH hS hc hs hl
theorem ZV_ladd {x y : Int} (hd : decode (mC E) pc = .ok (.ladd, 1)) (h : ZV X E (pc + 1) L (vl (x + y) :: S) b g I J post) : ZV X E (pc) L (vl y :: vl x :: S) b g I J post := by
  intro p e s m args below meth c C H locs cells slots ls hH hS hc hs hl
  refine lv_ladd C.1 C.2.1 hd ?_
  rw [i64_add]
  exact h p e s m args below meth c C H locs cells slots ls hH hS hc hs hl
theorem ZV_lsub {x y : Int} (hd : decode (mC E) pc = .ok (.lsub, 1)) (h : ZV X E (pc + 1) L (vl (x - y) :: S) b g I J post) : ZV X E (pc) L (vl y :: vl x :: S) b g I J post := by
  intro p e s m args below meth c C H locs cells slots ls hH hS hc hs hl
  refine lv_lsub C.1 C.2.1 hd ?_
  rw [i64_sub]
  exact h p e s m args below meth c C H locs cells slots ls hH hS hc hs hl
theorem ZV_lmul {x y : Int} (hd : decode (mC E) pc = .ok (.lmul, 1)) (h : ZV X E (pc + 1) L (vl (x * y) :: S) b g I J post) : ZV X E (pc) L (vl y :: vl x :: S) b g I J post := by
  intro p e s m args below meth c C H locs cells slots ls hH hS hc hs hl
  refine lv_lmul C.1 C.2.1 hd ?_
  rw [i64_mul]
  exact h p e s m args below meth c C H locs cells slots ls hH hS hc hs hl
theorem ZV_idiv {x y : Int} (hd : decode (mC E) pc = .ok (.idiv, 1)) (hx : r32 x) (hy : r32 y) (h0 : 0 < y) (h : ZV X E (pc + 1) L (vi (x.tdiv y) :: S) b g I J post) : ZV X E (pc) L (vi y :: vi x :: S) b g I J post := by
  intro p e s m args below meth c C H locs cells slots ls hH hS hc hs hl
  refine lv_idiv C.1 C.2.1 hd (fun q => by rw [i32_zero, i32_eq hy r32_zero] at q; omega) ?_
  rw [i32_div hx hy (Or.inr (by omega))]
  exact h p e s m args below meth c C H locs cells slots ls hH hS hc hs hl
theorem ZV_irem {x y : Int} (hd : decode (mC E) pc = .ok (.irem, 1)) (hx : r32 x) (hy : r32 y) (h0 : 0 < y) (h : ZV X E (pc + 1) L (vi (x.tmod y) :: S) b g I J post) : ZV X E (pc) L (vi y :: vi x :: S) b g I J post := by
  intro p e s m args below meth c C H locs cells slots ls hH hS hc hs hl
  refine lv_irem C.1 C.2.1 hd (fun q => by rw [i32_zero, i32_eq hy r32_zero] at q; omega) ?_
  rw [i32_div hx hy (Or.inr (by omega)), i32_mul, i32_sub, show x - x.tdiv y * y = x.tmod y by rw [Int.tmod_def, Int.mul_comm]]
  exact h p e s m args below meth c C H locs cells slots ls hH hS hc hs hl
theorem ZV_ldiv {x y : Int} (hd : decode (mC E) pc = .ok (.ldiv, 1)) (hx : r64 x) (hy : r64 y) (h0 : 0 < y) (h : ZV X E (pc + 1) L (vl (x.tdiv y) :: S) b g I J post) : ZV X E (pc) L (vl y :: vl x :: S) b g I J post := by
  intro p e s m args below meth c C H locs cells slots ls hH hS hc hs hl
  refine lv_ldiv C.1 C.2.1 hd (fun q => by rw [show (0 : Int64) = i64 0 from rfl, i64_eq hy ⟨by decide, by decide⟩] at q; omega) ?_
  rw [i64_div hx hy (Or.inr (by omega))]
  exact h p e s m args below meth c C H locs cells slots ls hH hS hc hs hl
theorem ZV_lrem {x y : Int} (hd : decode (mC E) pc = .ok (.lrem, 1)) (hx : r64 x) (hy : r64 y) (h0 : 0 < y) (h : ZV X E (pc + 1) L (vl (x.tmod y) :: S) b g I J post) : ZV X E (pc) L (vl y :: vl x :: S) b g I J post := by
  intro p e s m args below meth c C H locs cells slots ls hH hS hc hs hl
  refine lv_lrem C.1 C.2.1 hd (fun q => by rw [show (0 : Int64) = i64 0 from rfl, i64_eq hy ⟨by decide, by decide⟩] at q; omega) ?_
  rw [i64_div hx hy (Or.inr (by omega)), i64_mul, i64_sub, show x - x.tdiv y * y = x.tmod y by rw [Int.tmod_def, Int.mul_comm]]
  exact h p e s m args below meth c C H locs cells slots ls hH hS hc hs hl
theorem ZV_iand {x y : Int} (hd : decode (mC E) pc = .ok (.iand, 1)) (k : Nat) (hk : k ≤ 31) (hy : y = 2 ^ k - 1) (h : ZV X E (pc + 1) L (vi (x % 2 ^ k) :: S) b g I J post) : ZV X E (pc) L (vi y :: vi x :: S) b g I J post := by
  intro p e s m args below meth c C H locs cells slots ls hH hS hc hs hl
  subst hy
  refine lv_iand C.1 C.2.1 hd ?_
  rw [i32_mask x k hk]
  exact h p e s m args below meth c C H locs cells slots ls hH hS hc hs hl
theorem ZV_land {x y : Int} (hd : decode (mC E) pc = .ok (.land, 1)) (k : Nat) (hk : k ≤ 63) (hy : y = 2 ^ k - 1) (h : ZV X E (pc + 1) L (vl (x % 2 ^ k) :: S) b g I J post) : ZV X E (pc) L (vl y :: vl x :: S) b g I J post := by
  intro p e s m args below meth c C H locs cells slots ls hH hS hc hs hl
  subst hy
  refine lv_land C.1 C.2.1 hd ?_
  rw [i64_mask x k hk]
  exact h p e s m args below meth c C H locs cells slots ls hH hS hc hs hl
theorem ZV_lor {x y : Int} (hd : decode (mC E) pc = .ok (.lor, 1)) (k : Nat) (hk : k ≤ 63) (hx : x % 2 ^ k = 0) (h0 : 0 ≤ y) (hy : y < 2 ^ k) (h : ZV X E (pc + 1) L (vl (x + y) :: S) b g I J post) : ZV X E (pc) L (vl y :: vl x :: S) b g I J post := by
  intro p e s m args below meth c C H locs cells slots ls hH hS hc hs hl
  refine lv_lor C.1 C.2.1 hd ?_
  rw [i64_or x y k hk hx h0 hy]
  exact h p e s m args below meth c C H locs cells slots ls hH hS hc hs hl
theorem ZV_lshl {x z : Int} (hd : decode (mC E) pc = .ok (.lshl, 1)) (n : Nat) (hz : z = (n : Int)) (hn : n ≤ 63) (h : ZV X E (pc + 1) L (vl (x * 2 ^ n) :: S) b g I J post) : ZV X E (pc) L (vi z :: vl x :: S) b g I J post := by
  intro p e s m args below meth c C H locs cells slots ls hH hS hc hs hl
  subst hz
  refine lv_lshl C.1 C.2.1 hd (i64_shl x n hn) ?_
  exact h p e s m args below meth c C H locs cells slots ls hH hS hc hs hl
theorem ZV_lshr {x z : Int} (hd : decode (mC E) pc = .ok (.lshr, 1)) (n : Nat) (hz : z = (n : Int)) (hn : n ≤ 63) (hx : r64 x) (h0 : 0 ≤ x) (h : ZV X E (pc + 1) L (vl (x / 2 ^ n) :: S) b g I J post) : ZV X E (pc) L (vi z :: vl x :: S) b g I J post := by
  intro p e s m args below meth c C H locs cells slots ls hH hS hc hs hl
  subst hz
  refine lv_lshr C.1 C.2.1 hd (i64_shr x n hn hx h0) ?_
  exact h p e s m args below meth c C H locs cells slots ls hH hS hc hs hl
theorem ZV_lushr33 {x : Int} (hd : decode (mC E) pc = .ok (.lushr, 1)) (h : ZV X E (pc + 1) L (vl (x % 18446744073709551616 / 8589934592) :: S) b g I J post) : ZV X E (pc) L (vi 33 :: vl x :: S) b g I J post := by
  intro p e s m args below meth c C H locs cells slots ls hH hS hc hs hl
  refine lv_lushr C.1 C.2.1 hd (i64_ushr33 x) ?_
  exact h p e s m args below meth c C H locs cells slots ls hH hS hc hs hl
theorem ZV_i2l {x : Int} (hd : decode (mC E) pc = .ok (.i2l, 1)) (hx : r32 x) (h : ZV X E (pc + 1) L (vl x :: S) b g I J post) : ZV X E (pc) L (vi x :: S) b g I J post := by
  intro p e s m args below meth c C H locs cells slots ls hH hS hc hs hl
  refine lv_i2l C.1 C.2.1 hd (i32_i64 hx) ?_
  exact h p e s m args below meth c C H locs cells slots ls hH hS hc hs hl
theorem ZV_l2i {x : Int} (hd : decode (mC E) pc = .ok (.l2i, 1)) (h : ZV X E (pc + 1) L (vi x :: S) b g I J post) : ZV X E (pc) L (vl x :: S) b g I J post := by
  intro p e s m args below meth c C H locs cells slots ls hH hS hc hs hl
  refine lv_l2i C.1 C.2.1 hd (i64_i32 x) ?_
  exact h p e s m args below meth c C H locs cells slots ls hH hS hc hs hl
theorem ZV_i2c {x : Int} (hd : decode (mC E) pc = .ok (.i2c, 1)) (h0 : 0 ≤ x) (hx : x < 65536) (h : ZV X E (pc + 1) L (vi x :: S) b g I J post) : ZV X E (pc) L (vi x :: S) b g I J post := by
  intro p e s m args below meth c C H locs cells slots ls hH hS hc hs hl
  refine lv_i2c C.1 C.2.1 hd (i32_char h0 hx) ?_
  exact h p e s m args below meth c C H locs cells slots ls hH hS hc hs hl
theorem ZV_lcmp {x y : Int} (hd : decode (mC E) pc = .ok (.lcmp, 1)) (hx : r64 x) (hy : r64 y) (h : ZV X E (pc + 1) L (vi (zcmp x y) :: S) b g I J post) : ZV X E (pc) L (vl y :: vl x :: S) b g I J post := by
  intro p e s m args below meth c C H locs cells slots ls hH hS hc hs hl
  refine W.lcmp C.1 C.2.1 hd ?_
  rw [lg_zcmp hx hy]
  exact h p e s m args below meth c C H locs cells slots ls hH hS hc hs hl
theorem ZV_dup {v : Value} (hd : decode (mC E) pc = .ok (.dup, 1)) (hv : v.category = 1) (h : ZV X E (pc + 1) L (v :: v :: S) b g I J post) : ZV X E (pc) L (v :: S) b g I J post := by
  intro p e s m args below meth c C H locs cells slots ls hH hS hc hs hl
  refine lv_dup C.1 C.2.1 hd hv ?_
  exact h p e s m args below meth c C H locs cells slots ls hH hS hc hs hl
theorem ZV_pop {v : Value} (hd : decode (mC E) pc = .ok (.pop, 1)) (hv : v.category = 1) (h : ZV X E (pc + 1) L (S) b g I J post) : ZV X E (pc) L (v :: S) b g I J post := by
  intro p e s m args below meth c C H locs cells slots ls hH hS hc hs hl
  refine lv_pop C.1 C.2.1 hd hv ?_
  exact h p e s m args below meth c C H locs cells slots ls hH hS hc hs hl
theorem ZV_dup2 {v w : Value} (hd : decode (mC E) pc = .ok (.dup2, 1)) (hv : v.category = 1) (hw : w.category = 1) (h : ZV X E (pc + 1) L (v :: w :: v :: w :: S) b g I J post) : ZV X E (pc) L (v :: w :: S) b g I J post := by
  intro p e s m args below meth c C H locs cells slots ls hH hS hc hs hl
  refine lv_dup2_11 C.1 C.2.1 hd hv hw ?_
  exact h p e s m args below meth c C H locs cells slots ls hH hS hc hs hl
theorem ZV_dup2l {v : Value} (hd : decode (mC E) pc = .ok (.dup2, 1)) (hv : v.category = 2) (h : ZV X E (pc + 1) L (v :: v :: S) b g I J post) : ZV X E (pc) L (v :: S) b g I J post := by
  intro p e s m args below meth c C H locs cells slots ls hH hS hc hs hl
  refine lv_dup2_2 C.1 C.2.1 hd hv ?_
  exact h p e s m args below meth c C H locs cells slots ls hH hS hc hs hl
theorem ZV_icmp_eq {x y : Int} {off : Int} {tgt : Nat} (hd : decode (mC E) pc = .ok (.if_icmp .eq off, 3)) (ht : (pc : Int) + off = (tgt : Int)) (hx : r32 x) (hy : r32 y) (kt : x = y → ZV X E (tgt) L (S) b g I J post) (kf : x ≠ y → ZV X E (pc + 3) L (S) b g I J post) : ZV X E (pc) L (vi y :: vi x :: S) b g I J post := by
  intro p e s m args below meth c C H locs cells slots ls hH hS hc hs hl
  exact lv_icmp_eq C.1 C.2.1 hd ht (fun q => kt ((i32_eq hx hy).mp q) p e s m args below meth c C H locs cells slots ls hH hS hc hs hl) (fun q => kf (fun z => q ((i32_eq hx hy).mpr z)) p e s m args below meth c C H locs cells slots ls hH hS hc hs hl)
theorem ZV_if_eq {x : Int} {off : Int} {tgt : Nat} (hd : decode (mC E) pc = .ok (.ifCond .eq off, 3)) (ht : (pc : Int) + off = (tgt : Int)) (hx : r32 x) (kt : x = 0 → ZV X E (tgt) L (S) b g I J post) (kf : x ≠ 0 → ZV X E (pc + 3) L (S) b g I J post) : ZV X E (pc) L (vi x :: S) b g I J post := by
  intro p e s m args below meth c C H locs cells slots ls hH hS hc hs hl
  have hy := r32_zero
  exact lv_if_eq C.1 C.2.1 hd ht (fun q => kt ((i32_eq hx hy).mp q) p e s m args below meth c C H locs cells slots ls hH hS hc hs hl) (fun q => kf (fun z => q ((i32_eq hx hy).mpr z)) p e s m args below meth c C H locs cells slots ls hH hS hc hs hl)
theorem ZV_icmp_ne {x y : Int} {off : Int} {tgt : Nat} (hd : decode (mC E) pc = .ok (.if_icmp .ne off, 3)) (ht : (pc : Int) + off = (tgt : Int)) (hx : r32 x) (hy : r32 y) (kt : x ≠ y → ZV X E (tgt) L (S) b g I J post) (kf : x = y → ZV X E (pc + 3) L (S) b g I J post) : ZV X E (pc) L (vi y :: vi x :: S) b g I J post := by
  intro p e s m args below meth c C H locs cells slots ls hH hS hc hs hl
  exact lv_icmp_ne C.1 C.2.1 hd ht (fun q => kt (fun z => q ((i32_eq hx hy).mpr z)) p e s m args below meth c C H locs cells slots ls hH hS hc hs hl) (fun q => kf ((i32_eq hx hy).mp q) p e s m args below meth c C H locs cells slots ls hH hS hc hs hl)
theorem ZV_if_ne {x : Int} {off : Int} {tgt : Nat} (hd : decode (mC E) pc = .ok (.ifCond .ne off, 3)) (ht : (pc : Int) + off = (tgt : Int)) (hx : r32 x) (kt : x ≠ 0 → ZV X E (tgt) L (S) b g I J post) (kf : x = 0 → ZV X E (pc + 3) L (S) b g I J post) : ZV X E (pc) L (vi x :: S) b g I J post := by
  intro p e s m args below meth c C H locs cells slots ls hH hS hc hs hl
  have hy := r32_zero
  exact lv_if_ne C.1 C.2.1 hd ht (fun q => kt (fun z => q ((i32_eq hx hy).mpr z)) p e s m args below meth c C H locs cells slots ls hH hS hc hs hl) (fun q => kf ((i32_eq hx hy).mp q) p e s m args below meth c C H locs cells slots ls hH hS hc hs hl)
theorem ZV_icmp_lt {x y : Int} {off : Int} {tgt : Nat} (hd : decode (mC E) pc = .ok (.if_icmp .lt off, 3)) (ht : (pc : Int) + off = (tgt : Int)) (hx : r32 x) (hy : r32 y) (kt : x < y → ZV X E (tgt) L (S) b g I J post) (kf : y ≤ x → ZV X E (pc + 3) L (S) b g I J post) : ZV X E (pc) L (vi y :: vi x :: S) b g I J post := by
  intro p e s m args below meth c C H locs cells slots ls hH hS hc hs hl
  exact lv_icmp_lt C.1 C.2.1 hd ht (fun q => kt ((i32_lt hx hy).mp q) p e s m args below meth c C H locs cells slots ls hH hS hc hs hl) (fun q => kf (Int.not_lt.mp (fun z => q ((i32_lt hx hy).mpr z))) p e s m args below meth c C H locs cells slots ls hH hS hc hs hl)
theorem ZV_if_lt {x : Int} {off : Int} {tgt : Nat} (hd : decode (mC E) pc = .ok (.ifCond .lt off, 3)) (ht : (pc : Int) + off = (tgt : Int)) (hx : r32 x) (kt : x < 0 → ZV X E (tgt) L (S) b g I J post) (kf : 0 ≤ x → ZV X E (pc + 3) L (S) b g I J post) : ZV X E (pc) L (vi x :: S) b g I J post := by
  intro p e s m args below meth c C H locs cells slots ls hH hS hc hs hl
  have hy := r32_zero
  exact lv_if_lt C.1 C.2.1 hd ht (fun q => kt ((i32_lt hx hy).mp q) p e s m args below meth c C H locs cells slots ls hH hS hc hs hl) (fun q => kf (Int.not_lt.mp (fun z => q ((i32_lt hx hy).mpr z))) p e s m args below meth c C H locs cells slots ls hH hS hc hs hl)
theorem ZV_icmp_ge {x y : Int} {off : Int} {tgt : Nat} (hd : decode (mC E) pc = .ok (.if_icmp .ge off, 3)) (ht : (pc : Int) + off = (tgt : Int)) (hx : r32 x) (hy : r32 y) (kt : y ≤ x → ZV X E (tgt) L (S) b g I J post) (kf : x < y → ZV X E (pc + 3) L (S) b g I J post) : ZV X E (pc) L (vi y :: vi x :: S) b g I J post := by
  intro p e s m args below meth c C H locs cells slots ls hH hS hc hs hl
  exact lv_icmp_ge C.1 C.2.1 hd ht (fun q => kt ((i32_le hy hx).mp q) p e s m args below meth c C H locs cells slots ls hH hS hc hs hl) (fun q => kf (Int.not_le.mp (fun z => q ((i32_le hy hx).mpr z))) p e s m args below meth c C H locs cells slots ls hH hS hc hs hl)
theorem ZV_if_ge {x : Int} {off : Int} {tgt : Nat} (hd : decode (mC E) pc = .ok (.ifCond .ge off, 3)) (ht : (pc : Int) + off = (tgt : Int)) (hx : r32 x) (kt : 0 ≤ x → ZV X E (tgt) L (S) b g I J post) (kf : x < 0 → ZV X E (pc + 3) L (S) b g I J post) : ZV X E (pc) L (vi x :: S) b g I J post := by
  intro p e s m args below meth c C H locs cells slots ls hH hS hc hs hl
  have hy := r32_zero
  exact lv_if_ge C.1 C.2.1 hd ht (fun q => kt ((i32_le hy hx).mp q) p e s m args below meth c C H locs cells slots ls hH hS hc hs hl) (fun q => kf (Int.not_le.mp (fun z => q ((i32_le hy hx).mpr z))) p e s m args below meth c C H locs cells slots ls hH hS hc hs hl)
theorem ZV_icmp_gt {x y : Int} {off : Int} {tgt : Nat} (hd : decode (mC E) pc = .ok (.if_icmp .gt off, 3)) (ht : (pc : Int) + off = (tgt : Int)) (hx : r32 x) (hy : r32 y) (kt : y < x → ZV X E (tgt) L (S) b g I J post) (kf : x ≤ y → ZV X E (pc + 3) L (S) b g I J post) : ZV X E (pc) L (vi y :: vi x :: S) b g I J post := by
  intro p e s m args below meth c C H locs cells slots ls hH hS hc hs hl
  exact lv_icmp_gt C.1 C.2.1 hd ht (fun q => kt ((i32_lt hy hx).mp q) p e s m args below meth c C H locs cells slots ls hH hS hc hs hl) (fun q => kf (Int.not_lt.mp (fun z => q ((i32_lt hy hx).mpr z))) p e s m args below meth c C H locs cells slots ls hH hS hc hs hl)
theorem ZV_if_gt {x : Int} {off : Int} {tgt : Nat} (hd : decode (mC E) pc = .ok (.ifCond .gt off, 3)) (ht : (pc : Int) + off = (tgt : Int)) (hx : r32 x) (kt : 0 < x → ZV X E (tgt) L (S) b g I J post) (kf : x ≤ 0 → ZV X E (pc + 3) L (S) b g I J post) : ZV X E (pc) L (vi x :: S) b g I J post := by
  intro p e s m args below meth c C H locs cells slots ls hH hS hc hs hl
  have hy := r32_zero
  exact lv_if_gt C.1 C.2.1 hd ht (fun q => kt ((i32_lt hy hx).mp q) p e s m args below meth c C H locs cells slots ls hH hS hc hs hl) (fun q => kf (Int.not_lt.mp (fun z => q ((i32_lt hy hx).mpr z))) p e s m args below meth c C H locs cells slots ls hH hS hc hs hl)
theorem ZV_icmp_le {x y : Int} {off : Int} {tgt : Nat} (hd : decode (mC E) pc = .ok (.if_icmp .le off, 3)) (ht : (pc : Int) + off = (tgt : Int)) (hx : r32 x) (hy : r32 y) (kt : x ≤ y → ZV X E (tgt) L (S) b g I J post) (kf : y < x → ZV X E (pc + 3) L (S) b g I J post) : ZV X E (pc) L (vi y :: vi x :: S) b g I J post := by
  intro p e s m args below meth c C H locs cells slots ls hH hS hc hs hl
  exact lv_icmp_le C.1 C.2.1 hd ht (fun q => kt ((i32_le hx hy).mp q) p e s m args below meth c C H locs cells slots ls hH hS hc hs hl) (fun q => kf (Int.not_le.mp (fun z => q ((i32_le hx hy).mpr z))) p e s m args below meth c C H locs cells slots ls hH hS hc hs hl)
theorem ZV_if_le {x : Int} {off : Int} {tgt : Nat} (hd : decode (mC E) pc = .ok (.ifCond .le off, 3)) (ht : (pc : Int) + off = (tgt : Int)) (hx : r32 x) (kt : x ≤ 0 → ZV X E (tgt) L (S) b g I J post) (kf : 0 < x → ZV X E (pc + 3) L (S) b g I J post) : ZV X E (pc) L (vi x :: S) b g I J post := by
  intro p e s m args below meth c C H locs cells slots ls hH hS hc hs hl
  have hy := r32_zero
  exact lv_if_le C.1 C.2.1 hd ht (fun q => kt ((i32_le hx hy).mp q) p e s m args below meth c C H locs cells slots ls hH hS hc hs hl) (fun q => kf (Int.not_le.mp (fun z => q ((i32_le hx hy).mpr z))) p e s m args below meth c C H locs cells slots ls hH hS hc hs hl)
theorem ZV_goto {off : Int} {tgt : Nat} (hd : decode (mC E) pc = .ok (.goto off, 3)) (ht : (pc : Int) + off = (tgt : Int)) (h : ZV X E (tgt) L (S) b g I J post) : ZV X E (pc) L (S) b g I J post := by
  intro p e s m args below meth c C H locs cells slots ls hH hS hc hs hl
  refine lv_goto C.1 C.2.1 hd ht ?_
  exact h p e s m args below meth c C H locs cells slots ls hH hS hc hs hl
theorem ZV_tableIn {dflt lo hi : Int} {offs : Array Int} {len : Nat} {z off : Int} {tgt : Nat} (hd : decode (mC E) pc = .ok (.tableswitch dflt lo hi offs, len)) (hz : r32 z) (h1 : lo ≤ z) (h2 : z ≤ hi) (ho : offs[(z - lo).toNat]? = some off) (ht : (pc : Int) + off = (tgt : Int)) (h : ZV X E (tgt) L (S) b g I J post) : ZV X E (pc) L (vi z :: S) b g I J post := by
  intro p e s m args below meth c C H locs cells slots ls hH hS hc hs hl
  have e9 := i32_toInt hz
  refine lv_tableIn C.1 C.2.1 hd (by rw [e9]; omega) (by rw [e9]; omega) (by rw [e9]; exact ho) ht ?_
  exact h p e s m args below meth c C H locs cells slots ls hH hS hc hs hl
theorem ZV_tableOut {dflt lo hi : Int} {offs : Array Int} {len : Nat} {z : Int} {tgt : Nat} (hd : decode (mC E) pc = .ok (.tableswitch dflt lo hi offs, len)) (hz : r32 z) (h1 : z < lo ∨ hi < z) (ht : (pc : Int) + dflt = (tgt : Int)) (h : ZV X E (tgt) L (S) b g I J post) : ZV X E (pc) L (vi z :: S) b g I J post := by
  intro p e s m args below meth c C H locs cells slots ls hH hS hc hs hl
  have e9 := i32_toInt hz
  refine lv_tableOut C.1 C.2.1 hd (by rw [e9]; exact h1) ht ?_
  exact h p e s m args below meth c C H locs cells slots ls hH hS hc hs hl
theorem ZV_lookup {dflt : Int} {ps : Array (Int × Int)} {len : Nat} {z off : Int} {tgt : Nat} (hd : decode (mC E) pc = .ok (.lookupswitch dflt ps, len)) (hz : r32 z) (hp : (ps.toList.zip (ps.toList.drop 1)).all (fun (a, next) => a.1 < next.1) = true) (ho : Op.lookupswitch.offset ps.toList dflt z = off) (ht : (pc : Int) + off = (tgt : Int)) (h : ZV X E (tgt) L (S) b g I J post) : ZV X E (pc) L (vi z :: S) b g I J post := by
  intro p e s m args below meth c C H locs cells slots ls hH hS hc hs hl
  have e9 := i32_toInt hz
  refine lv_lookup C.1 C.2.1 hd hp (by rw [e9]; exact ho) ht ?_
  exact h p e s m args below meth c C H locs cells slots ls hH hS hc hs hl
end ZR
