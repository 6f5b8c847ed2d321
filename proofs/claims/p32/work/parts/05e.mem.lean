section ZM3
variable {X : Xt} {E : Me} {pc : Nat} {L : List (Option Value)} {S : List Value} {b : Nat × Nat} {g : Geo} {I J : Mm} {post : Out → Geo → Mm → Mm → Prop}
theorem ZV_newaI {n : Nat} {z : Int} (hw : Cond.arrayClass .int ∈ mW E) (hd : decode (mC E) pc = .ok (.newarray .int, 2)) (hz : z = (n : Int)) (hn : n ≤ 65536) (hg : g.2.2 = true) (hb : 1 ≤ b.1 ∧ n ≤ b.2)
    (h : ZV X E (pc + 2) L (.ref (xB X + g.1.length) :: S) (b.1 - 1, b.2 - n) (geoPush X g (.inr (0, n))) (rowZ I (xB X + g.1.length)) (rowZ J (xB X + g.1.length)) post) : ZV X E pc L (vi z :: S) b g I J post := by
  intro p e s m args below meth c0 C H locs cells slots ls hH hS hc hs hl
  have hts := C.2.2.2.1
  have hK := C.2.2.2.2.2.2.2.2.1
  have hBs := C.2.2.2.2.2.2.2.2.2.2.2.1
  have hz0 := hH.2 hg
  refine va_newaK (atype := .int) C.1 C.2.1 (hts _ hw) rfl hd rfl (i32_nneg hz (by omega)) (i32_nat hz (by omega)) (zb8 hn (by decide)) (by show cells + 1 ≤ (mB E).1; omega) (by show slots + _ ≤ (mB E).2; omega) hz0 fun H1 cA e1 z1 o1 hAr hNm => ?_
  have hcA : cA = xC X 0 := Option.some.inj (hNm.symm.trans (hK.2 0 _ (xT_get X (by decide))).2)
  subst hcA
  have hk : ∀ (k : Nat) (x : Nat × va_E), (mWd X g I J)[k]? = some x → H1[x.1]? = H[x.1]? := fun k x hx => o1 x.1 (by have := (hH.1 k x hx).lt; omega)
  refine h p e s m args below meth c0 C H1 locs (cells + 1) (slots + n) ls ⟨?_, fun _ => ?_⟩ ⟨by have := hS.1; omega, fun q h1 h2 => (o1 q (by have := hS.1; omega)).trans (hS.2.1 q h1 h2), hS.2.2⟩ (by show _ + (b.1 - 1) ≤ _; omega) (by show _ + (b.2 - n) ≤ _; omega) hl
  · rw [mWd_push]
    refine (hH.1.kept hk).app (fun k q hq => ?_)
    have hz9 : k < 1 := (List.getElem?_eq_some_iff.mp hq).1
    rw [show k = 0 by omega] at hq
    cases hq
    show H1[xB X + g.1.length]? = some (vp_cell (xC X 0) (n, .inl (fun _ => i32 0)))
    rw [vp_cell_i]
    exact e1
  · rw [z1]
    show xB X + g.1.length + 1 = xB X + (g.1 ++ [Sum.inr (0, n)]).length
    simp; omega
theorem ZV_newaJ {n : Nat} {z : Int} (hw : Cond.arrayClass .long ∈ mW E) (hd : decode (mC E) pc = .ok (.newarray .long, 2)) (hz : z = (n : Int)) (hn : n ≤ 65536) (hg : g.2.2 = true) (hb : 1 ≤ b.1 ∧ n ≤ b.2)
    (h : ZV X E (pc + 2) L (.ref (xB X + g.1.length) :: S) (b.1 - 1, b.2 - n) (geoPush X g (.inr (1, n))) (rowZ I (xB X + g.1.length)) (rowZ J (xB X + g.1.length)) post) : ZV X E pc L (vi z :: S) b g I J post := by
  intro p e s m args below meth c0 C H locs cells slots ls hH hS hc hs hl
  have hts := C.2.2.2.1
  have hK := C.2.2.2.2.2.2.2.2.1
  have hBs := C.2.2.2.2.2.2.2.2.2.2.2.1
  have hz0 := hH.2 hg
  refine va_newaK (atype := .long) C.1 C.2.1 (hts _ hw) rfl hd rfl (i32_nneg hz (by omega)) (i32_nat hz (by omega)) (zb8 hn (by decide)) (by show cells + 1 ≤ (mB E).1; omega) (by show slots + _ ≤ (mB E).2; omega) hz0 fun H1 cA e1 z1 o1 hAr hNm => ?_
  have hcA : cA = xC X 1 := Option.some.inj (hNm.symm.trans (hK.2 1 _ (xT_get X (by decide))).2)
  subst hcA
  have hk : ∀ (k : Nat) (x : Nat × va_E), (mWd X g I J)[k]? = some x → H1[x.1]? = H[x.1]? := fun k x hx => o1 x.1 (by have := (hH.1 k x hx).lt; omega)
  refine h p e s m args below meth c0 C H1 locs (cells + 1) (slots + n) ls ⟨?_, fun _ => ?_⟩ ⟨by have := hS.1; omega, fun q h1 h2 => (o1 q (by have := hS.1; omega)).trans (hS.2.1 q h1 h2), hS.2.2⟩ (by show _ + (b.1 - 1) ≤ _; omega) (by show _ + (b.2 - n) ≤ _; omega) hl
  · rw [mWd_push]
    refine (hH.1.kept hk).app (fun k q hq => ?_)
    have hz9 : k < 1 := (List.getElem?_eq_some_iff.mp hq).1
    rw [show k = 0 by omega] at hq
    cases hq
    show H1[xB X + g.1.length]? = some (vp_cell (xC X 1) (n, .inr (.inl (fun _ => i64 0))))
    rw [vp_cell_l]
    exact e1
  · rw [z1]
    show xB X + g.1.length + 1 = xB X + (g.1 ++ [Sum.inr (1, n)]).length
    simp; omega
theorem ZV_newaC {n : Nat} {z : Int} (hw : Cond.arrayClass .char ∈ mW E) (hd : decode (mC E) pc = .ok (.newarray .char, 2)) (hz : z = (n : Int)) (hn : n ≤ 65536) (hg : g.2.2 = true) (hb : 1 ≤ b.1 ∧ n ≤ b.2)
    (h : ZV X E (pc + 2) L (.ref (xB X + g.1.length) :: S) (b.1 - 1, b.2 - n) (geoPush X g (.inr (2, n))) (rowZ I (xB X + g.1.length)) (rowZ J (xB X + g.1.length)) post) : ZV X E pc L (vi z :: S) b g I J post := by
  intro p e s m args below meth c0 C H locs cells slots ls hH hS hc hs hl
  have hts := C.2.2.2.1
  have hK := C.2.2.2.2.2.2.2.2.1
  have hBs := C.2.2.2.2.2.2.2.2.2.2.2.1
  have hz0 := hH.2 hg
  refine va_newaK (atype := .char) C.1 C.2.1 (hts _ hw) rfl hd rfl (i32_nneg hz (by omega)) (i32_nat hz (by omega)) (zb8 hn (by decide)) (by show cells + 1 ≤ (mB E).1; omega) (by show slots + _ ≤ (mB E).2; omega) hz0 fun H1 cA e1 z1 o1 hAr hNm => ?_
  have hcA : cA = xC X 2 := Option.some.inj (hNm.symm.trans (hK.2 2 _ (xT_get X (by decide))).2)
  subst hcA
  have hk : ∀ (k : Nat) (x : Nat × va_E), (mWd X g I J)[k]? = some x → H1[x.1]? = H[x.1]? := fun k x hx => o1 x.1 (by have := (hH.1 k x hx).lt; omega)
  refine h p e s m args below meth c0 C H1 locs (cells + 1) (slots + n) ls ⟨?_, fun _ => ?_⟩ ⟨by have := hS.1; omega, fun q h1 h2 => (o1 q (by have := hS.1; omega)).trans (hS.2.1 q h1 h2), hS.2.2⟩ (by show _ + (b.1 - 1) ≤ _; omega) (by show _ + (b.2 - n) ≤ _; omega) hl
  · rw [mWd_push]
    refine (hH.1.kept hk).app (fun k q hq => ?_)
    have hz9 : k < 1 := (List.getElem?_eq_some_iff.mp hq).1
    rw [show k = 0 by omega] at hq
    cases hq
    show H1[xB X + g.1.length]? = some (vp_cell (xC X 2) (n, .inl (fun _ => i32 0)))
    rw [vp_cell_i]
    exact e1
  · rw [z1]
    show xB X + g.1.length + 1 = xB X + (g.1 ++ [Sum.inr (2, n)]).length
    simp; omega
theorem ZV_newaZ {n : Nat} {z : Int} (hw : Cond.arrayClass .boolean ∈ mW E) (hd : decode (mC E) pc = .ok (.newarray .boolean, 2)) (hz : z = (n : Int)) (hn : n ≤ 65536) (hg : g.2.2 = true) (hb : 1 ≤ b.1 ∧ n ≤ b.2)
    (h : ZV X E (pc + 2) L (.ref (xB X + g.1.length) :: S) (b.1 - 1, b.2 - n) (geoPush X g (.inr (3, n))) (rowZ I (xB X + g.1.length)) (rowZ J (xB X + g.1.length)) post) : ZV X E pc L (vi z :: S) b g I J post := by
  intro p e s m args below meth c0 C H locs cells slots ls hH hS hc hs hl
  have hts := C.2.2.2.1
  have hK := C.2.2.2.2.2.2.2.2.1
  have hBs := C.2.2.2.2.2.2.2.2.2.2.2.1
  have hz0 := hH.2 hg
  refine va_newaK (atype := .boolean) C.1 C.2.1 (hts _ hw) rfl hd rfl (i32_nneg hz (by omega)) (i32_nat hz (by omega)) (zb8 hn (by decide)) (by show cells + 1 ≤ (mB E).1; omega) (by show slots + _ ≤ (mB E).2; omega) hz0 fun H1 cA e1 z1 o1 hAr hNm => ?_
  have hcA : cA = xC X 3 := Option.some.inj (hNm.symm.trans (hK.2 3 _ (xT_get X (by decide))).2)
  subst hcA
  have hk : ∀ (k : Nat) (x : Nat × va_E), (mWd X g I J)[k]? = some x → H1[x.1]? = H[x.1]? := fun k x hx => o1 x.1 (by have := (hH.1 k x hx).lt; omega)
  refine h p e s m args below meth c0 C H1 locs (cells + 1) (slots + n) ls ⟨?_, fun _ => ?_⟩ ⟨by have := hS.1; omega, fun q h1 h2 => (o1 q (by have := hS.1; omega)).trans (hS.2.1 q h1 h2), hS.2.2⟩ (by show _ + (b.1 - 1) ≤ _; omega) (by show _ + (b.2 - n) ≤ _; omega) hl
  · rw [mWd_push]
    refine (hH.1.kept hk).app (fun k q hq => ?_)
    have hz9 : k < 1 := (List.getElem?_eq_some_iff.mp hq).1
    rw [show k = 0 by omega] at hq
    cases hq
    show H1[xB X + g.1.length]? = some (vp_cell (xC X 3) (n, .inl (fun _ => i32 0)))
    rw [vp_cell_i]
    exact e1
  · rw [z1]
    show xB X + g.1.length + 1 = xB X + (g.1 ++ [Sum.inr (3, n)]).length
    simp; omega
theorem ZV_newqS {n idx : Nat} {z : Int} (hw : Cond.classLink (mY E).cls idx RX3 ∈ mW E) (hd : decode (mC E) pc = .ok (.anewarray idx, 3)) (hz : z = (n : Int)) (hn : n ≤ 65536) (hg : g.2.2 = true) (hb : 1 ≤ b.1 ∧ n ≤ b.2)
    (h : ZV X E (pc + 3) L (.ref (xB X + g.1.length) :: S) (b.1 - 1, b.2 - n) (geoPush X g (.inr (4, n))) (rowZ I (xB X + g.1.length)) (rowZ J (xB X + g.1.length)) post) : ZV X E pc L (vi z :: S) b g I J post := by
  intro p e s m args below meth c0 C H locs cells slots ls hH hS hc hs hl
  have hts := C.2.2.2.1
  have hK := C.2.2.2.2.2.2.2.2.1
  have hBs := C.2.2.2.2.2.2.2.2.2.2.2.1
  have hz0 := hH.2 hg
  have hn2 := i32_nat hz (by omega)
  refine W.anew C.1 C.2.1 C.2.2.2.2.1 (hts _ hw) (va_AO.use C.2.2.2.2.2.2.2.2.2.1.2.2.2.1) rfl hd rfl (i32_nneg hz (by omega)) (by rw [hn2]; omega) (by show cells + 1 ≤ (mB E).1; omega) (by rw [hn2]; show slots + _ ≤ (mB E).2; omega) fun cA kA comp f1 f2 f3 f4 => ?_
  rw [hn2]
  obtain ⟨kA', comp', k1, k2, k3, k4⟩ := (hK.2 4 _ (xT_get X (by decide))).2
  have hcA : cA = xC X 4 := Option.some.inj (f1.symm.trans k4)
  subst hcA
  generalize hH1 : H.push ({ cls := xC X 4, slots := Array.replicate n .null, vm := .none } : Cell) = H1
  have z1 : H1.size = H.size + 1 := by rw [← hH1, Array.size_push]
  have e1 : H1[H.size]? = some (arrV (xC X 4) n (fun _ => .null)) := by rw [← hH1, Array.getElem?_push_size, ← arrV_new]
  have o1 : ∀ q : Nat, q < H.size → H1[q]? = H[q]? := fun q hq => by rw [← hH1, Array.getElem?_push, if_neg (Nat.ne_of_lt hq)]
  have hk : ∀ (k : Nat) (x : Nat × va_E), (mWd X g I J)[k]? = some x → H1[x.1]? = H[x.1]? := fun k x hx => o1 x.1 ((hH.1 k x hx).lt)
  rw [hz0] at e1 ⊢
  refine h p e s m args below meth c0 C H1 locs (cells + 1) (slots + n) ls ⟨?_, fun _ => ?_⟩ ⟨by have := hS.1; omega, fun q h1 h2 => (o1 q (by have := hS.1; omega)).trans (hS.2.1 q h1 h2), hS.2.2⟩ (by show _ + (b.1 - 1) ≤ _; omega) (by show _ + (b.2 - n) ≤ _; omega) hl
  · rw [mWd_push]
    refine (hH.1.kept hk).app (fun k q hq => ?_)
    have hz9 : k < 1 := (List.getElem?_eq_some_iff.mp hq).1
    rw [show k = 0 by omega] at hq
    cases hq
    show H1[xB X + g.1.length]? = some (vp_cell (xC X 4) (n, .inr (.inr (.inr (.inr (fun _ => none))))))
    rw [vp_cell_q]
    exact e1
  · rw [z1, hz0]
    show xB X + g.1.length + 1 = xB X + (g.1 ++ [Sum.inr (4, n)]).length
    simp; omega
theorem ZV_newqW {n idx : Nat} {z : Int} (hw : Cond.classLink (mY E).cls idx RX5 ∈ mW E) (hd : decode (mC E) pc = .ok (.anewarray idx, 3)) (hz : z = (n : Int)) (hn : n ≤ 65536) (hg : g.2.2 = true) (hb : 1 ≤ b.1 ∧ n ≤ b.2)
    (h : ZV X E (pc + 3) L (.ref (xB X + g.1.length) :: S) (b.1 - 1, b.2 - n) (geoPush X g (.inr (5, n))) (rowZ I (xB X + g.1.length)) (rowZ J (xB X + g.1.length)) post) : ZV X E pc L (vi z :: S) b g I J post := by
  intro p e s m args below meth c0 C H locs cells slots ls hH hS hc hs hl
  have hts := C.2.2.2.1
  have hK := C.2.2.2.2.2.2.2.2.1
  have hBs := C.2.2.2.2.2.2.2.2.2.2.2.1
  have hz0 := hH.2 hg
  have hn2 := i32_nat hz (by omega)
  refine W.anew C.1 C.2.1 C.2.2.2.2.1 (hts _ hw) (va_AO.use C.2.2.2.2.2.2.2.2.2.1.2.2.2.2) rfl hd rfl (i32_nneg hz (by omega)) (by rw [hn2]; omega) (by show cells + 1 ≤ (mB E).1; omega) (by rw [hn2]; show slots + _ ≤ (mB E).2; omega) fun cA kA comp f1 f2 f3 f4 => ?_
  rw [hn2]
  obtain ⟨kA', comp', k1, k2, k3, k4⟩ := (hK.2 5 _ (xT_get X (by decide))).2
  have hcA : cA = xC X 5 := Option.some.inj (f1.symm.trans k4)
  subst hcA
  generalize hH1 : H.push ({ cls := xC X 5, slots := Array.replicate n .null, vm := .none } : Cell) = H1
  have z1 : H1.size = H.size + 1 := by rw [← hH1, Array.size_push]
  have e1 : H1[H.size]? = some (arrV (xC X 5) n (fun _ => .null)) := by rw [← hH1, Array.getElem?_push_size, ← arrV_new]
  have o1 : ∀ q : Nat, q < H.size → H1[q]? = H[q]? := fun q hq => by rw [← hH1, Array.getElem?_push, if_neg (Nat.ne_of_lt hq)]
  have hk : ∀ (k : Nat) (x : Nat × va_E), (mWd X g I J)[k]? = some x → H1[x.1]? = H[x.1]? := fun k x hx => o1 x.1 ((hH.1 k x hx).lt)
  rw [hz0] at e1 ⊢
  refine h p e s m args below meth c0 C H1 locs (cells + 1) (slots + n) ls ⟨?_, fun _ => ?_⟩ ⟨by have := hS.1; omega, fun q h1 h2 => (o1 q (by have := hS.1; omega)).trans (hS.2.1 q h1 h2), hS.2.2⟩ (by show _ + (b.1 - 1) ≤ _; omega) (by show _ + (b.2 - n) ≤ _; omega) hl
  · rw [mWd_push]
    refine (hH.1.kept hk).app (fun k q hq => ?_)
    have hz9 : k < 1 := (List.getElem?_eq_some_iff.mp hq).1
    rw [show k = 0 by omega] at hq
    cases hq
    show H1[xB X + g.1.length]? = some (vp_cell (xC X 5) (n, .inr (.inr (.inr (.inr (fun _ => none))))))
    rw [vp_cell_q]
    exact e1
  · rw [z1, hz0]
    show xB X + g.1.length + 1 = xB X + (g.1 ++ [Sum.inr (5, n)]).length
    simp; omega
end ZM3
