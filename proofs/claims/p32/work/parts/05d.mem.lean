section ZM2
variable {X : Xt} {E : Me} {pc : Nat} {L : List (Option Value)} {S : List Value} {b : Nat × Nat} {g : Geo} {I J : Mm} {post : Out → Geo → Mm → Mm → Prop}
/-- a world with one cell more -/
def geoPush (X : Xt) (g : Geo) (kd : Kd) : Geo := (g.1 ++ [kd], (fun q => if q = xB X + g.1.length then fun _ => none else g.2.1 q), g.2.2)
def rowZ (f : Mm) (a : Nat) : Mm := fun q => if q = a then fun _ => 0 else f q
theorem zb8 {n k : Nat} (hn : n ≤ 65536) (hk : k ≤ 8) : n * k ≤ 536870912 := Nat.le_trans (Nat.mul_le_mul hn hk) (by decide)
theorem mWd_push (X : Xt) (g : Geo) (I J : Mm) (kd : Kd) : mWd X (geoPush X g kd) (rowZ I (xB X + g.1.length)) (rowZ J (xB X + g.1.length)) = mWd X g I J ++ [(xB X + g.1.length, cE X kd (fun _ => none) (fun _ => 0) (fun _ => 0))] := by
  apply List.ext_getElem?
  intro q
  rcases Nat.lt_trichotomy q g.1.length with hq | hq | hq
  · rw [List.getElem?_append_left (by rw [mWd_len]; exact hq)]
    unfold mWd geoPush rowZ
    rw [List.getElem?_map, List.getElem?_map, List.getElem?_range hq, List.getElem?_range (by simp; omega)]
    have hne : xB X + q ≠ xB X + g.1.length := by omega
    simp only [Option.map_some, if_neg hne, List.getD_eq_getElem?_getD, List.getElem?_append_left hq]
  · subst hq
    rw [List.getElem?_append_right (by rw [mWd_len]; exact Nat.le_refl _), mWd_len, Nat.sub_self]
    unfold mWd geoPush rowZ
    rw [List.getElem?_map, List.getElem?_range (by simp)]
    simp [List.getD_eq_getElem?_getD]
  · rw [List.getElem?_eq_none (by rw [mWd_len]; simp [geoPush]; omega), List.getElem?_eq_none (by simp [mWd_len]; omega)]
theorem ZV_new {c idx : Nat} (hn : NL E idx c) (hd : decode (mC E) pc = .ok (.new idx, 3)) (hg : g.2.2 = true) (hb : 1 ≤ b.1 ∧ zN c ≤ b.2)
    (h : ZV X E (pc + 3) L (.ref (xB X + g.1.length) :: S) (b.1 - 1, b.2 - zN c) (geoPush X g (.inl c)) (rowZ I (xB X + g.1.length)) (rowZ J (xB X + g.1.length)) post) : ZV X E pc L S b g I J post := by
  intro p e s m args below meth c0 C H locs cells slots ls hH hS hc hs hl
  obtain ⟨n1, n2, n3, n4, n5⟩ := hn
  have hts := C.2.2.2.1
  have hK := C.2.2.2.2.2.2.2.2.1
  have hKn := hK.1 c _ (zc_vw c n1)
  have hBs := C.2.2.2.2.2.2.2.2.2.2.2.1
  have hz := hH.2 hg
  refine W.newcK C.1 C.2.1 C.2.2.2.2.1 (hts _ n3) (hts _ n4) (hts _ n5) rfl hd (by show cells + 1 ≤ (mB E).1; omega) (by show slots + _ ≤ (mB E).2; omega) hKn.2.1 hz fun H1 kC hkC e1 z1 o1 => ?_
  have hk : ∀ (k : Nat) (x : Nat × va_E), (mWd X g I J)[k]? = some x → H1[x.1]? = H[x.1]? := fun k x hx => o1 x.1 (by have := (hH.1 k x hx).lt; omega)
  refine h p e s m args below meth c0 C H1 locs (cells + 1) (slots + zN c) ls ⟨?_, fun _ => ?_⟩ ⟨by have := hS.1; omega, fun q h1 h2 => (o1 q (by have := hS.1; omega)).trans (hS.2.1 q h1 h2), hS.2.2⟩ (by show _ + (b.1 - 1) ≤ _; omega) (by show _ + (b.2 - zN c) ≤ _; omega) hl
  · rw [mWd_push]
    refine (hH.1.kept hk).app (fun k q hq => ?_)
    have hz9 : k < 1 := (List.getElem?_eq_some_iff.mp hq).1
    rw [show k = 0 by omega] at hq
    cases hq
    refine ⟨_, zc_vw c n1, (u_born (zty c) hts n2 hKn hkC e1 (zc_ty c n1)).to (fun j hj => ?_)⟩
    have h9 : (fty c)[j]? = some ((fty c).getD j 0) := by
      have hjl : j < (fty c).length := by rw [zc_len c n1]; exact hj
      rw [List.getD_eq_getElem?_getD, List.getElem?_eq_getElem hjl]; rfl
    rw [(zc_fin c n1 j hj).2.2]
    have e10 : (fls (fty c) (fun _ => none) (fun _ => 0) (fun _ => 0)).getD j .null = fvl ((fty c).getD j 0) none 0 0 := by
      refine List.getD_eq_getElem?_getD.trans ?_
      rw [fls_get h9]; rfl
    exact e10.symm
  · rw [z1]
    show xB X + g.1.length + 1 = xB X + (g.1 ++ [Sum.inl c]).length
    simp; omega
end ZM2
