/-! the rules of ZV that touch the memory: fields, arrays, new cells, returns, throws -/
def zC : Nat → String := fun c => match c with
  | 0 => RX0
  | 1 => RX3
  | 2 => RX4
  | 3 => RX5
  | 4 => RX6
  | _ => RX7
def zT : Nat → u_T := fun c => match c with
  | 0 => TX0
  | 1 => TX3
  | 2 => TX4
  | 3 => TX5
  | 4 => TX6
  | _ => TX7
def zN : Nat → Nat := fun c => match c with
  | 0 => 3
  | 1 => 9
  | 2 => 6
  | 3 => 4
  | 4 => 7
  | _ => 18
def zty : Nat → Nat → FieldType := fun c => match c with
  | 0 => tyX0
  | 1 => tyX3
  | 2 => tyX4
  | 3 => tyX5
  | 4 => tyX6
  | _ => tyX7
theorem zc_vw : ∀ c, c < 5 → vwCl[c]? = some (zC c, zT c, zN c) := by
  intro c h
  rcases (show c = 0 ∨ c = 1 ∨ c = 2 ∨ c = 3 ∨ c = 4 by omega) with rfl | rfl | rfl | rfl | rfl <;> rfl
theorem zc_ty : ∀ c, c < 5 → ∀ k, k < zN c → parseFieldDescriptor (zT c k).2.2.1 = some (zty c k) := by
  intro c h
  rcases (show c = 0 ∨ c = 1 ∨ c = 2 ∨ c = 3 ∨ c = 4 by omega) with rfl | rfl | rfl | rfl | rfl
  · exact tyX0_ok
  · exact tyX3_ok
  · exact tyX4_ok
  · exact tyX5_ok
  · exact tyX6_ok
theorem zc_nm : ∀ c, c < 5 → ∀ a, a < zN c → ∀ b, b < zN c → a ≠ b → (zT c a).2.1 ≠ (zT c b).2.1 := by
  intro c h
  rcases (show c = 0 ∨ c = 1 ∨ c = 2 ∨ c = 3 ∨ c = 4 by omega) with rfl | rfl | rfl | rfl | rfl
  · exact nmX0
  · exact nmX3
  · exact nmX4
  · exact nmX5
  · exact nmX6
theorem zc_len : ∀ c, c < 5 → (fty c).length = zN c := by
  intro c h
  rcases (show c = 0 ∨ c = 1 ∨ c = 2 ∨ c = 3 ∨ c = 4 by omega) with rfl | rfl | rfl | rfl | rfl <;> rfl
/-- the table of fty is that of the classes' types; references are final, the others aren't; the constants of a fresh object -/
theorem zc_fin : ∀ c, c < 5 → ∀ k, k < zN c → (zT c k).2.2.2 = ((fty c).getD k 0 == 2) ∧ (zT c k).1 = zC c ∧ defaultValue (zty c k) = fvl ((fty c).getD k 0) none 0 0 := by
  intro c h
  rcases (show c = 0 ∨ c = 1 ∨ c = 2 ∨ c = 3 ∨ c = 4 by omega) with rfl | rfl | rfl | rfl | rfl <;> decide +kernel
theorem zc_fits : ∀ c, c < 5 → ∀ k, k < zN c → ∀ (r : Option Nat) (i j : Int), ((fty c).getD k 0 = 3 → i = 0 ∨ i = 1) → narrow (zty c k) (fvl ((fty c).getD k 0) r i j) = fvl ((fty c).getD k 0) r i j ∧ fits (zty c k) (fvl ((fty c).getD k 0) r i j) = true := by
  have key : ∀ c, c < 5 → ∀ k, k < zN c → ((fty c).getD k 0 = 0 ∧ zty c k = .int) ∨ ((fty c).getD k 0 = 1 ∧ zty c k = .long) ∨ ((fty c).getD k 0 = 3 ∧ zty c k = .boolean) ∨ ((fty c).getD k 0 = 2 ∧ ((∃ n, zty c k = .object n) ∨ ∃ t, zty c k = .array t)) := by
    intro c h
    rcases (show c = 0 ∨ c = 1 ∨ c = 2 ∨ c = 3 ∨ c = 4 by omega) with rfl | rfl | rfl | rfl | rfl <;> intro k hk
    · rcases (show k = 0 ∨ k = 1 ∨ k = 2 by have hk9 : k < 3 := hk; omega) with rfl | rfl | rfl <;> simp [fty, zty, tyX0]
    · rcases (show k = 0 ∨ k = 1 ∨ k = 2 ∨ k = 3 ∨ k = 4 ∨ k = 5 ∨ k = 6 ∨ k = 7 ∨ k = 8 by have hk9 : k < 9 := hk; omega) with rfl | rfl | rfl | rfl | rfl | rfl | rfl | rfl | rfl <;> simp [fty, zty, tyX3]
    · rcases (show k = 0 ∨ k = 1 ∨ k = 2 ∨ k = 3 ∨ k = 4 ∨ k = 5 by have hk9 : k < 6 := hk; omega) with rfl | rfl | rfl | rfl | rfl | rfl <;> simp [fty, zty, tyX4]
    · rcases (show k = 0 ∨ k = 1 ∨ k = 2 ∨ k = 3 by have hk9 : k < 4 := hk; omega) with rfl | rfl | rfl | rfl <;> simp [fty, zty, tyX5]
    · rcases (show k = 0 ∨ k = 1 ∨ k = 2 ∨ k = 3 ∨ k = 4 ∨ k = 5 ∨ k = 6 by have hk9 : k < 7 := hk; omega) with rfl | rfl | rfl | rfl | rfl | rfl | rfl <;> simp [fty, zty, tyX6]
  intro c h k hk r i j hb
  rcases key c h k hk with ⟨e1, e2⟩ | ⟨e1, e2⟩ | ⟨e1, e2⟩ | ⟨e1, e2⟩
  · rw [e1, e2]; exact ⟨rfl, rfl⟩
  · rw [e1, e2]; exact ⟨rfl, rfl⟩
  · rw [e1, e2]
    have := hb e1
    rcases this with rfl | rfl
    · exact ⟨(by decide : narrow .boolean (.int (i32 0)) = .int (i32 0)), (by decide : fits .boolean (.int (i32 0)) = true)⟩
    · exact ⟨(by decide : narrow .boolean (.int (i32 1)) = .int (i32 1)), (by decide : fits .boolean (.int (i32 1)) = true)⟩
  · rw [e1]
    rcases e2 with ⟨n, e2⟩ | ⟨n, e2⟩ <;> rw [e2] <;> cases r <;> exact ⟨rfl, rfl⟩
/-- a field as this method's words name it -/
def FL (E : Me) (idx c k : Nat) : Prop := c < 5 ∧ k < zN c ∧ (∀ w ∈ u_ws (zC c) (zT c) (zN c), w ∈ mW E) ∧ Cond.fieldLink (mY E).cls idx (zT c k).1 (zT c k).2.1 (zT c k).2.2.1 ∈ mW E
/-- a class as this method's words name it, to make objects of it -/
def NL (E : Me) (idx c : Nat) : Prop := c < 5 ∧ (∀ w ∈ u_ws (zC c) (zT c) (zN c), w ∈ mW E) ∧ Cond.classLink (mY E).cls idx (zC c) ∈ mW E ∧ Cond.instantiable (zC c) (zN c) ∈ mW E ∧ Cond.initialized (zC c) ∈ mW E
def up2 {α : Type} (f : Nat → Nat → α) (a k : Nat) (v : α) : Nat → Nat → α := fun a' k' => if a' = a ∧ k' = k then v else f a' k'
theorem up2_same {α : Type} (f : Nat → Nat → α) (a k : Nat) (v : α) : up2 f a k v a k = v := by simp [up2]
theorem up2_ne {α : Type} (f : Nat → Nat → α) {a k a' k' : Nat} (v : α) (h : ¬ (a' = a ∧ k' = k)) : up2 f a k v a' k' = f a' k' := by simp [up2, h]
theorem up2_row {α : Type} (f : Nat → Nat → α) {a k b : Nat} (v : α) (h : b ≠ a) : up2 f a k v b = f b := by funext q; simp [up2, h]
theorem getD_some {ts : List Nat} {k t : Nat} (h : ts[k]? = some t) : ts.getD k 0 = t := by rw [List.getD_eq_getElem?_getD, h]; rfl
section ZM
variable {X : Xt} {E : Me} {pc : Nat} {L : List (Option Value)} {S : List Value} {b : Nat × Nat} {g : Geo} {I J : Mm} {post : Out → Geo → Mm → Mm → Prop}
theorem ZV_get {a c k idx t : Nat} (hf : FL E idx c k) (hd : decode (mC E) pc = .ok (.getfield idx, 3)) (hk : ksh X g a = some (.inl c)) (ht : (fty c)[k]? = some t)
    (h : ZV X E (pc + 3) L (fvl t (g.2.1 a k) (I a k) (J a k) :: S) b g I J post) : ZV X E pc L (.ref a :: S) b g I J post := by
  intro p e s m args below meth c0 C H locs cells slots ls hH hS hc hs hl
  obtain ⟨f1, f2, f3, f4⟩ := hf
  have hts := C.2.2.2.1
  refine va_get (D := xD X) (ci := c) (C := zC c) (T := zT c) (N := zN c) C.1 C.2.1 hts f3 C.2.2.2.2.1 C.2.2.2.2.2.2.2.2.1 hH.1 (a - xB X) (mWd_get hk) (zc_vw c f1) k f2 (hts _ f4) (fun _ q => q) (fls_get ht) hd ?_
  exact h p e s m args below meth c0 C H locs cells slots ls hH hS hc hs hl
theorem ZV_getI {a c k idx : Nat} (hf : FL E idx c k) (hd : decode (mC E) pc = .ok (.getfield idx, 3)) (hk : ksh X g a = some (.inl c)) (ht : (fty c)[k]? = some 0)
    (h : ZV X E (pc + 3) L (vi (I a k) :: S) b g I J post) : ZV X E pc L (.ref a :: S) b g I J post := ZV_get hf hd hk ht h
theorem ZV_getZ {a c k idx : Nat} (hf : FL E idx c k) (hd : decode (mC E) pc = .ok (.getfield idx, 3)) (hk : ksh X g a = some (.inl c)) (ht : (fty c)[k]? = some 3)
    (h : ZV X E (pc + 3) L (vi (I a k) :: S) b g I J post) : ZV X E pc L (.ref a :: S) b g I J post := ZV_get hf hd hk ht h
theorem ZV_getJ {a c k idx : Nat} (hf : FL E idx c k) (hd : decode (mC E) pc = .ok (.getfield idx, 3)) (hk : ksh X g a = some (.inl c)) (ht : (fty c)[k]? = some 1)
    (h : ZV X E (pc + 3) L (vl (J a k) :: S) b g I J post) : ZV X E pc L (.ref a :: S) b g I J post := ZV_get hf hd hk ht h
theorem ZV_getR {a c k idx r : Nat} (hf : FL E idx c k) (hd : decode (mC E) pc = .ok (.getfield idx, 3)) (hk : ksh X g a = some (.inl c)) (ht : (fty c)[k]? = some 2) (hr : g.2.1 a k = some r)
    (h : ZV X E (pc + 3) L (.ref r :: S) b g I J post) : ZV X E pc L (.ref a :: S) b g I J post := by
  refine ZV_get hf hd hk ht ?_
  rw [hr]; exact h
/-- the world behind a store -/
theorem zstore {a : Nat} {kd : Kd} {r' : Mr} {I' J' : Mm} {H H1 : Heap} (hH : HH X g I J H) (hk : ksh X g a = some kd) (hr : ∀ q, q ≠ a → r' q = g.2.1 q) (hI : ∀ q, q ≠ a → I' q = I q) (hJ : ∀ q, q ≠ a → J' q = J q)
    (he : va_at (xD X) vwCl (a, cE X kd (r' a) (I' a) (J' a)) H1) (z : H1.size = H.size) (oq : ∀ q : Nat, q ≠ a → H1[q]? = H[q]?) : HH X (g.1, r', g.2.2) I' J' H1 := by
  refine ⟨?_, fun ht => z.trans (hH.2 ht)⟩
  have h1 := hH.1.set (mWd_D X g I J) (mWd_get hk) he oq
  rw [mWd_set hk hr hI hJ] at h1
  exact h1
theorem ZV_put {a c k idx t : Nat} {v : Value} {r' : Mr} {I' J' : Mm} (hf : FL E idx c k) (hd : decode (mC E) pc = .ok (.putfield idx, 3)) (hk : ksh X g a = some (.inl c)) (ht : (fty c)[k]? = some t)
    (hfin : t = 2 → (mY E).name = "<init>" ∧ (mY E).cls = zC c) (hv : v = fvl t (r' a k) (I' a k) (J' a k)) (hb : t = 3 → I' a k = 0 ∨ I' a k = 1)
    (hr : ∀ q, q ≠ a → r' q = g.2.1 q) (hI : ∀ q, q ≠ a → I' q = I q) (hJ : ∀ q, q ≠ a → J' q = J q) (hr2 : ∀ q, q ≠ k → r' a q = g.2.1 a q) (hI2 : ∀ q, q ≠ k → I' a q = I a q) (hJ2 : ∀ q, q ≠ k → J' a q = J a q)
    (h : ZV X E (pc + 3) L S b (g.1, r', g.2.2) I' J' post) : ZV X E pc L (v :: .ref a :: S) b g I J post := by
  intro p e s m args below meth c0 C H locs cells slots ls hH hS hc hs hl
  obtain ⟨f1, f2, f3, f4⟩ := hf
  have hts := C.2.2.2.1
  have hK := C.2.2.2.2.2.2.2.2.1
  have hown := C.2.2.2.2.1
  have htD := getD_some ht
  obtain ⟨n1, n2⟩ := zc_fits c f1 k f2 (r' a k) (I' a k) (J' a k) (fun q => hb (by rw [← htD]; exact q))
  rw [htD, ← hv] at n1 n2
  obtain ⟨g1, g2, -⟩ := zc_fin c f1 k f2
  rw [htD] at g1
  have hvw := zc_vw c f1
  have hap := va_apart (own := (mY E).cls) hts f3 (zty c) (zc_ty c f1) (zc_nm c f1) hK hvw
  have he := mWd_get (I := I) (J := J) hk
  obtain ⟨r, h1, cell, q1, q2, q3, q4⟩ := hH.1 _ _ he
  have hrr : r = (zC c, zT c, zN c) := Option.some.inj (h1.symm.trans hvw)
  subst hrr
  obtain ⟨hSl, hfc, kC, hkC, hkind⟩ := hK.1 c _ hvw
  obtain ⟨cf, kf, fi, f, hi, hsl⟩ := hSl k f2
  have hlay := hts _ (f3 _ (u_in_lay f2))
  have hst := (u_facts hfc hkC (u_lays hts f3 f2) hi).1
  have hlen : k < (fls (fty c) (g.2.1 a) (I a) (J a)).length := by rw [fls_len, zc_len c f1]; exact f2
  have hset : (fls (fty c) (g.2.1 a) (I a) (J a)).set k v = fls (fty c) (r' a) (I' a) (J' a) := by
    rw [hv]; exact fls_set ht hr2 hI2 hJ2
  have fin : ∀ H' : Heap, H'[a]? = some (cell.setSlot f.slot v) → H'.size = H.size → (∀ q, q ≠ a → H'[q]? = H[q]?) → ∀ locs', va_S (xA X) s.heap H' locs' → W p (xl X) e (mRm E) s m args below meth c0 H' locs' cells slots (vx_MQ below (zQ X post) (zX X post) args s (mB E).1 (mB E).2 (xA X)) (F0 m (pc + 3) ls S) := by
    intro H' e1 e2 e3 locs' hS'
    rw [hsl] at e1
    refine h p e s m args below meth c0 C H' locs' cells slots ls (zstore hH hk hr hI hJ ?_ e2 e3) hS' hc hs hl
    show va_at (xD X) vwCl (a, .inr (c, fls (fty c) (r' a) (I' a) (J' a))) H'
    rw [← hset]
    exact ⟨_, hvw, t_OB.to (V := updV (vp_V (fls (fty c) (g.2.1 a) (I a) (J a))) k v) ⟨_, e1, q2, q3, t_set q4 hap f2 v⟩ (fun j _ => vp_updV_set hlen v j)⟩
  have hAa : xA X a := (ksh_spec hk).1
  by_cases h2 : t = 2
  · have hfi : (zT c k).2.2.2 = true := by rw [g1, h2]; rfl
    obtain ⟨i1, i2⟩ := hfin h2
    unfold u_lay at hlay
    rw [if_pos hfi] at hlay
    have hcf : m.cls = cf := by
      obtain ⟨_, _, c', _, _, _, -, -, hf', -, -, -, hown2, -⟩ := Cond.laysFinal_spec hlay
      have e1 : c' = cf := by have := hi.symm.trans hf'; simp at this; exact this.1.symm
      rw [g2, ← i2] at hown2
      rw [← e1]; exact Option.some.inj (hown.symm.trans hown2)
    have h6 := u_fits hfc hkC hkind (Or.inr hlay) hi (zc_ty c f1 k f2) n1 n2
    exact W.putFinK C.1 C.2.1 hown (hts _ f4) hi hst hcf (C.2.2.2.2.2.2.2.1.trans i1) (by rw [q2]; exact h6) q1 q3 (by rw [hsl]; exact k2_hasslot (q4 k f2)) rfl rfl hd (fun H' e1 e2 e3 => fin H' e1 e2 e3 _ (hS.put e2 e3 hAa))
  · have hfi : (zT c k).2.2.2 = false := by rw [g1]; simp [h2]
    unfold u_lay at hlay
    rw [if_neg (by rw [hfi]; decide)] at hlay
    have h6 := u_store hfc hkC hkind hlay hi (zc_ty c f1 k f2) n1 n2
    exact W.putK C.1 C.2.1 (f := f) ⟨hown, hts _ f4, ⟨_, _, _, hi⟩, hst⟩ (by rw [q2]; exact h6) q1 q3 (by rw [hsl]; exact k2_hasslot (q4 k f2)) rfl rfl hd (fun H' e1 e2 e3 => fin H' e1 e2 e3 _ (hS.put e2 e3 hAa))
theorem geo_eta (g : Geo) : (g.1, g.2.1, g.2.2) = g := rfl
theorem ZV_putI {a c k idx : Nat} {z : Int} (hf : FL E idx c k) (hd : decode (mC E) pc = .ok (.putfield idx, 3)) (hk : ksh X g a = some (.inl c)) (ht : (fty c)[k]? = some 0)
    (h : ZV X E (pc + 3) L S b g (up2 I a k z) J post) : ZV X E pc L (vi z :: .ref a :: S) b g I J post :=
  ZV_put (r' := g.2.1) (I' := up2 I a k z) (J' := J) hf hd hk ht (fun q => by cases q) (by rw [up2_same]; rfl) (fun q => by cases q) (fun _ _ => rfl) (fun q hq => up2_row I z hq) (fun _ _ => rfl) (fun _ _ => rfl) (fun q hq => up2_ne I z (fun w => hq w.2)) (fun _ _ => rfl) h
theorem ZV_putZ {a c k idx : Nat} {z : Int} (hf : FL E idx c k) (hd : decode (mC E) pc = .ok (.putfield idx, 3)) (hk : ksh X g a = some (.inl c)) (ht : (fty c)[k]? = some 3) (hz : z = 0 ∨ z = 1)
    (h : ZV X E (pc + 3) L S b g (up2 I a k z) J post) : ZV X E pc L (vi z :: .ref a :: S) b g I J post :=
  ZV_put (r' := g.2.1) (I' := up2 I a k z) (J' := J) hf hd hk ht (fun q => by cases q) (by rw [up2_same]; rfl) (fun _ => by rw [up2_same]; exact hz) (fun _ _ => rfl) (fun q hq => up2_row I z hq) (fun _ _ => rfl) (fun _ _ => rfl) (fun q hq => up2_ne I z (fun w => hq w.2)) (fun _ _ => rfl) h
theorem ZV_putJ {a c k idx : Nat} {z : Int} (hf : FL E idx c k) (hd : decode (mC E) pc = .ok (.putfield idx, 3)) (hk : ksh X g a = some (.inl c)) (ht : (fty c)[k]? = some 1)
    (h : ZV X E (pc + 3) L S b g I (up2 J a k z) post) : ZV X E pc L (vl z :: .ref a :: S) b g I J post :=
  ZV_put (r' := g.2.1) (I' := I) (J' := up2 J a k z) hf hd hk ht (fun q => by cases q) (by rw [up2_same]; rfl) (fun q => by cases q) (fun _ _ => rfl) (fun _ _ => rfl) (fun q hq => up2_row J z hq) (fun _ _ => rfl) (fun _ _ => rfl) (fun q hq => up2_ne J z (fun w => hq w.2)) h
theorem ZV_putR {a c k idx r : Nat} (hf : FL E idx c k) (hd : decode (mC E) pc = .ok (.putfield idx, 3)) (hk : ksh X g a = some (.inl c)) (ht : (fty c)[k]? = some 2) (hi : (mY E).name = "<init>" ∧ (mY E).cls = zC c)
    (h : ZV X E (pc + 3) L S b (g.1, up2 g.2.1 a k (some r), g.2.2) I J post) : ZV X E pc L (.ref r :: .ref a :: S) b g I J post :=
  ZV_put (r' := up2 g.2.1 a k (some r)) (I' := I) (J' := J) hf hd hk ht (fun _ => hi) (by rw [up2_same]; rfl) (fun q => by cases q) (fun q hq => up2_row g.2.1 _ hq) (fun _ _ => rfl) (fun _ _ => rfl) (fun q hq => up2_ne g.2.1 _ (fun w => hq w.2)) (fun _ _ => rfl) (fun _ _ => rfl) h
end ZM
