section ZM1
variable {X : Xt} {E : Me} {pc : Nat} {L : List (Option Value)} {S : List Value} {b : Nat × Nat} {g : Geo} {I J : Mm} {post : Out → Geo → Mm → Mm → Prop}
theorem ZV_iast {a n : Nat} {z v : Int} (k : Nat) (hd : decode (mC E) pc = .ok (.iastore, 1)) (hk : ksh X g a = some (.inr (0, n))) (hz : z = (k : Int)) (hkn : k < n) (hn : n ≤ 65536)
    (h : ZV X E (pc + 1) L S b g (up2 I a k v) J post) : ZV X E pc L (vi v :: vi z :: .ref a :: S) b g I J post := by
  intro p e s m args below meth c0 C H locs cells slots ls hH hS hc hs hl
  obtain ⟨h1, h2⟩ := zin hz hkn hn
  have he : (mWd X g I J)[a - xB X]? = some (a, .inl (xC X 0, n, .inl (fun q => i32 (I a q)))) := mWd_get hk
  refine W.iast C.1 C.2.1 (hH.1 _ _ he) ((C.2.2.2.2.2.2.2.2.1.2 0 _ (xT_get X (by decide))).1 n (fun j => Value.int (i32 (I a j)))) (fun q => by cases q) (by show ¬ (i32 z < 0 ∨ (arrV _ _ _).slots.size ≤ _); rw [arrV_size]; exact h1) rfl rfl hd fun H1 e1 z1 oq => ?_
  refine h p e s m args below meth c0 C H1 _ cells slots ls (zstore (r' := g.2.1) (I' := up2 I a k v) (J' := J) hH hk (fun _ _ => rfl) (fun q hq => up2_row I v hq) (fun _ _ => rfl) ?_ z1 oq) (hS.put z1 oq (ksh_spec hk).1) hc hs hl
  show H1[a]? = some (vp_cell (xC X 0) (n, .inl (fun q => i32 (up2 I a k v a q))))
  rw [e1]
  rw [vp_cell_i, vp_cell_i, arrV_store, h2]
  congr 2
  funext q
  by_cases hq : q = k
  · subst hq
    rw [up2_same]
    skip
    simp [updV]
    skip
  · rw [up2_ne _ _ (fun w => hq w.2)]
    simp [updV, hq]
theorem ZV_cast {a n : Nat} {z v : Int} (k : Nat) (hd : decode (mC E) pc = .ok (.castore, 1)) (hk : ksh X g a = some (.inr (2, n))) (hz : z = (k : Int)) (hkn : k < n) (hn : n ≤ 65536) (hv : 0 ≤ v ∧ v < 65536)
    (h : ZV X E (pc + 1) L S b g (up2 I a k v) J post) : ZV X E pc L (vi v :: vi z :: .ref a :: S) b g I J post := by
  intro p e s m args below meth c0 C H locs cells slots ls hH hS hc hs hl
  obtain ⟨h1, h2⟩ := zin hz hkn hn
  have he : (mWd X g I J)[a - xB X]? = some (a, .inl (xC X 2, n, .inl (fun q => i32 (I a q)))) := mWd_get hk
  refine W.cast C.1 C.2.1 (hH.1 _ _ he) ((C.2.2.2.2.2.2.2.2.1.2 2 _ (xT_get X (by decide))).1 n (fun j => Value.int (i32 (I a j)))) (fun q => by cases q) (by show ¬ (i32 z < 0 ∨ (arrV _ _ _).slots.size ≤ _); rw [arrV_size]; exact h1) rfl rfl hd fun H1 e1 z1 oq => ?_
  refine h p e s m args below meth c0 C H1 _ cells slots ls (zstore (r' := g.2.1) (I' := up2 I a k v) (J' := J) hH hk (fun _ _ => rfl) (fun q hq => up2_row I v hq) (fun _ _ => rfl) ?_ z1 oq) (hS.put z1 oq (ksh_spec hk).1) hc hs hl
  show H1[a]? = some (vp_cell (xC X 2) (n, .inl (fun q => i32 (up2 I a k v a q))))
  rw [e1]
  rw [vp_cell_i, vp_cell_i, arrV_store, h2]
  congr 2
  funext q
  by_cases hq : q = k
  · subst hq
    rw [up2_same]
    simp [updV, narrow_char hv]
  · rw [up2_ne _ _ (fun w => hq w.2)]
    simp [updV, hq]
theorem ZV_zast {a n : Nat} {z v : Int} (k : Nat) (hd : decode (mC E) pc = .ok (.bastore, 1)) (hk : ksh X g a = some (.inr (3, n))) (hz : z = (k : Int)) (hkn : k < n) (hn : n ≤ 65536) (hv : v = 0 ∨ v = 1)
    (h : ZV X E (pc + 1) L S b g (up2 I a k v) J post) : ZV X E pc L (vi v :: vi z :: .ref a :: S) b g I J post := by
  intro p e s m args below meth c0 C H locs cells slots ls hH hS hc hs hl
  obtain ⟨h1, h2⟩ := zin hz hkn hn
  have he : (mWd X g I J)[a - xB X]? = some (a, .inl (xC X 3, n, .inl (fun q => i32 (I a q)))) := mWd_get hk
  refine W.zast C.1 C.2.1 (hH.1 _ _ he) ((C.2.2.2.2.2.2.2.2.1.2 3 _ (xT_get X (by decide))).1 n (fun j => Value.int (i32 (I a j)))) (fun q => by cases q) (by show ¬ (i32 z < 0 ∨ (arrV _ _ _).slots.size ≤ _); rw [arrV_size]; exact h1) rfl rfl hd fun H1 e1 z1 oq => ?_
  refine h p e s m args below meth c0 C H1 _ cells slots ls (zstore (r' := g.2.1) (I' := up2 I a k v) (J' := J) hH hk (fun _ _ => rfl) (fun q hq => up2_row I v hq) (fun _ _ => rfl) ?_ z1 oq) (hS.put z1 oq (ksh_spec hk).1) hc hs hl
  show H1[a]? = some (vp_cell (xC X 3) (n, .inl (fun q => i32 (up2 I a k v a q))))
  rw [e1]
  rw [vp_cell_i, vp_cell_i, arrV_store, h2]
  congr 2
  funext q
  by_cases hq : q = k
  · subst hq
    rw [up2_same]
    simp [updV, narrow_bool hv]
  · rw [up2_ne _ _ (fun w => hq w.2)]
    simp [updV, hq]
theorem ZV_last {a n : Nat} {z v : Int} (k : Nat) (hd : decode (mC E) pc = .ok (.lastore, 1)) (hk : ksh X g a = some (.inr (1, n))) (hz : z = (k : Int)) (hkn : k < n) (hn : n ≤ 65536)
    (h : ZV X E (pc + 1) L S b g I (up2 J a k v) post) : ZV X E pc L (vl v :: vi z :: .ref a :: S) b g I J post := by
  intro p e s m args below meth c0 C H locs cells slots ls hH hS hc hs hl
  obtain ⟨h1, h2⟩ := zin hz hkn hn
  have he : (mWd X g I J)[a - xB X]? = some (a, .inl (xC X 1, n, .inr (.inl (fun q => i64 (J a q))))) := mWd_get hk
  refine W.last C.1 C.2.1 (hH.1 _ _ he) ((C.2.2.2.2.2.2.2.2.1.2 1 _ (xT_get X (by decide))).1 n (fun j => Value.long (i64 (J a j)))) (fun q => by cases q) (by show ¬ (i32 z < 0 ∨ (arrV _ _ _).slots.size ≤ _); rw [arrV_size]; exact h1) rfl rfl hd fun H1 e1 z1 oq => ?_
  refine h p e s m args below meth c0 C H1 _ cells slots ls (zstore (r' := g.2.1) (I' := I) (J' := up2 J a k v) hH hk (fun _ _ => rfl) (fun _ _ => rfl) (fun q hq => up2_row J v hq) ?_ z1 oq) (hS.put z1 oq (ksh_spec hk).1) hc hs hl
  show H1[a]? = some (vp_cell (xC X 1) (n, .inr (.inl (fun q => i64 (up2 J a k v a q)))))
  rw [e1]
  rw [vp_cell_l, vp_cell_l, arrV_store, h2]
  congr 2
  funext q
  by_cases hq : q = k
  · subst hq
    rw [up2_same]
    skip
    simp [updV]
    skip
  · rw [up2_ne _ _ (fun w => hq w.2)]
    simp [updV, hq]
theorem ZV_aastS {a n v : Nat} {z : Int} (k : Nat) (hd : decode (mC E) pc = .ok (.aastore, 1)) (hk : ksh X g a = some (.inr (4, n))) (hz : z = (k : Int)) (hkn : k < n) (hn : n ≤ 65536) (hv : ksh X g v = some (.inl 1))
    (h : ZV X E (pc + 1) L S b (g.1, up2 g.2.1 a k (some v), g.2.2) I J post) : ZV X E pc L (.ref v :: vi z :: .ref a :: S) b g I J post := by
  intro p e s m args below meth c0 C H locs cells slots ls hH hS hc hs hl
  obtain ⟨h1, h2⟩ := zin hz hkn hn
  have he : (mWd X g I J)[a - xB X]? = some (a, .inl (xC X 4, n, .inr (.inr (.inr (.inr (g.2.1 a)))))) := mWd_get hk
  have hK := C.2.2.2.2.2.2.2.2.1
  obtain ⟨r', hr', cellV, g1, g2, g3, -⟩ := hH.1 _ _ (mWd_get (I := I) (J := J) hv)
  have hcls := (hK.1 1 _ (zc_vw 1 (by decide))).2
  obtain ⟨kA, comp, k1, k2, k3, -⟩ := (hK.2 4 _ (xT_get X (by decide))).2
  have hcomp : comp = (xD X).1 1 := Option.some.inj (k3.symm.trans hcls.1)
  subst hcomp
  obtain ⟨kC, hkC, -⟩ := hcls.2
  refine W.aast C.1 C.2.1 (hH.1 _ _ he) (fun q h => by cases h) (fun h => by cases h) k1 k2 rfl hkC ⟨fun q => h1 (Or.inl q), by show _ < (arrV _ _ _).slots.size; rw [arrV_size, h2]; exact hkn⟩ g1 (fun q h => by rw [g3] at h; cases h) (by rw [g2]; exact hkC) (by rw [g2]; exact va_assign hcls) rfl rfl hd fun H1 e1 z1 oq => ?_
  refine h p e s m args below meth c0 C H1 _ cells slots ls (zstore (r' := up2 g.2.1 a k (some v)) (I' := I) (J' := J) hH hk (fun q hq => up2_row g.2.1 _ hq) (fun _ _ => rfl) (fun _ _ => rfl) ?_ z1 oq) (hS.put z1 oq (ksh_spec hk).1) hc hs hl
  show H1[a]? = some (vp_cell (xC X 4) (n, .inr (.inr (.inr (.inr (up2 g.2.1 a k (some v) a))))))
  rw [e1]
  rw [vp_cell_q, vp_cell_q, arrV_store, h2]
  congr 2
  funext q
  by_cases hq : q = k
  · subst hq
    rw [up2_same]
    simp [updV, va_rf]
  · rw [up2_ne _ _ (fun w => hq w.2)]
    simp [updV, hq]
theorem ZV_aastW {a n v : Nat} {z : Int} (k : Nat) (hd : decode (mC E) pc = .ok (.aastore, 1)) (hk : ksh X g a = some (.inr (5, n))) (hz : z = (k : Int)) (hkn : k < n) (hn : n ≤ 65536) (hv : ksh X g v = some (.inl 3))
    (h : ZV X E (pc + 1) L S b (g.1, up2 g.2.1 a k (some v), g.2.2) I J post) : ZV X E pc L (.ref v :: vi z :: .ref a :: S) b g I J post := by
  intro p e s m args below meth c0 C H locs cells slots ls hH hS hc hs hl
  obtain ⟨h1, h2⟩ := zin hz hkn hn
  have he : (mWd X g I J)[a - xB X]? = some (a, .inl (xC X 5, n, .inr (.inr (.inr (.inr (g.2.1 a)))))) := mWd_get hk
  have hK := C.2.2.2.2.2.2.2.2.1
  obtain ⟨r', hr', cellV, g1, g2, g3, -⟩ := hH.1 _ _ (mWd_get (I := I) (J := J) hv)
  have hcls := (hK.1 3 _ (zc_vw 3 (by decide))).2
  obtain ⟨kA, comp, k1, k2, k3, -⟩ := (hK.2 5 _ (xT_get X (by decide))).2
  have hcomp : comp = (xD X).1 3 := Option.some.inj (k3.symm.trans hcls.1)
  subst hcomp
  obtain ⟨kC, hkC, -⟩ := hcls.2
  refine W.aast C.1 C.2.1 (hH.1 _ _ he) (fun q h => by cases h) (fun h => by cases h) k1 k2 rfl hkC ⟨fun q => h1 (Or.inl q), by show _ < (arrV _ _ _).slots.size; rw [arrV_size, h2]; exact hkn⟩ g1 (fun q h => by rw [g3] at h; cases h) (by rw [g2]; exact hkC) (by rw [g2]; exact va_assign hcls) rfl rfl hd fun H1 e1 z1 oq => ?_
  refine h p e s m args below meth c0 C H1 _ cells slots ls (zstore (r' := up2 g.2.1 a k (some v)) (I' := I) (J' := J) hH hk (fun q hq => up2_row g.2.1 _ hq) (fun _ _ => rfl) (fun _ _ => rfl) ?_ z1 oq) (hS.put z1 oq (ksh_spec hk).1) hc hs hl
  show H1[a]? = some (vp_cell (xC X 5) (n, .inr (.inr (.inr (.inr (up2 g.2.1 a k (some v) a))))))
  rw [e1]
  rw [vp_cell_q, vp_cell_q, arrV_store, h2]
  congr 2
  funext q
  by_cases hq : q = k
  · subst hq
    rw [up2_same]
    simp [updV, va_rf]
  · rw [up2_ne _ _ (fun w => hq w.2)]
    simp [updV, hq]
end ZM1
