section ZM0
variable {X : Xt} {E : Me} {pc : Nat} {L : List (Option Value)} {S : List Value} {b : Nat × Nat} {g : Geo} {I J : Mm} {post : Out → Geo → Mm → Mm → Prop}
/-- an index within an array -/
theorem zin {z : Int} {k n : Nat} (hz : z = (k : Int)) (hk : k < n) (hn : n ≤ 65536) : vp_in (i32 z) n ∧ (i32 z).toNatClampNeg = k := by
  have h1 := i32_nat hz (by omega)
  exact ⟨fun q => q.elim (i32_nneg hz (by omega)) (fun q => by rw [h1] at q; omega), h1⟩
theorem ZV_iald {a n : Nat} {z : Int} (k : Nat) (hd : decode (mC E) pc = .ok (.iaload, 1)) (hk : ksh X g a = some (.inr (0, n))) (hz : z = (k : Int)) (hkn : k < n) (hn : n ≤ 65536)
    (h : ZV X E (pc + 1) L (vi (I a k) :: S) b g I J post) : ZV X E pc L (vi z :: .ref a :: S) b g I J post := by
  intro p e s m args below meth c0 C H locs cells slots ls hH hS hc hs hl
  obtain ⟨h1, h2⟩ := zin hz hkn hn
  have he : (mWd X g I J)[a - xB X]? = some (a, .inl (xC X 0, n, .inl (fun q => i32 (I a q)))) := mWd_get hk
  refine va_iald C.1 C.2.1 C.2.2.2.2.2.2.2.2.1 hH.1 (a - xB X) 0 he (xT_get X (by decide)) h1 hd ?_
  rw [h2]
  exact h p e s m args below meth c0 C H locs cells slots ls hH hS hc hs hl
theorem ZV_cald {a n : Nat} {z : Int} (k : Nat) (hd : decode (mC E) pc = .ok (.caload, 1)) (hk : ksh X g a = some (.inr (2, n))) (hz : z = (k : Int)) (hkn : k < n) (hn : n ≤ 65536)
    (h : ZV X E (pc + 1) L (vi (I a k) :: S) b g I J post) : ZV X E pc L (vi z :: .ref a :: S) b g I J post := by
  intro p e s m args below meth c0 C H locs cells slots ls hH hS hc hs hl
  obtain ⟨h1, h2⟩ := zin hz hkn hn
  have he : (mWd X g I J)[a - xB X]? = some (a, .inl (xC X 2, n, .inl (fun q => i32 (I a q)))) := mWd_get hk
  refine va_cald C.1 C.2.1 C.2.2.2.2.2.2.2.2.1 hH.1 (a - xB X) 2 he (xT_get X (by decide)) h1 hd ?_
  rw [h2]
  exact h p e s m args below meth c0 C H locs cells slots ls hH hS hc hs hl
theorem ZV_zald {a n : Nat} {z : Int} (k : Nat) (hd : decode (mC E) pc = .ok (.baload, 1)) (hk : ksh X g a = some (.inr (3, n))) (hz : z = (k : Int)) (hkn : k < n) (hn : n ≤ 65536)
    (h : ZV X E (pc + 1) L (vi (I a k) :: S) b g I J post) : ZV X E pc L (vi z :: .ref a :: S) b g I J post := by
  intro p e s m args below meth c0 C H locs cells slots ls hH hS hc hs hl
  obtain ⟨h1, h2⟩ := zin hz hkn hn
  have he : (mWd X g I J)[a - xB X]? = some (a, .inl (xC X 3, n, .inl (fun q => i32 (I a q)))) := mWd_get hk
  refine va_zald C.1 C.2.1 C.2.2.2.2.2.2.2.2.1 hH.1 (a - xB X) 3 he (xT_get X (by decide)) h1 hd ?_
  rw [h2]
  exact h p e s m args below meth c0 C H locs cells slots ls hH hS hc hs hl
theorem ZV_lald {a n : Nat} {z : Int} (k : Nat) (hd : decode (mC E) pc = .ok (.laload, 1)) (hk : ksh X g a = some (.inr (1, n))) (hz : z = (k : Int)) (hkn : k < n) (hn : n ≤ 65536)
    (h : ZV X E (pc + 1) L (vl (J a k) :: S) b g I J post) : ZV X E pc L (vi z :: .ref a :: S) b g I J post := by
  intro p e s m args below meth c0 C H locs cells slots ls hH hS hc hs hl
  obtain ⟨h1, h2⟩ := zin hz hkn hn
  have he : (mWd X g I J)[a - xB X]? = some (a, .inl (xC X 1, n, .inr (.inl (fun q => i64 (J a q))))) := mWd_get hk
  refine va_lald C.1 C.2.1 C.2.2.2.2.2.2.2.2.1 hH.1 (a - xB X) 1 he (xT_get X (by decide)) h1 hd ?_
  rw [h2]
  exact h p e s m args below meth c0 C H locs cells slots ls hH hS hc hs hl
theorem ZV_aaldS {a n r : Nat} {z : Int} (k : Nat) (hd : decode (mC E) pc = .ok (.aaload, 1)) (hk : ksh X g a = some (.inr (4, n))) (hz : z = (k : Int)) (hkn : k < n) (hn : n ≤ 65536) (hr : g.2.1 a k = some r)
    (h : ZV X E (pc + 1) L (.ref r :: S) b g I J post) : ZV X E pc L (vi z :: .ref a :: S) b g I J post := by
  intro p e s m args below meth c0 C H locs cells slots ls hH hS hc hs hl
  obtain ⟨h1, h2⟩ := zin hz hkn hn
  have he : (mWd X g I J)[a - xB X]? = some (a, .inl (xC X 4, n, .inr (.inr (.inr (.inr (g.2.1 a)))))) := mWd_get hk
  refine va_aldq (C := RX3) C.1 C.2.1 C.2.2.2.2.2.2.2.2.1 hH.1 (a - xB X) 4 he (xT_get X (by decide)) h1 hd ?_
  rw [h2, hr]
  exact h p e s m args below meth c0 C H locs cells slots ls hH hS hc hs hl
theorem ZV_aaldW {a n r : Nat} {z : Int} (k : Nat) (hd : decode (mC E) pc = .ok (.aaload, 1)) (hk : ksh X g a = some (.inr (5, n))) (hz : z = (k : Int)) (hkn : k < n) (hn : n ≤ 65536) (hr : g.2.1 a k = some r)
    (h : ZV X E (pc + 1) L (.ref r :: S) b g I J post) : ZV X E pc L (vi z :: .ref a :: S) b g I J post := by
  intro p e s m args below meth c0 C H locs cells slots ls hH hS hc hs hl
  obtain ⟨h1, h2⟩ := zin hz hkn hn
  have he : (mWd X g I J)[a - xB X]? = some (a, .inl (xC X 5, n, .inr (.inr (.inr (.inr (g.2.1 a)))))) := mWd_get hk
  refine va_aldq (C := RX5) C.1 C.2.1 C.2.2.2.2.2.2.2.2.1 hH.1 (a - xB X) 5 he (xT_get X (by decide)) h1 hd ?_
  rw [h2, hr]
  exact h p e s m args below meth c0 C H locs cells slots ls hH hS hc hs hl
end ZM0
