section ZM4
variable {X : Xt} {E : Me} {pc : Nat} {L : List (Option Value)} {S : List Value} {b : Nat × Nat} {g : Geo} {I J : Mm} {post : Out → Geo → Mm → Mm → Prop}
theorem ZV_iret {z : Int} (hd : decode (mC E) pc = .ok (.ireturn, 1)) (hr : mR E = some .int) (h : post (.inl (some (vi z))) g I J) : ZV X E pc L [vi z] b g I J post := by
  intro p e s m args below meth c0 C H locs cells slots ls hH hS hc hs hl
  refine W.widen (k := (mB E).1) (n := (mB E).2) (by omega) (by omega) (vx_ret (W.iret (v := i32 z) C.1 C.2.1 (C.2.2.2.2.2.1.trans hr) (fun t ht _ => ⟨_, g, I, J, rfl, h, by rw [ht]; exact hH, hS.F ht⟩) hS.2.2 hd C.2.2.2.2.2.2.1))
theorem ZV_lret {z : Int} (hd : decode (mC E) pc = .ok (.lreturn, 1)) (hr : mR E = some .long) (h : post (.inl (some (vl z))) g I J) : ZV X E pc L [vl z] b g I J post := by
  intro p e s m args below meth c0 C H locs cells slots ls hH hS hc hs hl
  refine W.widen (k := (mB E).1) (n := (mB E).2) (by omega) (by omega) (vx_ret (W.lret (v := i64 z) C.1 C.2.1 (C.2.2.2.2.2.1.trans hr) (fun t ht _ => ⟨_, g, I, J, rfl, h, by rw [ht]; exact hH, hS.F ht⟩) hS.2.2 hd C.2.2.2.2.2.2.1))
theorem ZV_vret (hd : decode (mC E) pc = .ok (.return_, 1)) (hr : mR E = none) (h : post (.inl (none)) g I J) : ZV X E pc L [] b g I J post := by
  intro p e s m args below meth c0 C H locs cells slots ls hH hS hc hs hl
  refine W.widen (k := (mB E).1) (n := (mB E).2) (by omega) (by omega) (vx_ret (W.vret C.1 C.2.1 (C.2.2.2.2.2.1.trans hr) (fun t ht _ => ⟨_, g, I, J, rfl, h, by rw [ht]; exact hH, hS.F ht⟩) hS.2.2 hd C.2.2.2.2.2.2.1))
theorem ZV_zret {z : Int} (hd : decode (mC E) pc = .ok (.ireturn, 1)) (hr : mR E = some .boolean) (hz : z = 0 ∨ z = 1) (h : post (.inl (some (vi z))) g I J) : ZV X E pc L [vi z] b g I J post := by
  intro p e s m args below meth c0 C H locs cells slots ls hH hS hc hs hl
  refine W.widen (k := (mB E).1) (n := (mB E).2) (by omega) (by omega) (vx_ret (W.zret (v := i32 z) (ty := .boolean) C.1 C.2.1 (C.2.2.2.2.2.1.trans hr) (narrow_bool hz) (fun t ht _ => ⟨_, g, I, J, rfl, h, by rw [ht]; exact hH, hS.F ht⟩) hS.2.2 hd C.2.2.2.2.2.2.1))
end ZM4
