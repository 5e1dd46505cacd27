/-! longs, marks, numbers within bounds -/
section FYD
variable {p : Program} {l : Launch} {e : Env} {R : Room} {s : State} {m : MethodId} {args : Array Value} {below : List Frame} {meth : Method} {c : Code} {H : Heap} {locs : List Loc} {cells slots : Nat} {Q : State → Prop}
variable {D : va_G} {cl : List vw_C} {A : Nat → Prop} {tys : List (ClassId × FieldType)} {ws : va_W} {pc : Nat} {ls : Array Slot} {rest : List Value} {cc : ByteArray} {b : Nat}
theorem fy_lald {t0 k N : Nat} {cA : ClassId} {f : Nat → Int64} {v : Int64} (hx : p.tables.exec = Jvm.exec) (hb : c.code = cc) (hK : va_K D cl tys s) (hP : va_P D cl ws H) (q0 : Nat) (ha : ws[q0]? = some (b, .inl (cA, N, .inr (.inl f)))) (ht : tys[t0]? = some (cA, .long)) (hN : N < 2 ^ 31) (hk : k < N) (hv : f k = v) (hdg : decode cc pc = .ok (.laload, 1))
    (kk : W p l e R s m args below meth c H locs cells slots Q (F0 m (pc + 1) ls (.long v :: rest))) : W p l e R s m args below meth c H locs cells slots Q (F0 m pc ls (.int (nI k) :: .ref b :: rest)) := by
  refine va_lald hx hb hK hP q0 t0 ha ht (vp_in_nI hk hN) hdg ?_
  rw [nI_clamp (by omega), hv]
  exact kk
theorem fy_last {t0 k N : Nat} {cA : ClassId} {f g : Nat → Int64} {x : Int64} {H0 : Heap} (hx : p.tables.exec = Jvm.exec) (hb : c.code = cc) (hK : va_K D cl tys s) (hP : va_P D cl ws H) (hD : va_D A ws) (hS : va_S A H0 H locs) (q0 : Nat) (ha : ws[q0]? = some (b, .inl (cA, N, .inr (.inl f)))) (ht : tys[t0]? = some (cA, .long)) (hN : N < 2 ^ 31) (hk : k < N) (hg : vp_updL f k x = g) (hdg : decode cc pc = .ok (.lastore, 1))
    (kk : ∀ (H1 : Heap) (locs1 : List Loc), va_P D cl (ws.set q0 (b, .inl (cA, N, .inr (.inl g)))) H1 → va_D A (ws.set q0 (b, .inl (cA, N, .inr (.inl g)))) → va_S A H0 H1 locs1 → W p l e R s m args below meth c H1 locs1 cells slots Q (F0 m (pc + 1) ls rest)) : W p l e R s m args below meth c H locs cells slots Q (F0 m pc ls (.long x :: .int (nI k) :: .ref b :: rest)) := by
  refine va_last hx hb hK hP hD hS q0 t0 ha ht (vp_in_nI hk hN) hdg ?_
  rw [nI_clamp (by omega), hg]
  exact kk
theorem fy_zast {t0 k N : Nat} {cA : ClassId} {f g : Nat → Int32} {x : Int32} {H0 : Heap} (hx : p.tables.exec = Jvm.exec) (hb : c.code = cc) (hK : va_K D cl tys s) (hP : va_P D cl ws H) (hD : va_D A ws) (hS : va_S A H0 H locs) (q0 : Nat) (ha : ws[q0]? = some (b, .inl (cA, N, .inl f))) (ht : tys[t0]? = some (cA, .boolean)) (hN : N < 2 ^ 31) (hk : k < N) (hz : x = 0 ∨ x = 1) (hg : upd f k x = g) (hdg : decode cc pc = .ok (.bastore, 1))
    (kk : ∀ (H1 : Heap) (locs1 : List Loc), va_P D cl (ws.set q0 (b, .inl (cA, N, .inl g))) H1 → va_D A (ws.set q0 (b, .inl (cA, N, .inl g))) → va_S A H0 H1 locs1 → W p l e R s m args below meth c H1 locs1 cells slots Q (F0 m (pc + 1) ls rest)) : W p l e R s m args below meth c H locs cells slots Q (F0 m pc ls (.int x :: .int (nI k) :: .ref b :: rest)) := by
  refine va_zast hx hb hK hP hD hS q0 t0 ha ht (vp_in_nI hk hN) hdg ?_
  have e1 : vp_nar .boolean x = x := by rcases hz with rfl | rfl <;> decide
  rw [nI_clamp (by omega), e1, hg]
  exact kk
theorem fy_lcmp {x y : Int64} (hx : p.tables.exec = Jvm.exec) (hb : c.code = cc) (hz : x = y) (hdg : decode cc pc = .ok (.lcmp, 1))
    (k : W p l e R s m args below meth c H locs cells slots Q (F0 m (pc + 1) ls (.int 0 :: rest))) : W p l e R s m args below meth c H locs cells slots Q (F0 m pc ls (.long y :: .long x :: rest)) := by
  subst hz
  intro T hT X
  obtain ⟨t, a, b⟩ := k T hT X
  refine ⟨t, ?_, b⟩
  jvm_step X.here [X.here.top, hx, hb, hdg]
  exact a
def fy_ok (b : Nat) (r : Int32) : Prop := 0 ≤ r ∧ r < nI b
theorem fy_ok.nat {b : Nat} {r : Int32} (h : fy_ok b r) (hb : b < 2 ^ 31) : ∃ k, k < b ∧ r = nI k := by
  obtain ⟨k, hk, hr⟩ : ∃ k : Nat, k < 2 ^ 31 ∧ r = nI k := by
    refine ⟨r.toNatClampNeg, ?_, ?_⟩
    · exact Int32.toNatClampNeg_lt r
    · exact (Int32.ofNat_toNatClampNeg r h.1).symm
  subst hr
  exact ⟨k, (nI_ltI hk hb).mp h.2, rfl⟩
theorem fy_ok.of {b k : Nat} (hk : k < b) (hb : b < 2 ^ 31) : fy_ok b (nI k) := ⟨nI_pos' (by omega), (nI_ltI (by omega) hb).mpr hk⟩
end FYD
