/-! what every contract takes as given: the tables at the run's start s0; a loop -/
section FYC
def fy_G (s0 : State) (D : va_G) (cI cZ cJ cW : ClassId) : Prop := (∀ w ∈ lw_tbl, w.before #[] s0 = true) ∧ va_K D vwCl (fy_tys cI cZ cJ cW) s0
theorem fy_G.ts {s0 : State} {D : va_G} {cI cZ cJ cW : ClassId} (h : fy_G s0 D cI cZ cJ cW) : ∀ w ∈ fy_T, w.before #[] s0 = true := fun w hw => h.1 w (List.mem_filter.mp hw).1
variable {l : Launch} {s0 : State} {D : va_G} {cI cZ cJ cW : ClassId} {y : MethodName} {wl wl' : List Cond} {bytes : ByteArray} {maxL : Nat} {ret : Option FieldType} {rm : Room} {mc ms : Nat} {av : List Value} {ws : va_W} {post : Option Value → va_W → Prop} {E : String}
theorem fy_st (hG : fy_G s0 D cI cZ cJ cW) (hy : plainName y.cls = true) (hw : wl = Cond.code y bytes maxL ret :: wl') (hnav : (lg_sl av).length ≤ maxL)
    (body : ∀ (p : Program) (e : Env) (s : State) (m : MethodId) (below : List Frame) (meth : Method) (c : Code) (A : Nat → Prop) (ls : Array Slot),
      p.tables.exec = Jvm.exec → c.code = bytes → meth.sig.returnType = ret → meth.locks = false → c.maxLocals = maxL → s.vm.findClass y.cls = some m.cls → (∀ w ∈ fy_T, w.before av.toArray s = true) → va_K D vwCl (fy_tys cI cZ cJ cW) s → fy_La s0 s → A = va_A ws s.heap.size → (∀ q, A q → fy_B s0 q) → (∀ q, s.heap.size ≤ q → A q) → lv_has ls maxL (lv_args 0 av) → va_P D vwCl ws s.heap → va_D A ws → va_S A s.heap s.heap [] →
      W p l e rm s m av.toArray below meth c s.heap [] 0 0 (MQ below (fy_Qc D vwCl s.heap.size ws post) av.toArray s mc ms A) (F0 m 0 ls [])) : fy_Met l s0 D vwCl y wl rm mc ms av ws post := fy_in hy hw hnav hG.2 hG.ts fy_T_good body
theorem fy_xst (hG : fy_G s0 D cI cZ cJ cW) (hy : plainName y.cls = true) (hw : wl = Cond.code y bytes maxL ret :: wl') (hnav : (lg_sl av).length ≤ maxL)
    (body : ∀ (p : Program) (e : Env) (s : State) (m : MethodId) (below : List Frame) (meth : Method) (c : Code) (A : Nat → Prop) (ls : Array Slot),
      p.tables.exec = Jvm.exec → c.code = bytes → (∀ x ∈ c.exceptionTable.toList, False) → meth.locks = false → c.maxLocals = maxL → s.vm.findClass y.cls = some m.cls → (∀ w ∈ fy_T, w.before av.toArray s = true) → va_K D vwCl (fy_tys cI cZ cJ cW) s → fy_La s0 s → A = va_A ws s.heap.size → (∀ q, A q → fy_B s0 q) → (∀ q, s.heap.size ≤ q → A q) → lv_has ls maxL (lv_args 0 av) → va_P D vwCl ws s.heap → va_D A ws → va_S A s.heap s.heap [] →
      W p l e rm s m av.toArray below meth c s.heap [] 0 0 (fy_XE below D vwCl s.heap.size ws E av.toArray s) (F0 m 0 ls [])) : fy_X l s0 D vwCl y wl rm av ws E := fy_xin hy hw hnav hG.2 hG.ts fy_T_good body
end FYC
section FYL
variable {p : Program} {l : Launch} {e : Env} {R : Room} {s : State} {m : MethodId} {args : Array Value} {below : List Frame} {meth : Method} {c : Code} {cells slots : Nat} {Q : State → Prop}
/-- a loop, by a number that falls -/
theorem fy_loop {σ : Type} (I : Nat → σ → Array Slot → Heap → List Loc → Prop) {pc : Nat} (body : ∀ (n : Nat) (x : σ) (ls : Array Slot) (H : Heap) (locs : List Loc), I n x ls H locs → (∀ (n' : Nat) (x' : σ) (ls' : Array Slot) (H' : Heap) (locs' : List Loc), n' < n → I n' x' ls' H' locs' → W p l e R s m args below meth c H' locs' cells slots Q (F0 m pc ls' [])) → W p l e R s m args below meth c H locs cells slots Q (F0 m pc ls []))
    (n : Nat) (x : σ) {ls : Array Slot} {H : Heap} {locs : List Loc} (h : I n x ls H locs) : W p l e R s m args below meth c H locs cells slots Q (F0 m pc ls []) := by
  have key : ∀ (N n : Nat) (x : σ) (ls : Array Slot) (H : Heap) (locs : List Loc), n < N → I n x ls H locs → W p l e R s m args below meth c H locs cells slots Q (F0 m pc ls []) := by
    intro N
    induction N with
    | zero => intro n x ls H locs hn; exact absurd hn (Nat.not_lt_zero n)
    | succ N ih =>
      intro n x ls H locs hn hI
      exact body n x ls H locs hI (fun n' x' ls' H' locs' hlt h' => ih n' x' ls' H' locs' (by omega) h')
  exact key (n + 1) n x ls H locs (Nat.lt_succ_self n) h
variable {H : Heap} {locs : List Loc} {D : va_G} {cl : List vw_C} {A : Nat → Prop} {tys : List (ClassId × FieldType)} {ws : va_W} {pc : Nat} {ls : Array Slot} {rest : List Value} {cc : ByteArray} {own : String} {index : Nat}
/-- System.arraycopy between rows of ints -/
theorem fy_copy {a a0 sp dp n n0 n1 t0 : Nat} {cA : ClassId} {f g : Nat → Int32} {H0 : Heap} (hx : p.tables.exec = Jvm.exec) (hb : c.code = cc) (hml : c.maxLocals = ls.size) (hown : s.vm.findClass own = some m.cls) (hlink : (Cond.methodLink own index arraycopyName).before args s = true) (hnat : (Cond.native arraycopyName).before args s = true) (hstat : (Cond.static arraycopyName).before args s = true) (hini : (Cond.initialized "java/lang/System").before args s = true)
    (hK : va_K D cl tys s) (hP : va_P D cl ws H) (hD : va_D A ws) (hS : va_S A H0 H locs) (q0 q1 : Nat) (ha0 : ws[q0]? = some (a0, .inl (cA, n0, .inl f))) (ha1 : ws[q1]? = some (a, .inl (cA, n1, .inl g))) (ht0 : tys[t0]? = some (cA, .int)) (hn0 : n0 < 2 ^ 31) (hn1 : n1 < 2 ^ 31) (h4 : sp + n ≤ n0) (h5 : dp + n ≤ n1)
    (hframes : 1 ≤ R.frames) (hlocals : (rest.map fun v => v.category).sum + (nativeFrameWords "java/lang/System" "arraycopy" 5 + 11) ≤ R.locals) (hdg : decode cc pc = .ok (.invokestatic index, 3))
    (kk : ∀ (H1 : Heap) (locs1 : List Loc), va_P D cl (ws.set q1 (a, .inl (cA, n1, .inl (va_cpy f g sp dp n)))) H1 → va_D A (ws.set q1 (a, .inl (cA, n1, .inl (va_cpy f g sp dp n)))) → va_S A H0 H1 locs1 → W p l e R s m args below meth c H1 locs1 cells slots Q (F0 m (pc + 3) ls rest)) : W p l e R s m args below meth c H locs cells slots Q (F0 m pc ls (.int (nI n) :: .int (nI dp) :: .ref a :: .int (nI sp) :: .ref a0 :: rest)) := by
  have e1 : (nI sp).toNatClampNeg = sp := nI_clamp (by omega)
  have e2 : (nI dp).toNatClampNeg = dp := nI_clamp (by omega)
  have e3 : (nI n).toNatClampNeg = n := nI_clamp (by omega)
  refine va_copyi hx hb hml hown hlink hnat hstat hini hK hP hD hS q0 q1 t0 t0 ha0 ha1 ht0 ht0 rfl (nI_pos (by omega)) (nI_pos (by omega)) (nI_pos (by omega)) (by rw [e1, e3]; exact h4) (by rw [e2, e3]; exact h5) (fun _ _ => rfl) hframes hlocals hdg ?_
  rw [e1, e2, e3]
  exact kk
end FYL
theorem fy_Met.weak {l : Launch} {s0 : State} {D : va_G} {cl : List vw_C} {y : MethodName} {wl : List Cond} {rm : Room} {mc ms : Nat} {av : List Value} {ws : va_W} {post post' : Option Value → va_W → Prop} (h : fy_Met l s0 D cl y wl rm mc ms av ws post) (hp : ∀ r w1, post r w1 → post' r w1) : fy_Met l s0 D cl y wl rm mc ms av ws post' := by
  intro sz p e ha hc hk s m args below hf happ hP hK
  obtain ⟨n, o, h1, h2, h3, ⟨⟨⟨r, w1, g1, g2, g3, g4⟩, g5⟩, h5⟩⟩ := h sz p e ha hc hk s m args below hf happ hP hK
  exact ⟨n, o, h1, h2, h3, ⟨⟨r, w1, g1, hp r w1 g2, g3, g4⟩, g5⟩, h5⟩
