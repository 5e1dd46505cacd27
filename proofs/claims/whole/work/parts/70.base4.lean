/-! constructors: what they make joins the world -/
section FYK
def fy_Qn (D : va_G) (cl : List vw_C) (sz : Nat) (ws : va_W) (post : Option Value → va_W → Prop) : Array Value → State → Outcome → State → Prop := fun _ st oc t =>
  (∃ (r : Option Value) (w1 : va_W), oc = .returned r ∧ post r w1 ∧ va_D (va_A ws sz) w1 ∧ va_P D cl w1 t.heap) ∧ va_F (va_A ws sz) st t
def fy_Mn (l : Launch) (s0 : State) (D : va_G) (cl : List vw_C) (y : MethodName) (wl : List Cond) (rm : Room) (mc ms : Nat) (av : List Value) (ws : va_W) (post : Option Value → va_W → Prop) : Prop :=
  ∀ sz : Nat, Met l y wl rm (fy_Pc s0 D cl sz av ws) (fy_Qn D cl sz ws post) mc ms (va_A ws sz)
variable {p : Program} {l : Launch} {e : Env} {R : Room} {s : State} {m : MethodId} {args : Array Value} {below : List Frame} {meth : Method} {c : Code} {H : Heap} {locs : List Loc} {cells slots : Nat} {Q : State → Prop}
variable {s0 : State} {D : va_G} {cl : List vw_C} {A : Nat → Prop} {tys : List (ClassId × FieldType)} {ws wc wr : va_W} {post : Option Value → va_W → Prop} {pc : Nat} {ls : Array Slot} {rest st0 : List Value}
theorem fy_gon {a : Array Value} {mc ms : Nat} (hr : va_Run p l e R s m args below meth c H locs cells slots mc ms (F0 m pc ls st0) rest (fy_Qn D cl H.size wc post a) (va_A wc H.size)) (hP : va_P D cl ws H) (hD : va_D A ws) (hS : va_S A s.heap H locs) (hA : ∀ q, s.heap.size ≤ q → A q) (isC isR : List Nat) (hC : isC.map (fun i => ws[i]?) = wc.map some) (hR : isR.map (fun i => ws[i]?) = wr.map some) (hn : va_nd isR = true) (hdis : ∀ i ∈ isR, i ∉ isC)
    (kk : ∀ (r : Option Value) (w1 : va_W) (H1 : Heap) (locs1 : List Loc), post r w1 → va_P D cl (wr ++ w1) H1 → va_D A (wr ++ w1) → va_S A s.heap H1 locs1 → W p l e R s m args below meth c H1 locs1 (cells + mc) (slots + ms) Q (F0 m (pc + 3) ls (r.toList ++ rest))) : W p l e R s m args below meth c H locs cells slots Q (F0 m pc ls st0) := by
  intro T hT X
  obtain ⟨v, st₀, t, T', L, h0, X', hL, e1, e2, ⟨⟨r, w1, hv, hp, hD1, hP1⟩, hz, hk⟩, st⟩ := hr T hT X
  cases hv
  rw [h0] at hz hk
  have hfr := va_free hD hS hA isC hC
  obtain ⟨hP', hD'⟩ := va_join hP hD isC isR hC hR hn hdis hk hfr hP1 hD1
  obtain ⟨t2, a1, b1⟩ := kk _ w1 t.heap (locs ++ L) hp hP' hD' ⟨Nat.le_trans hS.1 hz, fun q h1 h2 => by rw [hk q (Nat.lt_of_lt_of_le h1 hS.1) (fun z => h2 (hfr q z))]; exact hS.2.1 q h1 h2, fun q hq => by
      rcases List.mem_append.mp hq with h | h
      · exact hS.2.2 q h
      · exact hfr _ (hL q h)⟩ T' e1 X'
  exact ⟨t2, st t2 a1, b1⟩
variable {cc bytes : ByteArray} {nL maxL n index : Nat} {Ts wl wl' : List Cond} {own host : String} {y : MethodName} {rm : Room} {b : Nat} {As : List Value} {mc ms : Nat}
/-- invokespecial of a constructor -/
theorem fy_ctI (S : CallFix p m c cc nL s args Ts own) (hM : fy_Mn l s0 D cl y wl rm mc ms (.ref b :: As) wc post) (cw : CallB R s args own index y bytes maxL none wl rm mc ms n ∧ y.name = "<init>" ∧ (Cond.instanceMethod y).before args s = true) (hLa : fy_La s0 s) (hAB : ∀ q, A q → fy_B s0 q) (hA : ∀ q, s.heap.size ≤ q → A q) (hP : va_P D cl ws H) (hD : va_D A ws) (hS : va_S A s.heap H locs)
    (isC isR : List Nat) (hnd : va_nd isC = true) (hC : isC.map (fun i => ws[i]?) = wc.map some) (hR : isR.map (fun i => ws[i]?) = wr.map some) (hn0 : va_nd isR = true) (hdis : ∀ i ∈ isR, i ∉ isC) (hn : As.length = n) (hsize : ls.size = nL) (hstack : st0 = As.reverse ++ .ref b :: rest) (hW : (rest.map fun v => v.category).sum ≤ 8) (hdg : decode cc pc = .ok (.invokespecial index, 3)) (hcs : cells + mc ≤ R.cells ∧ slots + ms ≤ R.slots)
    (kk : ∀ (r : Option Value) (w1 : va_W) (H1 : Heap) (locs1 : List Loc), post r w1 → va_P D cl (wr ++ w1) H1 → va_D A (wr ++ w1) → va_S A s.heap H1 locs1 → W p l e R s m args below meth c H1 locs1 (cells + mc) (slots + ms) Q (F0 m (pc + 3) ls (r.toList ++ rest))) : W p l e R s m args below meth c H locs cells slots Q (F0 m pc ls st0) :=
  fy_gon (va_runI (g := F0 m pc ls st0) S (hM H.size) cw ⟨fy_blind, fun U hU hW => fy_pre hLa hAB hP hD hS isC hnd hC hU hW⟩ rfl hn hsize hstack (lv_room hW) hdg hcs) hP hD hS hA isC isR hC hR hn0 hdis kk
theorem fy_ctN (S : CallFix p m c cc nL s args Ts own) (hM : fy_Mn l s0 D cl y wl rm mc ms (.ref b :: As) wc post) (cw : va_CN R s args own index y host bytes maxL none wl rm mc ms n ∧ y.name = "<init>" ∧ (Cond.instanceMethod y).before args s = true) (hLa : fy_La s0 s) (hAB : ∀ q, A q → fy_B s0 q) (hA : ∀ q, s.heap.size ≤ q → A q) (hP : va_P D cl ws H) (hD : va_D A ws) (hS : va_S A s.heap H locs)
    (isC isR : List Nat) (hnd : va_nd isC = true) (hC : isC.map (fun i => ws[i]?) = wc.map some) (hR : isR.map (fun i => ws[i]?) = wr.map some) (hn0 : va_nd isR = true) (hdis : ∀ i ∈ isR, i ∉ isC) (hn : As.length = n) (hsize : ls.size = nL) (hstack : st0 = As.reverse ++ .ref b :: rest) (hW : (rest.map fun v => v.category).sum ≤ 8) (hdg : decode cc pc = .ok (.invokespecial index, 3)) (hcs : cells + mc ≤ R.cells ∧ slots + ms ≤ R.slots)
    (kk : ∀ (r : Option Value) (w1 : va_W) (H1 : Heap) (locs1 : List Loc), post r w1 → va_P D cl (wr ++ w1) H1 → va_D A (wr ++ w1) → va_S A s.heap H1 locs1 → W p l e R s m args below meth c H1 locs1 (cells + mc) (slots + ms) Q (F0 m (pc + 3) ls (r.toList ++ rest))) : W p l e R s m args below meth c H locs cells slots Q (F0 m pc ls st0) :=
  fy_gon (va_runIN (g := F0 m pc ls st0) S (hM H.size) cw ⟨fy_blind, fun U hU hW => fy_pre hLa hAB hP hD hS isC hnd hC hU hW⟩ rfl hn hsize hstack (lv_room hW) hdg hcs) hP hD hS hA isC isR hC hR hn0 hdis kk
/-- the end of a constructor -/
theorem fy_retn {w1 : va_W} {sz : Nat} (hx : p.tables.exec = Jvm.exec) (hb : c.code = cc) (hr : meth.sig.returnType = none) (hlocks : meth.locks = false) (hAe : A = va_A ws sz) (hpost : post none w1) (hP : va_P D cl w1 H) (hD : va_D A w1) (hS : va_S A s.heap H locs) (hdg : decode cc pc = .ok (.return_, 1)) :
    W p l e R s m args below meth c H locs cells slots (MQ below (fy_Qn D cl sz ws post) args s cells slots A) (F0 m pc ls []) := by
  subst hAe
  exact W.vret hx hb hr (fun t ht _ => ⟨⟨_, w1, rfl, hpost, hD, by rw [ht]; exact hP⟩, hS.F ht⟩) hS.2.2 hdg
theorem fy_stn {cI cZ cJ cW : ClassId} {av : List Value} (hG : fy_G s0 D cI cZ cJ cW) (hy : plainName y.cls = true) (hyn : y.name = "<init>") (hw : wl = Cond.code y bytes maxL none :: wl') (hnav : (lg_sl av).length ≤ maxL)
    (body : ∀ (p : Program) (e : Env) (s : State) (m : MethodId) (below : List Frame) (meth : Method) (c : Code) (A : Nat → Prop) (ls : Array Slot),
      p.tables.exec = Jvm.exec → c.code = bytes → meth.sig.returnType = none → meth.locks = false → meth.name = "<init>" → c.maxLocals = maxL → s.vm.findClass y.cls = some m.cls → (∀ w ∈ fy_T, w.before av.toArray s = true) → va_K D vwCl (fy_tys cI cZ cJ cW) s → fy_La s0 s → A = va_A ws s.heap.size → (∀ q, A q → fy_B s0 q) → (∀ q, s.heap.size ≤ q → A q) → lv_has ls maxL (lv_args 0 av) → va_P D vwCl ws s.heap → va_D A ws → va_S A s.heap s.heap [] →
      W p l e rm s m av.toArray below meth c s.heap [] 0 0 (MQ below (fy_Qn D vwCl s.heap.size ws post) av.toArray s mc ms A) (F0 m 0 ls [])) : fy_Mn l s0 D vwCl y wl rm mc ms av ws post := by
  intro sz
  refine Met.ofW (cc := bytes) (maxL := maxL) (ret := none) hy hw ?_
  intro p e s m args below meth c s₁ B hml hv
  obtain ⟨rfl, hLa, rfl, hP, hD0⟩ := hv
  have hin : meth.name = "<init>" := (name_of_methodNamed B.named B.method).1.trans hyn
  rw [lg_entry_eq]
  exact body p e s m below meth c (va_A ws s.heap.size) _ B.exec B.bytes B.returns B.notSynchronized hin hml (findClass_of_methodNamed B.named) (fun w hw => word_at hLa.1 (good_of_word (fy_T_good w hw)) (hG.ts w hw)) (va_K.moved hLa.1.alike hG.2) hLa rfl
    (fun q h => by
      rcases h with ⟨k, z, h⟩ | h
      · exact hD0.2 k (q, z) h
      · exact Nat.le_trans hLa.2.1 h) (fun q h => Or.inr h) (lv_entry av hnav) hP hD0.self va_S.rf
/-- new rows of numbers: their class is the one that is known -/
theorem fy_newa {atype : ArrayType} {ty : FieldType} {t0 N' : Nat} {cT : ClassId} {a0 : vp_A} {H0 : Heap} (hx : p.tables.exec = Jvm.exec) (hb : c.code = cc) (harr : (Cond.arrayClass (newarray.typeOf atype)).before args s = true) (hty : newarray.typeOf atype = ty) (hK : va_K D cl tys s) (hP : va_P D cl ws H) (hD : va_D A ws) (hS : va_S A H0 H locs) (hA : ∀ q, H0.size ≤ q → A q) (ht : tys[t0]? = some (cT, ty)) (hra : ∀ cA, va_RA s cA ty → s.vm.findClass ("[" ++ ty.toString) = some cA)
    (ha : ∀ cA : ClassId, vp_cell cA a0 = arrV cA N' (fun _ => defaultValue ty)) (hN : N' < 2 ^ 20) (hcells : cells + 1 ≤ R.cells) (hslots : slots + N' ≤ R.slots) (hbytes : N' * componentBytes ty ≤ 536870912) (hdg : decode cc pc = .ok (.newarray atype, 2))
    (kk : ∀ (q : Nat) (H1 : Heap), va_P D cl (ws ++ [(q, .inl (cT, a0))]) H1 → va_D A (ws ++ [(q, .inl (cT, a0))]) → va_S A H0 H1 locs → W p l e R s m args below meth c H1 locs (cells + 1) (slots + N') Q (F0 m (pc + 2) ls (.ref q :: rest))) : W p l e R s m args below meth c H locs cells slots Q (F0 m pc ls (.int (nI N') :: rest)) := by
  refine va_newa hx hb harr hty hK hP hD hS hA ha (nI_pos (by omega)) (nI_clamp (by omega)) hbytes hcells hslots hdg (fun q cA H1 hK1 hP1 hD1 hS1 => ?_)
  have h1 := hra _ (hK1.2 tys.length (cA, ty) (by simp)).2
  have h2 := hra _ (hK.2 t0 (cT, ty) ht).2
  cases Option.some.inj (h1.symm.trans h2)
  exact kk q H1 hP1 hD1 hS1
theorem fy_newq {C : String} {t0 N' : Nat} {cT : ClassId} {H0 : Heap} (hx : p.tables.exec = Jvm.exec) (hb : c.code = cc) (hown : s.vm.findClass own = some m.cls) (hclink : (Cond.classLink own index C).before args s = true) (hover : va_AO C s) (hK : va_K D cl tys s) (hP : va_P D cl ws H) (hD : va_D A ws) (hS : va_S A H0 H locs) (hA : ∀ q, H0.size ≤ q → A q) (ht : tys[t0]? = some (cT, .object C)) (hN : N' < 2 ^ 20) (hcells : cells + 1 ≤ R.cells) (hslots : slots + N' ≤ R.slots) (hdg : decode cc pc = .ok (.anewarray index, 3))
    (kk : ∀ (q : Nat) (H1 : Heap), va_P D cl (ws ++ [(q, .inl (cT, N', .inr (.inr (.inr (.inr (fun _ => none))))))]) H1 → va_D A (ws ++ [(q, .inl (cT, N', .inr (.inr (.inr (.inr (fun _ => none))))))]) → va_S A H0 H1 locs → W p l e R s m args below meth c H1 locs (cells + 1) (slots + N') Q (F0 m (pc + 3) ls (.ref q :: rest))) : W p l e R s m args below meth c H locs cells slots Q (F0 m pc ls (.int (nI N') :: rest)) := by
  refine va_newq hx hb hown hclink hover hK hP hD hS hA (nI_pos (by omega)) (nI_clamp (by omega)) (by omega) hcells hslots hdg (fun q cA H1 hK1 hP1 hD1 hS1 => ?_)
  obtain ⟨-, -, -, -, -, h1⟩ := (hK1.2 tys.length (cA, .object C) (by simp)).2
  obtain ⟨-, -, -, -, -, h2⟩ := (hK.2 t0 (cT, .object C) ht).2
  cases Option.some.inj (h1.symm.trans h2)
  exact kk q H1 hP1 hD1 hS1
theorem fy_astq {t0 k N v ci : Nat} {cA : ClassId} {r : vw_C} {vs : List Value} {f : Nat → Option Nat} {H0 : Heap} (hx : p.tables.exec = Jvm.exec) (hb : c.code = cc) (hK : va_K D cl tys s) (hP : va_P D cl ws H) (hD : va_D A ws) (hS : va_S A H0 H locs) (q0 qk : Nat) (ha : ws[q0]? = some (b, .inl (cA, N, .inr (.inr (.inr (.inr f)))))) (ht : tys[t0]? = some (cA, .object r.1)) (hv : ws[qk]? = some (v, .inr (ci, vs))) (hc : cl[ci]? = some r) (hN : N < 2 ^ 31) (hk : k < N) (hdg : decode cc pc = .ok (.aastore, 1))
    (kk : ∀ (H1 : Heap) (locs1 : List Loc), va_P D cl (ws.set q0 (b, .inl (cA, N, .inr (.inr (.inr (.inr (va_up f k (some v)))))))) H1 → va_D A (ws.set q0 (b, .inl (cA, N, .inr (.inr (.inr (.inr (va_up f k (some v)))))))) → va_S A H0 H1 locs1 → W p l e R s m args below meth c H1 locs1 cells slots Q (F0 m (pc + 1) ls rest)) : W p l e R s m args below meth c H locs cells slots Q (F0 m pc ls (.ref v :: .int (nI k) :: .ref b :: rest)) := by
  refine va_astq hx hb hK hP hD hS q0 t0 qk ci ha ht hv hc (vp_in_nI hk hN) hdg ?_
  rw [nI_clamp (by omega)]
  exact kk
/-- a row of references, by what it holds -/
theorem fy_same {a k : Nat} {cA : ClassId} {N : Nat} {f g : Nat → Option Nat} (hP : va_P D cl ws H) (hk : ws[k]? = some (a, .inl (cA, N, .inr (.inr (.inr (.inr f)))))) (hfg : ∀ j, j < N → f j = g j) : va_P D cl (ws.set k (a, .inl (cA, N, .inr (.inr (.inr (.inr g)))))) H := by
  intro j q hj
  by_cases e : j = k
  · subst e
    have hlt := (List.getElem?_eq_some_iff.mp hk).1
    rw [List.getElem?_set_self hlt] at hj
    cases hj
    have h1 := hP j _ hk
    have h2 : H[a]? = some (vp_cell cA (N, .inr (.inr (.inr (.inr f))))) := h1
    show H[a]? = some (vp_cell cA (N, .inr (.inr (.inr (.inr g)))))
    rw [h2]
    congr 1
    rw [vp_cell_q, vp_cell_q]
    unfold arrV
    congr 1
    apply Array.ext
    · simp
    · intro i h1 h2
      simp at h1
      simp [hfg i h1]
  · rw [List.getElem?_set_ne (Ne.symm e)] at hj
    exact hP j q hj
end FYK
theorem k_nest_Wo : Cond.methodLinkNest "ForwardYard$Crew" 25 y_Wo_init "ForwardYard" ∈ lw_tbl := List.mem_of_getElem? (i := 50) rfl
theorem k_nest_Wa : Cond.methodLinkNest "ForwardYard" 25 y_Wa_init "ForwardYard" ∈ lw_tbl := List.mem_of_getElem? (i := 80) rfl
theorem k_nest_Sp : Cond.methodLinkNest "ForwardYard" 32 y_Sp_init "ForwardYard" ∈ lw_tbl := List.mem_of_getElem? (i := 96) rfl
theorem k_over_Wo : Cond.arrayOver (.object "ForwardYard$Worker") ∈ lw_tbl := List.mem_of_getElem? (i := 48) rfl
