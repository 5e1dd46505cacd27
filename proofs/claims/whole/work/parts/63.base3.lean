/-! methods with a table of handlers: their beginning, the catching row, their call -/
section FYH
variable {p : Program} {l : Launch} {e : Env} {R : Room} {s : State} {m : MethodId} {args : Array Value} {below : List Frame} {meth : Method} {c : Code} {H : Heap} {locs : List Loc} {cells slots : Nat} {Q : State → Prop}
variable {s0 : State} {D : va_G} {cl : List vw_C} {A : Nat → Prop} {tys : List (ClassId × FieldType)} {ws wc : va_W} {post : Option Value → va_W → Prop} {pc : Nat} {ls : Array Slot} {rest st0 : List Value}
variable {cc bytes : ByteArray} {nL maxL n index : Nat} {Ts wl wl' : List Cond} {own E : String} {y : MethodName} {ret : Option FieldType} {rm : Room} {As : List Value} {mc ms : Nat} {hh : List (Nat × Nat × Nat × Nat)}
theorem fy_more {c' s' : Nat} {g : JFrame} (hc : cells ≤ c') (hs : slots ≤ s') (h : W p l e R s m args below meth c H locs c' s' Q g) : W p l e R s m args below meth c H locs cells slots Q g := fun T hT X =>
  h T hT ⟨X.admits, X.cas, X.clock, X.frames, X.room, X.hears, X.method, X.code, X.here, X.tail, X.warmed, X.limits, X.bytes, X.same.mono hc hs⟩
def fy_ent (x : ExceptionTableEntry) : Nat × Nat × Nat × Nat := (x.startPc, x.endPc, x.handlerPc, x.catchType)
/-- E is no nm -/
def fy_no (s : State) (E nm : String) : Prop := ∃ kE kN : ClassId, s.vm.findClass E = some kE ∧ s.vm.findClass nm = some kN ∧ s.vm.assignable kE kN = false
theorem fy_no.mv {s0 U : State} {E nm : String} (hW : s0.WarmedH U.vm) (h : fy_no s0 E nm) : fy_no U E nm := by
  obtain ⟨a, b, h1, h2, h3⟩ := h
  exact ⟨a, b, by rw [hW.alike.findClass]; exact h1, by rw [hW.alike.findClass]; exact h2, by rw [hW.alike.assignable]; exact h3⟩
theorem fy_catchT {name : String} {q : Addr} {ce : Cell} {pre' suf' : List (Nat × Nat × Nat × Nat)} {a b h ct : Nat} (hown : s.vm.findClass own = some m.cls) (hT : c.exceptionTable.toList.map fy_ent = pre' ++ (a, b, h, ct) :: suf') (hcov : a ≤ pc ∧ pc < b) (h0 : ct ≠ 0)
    (hpass : ∀ z ∈ pre', (z.1 ≤ pc ∧ pc < z.2.1) ∧ z.2.2.2 ≠ 0 ∧ ∃ nm : String, (Cond.classLink own z.2.2.2 nm).before args s = true ∧ fy_no s E nm) (hlink : (Cond.classLink own ct name).before args s = true) (hcast : (Cond.castable E name).before args s = true) (hcell : H[q]? = some ce) (hv : ce.vm = .none) (hcl : s.vm.findClass E = some ce.cls)
    (kk : W p l e R s m args below meth c H locs cells slots Q (F0 m h ls [.ref q])) : fy_Th p l e R s m args below meth c H locs cells slots Q (F0 m pc ls rest) q := by
  obtain ⟨pre, r1, e1, e2, e3⟩ := List.map_eq_append_iff.mp hT
  obtain ⟨x, suf, f1, f2, f3⟩ := List.map_eq_cons_iff.mp e3
  subst f1
  have g1 : x.startPc = a := congrArg (fun z => z.1) f2
  have g2 : x.endPc = b := congrArg (fun z => z.2.1) f2
  have g3 : x.handlerPc = h := congrArg (fun z => z.2.2.1) f2
  have g4 : x.catchType = ct := congrArg (fun z => z.2.2.2) f2
  subst g1; subst g2; subst g3; subst g4
  refine fy_catch (E := E) hown pre x suf e1 (fun z hz => ?_) (by simp [covers, hcov]) h0 hlink hcast hcell hv hcl kk
  obtain ⟨h1, h2, nm, h3, kE, kN, h4, h5, h6⟩ := hpass (fy_ent z) (by rw [← e2]; exact List.mem_map_of_mem hz)
  exact ⟨by simp [covers]; exact h1, h2, nm, h3, kE, kN, h4, h5, h6⟩
theorem fy_inW {av : List Value} (hy : plainName y.cls = true) (hw : wl = Cond.codeWith y bytes maxL ret hh :: wl') (hnav : (lg_sl av).length ≤ maxL) (hK0 : va_K D cl tys s0) (hG : ∀ w ∈ Ts, w.before #[] s0 = true) (hgd : ∀ w ∈ Ts, goodWord w = true)
    (body : ∀ (p : Program) (e : Env) (s : State) (m : MethodId) (below : List Frame) (meth : Method) (c : Code) (A : Nat → Prop) (ls : Array Slot),
      p.tables.exec = Jvm.exec → c.code = bytes → meth.sig.returnType = ret → c.exceptionTable.toList.map fy_ent = hh → meth.locks = false → c.maxLocals = maxL → s.vm.findClass y.cls = some m.cls → (∀ w ∈ Ts, w.before av.toArray s = true) → va_K D cl tys s → fy_La s0 s → A = va_A ws s.heap.size → (∀ q, A q → fy_B s0 q) → (∀ q, s.heap.size ≤ q → A q) → lv_has ls maxL (lv_args 0 av) → va_P D cl ws s.heap → va_D A ws → va_S A s.heap s.heap [] →
      W p l e rm s m av.toArray below meth c s.heap [] 0 0 (MQ below (fy_Qc D cl s.heap.size ws post) av.toArray s mc ms A) (F0 m 0 ls [])) : fy_Met l s0 D cl y wl rm mc ms av ws post := by
  intro sz
  refine va_MetW (cc := bytes) (maxL := maxL) (ret := ret) (hh := hh) hy hw ?_
  intro p e s m args below meth c s₁ B hml hv
  obtain ⟨rfl, hLa, rfl, hP, hD0⟩ := hv
  have hex : c.exceptionTable.toList.map fy_ent = hh := by
    obtain ⟨m9, meth9, c9, hn9, h1, h2, -, -, h5, -, -, -⟩ := Cond.codeWith_spec (atoms_spec (ws := wl) B.pre _ (by rw [hw]; exact List.mem_cons_self))
    cases Option.some.inj (hn9.symm.trans B.named)
    cases Option.some.inj (h1.symm.trans B.method)
    cases Option.some.inj (h2.symm.trans (Stand.of_body B).code)
    exact h5
  rw [lg_entry_eq]
  exact body p e s m below meth c (va_A ws s.heap.size) _ B.exec B.bytes B.returns hex B.notSynchronized hml (findClass_of_methodNamed B.named) (fun w hw => word_at hLa.1 (good_of_word (hgd w hw)) (hG w hw)) (va_K.moved hLa.1.alike hK0) hLa rfl
    (fun q h => by
      rcases h with ⟨k, z, h⟩ | h
      · exact hD0.2 k (q, z) h
      · exact Nat.le_trans hLa.2.1 h) (fun q h => Or.inr h) (lv_entry av hnav) hP hD0.self va_S.rf
/-- invokestatic of such a method, which may make cells -/
theorem fy_callSW (S : CallFix p m c cc nL s args Ts own) (hM : fy_Met l s0 D cl y wl rm mc ms As wc post) (hw : Cond.codeWith y bytes maxL ret hh ∈ wl) (hG : GoodIn Ts wl) (hrc : rm.cells = mc) (hrs : rm.slots = ms) (hR : rm.frames + 1 ≤ R.frames ∧ 8 + (maxL + 11) + rm.locals ≤ R.locals) (hl : (Cond.methodLink own index y).before args s = true) (hst : (Cond.static y).before args s = true) (hini : (Cond.initialized y.cls).before args s = true)
    (hd : y.cls ≠ "java/lang/invoke/MethodHandle" ∧ y.cls ≠ "java/lang/invoke/VarHandle" ∧ (parseMethodDescriptor y.desc).map (fun d => d.parameters.length) = some As.length) (hLa : fy_La s0 s) (hAB : ∀ q, A q → fy_B s0 q) (hA : ∀ q, s.heap.size ≤ q → A q) (hP : va_P D cl ws H) (hD : va_D A ws) (hS : va_S A s.heap H locs)
    (is : List Nat) (hnd : va_nd is = true) (hC : is.map (fun i => ws[i]?) = wc.map some) (hsize : ls.size = nL) (hstack : st0 = As.reverse ++ rest) (hW : (rest.map fun v => v.category).sum ≤ 8) (hdg : decode cc pc = .ok (.invokestatic index, 3)) (hcs : cells + mc ≤ R.cells ∧ slots + ms ≤ R.slots)
    (kk : ∀ (r : Option Value) (w1 : va_W) (H1 : Heap) (locs1 : List Loc), post r w1 → va_P D cl (fy_put ws is w1) H1 → va_D A (fy_put ws is w1) → va_S A s.heap H1 locs1 → W p l e R s m args below meth c H1 locs1 (cells + mc) (slots + ms) Q (F0 m (pc + 3) ls (r.toList ++ rest))) : W p l e R s m args below meth c H locs cells slots Q (F0 m pc ls st0) := by
  obtain ⟨hx, hb, hml, ho, hts⟩ := S
  have hrun : va_Run p l e R s m args below meth c H locs cells slots mc ms (F0 m pc ls st0) rest (fy_Qc D cl H.size wc post As.toArray) (va_A wc H.size) := by
    intro T hT X
    have hcode0 := hts _ (hG _ hw).1
    obtain ⟨mk, methM, cM, hnamed, hmethM, -, -, -, -, -, -, hsigM⟩ := Cond.codeWith_spec hcode0
    have hstatic : methM.isStatic = true := Cond.static_spec hnamed hmethM hst
    obtain ⟨kP, hkP, -⟩ := className_of_methodNamed hnamed
    have hinitP : kP.init = .initialized := Cond.initialized_spec (findClass_of_methodNamed hnamed) hkP hini
    have hlen : As.length = methM.sig.parameters.length := by
      have h2 := hd.2.2
      rw [hsigM] at h2
      exact (Option.some.inj h2).symm
    obtain ⟨vm₁, X₁, hstep⟩ := X.invokestatic hx ho hl hnamed hmethM hstatic hkP hinitP ⟨hd.1, hd.2.1⟩ (g := F0 m pc ls st0) rfl (argsL := As) (rest := rest) hlen hstack (by rw [hb]; exact hdg)
    have hW₁ : s.WarmedH (T.setVm vm₁).vm := X₁.warmed
    have hK : Back l R p e below s args y 3 8 (PreOf R mc ms (fy_Pc s0 D cl H.size As wc)) (PostOf (fy_Qc D cl H.size wc post) mc ms (va_A wc H.size)) := va_backW (hM H.size) fy_blind hrc hrs hR.1 hR.2 (pay_in hts hG) hw (fun a' U hW => word_at hW (Or.inl (by first | rfl | simp [Cond.onTables, Cond.keeps, Cond.steady])) hini)
    obtain ⟨v, ⟨U', l2, c2, s2⟩, X', ⟨g', mk', t, L, e1, e2, hq, h1, hL, h2, h3⟩, st⟩ := hK m meth c ⟨T.setVm vm₁, locs, cells, slots⟩ { F0 m pc ls st0 with stack := rest } (.invokestatic index) mk As.toArray X₁ rfl (hsize.trans hml.symm) (by rw [hb]; exact hdg) (lv_room hW) (X₁.named hnamed) ⟨hcs.1, hcs.2, fy_pre hLa hAB hP hD hS is hnd hC hT hW₁⟩
    dsimp only [Pt.U, Pt.locs, Pt.cells, Pt.slots] at X' e1 e2 h1 h2 h3 st
    subst h1; subst h2; subst h3
    exact ⟨v, (T.setVm vm₁).calling g' mk' As.toArray, t, U', L, hT, X', hL, e1, e2, hq, fun t2 a => hstep _ fun acts => by rw [doInvoke_state]; exact st.trans a⟩
  exact fy_go hrun hP hD hS hA is hnd hC kk
end FYH
