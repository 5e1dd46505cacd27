/-! exceptions: a method that throws; its caller; the catching row (launches without stack traces) -/
section FYX
/-- q is thrown over the frame g -/
def fy_Th (p : Program) (l : Launch) (e : Env) (R : Room) (s : State) (m : MethodId) (args : Array Value) (below : List Frame) (meth : Method) (c : Code) (H : Heap) (locs : List Loc) (cells slots : Nat) (Q : State → Prop) (g : JFrame) (q : Addr) : Prop :=
  ∀ T : State, T.heap = H → Stand p l e R s m args below meth c T locs cells slots → ∃ t, Steps p.tables e below ((T.setTop g).pushFrame (.throwing q)) t ∧ Q t
/-- what a method that throws an E has done: one cell is new, its world is as it was -/
def fy_XQ (D : va_G) (cl : List vw_C) (sz : Nat) (ws : va_W) (E : String) : Array Value → State → Outcome → State → Prop := fun _ st o t =>
  (∃ (q : Addr) (ce : Cell) (L : List Loc), o = .threw q ∧ t.heap[q]? = some ce ∧ ce.vm = .none ∧ st.vm.findClass E = some ce.cls ∧ st.WarmedH t.vm ∧ st.sameButNew ({ t with vm := st.vm } : State) L 1 6 ∧ ∀ z ∈ L, va_A ws sz z.base) ∧ va_P D cl ws t.heap ∧ va_F (va_A ws sz) st t
def fy_X (l : Launch) (s0 : State) (D : va_G) (cl : List vw_C) (y : MethodName) (wl : List Cond) (rm : Room) (av : List Value) (ws : va_W) (E : String) : Prop :=
  ∀ sz : Nat, MetFree l y (headSpec wl rm) (fy_Pc s0 D cl sz av ws) (fun _ _ _ _ _ => True) (fy_XQ D cl sz ws E)
def fy_rx (d : Nat) : Room := { frames := 6 + d, cells := 1, slots := 6, locals := 100 + 40 * d }
/-- the end of such a body -/
def fy_XE (below : List Frame) (D : va_G) (cl : List vw_C) (sz : Nat) (ws : va_W) (E : String) (args : Array Value) (s : State) : State → Prop := fun t => ∃ o, t.status = .running ∧ Ended t below o ∧ fy_XQ D cl sz ws E args s o t
variable {p : Program} {l : Launch} {e : Env} {R : Room} {s : State} {m : MethodId} {args : Array Value} {below : List Frame} {meth : Method} {c : Code} {H : Heap} {locs : List Loc} {cells slots : Nat} {Q : State → Prop}
variable {s0 : State} {D : va_G} {cl : List vw_C} {A : Nat → Prop} {tys : List (ClassId × FieldType)} {ws wc : va_W} {pc : Nat} {ls : Array Slot} {rest st0 : List Value}
variable {cc bytes : ByteArray} {nL maxL n index ci q0 : Nat} {Ts wl : List Cond} {own C : String} {y : MethodName} {ret : Option FieldType} {rm : Room} {b : Nat} {As : List Value} {fs : List Value} {vq : vw_C}
theorem fy_threw {U : State} {sz len : Nat} {g : JFrame} {ig : Instr} {mk : MethodId} {av : List Value} {E : String} (X : Stand p l e R s m args below meth c U locs cells slots) (hM : MetFree l y (headSpec wl rm) (fy_Pc s0 D cl sz av wc) (fun _ _ _ _ _ => True) (fy_XQ D cl sz wc E))
    (hg : g.method = m) (hsize : g.locals.size = c.maxLocals) (hdg : decode c.code g.pc = .ok (ig, len)) (hW : 2 * g.monitorRoom + (g.stack.map fun v => v.category).sum ≤ 8) (hn : U.methodNamed? y = some mk) (hfr : rm.frames + 1 ≤ R.frames) (hlo : 8 + (maxL + 11) + rm.locals ≤ R.locals) (hc1 : cells + rm.cells ≤ R.cells) (hs1 : slots + rm.slots ≤ R.slots)
    (hpre : ∀ w ∈ wl, w.before av.toArray U = true) (hcode : (Cond.code y bytes maxL ret).before av.toArray U = true) (hini : (Cond.initialized y.cls).before av.toArray U = true) (hPc : fy_Pc s0 D cl sz av wc av.toArray U) :
    ∃ (q : Addr) (ce : Cell) (L : List Loc) (T' : State), Stand p l e R s m args below meth c T' (locs ++ L) (cells + 1) (slots + 6) ∧ (∀ z ∈ L, va_A wc sz z.base) ∧ T'.heap[q]? = some ce ∧ ce.vm = .none ∧ U.vm.findClass E = some ce.cls ∧ va_P D cl wc T'.heap ∧ va_F (va_A wc sz) U T' ∧
      Steps p.tables e below (doInvoke e (U.setTop g) [] mk av.toArray).1 ((T'.setTop g).pushFrame (.throwing q)) := by
  have hat : At U g.method c below := by rw [hg]; exact X.here
  obtain ⟨methY, cY, hmY, hcY, -, hlY, -, -, -, -⟩ := Cond.code_spec hn hcode
  obtain ⟨kY, hkY, -⟩ := className_of_methodNamed hn
  have hiY : kY.init = .initialized := Cond.initialized_spec (findClass_of_methodNamed hn) hkY hini
  have hlo' : 8 + (maxL + 11) + (headSpec wl rm).room.locals ≤ R.locals := hlo
  have happ : (headSpec wl rm).appliesLoose y e.platform (U.calling g mk av.toArray) = true :=
    Spec.appliesLoose_calling (g := g) hat hdg hn hkY hiY (X.room_calling (g := g) (R' := (headSpec wl rm).room) hsize hmY hcY hfr (by rw [hlY]; omega) hc1 hs1) (atoms_intro hpre)
  obtain ⟨mid, hmid⟩ := hat.above
  have hff : (U.setTop g).frames = (.java g :: mid) ++ below := by rw [State.frames_setTop' g hat.top, hmid]; rfl
  obtain ⟨o, t, hst, -, hend, hq⟩ := Steps.callFree hM p X.admits X.cas X.clock (acts := []) hff happ (fy_blind _ _ g mk hPc) trivial
  obtain ⟨⟨q, ce, L, rfl, h1, h2, h3, h4, h5, h6⟩, h7, h8⟩ := (show fy_XQ D cl sz wc E av.toArray (U.calling g mk av.toArray) o t from hq)
  rw [State.frames_setTop' g hat.top] at hend
  have hft : t.frames = .throwing q :: .java g :: U.frames.tail := hend
  obtain ⟨e2, q2, q3, q4, q5, q6⟩ := id h5
  have hWt : U.WarmedH t.vm := h4
  obtain ⟨g₀, hg0⟩ := Option.isSome_iff_exists.mp hat.top
  obtain ⟨r, hr⟩ := State.topJava?_eq_some.mp hg0
  have hsame : U.sameButNew ({ U with heap := t.heap, slotsUsed := t.slotsUsed } : State) L 1 6 := by
    refine ⟨?_, q2, q3, q4, q5, q6⟩
    obtain ⟨z, hz, -⟩ := State.frames_cons hr
    show ({ U with heap := t.heap, slotsUsed := t.slotsUsed } : State) = { U.setFrames U.frames with heap := t.heap, slotsUsed := t.slotsUsed }
    rw [State.setFrames_self hz]
  have ht : t = ((({ U with heap := t.heap, slotsUsed := t.slotsUsed } : State).setVm t.vm).setTop g).pushFrame (.throwing q) := by
    have hr' : (({ U with heap := t.heap, slotsUsed := t.slotsUsed } : State).setVm t.vm).frames = .java g₀ :: r := hr
    have e3 : t = ({ t with vm := (U.calling g mk av.toArray).vm } : State).setVm t.vm := rfl
    rw [e2] at e3
    refine e3.trans ?_
    rw [State.pushFrame, State.frames_setTop _ hr', State.setTop_of_frames _ hr', State.setFrames_setFrames]
    show (({ (U.calling g mk av.toArray).setFrames t.frames with heap := t.heap, slotsUsed := t.slotsUsed } : State).setVm t.vm) = _
    rw [hft, State.calling_eq hat.top, State.setFrames_setFrames, hr]
    rfl
  subst hg
  refine ⟨q, ce, L, ({ U with heap := t.heap, slotsUsed := t.slotsUsed } : State).setVm t.vm, X.moved ((X.here.setHeapUsed t.heap t.slotsUsed).setVm hWt.alike) X.tail rfl rfl hWt hsame, h6, h1, h2, h3, h7, h8, ?_⟩
  rw [← ht]
  exact hst
/-- a static call of a method that throws -/
theorem fy_thS {E : String} (S : CallFix p m c cc nL s args Ts own) (hM : fy_X l s0 D cl y wl rm As wc E) (hw : Cond.code y bytes maxL ret ∈ wl) (hG : GoodIn Ts wl) (hR : rm.frames + 1 ≤ R.frames ∧ 8 + (maxL + 11) + rm.locals ≤ R.locals) (hcs : cells + rm.cells ≤ R.cells ∧ slots + rm.slots ≤ R.slots) (hl : (Cond.methodLink own index y).before args s = true) (hst : (Cond.static y).before args s = true) (hini : (Cond.initialized y.cls).before args s = true)
    (hd : y.cls ≠ "java/lang/invoke/MethodHandle" ∧ y.cls ≠ "java/lang/invoke/VarHandle" ∧ (parseMethodDescriptor y.desc).map (fun d => d.parameters.length) = some As.length) (hLa : fy_La s0 s) (hAB : ∀ q, A q → fy_B s0 q) (hA : ∀ q, s.heap.size ≤ q → A q) (hP : va_P D cl ws H) (hD : va_D A ws) (hS : va_S A s.heap H locs)
    (is : List Nat) (hnd : va_nd is = true) (hC : is.map (fun i => ws[i]?) = wc.map some) (hsize : ls.size = nL) (hstack : st0 = As.reverse ++ rest) (hW : (rest.map fun v => v.category).sum ≤ 8) (hdg : decode cc pc = .ok (.invokestatic index, 3))
    (kk : ∀ (q : Addr) (ce : Cell) (H1 : Heap) (locs1 : List Loc), H1[q]? = some ce → ce.vm = .none → s.vm.findClass E = some ce.cls → va_P D cl (fy_put ws is wc) H1 → va_S A s.heap H1 locs1 → fy_Th p l e R s m args below meth c H1 locs1 (cells + 1) (slots + 6) Q (F0 m pc ls rest) q) : W p l e R s m args below meth c H locs cells slots Q (F0 m pc ls st0) := by
  obtain ⟨hx, hb, hml, ho, hts⟩ := S
  intro T hT X
  have hcode0 := hts _ (hG _ hw).1
  obtain ⟨mk, hnamed⟩ := Cond.code_named hcode0
  obtain ⟨methM, cM, hmethM, -, -, -, -, -, -, hsigM⟩ := Cond.code_spec hnamed hcode0
  have hstatic : methM.isStatic = true := Cond.static_spec hnamed hmethM hst
  obtain ⟨kP, hkP, -⟩ := className_of_methodNamed hnamed
  have hinitP : kP.init = .initialized := Cond.initialized_spec (findClass_of_methodNamed hnamed) hkP hini
  have hlen : As.length = methM.sig.parameters.length := by
    have h2 := hd.2.2
    rw [hsigM] at h2
    exact (Option.some.inj h2).symm
  obtain ⟨vm₁, X₁, hstep⟩ := X.invokestatic hx ho hl hnamed hmethM hstatic hkP hinitP ⟨hd.1, hd.2.1⟩ (g := F0 m pc ls st0) rfl (argsL := As) (rest := rest) hlen hstack (by rw [hb]; exact hdg)
  have hW₁ : s.WarmedH (T.setVm vm₁).vm := X₁.warmed
  have hpay := pay_in hts hG
  obtain ⟨q, ce, L, T', X', hL, h1, h2, h3, h4, h5, h6⟩ := fy_threw (g := { F0 m pc ls st0 with stack := rest }) (bytes := bytes) (maxL := maxL) (ret := ret) X₁ (hM H.size) rfl (hsize.trans hml.symm) (by rw [hb]; exact hdg) (lv_room hW) (X₁.named hnamed) hR.1 hR.2 hcs.1 hcs.2
    (fun w hw => hpay w hw _ _ hW₁) (hpay _ hw _ _ hW₁) (word_at hW₁ (Or.inl (by first | rfl | simp [Cond.onTables, Cond.keeps, Cond.steady])) hini) (fy_pre hLa hAB hP hD hS is hnd hC hT hW₁)
  have hz : H.size ≤ T'.heap.size := by rw [← hT]; exact h5.1
  have hk : ∀ q : Nat, q < H.size → ¬ va_A wc H.size q → T'.heap[q]? = H[q]? := fun q a1 a2 => by rw [h5.2 q (by rw [← hT] at a1; exact a1) a2]; show T.heap[q]? = _; rw [hT]
  have hfr := va_free hD hS hA is hC
  obtain ⟨hP', -⟩ := fy_frame hP hD is hnd hC (List.Perm.refl _) hk h4
  obtain ⟨t2, a1, b1⟩ := kk q ce T'.heap (locs ++ L) h1 h2 (by have h9 : (T.setVm vm₁).vm.findClass E = some ce.cls := h3; rw [hW₁.alike.findClass] at h9; exact h9) hP' ⟨Nat.le_trans hS.1 hz, fun q a1 a2 => by rw [hk q (Nat.lt_of_lt_of_le a1 hS.1) (fun z => a2 (hfr q z))]; exact hS.2.1 q a1 a2, fun q hq => by
      rcases List.mem_append.mp hq with h | h
      · exact hS.2.2 q h
      · exact hfr _ (hL q h)⟩ T' rfl X'
  exact ⟨t2, hstep _ fun acts => by rw [doInvoke_state]; exact h6.trans a1, b1⟩
/-- a virtual call of a method that throws -/
theorem fy_thV {E : String} (S : CallFix p m c cc nL s args Ts own) (hM : fy_X l s0 D cl y wl rm (.ref b :: As) wc E) (hw : Cond.code y bytes maxL ret ∈ wl) (hG : GoodIn Ts wl) (hR : rm.frames + 1 ≤ R.frames ∧ 8 + (maxL + 11) + rm.locals ≤ R.locals) (hcs : cells + rm.cells ≤ R.cells ∧ slots + rm.slots ≤ R.slots) (hl : (Cond.methodLink own index y).before args s = true) (hin : (Cond.instanceMethod y).before args s = true) (hse : (Cond.selects C y y).before args s = true) (hini : (Cond.initialized y.cls).before args s = true)
    (hd : y.cls ≠ "java/lang/invoke/MethodHandle" ∧ y.cls ≠ "java/lang/invoke/VarHandle" ∧ (parseMethodDescriptor y.desc).map (fun d => d.parameters.length) = some As.length) (hK : va_K D cl tys s) (hLa : fy_La s0 s) (hAB : ∀ q, A q → fy_B s0 q) (hA : ∀ q, s.heap.size ≤ q → A q) (hP : va_P D cl ws H) (hD : va_D A ws) (hS : va_S A s.heap H locs)
    (is : List Nat) (hnd : va_nd is = true) (hC : is.map (fun i => ws[i]?) = wc.map some) (hc : cl[ci]? = some vq) (hq : vq.1 = C) (he : ws[q0]? = some (b, .inr (ci, fs))) (hsize : ls.size = nL) (hstack : st0 = As.reverse ++ .ref b :: rest) (hW : (rest.map fun v => v.category).sum ≤ 8) (hdg : decode cc pc = .ok (.invokevirtual index, 3))
    (kk : ∀ (q : Addr) (ce : Cell) (H1 : Heap) (locs1 : List Loc), H1[q]? = some ce → ce.vm = .none → s.vm.findClass E = some ce.cls → va_P D cl (fy_put ws is wc) H1 → va_S A s.heap H1 locs1 → fy_Th p l e R s m args below meth c H1 locs1 (cells + 1) (slots + 6) Q (F0 m pc ls rest) q) : W p l e R s m args below meth c H locs cells slots Q (F0 m pc ls st0) := by
  obtain ⟨hx, hb, hml, ho, hts⟩ := S
  intro T hT X
  have hcode0 := hts _ (hG _ hw).1
  obtain ⟨mk, methM, hnamed, hmethM, hstM, habM⟩ := Cond.instanceMethod_spec hin
  obtain ⟨methM', cM, hmethM', -, -, -, -, -, -, hsigM⟩ := Cond.code_spec hnamed hcode0
  cases hmethM.symm.trans hmethM'
  obtain ⟨c2, r2, m2, w1, w2, w3, w4, kP, hkP, hkPi⟩ := Cond.selects_spec hse
  obtain ⟨cellB, hcB, hoB, hclB⟩ := va_recv hK hP hc he
  rw [hq] at hclB
  cases hclB.symm.trans w1
  cases (State.methodFound?_of_named hnamed ⟨hd.1, hd.2.1⟩).symm.trans w2
  cases hnamed.symm.trans w3
  have hselP : selectMethod e.platform s.vm cellB.cls mk = .method mk := by rw [Launch.admits_selectMethod X.admits]; exact w4
  have hlen : As.length = methM.sig.parameters.length := by
    have h2 := hd.2.2
    rw [hsigM] at h2
    exact (Option.some.inj h2).symm
  obtain ⟨vm₁, X₁, hstep⟩ := X.invokevirtual hx ho hl hnamed hmethM hstM hkP hkPi ⟨hd.1, hd.2.1⟩ (a := b) (cell := cellB) (by rw [hT]; exact hcB) (fun z h => by rw [h] at hoB; cases hoB) hselP hmethM habM hkP hkPi (g := F0 m pc ls st0) rfl (argsL := As) (rest := rest) hlen hstack (by rw [hb]; exact hdg)
  have hW₁ : s.WarmedH (T.setVm vm₁).vm := X₁.warmed
  have hpay := pay_in hts hG
  obtain ⟨q, ce, L, T', X', hL, h1, h2, h3, h4, h5, h6⟩ := fy_threw (g := { F0 m pc ls st0 with stack := rest }) (bytes := bytes) (maxL := maxL) (ret := ret) X₁ (hM H.size) rfl (hsize.trans hml.symm) (by rw [hb]; exact hdg) (lv_room hW) (X₁.named hnamed) hR.1 hR.2 hcs.1 hcs.2
    (fun w hw => hpay w hw _ _ hW₁) (hpay _ hw _ _ hW₁) (word_at hW₁ (Or.inl (by first | rfl | simp [Cond.onTables, Cond.keeps, Cond.steady])) hini) (fy_pre hLa hAB hP hD hS is hnd hC hT hW₁)
  have hz : H.size ≤ T'.heap.size := by rw [← hT]; exact h5.1
  have hk : ∀ q : Nat, q < H.size → ¬ va_A wc H.size q → T'.heap[q]? = H[q]? := fun q a1 a2 => by rw [h5.2 q (by rw [← hT] at a1; exact a1) a2]; show T.heap[q]? = _; rw [hT]
  have hfr := va_free hD hS hA is hC
  obtain ⟨hP', -⟩ := fy_frame hP hD is hnd hC (List.Perm.refl _) hk h4
  obtain ⟨t2, a1, b1⟩ := kk q ce T'.heap (locs ++ L) h1 h2 (by have h9 : (T.setVm vm₁).vm.findClass E = some ce.cls := h3; rw [hW₁.alike.findClass] at h9; exact h9) hP' ⟨Nat.le_trans hS.1 hz, fun q a1 a2 => by rw [hk q (Nat.lt_of_lt_of_le a1 hS.1) (fun z => a2 (hfr q z))]; exact hS.2.1 q a1 a2, fun q hq => by
      rcases List.mem_append.mp hq with h | h
      · exact hS.2.2 q h
      · exact hfr _ (hL q h)⟩ T' rfl X'
  exact ⟨t2, hstep _ fun acts => by rw [doInvoke_state]; exact h6.trans a1, b1⟩
/-- no row of this method's table covers it: it leaves -/
theorem fy_leave {sz : Nat} {E : String} {q : Addr} {ce : Cell} (hAe : A = va_A ws sz) (hout : ∀ x ∈ c.exceptionTable.toList, False) (hlocks : meth.locks = false) (hcell : H[q]? = some ce) (hv : ce.vm = .none) (hcl : s.vm.findClass E = some ce.cls) (hP : va_P D cl ws H) (hS : va_S A s.heap H locs) (hc : cells ≤ 1) (hs : slots ≤ 6) :
    fy_Th p l e R s m args below meth c H locs cells slots (fy_XE below D cl sz ws E args s) (F0 m pc ls rest) q := by
  subst hAe
  intro T hT X
  obtain ⟨st1, hrun, hend, hW, hsm⟩ := X.leaveThrown q (g := F0 m pc ls rest) rfl rfl rfl (fun x hx => (hout x hx).elim) hlocks
  exact ⟨_, st1, .threw q, hrun, hend, ⟨q, ce, locs, rfl, by show T.heap[q]? = _; rw [hT]; exact hcell, hv, hcl, hW, hsm.mono hc hs, hS.2.2⟩, by show va_P D cl ws T.heap; rw [hT]; exact hP, hS.F hT⟩
end FYX
