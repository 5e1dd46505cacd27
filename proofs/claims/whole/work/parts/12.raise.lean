/-! words at a later state; 'throw new E("text")'; the catching row -/
section FYR
theorem fy_mv {s0 U : State} {a a' : Array Value} {w : Cond} (hW : s0.WarmedH U.vm) (hc : (w.onTables && w.keepsFace) = true) (h : w.before a s0 = true) : w.before a' U = true := by
  rw [Bool.and_eq_true] at hc
  have h1 := Cond.before_shiftedFace (State.Shifted.of_warmed hW) w hc.2 h
  rw [Cond.onTables_vm (A' := a') (U' := U) U.vm w hc.1, State.setVm_self] at h1
  exact h1
theorem fy_mvL {s0 U : State} {a a' : Array Value} {C n d : String} (h : fy_La s0 U) (hw : (Cond.laysStatic C n d).before a s0 = true) : (Cond.laysStatic C n d).before a' U = true := by
  obtain ⟨c, k, i, f, ad, cell, h1, h2, h3, h4, h5, h6, h7, h8, h9⟩ := Cond.laysStatic_spec hw
  obtain ⟨k', hi', he⟩ := State.fieldFound?_setVm h.1.alike h2
  have hc : U.heap[ad]? = some cell := (h.2.2 ad (Array.getElem?_eq_some_iff.mp h5).1).trans h5
  show (Cond.laysStatic C n d).holds a' U none U [] = true
  exact Cond.laysStatic_of (by rw [h.1.alike.findClass]; exact h1) hi' h3 (by rw [he]; exact h4) hc h6 h7 h8 (by rw [he]; exact h9)
theorem fy_mvR {s0 U : State} {a a' : Array Value} {C n d : String} (h : fy_La s0 U) (hl : (Cond.laysStatic C n d).before a s0 = true) (hini : (Cond.initialized C).before a s0 = true) (hw : (Cond.isRef (.static C n d)).before a s0 = true) : (Cond.isRef (.static C n d)).before a' U = true := by
  have hz : va_Zq C n d (fy_B s0) s0 s0.heap := va_Zqof hl hini hw (fun q hq z => Nat.not_le_of_lt hq z)
  have hz2 : va_Zq C n d (fy_B s0) U U.heap := va_Zq.moved h.1.alike (hz.kept (fun q hq _ => h.2.2 q hq))
  have key : ∀ v : Value, v.isRef = true → va_Z C n d v (fy_B s0) U U.heap → (Cond.isRef (.static C n d)).before a' U = true := by
    rintro v hv ⟨cf, kf, fi, f, ad, cell, h1, h2, h3, h4, h5, h6, h7, -⟩
    have he : (Term.static C n d).eval a' U none [] U = some v := by
      simp [Term.eval, State.fieldNamed?, h1, h2, h4, h5, h6, h7]
    simp only [Cond.before, Cond.holds, Cond.value, he]
    cases v <;> simp_all [Value.isRef]
  rcases hz2 with h | ⟨t, h⟩
  · exact key .null rfl h
  · exact key (.ref t) rfl h
def fy_four : List Cond := [.isRef (.static Bundle.tN "UNASSIGNED_STACK" Bundle.steD), .isRef (.static Bundle.tN "SUPPRESSED_SENTINEL" Bundle.listD), .laysStatic Bundle.tN "UNASSIGNED_STACK" Bundle.steD, .laysStatic Bundle.tN "SUPPRESSED_SENTINEL" Bundle.listD]
theorem fy_own {s0 U : State} {a a' : Array Value} {own E : String} {ic : Nat} {names : List String} (h : fy_La s0 U) (hw : ∀ w ∈ Bundle.ownAtoms own ic E names, w.before a s0 = true) (hk : (Bundle.ownAtoms own ic E names).all (fun w => (w.onTables && w.keepsFace) || decide (w ∈ fy_four)) = true) : ∀ w ∈ Bundle.ownAtoms own ic E names, w.before a' U = true := by
  intro w hm
  have h1 := List.all_eq_true.mp hk w hm
  rw [Bool.or_eq_true, decide_eq_true_eq] at h1
  rcases h1 with h1 | h1
  · exact fy_mv h.1 h1 (hw w hm)
  · have i0 : (Cond.initialized Bundle.tN).before a s0 = true := hw _ (by simp [Bundle.ownAtoms, Bundle.throwableAtoms])
    have l1 : (Cond.laysStatic Bundle.tN "UNASSIGNED_STACK" Bundle.steD).before a s0 = true := hw _ (by simp [Bundle.ownAtoms, Bundle.throwableAtoms])
    have l2 : (Cond.laysStatic Bundle.tN "SUPPRESSED_SENTINEL" Bundle.listD).before a s0 = true := hw _ (by simp [Bundle.ownAtoms, Bundle.throwableAtoms])
    simp only [fy_four, List.mem_cons, List.not_mem_nil, or_false] at h1
    rcases h1 with rfl | rfl | rfl | rfl
    · exact fy_mvR h l1 i0 (hw _ hm)
    · exact fy_mvR h l2 i0 (hw _ hm)
    · exact fy_mvL h l1
    · exact fy_mvL h l2
variable {p : Program} {l : Launch} {e : Env} {R : Room} {s : State} {m : MethodId} {args : Array Value} {below : List Frame} {meth : Method} {c : Code} {H : Heap} {locs : List Loc} {cells slots : Nat} {Q : State → Prop}
variable {s0 : State} {D : va_G} {cl : List vw_C} {A : Nat → Prop} {ws : va_W} {pc : Nat} {ls : Array Slot} {rest : List Value} {cc : ByteArray} {own E : String}
/-- the method's frame as if it had been called just now -/
theorem fy_anew {T : State} (X : Stand p l e R s m args below meth c T locs cells slots) {R' : Room} (hf : R'.frames ≤ R.frames) (hl : R'.locals ≤ R.locals) (hc : cells + R'.cells ≤ R.cells) (hs : slots + R'.slots ≤ R.slots) :
    Stand p l e R' ((T.setVm s.vm).setFrames (.invoking m args :: below)) m args below meth c T [] 0 0 := by
  have htop : (T.setVm s.vm).topJava?.isSome := X.here.top
  have hF : ((T.setVm s.vm).setFrames (.invoking m args :: below)).frames = .invoking m args :: below := State.frames_setFrames _ (State.cur_lt_of_top htop)
  have hU : ((T.setVm s.vm).setFrames (.invoking m args :: below)).localsInUse = s.localsInUse := by
    rw [State.localsInUse_invoking hF (meth := meth) (c := c) X.method X.code, State.localsInUse_invoking X.frames X.method X.code]
  have hlim : e.platform.stackLimits (T.setVm s.vm).me = e.platform.stackLimits s.me := X.limits
  have hby : (T.setVm s.vm).me.stackBytes = s.me.stackBytes := X.bytes
  refine ⟨X.admits, X.cas, X.clock, hF, ?_, X.hears, X.method, X.code, X.here, X.tail, X.warmed, ?_, ?_, ?_⟩
  · have h := X.room
    have z1 := X.heapSize
    have z2 := X.used
    simp only [State.hasRoom, Bool.and_eq_true, decide_eq_true_eq] at h ⊢
    obtain ⟨⟨⟨⟨h1, h2, h3, h4, h5, h6⟩, h7⟩, h8⟩, -⟩ := h
    rw [X.frames, List.length_cons] at h2 h3
    simp only [hF, hU, List.length_cons, State.stackLimits_setFrames, State.stackBytes_setFrames, hlim, hby]
    refine ⟨⟨⟨⟨by omega, by omega, by omega, by omega, by omega, h6⟩, ?_⟩, ?_⟩, X.book⟩
    · show T.heap.size + R'.cells ≤ e.platform.maxCells
      omega
    · show T.slotsUsed + R'.slots ≤ e.platform.maxSlots
      omega
  · rw [State.stackLimits_setFrames]; rfl
  · rw [State.stackBytes_setFrames]; rfl
  · obtain ⟨g₀, hg0⟩ := Option.isSome_iff_exists.mp htop
    obtain ⟨r, hr⟩ := State.topJava?_eq_some.mp hg0
    obtain ⟨t, ht, -⟩ := State.frames_cons hr
    have hdrop : T.heap.toList.drop T.heap.size = [] := List.drop_eq_nil_of_le (Nat.le_of_eq Array.length_toList)
    refine ⟨?_, Nat.le_refl _, Nat.le_refl _, ?_, ?_, fun a c9 h9 => ⟨c9, h9, rfl, rfl, fun _ _ => rfl⟩⟩
    · show T.setVm s.vm = { ((T.setVm s.vm).setFrames (.invoking m args :: below)).setFrames (T.setVm s.vm).frames with heap := T.heap, slotsUsed := T.slotsUsed }
      rw [State.setFrames_setFrames, State.setFrames_self ht]
      rfl
    · show T.slotsUsed = T.slotsUsed + ((T.heap.toList.drop T.heap.size).map (·.slots.size)).sum
      rw [hdrop]; rfl
    · show ((T.heap.toList.drop T.heap.size).map (·.slots.size)).sum ≤ 0
      rw [hdrop]; exact Nat.le_refl _
/-- new E; dup; ldc "text"; invokespecial; athrow -/
theorem fy_throw {sz : Nat} {text : String} {names : List String} {ik is ic sa : Nat} (hx : p.tables.exec = Jvm.exec) (hb : c.code = cc) (htr : l.stackTraces = false) (hown : s.vm.findClass own = some m.cls) (hE : Bundle.fit E = true) (hnames : ∀ n ∈ names, Bundle.fit n = true)
    (hLa : fy_La s0 s) (hAB : ∀ q, A q → fy_B s0 q) (hk0 : (Cond.classLink own ik E).before #[] s0 = true) (hi0 : (Cond.initialized E).before #[] s0 = true) (hs0 : vk_R own is text sa s0) (hw0 : ∀ w ∈ Bundle.ownAtoms own ic E names, w.before #[] s0 = true) (hok : (Bundle.ownAtoms own ic E names).all (fun w => (w.onTables && w.keepsFace) || decide (w ∈ fy_four)) = true)
    (hAe : A = va_A ws sz) (hP : va_P D cl ws H) (hS : va_S A s.heap H locs) (hsize : ls.size = c.maxLocals)
    (d0 : decode cc pc = .ok (.new ik, 3)) (d3 : decode cc (pc + 3) = .ok (.dup, 1)) (d4 : decode cc (pc + 4) = .ok (.ldc is, 2)) (d6 : decode cc (pc + 6) = .ok (.invokespecial ic, 3)) (d9 : decode cc (pc + 9) = .ok (.athrow, 1))
    (hout : ∀ x ∈ c.exceptionTable.toList, False) (hRf : names.length + 3 < R.frames) (hRl : (rest.map fun v => v.category).sum + (13 * (names.length + 1) + 43) ≤ R.locals) (hc : cells + 1 ≤ R.cells) (hs : slots + 6 ≤ R.slots) (hc1 : cells ≤ 0) (hs1 : slots ≤ 0) (hlocks : meth.locks = false) :
    W p l e R s m args below meth c H locs cells slots (fy_XE below D cl sz ws E args s) (F0 m pc ls rest) := by
  intro T hT X
  have htr' : e.platform.stackTraces = false := (show e.platform.stackTraces = l.stackTraces by rw [X.admits.platform]).trans htr
  have Y := fy_anew X (R' := { frames := R.frames, locals := R.locals, cells := 1, slots := 6 }) (Nat.le_refl _) (Nat.le_refl _) hc hs
  obtain ⟨s', hs'⟩ : ∃ z, z = (T.setVm s.vm).setFrames (.invoking m args :: below) := ⟨_, rfl⟩
  rw [← hs'] at Y
  have hvm : s'.vm = s.vm := by rw [hs']; rfl
  have hhp : s'.heap = H := by rw [hs']; exact hT
  have hW0 : s.WarmedH s'.vm := by rw [hvm]; exact State.WarmedH.refl s
  have hLa' : fy_La s0 s' := hLa.go hAB hS hhp hW0
  have hown' : s'.vm.findClass own = some m.cls := by rw [hvm]; exact hown
  have hat : ∀ w ∈ Bundle.ownAtoms own ic E names, w.before args s' = true := fy_own hLa' hw0 hok
  have hk' : (Cond.classLink own ik E).before args s' = true := word_at hLa'.1 (Or.inl (by first | rfl | simp [Cond.onTables, Cond.keeps, Cond.steady])) hk0
  have hi' : (Cond.initialized E).before args s' = true := word_at hLa'.1 (Or.inl (by first | rfl | simp [Cond.onTables, Cond.keeps, Cond.steady])) hi0
  have hins : (Cond.instantiable E 6).before args s' = true := hat _ (by simp [Bundle.ownAtoms])
  have hstr : vk_R own is text sa s' := vk_R.warm hLa'.1 hs0
  obtain ⟨vm₁, cX, kX, hfX, hkX, -, -, X₁, st1⟩ := Y.newCold hx (own := own) (C := E) (index := ik) (n := 6) hown' hk' hins hi' (g := F0 m pc ls rest) rfl (by rw [hb]; exact d0) (Nat.le_refl _) (Nat.le_refl _)
  generalize hT1 : (T.setVm vm₁).pushCell { cls := cX, slots := kX.instanceTypes.map defaultValue, vm := .none } = T1 at X₁ st1
  have hcat : (Value.ref T.heap.size).category = 1 := rfl
  have hcellA : T1.heap[T.heap.size]? = some (freshCell cX kX) := by rw [← hT1]; exact State.heap_pushCell_size _ _
  have d3' : decode c.code (pc + 3) = .ok (.dup, 1) := by rw [hb]; exact d3
  have d4' : decode c.code (pc + 4) = .ok (.ldc is, 2) := by rw [hb]; exact d4
  obtain ⟨U, hsteps, hrun, hend, hW, hsame, ce, hce, hO⟩ := X₁.ctorThrowS hx htr' (own := own) (cls := E) (names := names) (ic := ic) hown' hE hnames hat (fun x hx => nomatch hx) hfX hkX hcellA (by rw [hhp, hT]; exact Nat.le_refl _) (msg := .ref sa) rfl
    (g := { method := m, pc := pc + 6, locals := ls, stack := .ref sa :: .ref T.heap.size :: .ref T.heap.size :: rest, locked := none }) rfl hsize rfl rfl (rest := rest) rfl
    (by rw [hb]; exact d6) (by rw [hb]; exact d9) (fun x hx => (hout x hx).elim) hRf (by simp only [List.map_cons, List.sum_cons, hcat]; show 2 * 0 + _ + _ ≤ _; omega) hlocks
  have hkeep : ∀ q : Nat, q < H.size → U.heap[q]? = H[q]? := by
    obtain ⟨-, g2, -, -, -, g6⟩ := hsame
    intro q hq
    rw [← hhp] at hq ⊢
    obtain ⟨c9, e1, e2, e3, e4⟩ := g6 q _ (Array.getElem?_eq_getElem hq)
    have h7 : c9.slots = (s'.heap[q]).slots := Array.ext_getElem? fun i => e4 i (fun hm => nomatch hm)
    rw [h7] at e2
    have e5 : U.heap[q]? = some c9 := e1
    rw [e5, e2, Array.getElem?_eq_getElem hq]
  have hgrow : H.size ≤ U.heap.size := by
    have h9 := hsame.2.1
    rw [hhp] at h9
    exact h9
  have hWs : s.WarmedH U.vm := State.WarmedH.trans hW0 hW
  have hcl : s.vm.findClass E = some ce.cls := by
    have h9 := hO.cls
    rw [hvm] at h9
    exact h9
  have hall : s.sameButNew ({ U with vm := s.vm } : State) locs 1 6 := by
    subst hs'
    obtain ⟨e1, e2⟩ := hsame
    rw [State.setFrames_setFrames] at e1
    have h2 : (T.setVm s.vm).sameButNew ({ U with vm := s.vm } : State) [] (0 + 1) (0 + 6) := ⟨e1, e2⟩
    have h3 := X.same.trans h2
    rw [List.append_nil] at h3
    exact h3.mono (by omega) (by omega)
  refine ⟨U, ?_, .threw T.heap.size, hrun, hend, ⟨T.heap.size, ce, locs, rfl, hce, hO.vm, hcl, hWs, hall, by rw [← hAe]; exact hS.2.2⟩, hP.kept (fun k q hq => hkeep q.1 (hP k q hq).lt), ?_⟩
  · refine st1 _ ?_
    show Steps p.tables e below (T1.setTop { method := m, pc := pc + 3, locals := ls, stack := .ref T.heap.size :: rest, locked := none }) _
    jvm_step X₁.here [X₁.here.top, hx, d3', Value.category]
    exact X₁.ldcString hx (own := own) (text := text) (index := is) (a := sa) hown' hstr.1 hstr.2
      (g := { method := m, pc := pc + 4, locals := ls, stack := .ref T.heap.size :: .ref T.heap.size :: rest, locked := none }) rfl d4' _ hsteps
  · rw [← hAe]
    exact ⟨Nat.le_trans hS.1 hgrow, fun q h1 h2 => by rw [hkeep q (Nat.lt_of_lt_of_le h1 hS.1)]; exact hS.2.1 q h1 h2⟩
/-- one row of a table: it names a class that can be linked -/
theorem fy_row {Qh : Handler → Pre} {Ex : CtlPost} {d : Bool} {acts : List Action} {S : State} {f : JFrame} {a : Addr} {x : ExceptionTableEntry} {t : List ExceptionTableEntry} {k : ClassId} {cell : Cell} (hx : covers x f.pc = true) (h0 : x.catchType ≠ 0) (hl : S.vm.ClassLinks e.platform f.method.cls x.catchType k) (hcell : S.heap[a]? = some cell) (hobj : ∀ k, cell.vm ≠ .statics k)
    (hk : ∃ z, S.vm.classes[cell.cls]? = some z) (hc : ∃ z, S.vm.classes[k]? = some z) :
    wp (findHandler.go f a (x :: t)) Qh Ex e d acts S ↔ if S.vm.assignable cell.cls k = true then Qh (.found x.handlerPc) d acts (S.setVm (S.vm.noted f.method.cls x.catchType (.cls k))) else wp (findHandler.go f a t) Qh Ex e d acts (S.setVm (S.vm.noted f.method.cls x.catchType (.cls k))) := by
  simp only [covers] at hx
  obtain ⟨ha, ht⟩ := (resolveClass_links e.toSetting hl).op (op := VmOp.resolveClass f.method.cls x.catchType) rfl
  have hal : S.vm.Alike (S.vm.noted f.method.cls x.catchType (.cls k)) := (Vm.Alike.refl S.vm).noted _ _ _
  obtain ⟨k1, hk1⟩ := hk
  obtain ⟨k2, hk2⟩ := hc
  obtain ⟨k1', hk1', -⟩ := hal.2.2 _ _ hk1
  obtain ⟨k2', hk2', -⟩ := hal.2.2 _ _ hk2
  have he : (S.vm.noted f.method.cls x.catchType (.cls k)).assignable cell.cls k = S.vm.assignable cell.cls k := hal.assignable _ _
  cases hf : S.vm.assignable cell.cls k <;> rw [hf] at he <;> simp [findHandler.go, hx, h0, ha, ht, hcell, hobj, hk1', hk2', he, VmOp.dirties, VmOp.acts]
theorem fy_rows {st : State} {f : JFrame} {a : Addr} {cell : Cell} (hobj : ∀ k, cell.vm ≠ .statics k) (hk0 : ∃ k, st.vm.classes[cell.cls]? = some k) (x : ExceptionTableEntry) (suf : List ExceptionTableEntry) (hx : covers x f.pc = true) (h0 : x.catchType ≠ 0) {cx : ClassId} (hl : st.vm.ClassLinks e.platform f.method.cls x.catchType cx) (hfit : st.vm.assignable cell.cls cx = true) :
    ∀ (pre : List ExceptionTableEntry) (S : State), st.WarmedH S.vm → S.heap[a]? = some cell → (∀ z ∈ pre, covers z f.pc = true ∧ z.catchType ≠ 0 ∧ ∃ k, st.vm.ClassLinks e.platform f.method.cls z.catchType k ∧ st.vm.assignable cell.cls k = false) →
      ∃ vm', st.WarmedH vm' ∧ ∀ (Qh : Handler → Pre) (Ex : CtlPost) (d : Bool) (acts : List Action), wp (findHandler.go f a (pre ++ x :: suf)) Qh Ex e d acts S ↔ Qh (.found x.handlerPc) d acts (S.setVm vm') := by
  obtain ⟨k0, hk0⟩ := hk0
  intro pre
  induction pre with
  | nil =>
    intro S hW hcell _
    obtain ⟨k0', hk0', -⟩ := hW.alike.2.2 _ _ hk0
    obtain ⟨dk, _, _, kt, hd, _, _, _, _, hkt, _, hopen⟩ := hl.here
    obtain ⟨kt', hkt', -⟩ := hW.alike.2.2 _ _ hkt
    refine ⟨_, hW.noted hd hopen (State.rightAt_cls hl), fun Qh Ex d acts => ?_⟩
    rw [List.nil_append, fy_row hx h0 (hW.classLinks hl) hcell hobj ⟨k0', hk0'⟩ ⟨kt', hkt'⟩, if_pos (by rw [hW.alike.assignable]; exact hfit)]
  | cons z zs ih =>
    intro S hW hcell hpass
    obtain ⟨k0', hk0', -⟩ := hW.alike.2.2 _ _ hk0
    obtain ⟨hcov, hz0, k, hlk, hno⟩ := hpass z List.mem_cons_self
    obtain ⟨dk, _, _, kt, hd, _, _, _, _, hkt, _, hopen⟩ := hlk.here
    obtain ⟨kt', hkt', -⟩ := hW.alike.2.2 _ _ hkt
    obtain ⟨vm', hW', hq⟩ := ih (S.setVm (S.vm.noted f.method.cls z.catchType (.cls k))) (hW.noted hd hopen (State.rightAt_cls hlk)) hcell (fun y hy => hpass y (List.mem_cons_of_mem _ hy))
    refine ⟨vm', hW', fun Qh Ex d acts => ?_⟩
    rw [List.cons_append, fy_row hcov hz0 (hW.classLinks hlk) hcell hobj ⟨k0', hk0'⟩ ⟨kt', hkt'⟩, if_neg (by rw [hW.alike.assignable, hno]; exact Bool.false_ne_true)]
    exact hq Qh Ex d acts
/-- caught by the row x; the rows ahead name classes that the thrown one isn't -/
theorem fy_catch {name : String} {q : Addr} {ce : Cell} (hown : s.vm.findClass own = some m.cls) (pre : List ExceptionTableEntry) (x : ExceptionTableEntry) (suf : List ExceptionTableEntry) (hsplit : c.exceptionTable.toList = pre ++ x :: suf)
    (hpass : ∀ z ∈ pre, covers z pc = true ∧ z.catchType ≠ 0 ∧ ∃ nm : String, (Cond.classLink own z.catchType nm).before args s = true ∧ ∃ kE kN : ClassId, s.vm.findClass E = some kE ∧ s.vm.findClass nm = some kN ∧ s.vm.assignable kE kN = false) (hx : covers x pc = true) (h0 : x.catchType ≠ 0)
    (hlink : (Cond.classLink own x.catchType name).before args s = true) (hcast : (Cond.castable E name).before args s = true) (hcell : H[q]? = some ce) (hv : ce.vm = .none) (hcl : s.vm.findClass E = some ce.cls)
    (kk : W p l e R s m args below meth c H locs cells slots Q (F0 m x.handlerPc ls [.ref q])) : fy_Th p l e R s m args below meth c H locs cells slots Q (F0 m pc ls rest) q := by
  intro T hT X
  have hpl : e.platform.magicAccessors = ({} : Platform).magicAccessors := by rw [X.admits.platform]
  obtain ⟨c3, c4, hc3, hc4, hasg⟩ := Cond.castable_spec hcast
  cases Option.some.inj (hc3.symm.trans hcl)
  obtain ⟨c5, hc5, hcl5⟩ := Cond.classLink_spec hown hlink e.platform hpl
  cases Option.some.inj (hc4.symm.trans hc5)
  obtain ⟨kz, hkz, -⟩ := Vm.findClass_spec hcl
  obtain ⟨g₁, hfr⟩ := X.frames_eq
  obtain ⟨vm', hW', hq⟩ := fy_rows (e := e) (st := s) (f := F0 m pc ls rest) (a := q) (cell := ce) (fun k h => by rw [hv] at h; cases h) ⟨kz, hkz⟩ x suf hx h0 hcl5 hasg pre ((T.setTop (F0 m pc ls rest)).pushFrame (.throwing q)) X.warmed (by show T.heap[q]? = _; rw [hT]; exact hcell) (fun z hz => by
    obtain ⟨a1, a2, nm, a3, kE, kN, a4, a5, a6⟩ := hpass z hz
    obtain ⟨c6, hc6, hcl6⟩ := Cond.classLink_spec hown a3 e.platform hpl
    cases Option.some.inj (a4.symm.trans hcl)
    cases Option.some.inj (a5.symm.trans hc6)
    exact ⟨a1, a2, _, hcl6, a6⟩)
  have hfind : ∀ (Qh : Handler → Pre) (Ex : CtlPost) (d : Bool) (acts : List Action), wp (findHandler (F0 m pc ls rest) q) Qh Ex e d acts ((T.setTop (F0 m pc ls rest)).pushFrame (.throwing q)) ↔ Qh (.found x.handlerPc) d acts (((T.setTop (F0 m pc ls rest)).pushFrame (.throwing q)).setVm vm') := fun Qh Ex d acts => by
    rw [W.findHandler_eq (meth := meth) (code := c) X.method' X.code, hsplit]
    exact hq Qh Ex d acts
  obtain ⟨t, a1, b1⟩ := kk (T.setVm vm') hT (X.noted hW')
  refine ⟨t, ?_, b1⟩
  have hat : At T (F0 m pc ls rest).method c below := X.here
  obtain ⟨hgo, hw⟩ := hat.throwing q
  refine Steps.head hgo hw ?_
  have hstep : (stepThrowing e ((T.setTop (F0 m pc ls rest)).pushFrame (.throwing q)) q (.java (F0 m pc ls rest) :: T.frames.tail)).1 = (((T.setTop (F0 m pc ls rest)).pushFrame (.throwing q)).setVm vm').setFrames (.java { F0 m pc ls rest with pc := x.handlerPc, stack := [.ref q] } :: T.frames.tail) := by
    simp only [stepThrowing, searchFrame, vmDo]
    generalize hr : Sem.go _ e false [] _ = res
    obtain ⟨as, rfl, ha⟩ := Sem.eq_ok_of hr (a := Handler.found x.handlerPc) (s' := ((T.setTop (F0 m pc ls rest)).pushFrame (.throwing q)).setVm vm') (acts' := []) (by simp [hfind _ _ _ _])
    rfl
  rw [stepThread_throwing (frames_entered hat.top _), hstep]
  have hr' : (T.setVm vm').frames = .java g₁ :: below := hfr
  have e1 : (((T.setTop (F0 m pc ls rest)).pushFrame (.throwing q)).setVm vm').setFrames (.java { F0 m pc ls rest with pc := x.handlerPc, stack := [.ref q] } :: T.frames.tail) = (T.setVm vm').setTop { F0 m pc ls rest with pc := x.handlerPc, stack := [.ref q] } := by
    have z : ∀ (u : State) (F G : List Frame), ((u.setFrames F).setVm vm').setFrames G = (u.setVm vm').setFrames G := fun u F G => by
      show ((u.setVm vm').setFrames F).setFrames G = _
      rw [State.setFrames_setFrames]
    rw [State.setTop_of_frames _ hr', hfr, List.tail_cons, State.pushFrame, State.setTop_of_frames _ hfr, z, z]
  rw [e1]
  exact a1
/-- the beginning of a body that throws -/
theorem fy_xin {y : MethodName} {wl wl' : List Cond} {bytes : ByteArray} {maxL : Nat} {ret : Option FieldType} {rm : Room} {tys : List (ClassId × FieldType)} {av : List Value} (hy : plainName y.cls = true) (hw : wl = Cond.code y bytes maxL ret :: wl') (hnav : (lg_sl av).length ≤ maxL) (hK0 : va_K D cl tys s0) {Ts : List Cond} (hG : ∀ w ∈ Ts, w.before #[] s0 = true) (hgd : ∀ w ∈ Ts, goodWord w = true)
    (body : ∀ (p : Program) (e : Env) (s : State) (m : MethodId) (below : List Frame) (meth : Method) (c : Code) (A : Nat → Prop) (ls : Array Slot),
      p.tables.exec = Jvm.exec → c.code = bytes → (∀ x ∈ c.exceptionTable.toList, False) → meth.locks = false → c.maxLocals = maxL → s.vm.findClass y.cls = some m.cls → (∀ w ∈ Ts, w.before av.toArray s = true) → va_K D cl tys s → fy_La s0 s → A = va_A ws s.heap.size → (∀ q, A q → fy_B s0 q) → (∀ q, s.heap.size ≤ q → A q) → lv_has ls maxL (lv_args 0 av) → va_P D cl ws s.heap → va_D A ws → va_S A s.heap s.heap [] →
      W p l e rm s m av.toArray below meth c s.heap [] 0 0 (fy_XE below D cl s.heap.size ws E av.toArray s) (F0 m 0 ls [])) : fy_X l s0 D cl y wl rm av ws E := by
  intro sz
  refine MetFree.of_bodyS (code := bytes) (maxLocals := maxL) (ret := ret) hy ?_ ?_
  · intro args s m h hn
    obtain ⟨meth, c, h1, h2, h3, h4, h5, h6, -, -⟩ := Cond.code_spec hn (atoms_spec (ws := wl) h _ (by rw [hw]; exact List.mem_cons_self))
    exact ⟨meth, c, h1, h2, h3, h4, h5, h6⟩
  · intro p e s m args below meth c s₁ B hml hv _
    obtain ⟨rfl, hLa, rfl, hP, hD0⟩ := hv
    have hh0 : s₁.heap = s.heap := by rw [B.state]; rfl
    have ht : ∀ x ∈ c.exceptionTable.toList, False := by
      obtain ⟨meth9, c9, h1, h2, -, -, -, -, h7, -⟩ := Cond.code_spec B.named (atoms_spec (ws := wl) B.pre _ (by rw [hw]; exact List.mem_cons_self))
      cases Option.some.inj (h1.symm.trans B.method)
      cases Option.some.inj (h2.symm.trans (Stand.of_body B).code)
      intro x hx
      rw [Array.isEmpty_iff.mp h7] at hx
      cases hx
    have K := body p e s m below meth c (va_A ws s.heap.size) _ B.exec B.bytes ht B.notSynchronized hml (findClass_of_methodNamed B.named) (fun w hw => word_at hLa.1 (good_of_word (hgd w hw)) (hG w hw)) (va_K.moved hLa.1.alike hK0) hLa rfl
      (fun q h => by
        rcases h with ⟨k, z, h⟩ | h
        · exact hD0.2 k (q, z) h
        · exact Nat.le_trans hLa.2.1 h) (fun q h => Or.inr h) (lv_entry av hnav) hP hD0.self va_S.rf
    rw [← lg_entry_eq] at K
    obtain ⟨t, a1, o, b1, b2, b3⟩ := K s₁ hh0 (Stand.of_body B)
    exact ⟨t, o, a1, b1, b2, b3⟩
end FYR
