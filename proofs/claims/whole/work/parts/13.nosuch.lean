/-! the exceptions of this class: their words out of the tables; the one whose constructor passes on by another entry -/
section FYN
def fy_two : List Cond := [.isRef (.static Bundle.tN "UNASSIGNED_STACK" Bundle.steD), .isRef (.static Bundle.tN "SUPPRESSED_SENTINEL" Bundle.listD)]
def fy_GX (l : Launch) (s0 : State) : Prop := l.stackTraces = false ∧ ∀ w ∈ fy_two, w.before #[] s0 = true
def fy_inT (ws : List Cond) : Bool := ws.all (fun w => decide (w ∈ lw_tbl) || decide (w ∈ fy_two))
theorem fy_inT.at {ws : List Cond} {l : Launch} {s0 : State} (h : fy_inT ws = true) (hG : ∀ w ∈ lw_tbl, w.before #[] s0 = true) (hX : fy_GX l s0) : ∀ w ∈ ws, w.before #[] s0 = true := by
  intro w hw
  have h1 := List.all_eq_true.mp h w hw
  rw [Bool.or_eq_true, decide_eq_true_eq, decide_eq_true_eq] at h1
  rcases h1 with h1 | h1
  · exact hG w h1
  · exact hX.2 w h1
theorem fy_strR {own text : String} {k : Nat} {s0 : State} (h : (Cond.stringRef own k text).before #[] s0 = true) (hc : ∃ c, s0.vm.findClass own = some c) : ∃ sa, vk_R own k text sa s0 := by
  obtain ⟨c, hc⟩ := hc
  obtain ⟨-, -, -, a, -, -, -, -, -, h2⟩ := Cond.stringRef_spec hc h
  exact ⟨a, h, h2⟩
/-- any list of such words, at a later state -/
theorem fy_later {s0 U : State} {a a' : Array Value} {ws : List Cond} (h : fy_La s0 U) (hw : ∀ w ∈ ws, w.before a s0 = true) (hk : ws.all (fun w => (w.onTables && w.keepsFace) || decide (w ∈ fy_four)) = true) (i0 : Cond.initialized Bundle.tN ∈ ws) (l1 : Cond.laysStatic Bundle.tN "UNASSIGNED_STACK" Bundle.steD ∈ ws) (l2 : Cond.laysStatic Bundle.tN "SUPPRESSED_SENTINEL" Bundle.listD ∈ ws) : ∀ w ∈ ws, w.before a' U = true := by
  intro w hm
  have h1 := List.all_eq_true.mp hk w hm
  rw [Bool.or_eq_true, decide_eq_true_eq] at h1
  rcases h1 with h1 | h1
  · exact fy_mv h.1 h1 (hw w hm)
  · simp only [fy_four, List.mem_cons, List.not_mem_nil, or_false] at h1
    rcases h1 with rfl | rfl | rfl | rfl
    · exact fy_mvR h (hw _ l1) (hw _ i0) (hw _ hm)
    · exact fy_mvR h (hw _ l2) (hw _ i0) (hw _ hm)
    · exact fy_mvL h (hw _ hm)
    · exact fy_mvL h (hw _ hm)
/-- the words for a class whose constructor passes the text on to Y's by the entry ix -/
def fy_nx (own : String) (ic : Nat) (E Y : String) (ix : Nat) (rx : ByteArray) (names : List String) : List Cond :=
  [.methodLink own ic (Bundle.initS E), .instantiable E 6, .selects E Bundle.tFill0 Bundle.tFill0, .selects E Bundle.tFill Bundle.tFill] ++ [.lays E Bundle.tN "cause" "Ljava/lang/Throwable;", .lays E Bundle.tN "stackTrace" Bundle.steD, .lays E Bundle.tN "suppressedExceptions" Bundle.listD, .lays E Bundle.tN "detailMessage" "Ljava/lang/String;", .lays E Bundle.tN "backtrace" "Ljava/lang/Object;"] ++ (fy_two ++ [.fieldLink Bundle.tN 198 Bundle.tN "backtrace" "Ljava/lang/Object;", .lays Bundle.tN Bundle.tN "backtrace" "Ljava/lang/Object;"]) ++ Bundle.throwableAtoms ++ Bundle.throwableSAtoms ++ Bundle.passSAtoms E Y ix rx ++ Bundle.chainSAtoms Y names
variable {p : Program} {l : Launch} {e : Env} {R : Room} {s : State} {m : MethodId} {args : Array Value} {below : List Frame} {meth : Method} {c : Code} {T0 : State} {locs : List Loc} {cells slots : Nat}
theorem fy_sel {E : String} {cE : ClassId} {y : MethodName} {f : MethodId} (hA : l.admits e) (hE : s.vm.findClass E = some cE) (hn : s.methodNamed? y = some f) (hy : y.cls ≠ "java/lang/invoke/MethodHandle" ∧ y.cls ≠ "java/lang/invoke/VarHandle") (h : (Cond.selects E y y).before args s = true) : selectMethod e.platform s.vm cE f = .method f := by
  obtain ⟨c2, r2, m2, q1, q2, q3, q4, -⟩ := Cond.selects_spec h
  cases Option.some.inj (q1.symm.trans hE)
  cases Option.some.inj (q2.symm.trans (State.methodFound?_of_named hn hy))
  cases Option.some.inj (q3.symm.trans hn)
  rw [Launch.admits_selectMethod hA]
  exact q4
set_option maxHeartbeats 1000000 in
theorem fy_ctorN (X : Stand p l e R s m args below meth c T0 locs cells slots) (hx : p.tables.exec = Jvm.exec) (htr : e.platform.stackTraces = false) {own E Y : String} {ic ix : Nat} {rx : ByteArray} {names : List String} (hown : s.vm.findClass own = some m.cls) (hE : Bundle.fit E = true) (hY : Bundle.fit Y = true) (hnames : ∀ n ∈ names, Bundle.fit n = true)
    (x0 : decode rx 0 = .ok (.aload_n 0, 1)) (x1 : decode rx 1 = .ok (.aload_n 1, 1)) (x2 : decode rx 2 = .ok (.invokespecial ix, 3)) (x5 : decode rx 5 = .ok (.return_, 1)) (hat : ∀ w ∈ fy_nx own ic E Y ix rx names, w.before args s = true)
    (hlocs : ∀ z ∈ locs, ∀ cell, s.heap[z.base]? = some cell → cell.vm.isStatics = false) {a : Addr} {cX : ClassId} {kX : Class} (hfX : s.vm.findClass E = some cX) (hkX : s.vm.classes[cX]? = some kX) (hcell : T0.heap[a]? = some (freshCell cX kX)) (hnew : s.heap.size ≤ a) {msg : Value} (hmsg : msg.isRef = true)
    {g : JFrame} (hg : g.method = m) (hsize : g.locals.size = c.maxLocals) (hlocked : g.locked = none) (hentered : g.entered = []) {rest : List Value} (hstack : g.stack = msg :: .ref a :: .ref a :: rest) (d6 : decode c.code g.pc = .ok (.invokespecial ic, 3)) (d9 : decode c.code (g.pc + 3) = .ok (.athrow, 1)) (hout : ∀ z ∈ c.exceptionTable.toList, covers z (g.pc + 3) = false)
    (hRf : names.length + 4 < R.frames) (hRl : 2 * g.monitorRoom + ((Value.ref a :: rest).map fun v => v.category).sum + (13 * (names.length + 2) + 42) ≤ R.locals) (hlocks : meth.locks = false) :
    ∃ U : State, Steps p.tables e below (T0.setTop g) U ∧ U.status = .running ∧ Ended U below (.threw a) ∧ s.WarmedH U.vm ∧ s.sameButNew ({ U with vm := s.vm } : State) locs cells slots ∧ ∃ ce, U.heap[a]? = some ce ∧ ce.vm = .none ∧ ce.cls = cX := by
  have p1 : e.platform.frameOwnsMonitors = true := by rw [X.admits.platform]
  have p2 : e.platform.finalization = false := by rw [X.admits.platform]
  have p3 : e.platform.magicAccessors = ({} : Platform).magicAccessors := by rw [X.admits.platform]
  have hq : ∀ w, w ∈ fy_nx own ic E Y ix rx names → w.holds args s none s [] = true := fun w hw => hat w hw
  obtain ⟨T, Z0, L, -, YY⟩ := ThrowableC.of_atoms (args := args) p1 p2 p3 (fun w hw => hat w (by simp [fy_nx, hw]))
  obtain ⟨Z, M, LZ, LM, hnZ⟩ := Init0T.ofS_atoms (args := args) p3 L YY (fun w hw => hat w (by simp [fy_nx, hw]))
  obtain ⟨P0, L0, hP0, hs0⟩ := PassC.ofS_atoms (args := args) (s := s) p3 (X := E) (Y := Y) (Bundle.fit_spec hE).1 (Bundle.fit_spec hY).2 x0 x1 x2 x5 (fun w hw => hat w (by simp [fy_nx, hw]))
  obtain ⟨P1, Ps, hlen, L1, hL, hP1, hl1, hl2⟩ := Bundle.chainS (args := args) p3 hnZ names Y hY hnames (fun w hw => hat w (by simp [fy_nx, hw]))
  have hfound : s.vm.findClass E = some P0.m.cls := findClass_of_methodNamed hP0
  cases Option.some.inj (hfX.symm.trans hfound)
  obtain ⟨c1, k1, hc1, hk, hord, -, -, -⟩ := Cond.instantiable_spec (hq (.instantiable E 6) (by simp [fy_nx]))
  cases Option.some.inj (hc1.symm.trans hfound)
  cases Option.some.inj (hkX.symm.trans hk)
  have f0 := fy_sel X.admits hfound YY.fill0 (by decide) (hat (.selects E Bundle.tFill0 Bundle.tFill0) (by simp [fy_nx]))
  have f1 := fy_sel X.admits hfound YY.fill (by decide) (hat (.selects E Bundle.tFill Bundle.tFill) (by simp [fy_nx]))
  obtain ⟨cs, hcs, hst⟩ := YY.statics
  obtain ⟨u0, hu0⟩ := Cond.staticRefV YY.unassigned L.unassignedStatic L.statics hcs hst (hq _ (show Cond.isRef (.static Bundle.tN "UNASSIGNED_STACK" Bundle.steD) ∈ _ by simp [fy_nx, fy_two]))
  obtain ⟨sen, hsen⟩ := Cond.staticRefV YY.sentinel L.sentinelStatic L.statics hcs hst (hq _ (show Cond.isRef (.static Bundle.tN "SUPPRESSED_SENTINEL" Bundle.listD) ∈ _ by simp [fy_nx, fy_two]))
  obtain ⟨ci, ii, fB, g1, g2, g3, g4, -, hnB, htB, hfB⟩ := Cond.ownField (t := .object "java/lang/Object") YY.found L.cls (by decide +kernel) (hq (.fieldLink Bundle.tN 198 Bundle.tN "backtrace" "Ljava/lang/Object;") (by simp [fy_nx])) (hq (.lays Bundle.tN Bundle.tN "backtrace" "Ljava/lang/Object;") (by simp [fy_nx])) e.platform p3
  obtain ⟨ct, ht1, ht2, -, hkeep⟩ := X.same.2.2.2.2.2 T.aS cs hcs
  have hct : T0.heap[T.aS]? = some ct := ht1
  have hnot : ∀ i, (⟨T.aS, i⟩ : Loc) ∉ locs := fun i hm => by
    have h9 := hlocs _ hm cs hcs
    rw [hst] at h9
    cases h9
  have hkn : ct.vm ≠ .unknown := by
    rw [ht2]
    intro hu
    rw [show cs.vm = .unknown from hu] at hst
    cases hst
  have hne : T.aS ≠ a := Nat.ne_of_lt (Nat.lt_of_lt_of_le (Array.getElem?_eq_some_iff.mp hcs).1 hnew)
  obtain ⟨iM, hfM⟩ := YY.msg
  obtain ⟨tC, dC, eC, nC⟩ := Cond.laysAt hfound hk YY.cause (hq (.lays E Bundle.tN "cause" "Ljava/lang/Throwable;") (by simp [fy_nx]))
  obtain ⟨tS, dS, eS, nS⟩ := Cond.laysAt hfound hk YY.stack (hq (.lays E Bundle.tN "stackTrace" Bundle.steD) (by simp [fy_nx]))
  obtain ⟨tP, dP, eP, nP⟩ := Cond.laysAt hfound hk YY.supp (hq (.lays E Bundle.tN "suppressedExceptions" Bundle.listD) (by simp [fy_nx]))
  obtain ⟨tM, dM, eM, nM⟩ := Cond.laysAt hfound hk hfM (hq (.lays E Bundle.tN "detailMessage" "Ljava/lang/String;") (by simp [fy_nx]))
  obtain ⟨tB, dB, eB, nB⟩ := Cond.laysAt hfound hk hfB (hq (.lays E Bundle.tN "backtrace" "Ljava/lang/Object;") (by simp [fy_nx]))
  have bC := Cond.laysApart eB eC nB nC (by rw [hnB, YY.causeName]; decide)
  have bS := Cond.laysApart eB eS nB nS (by rw [hnB, YY.stackName]; decide)
  have bP := Cond.laysApart eB eP nB nP (by rw [hnB, YY.suppName]; decide)
  have hskip : SkipFacts T e.platform s (fun u => u) u0 ((preparedCellV T.toThrowableT (freshCell P0.m.cls kX) a u0 sen).withEntry T0.cur) :=
    ⟨{ ci198 := ci, i198 := ii, fBack := fB }, ⟨g1, g2, g3, g4⟩, by
      have h9 := fresh_default (c := P0.m.cls) tB
      rw [htB] at h9
      simpa [preparedCellV, Cell.setSlot, Cell.withEntry, Array.getElem?_setIfInBounds, bC, bS, bP, bC.symm, bS.symm, bP.symm, defaultValue] using h9, fun _ _ => rfl⟩
  obtain ⟨tm, -, -, -, vm1, hn1, -, -, -, -, -, -, -, hW1, st1⟩ := Steps.initColdS (tb := p.tables) (e := e) (below := below) (s := s) (U := T0) X.here hx X.warmed p3 hown (t := Bundle.initS E) rfl rfl (Bundle.fit_spec hE).2 (hat (.methodLink own ic (Bundle.initS E)) (by simp [fy_nx])) (hat (.instanceMethod (Bundle.initS E)) (by simp [fy_nx, Bundle.passSAtoms])) (bytes := rx) (maxL := 2) (hat (.code (Bundle.initS E) rx 2 none) (by simp [fy_nx, Bundle.passSAtoms])) (f := g) hg (a := a) (msg := msg) (rest := .ref a :: rest) hstack d6
  cases Option.some.inj (hn1.symm.trans hP0)
  have X1 := X.noted hW1
  have hsup : P0.sup = P1.m := Option.some.inj (hs0.symm.trans hP1)
  obtain ⟨vm2, X2, st2⟩ := X1.ctorMessageOffV hx (g := { g with stack := .ref a :: rest }) hg hsize T L Z LZ M LM (P0 :: P1 :: Ps)
    (fun P hP => by
      rcases List.mem_cons.mp hP with rfl | hP
      · exact L0
      · rcases List.mem_cons.mp hP with rfl | hP
        · exact L1
        · exact hL P hP) ⟨hsup, hl1, hl2⟩ (u0 := u0) (sen := sen) (self := a) hmsg (cell := freshCell P0.m.cls kX) (cellS := ct)
    hcell (fun _ => by simp) (by simp) rfl rfl f0 f1 hct hne hkn (by rw [hkeep _ (hnot _)]; exact hu0) (by rw [hkeep _ (hnot _)]; exact hsen)
    (Takes.of_laid hk hord tC (by rw [YY.causeType]; rfl)) (Takes.of_laid hk hord tS (by rw [YY.stackType]; exact fits_refV_array _ u0)) (Takes.of_laid hk hord tP (by rw [YY.suppType]; exact fits_refV_object _ sen)) (Takes.of_laid hk hord tM (by rw [YY.msgType]; exact fits_refV_object _ ⟨msg, hmsg⟩)) YY.objLocals hskip htr [] d6
    (by simp only [List.length_cons, hlen]; omega) (by simp only [List.length_cons, hlen]; omega)
  obtain ⟨hwalk, hrun, hend, hWU, hsame⟩ := X2.athrowLeaves hx (g := { g with stack := .ref a :: rest, pc := g.pc + 3 }) hg hlocked hentered hout (a := a) (rest := rest) rfl d9
  have hlt : a < ((T0.setVm vm1).setVm vm2).heap.size := (Array.getElem?_eq_some_iff.mp hcell).1
  have hU := heapAt_setCell_self (s := (T0.setVm vm1).setVm vm2) (plainBareV T.toThrowableT (freshCell P0.m.cls kX) a u0 sen msg) hlt
  refine ⟨_, st1 _ (fun acts => by rw [doInvoke_state]; exact st2 _ hwalk), hrun, hend, hWU, hsame.weaken (fun z hz hz2 => ?_) (Nat.le_refl _) (Nat.le_refl _), _, hU, rfl, rfl⟩
  rcases List.mem_append.mp hz with h1 | h1
  · exact h1
  · exfalso
    have hb : z.base = a := by
      simp only [List.mem_cons, List.not_mem_nil, or_false] at h1
      rcases h1 with rfl | rfl | rfl | rfl | rfl <;> rfl
    rw [hb] at hz2
    exact Nat.not_lt.mpr hnew hz2
variable {H : Heap} {Q : State → Prop}
variable {s0 : State} {D : va_G} {cl : List vw_C} {A : Nat → Prop} {ws : va_W} {pc : Nat} {ls : Array Slot} {rest : List Value} {cc : ByteArray} {own E : String}
/-- the same for such a class: new E; dup; ldc "text"; invokespecial; athrow -/
theorem fy_throwN {Yn : String} {ix : Nat} {rx : ByteArray} {sz : Nat} {text : String} {names : List String} {ik is ic sa : Nat} (hx : p.tables.exec = Jvm.exec) (hb : c.code = cc) (htr : l.stackTraces = false) (hown : s.vm.findClass own = some m.cls) (hE : Bundle.fit E = true) (hY : Bundle.fit Yn = true) (x0 : decode rx 0 = .ok (.aload_n 0, 1)) (x1 : decode rx 1 = .ok (.aload_n 1, 1)) (x2 : decode rx 2 = .ok (.invokespecial ix, 3)) (x5 : decode rx 5 = .ok (.return_, 1)) (hnames : ∀ n ∈ names, Bundle.fit n = true)
    (hLa : fy_La s0 s) (hAB : ∀ q, A q → fy_B s0 q) (hk0 : (Cond.classLink own ik E).before #[] s0 = true) (hi0 : (Cond.initialized E).before #[] s0 = true) (hs0 : vk_R own is text sa s0) (hw0 : ∀ w ∈ fy_nx own ic E Yn ix rx names, w.before #[] s0 = true) (hok : (fy_nx own ic E Yn ix rx names).all (fun w => (w.onTables && w.keepsFace) || decide (w ∈ fy_four)) = true)
    (hAe : A = va_A ws sz) (hP : va_P D cl ws H) (hS : va_S A s.heap H locs) (hsize : ls.size = c.maxLocals)
    (d0 : decode cc pc = .ok (.new ik, 3)) (d3 : decode cc (pc + 3) = .ok (.dup, 1)) (d4 : decode cc (pc + 4) = .ok (.ldc is, 2)) (d6 : decode cc (pc + 6) = .ok (.invokespecial ic, 3)) (d9 : decode cc (pc + 9) = .ok (.athrow, 1))
    (hout : ∀ x ∈ c.exceptionTable.toList, False) (hRf : names.length + 4 < R.frames) (hRl : (rest.map fun v => v.category).sum + (13 * (names.length + 2) + 43) ≤ R.locals) (hc : cells + 1 ≤ R.cells) (hs : slots + 6 ≤ R.slots) (hc1 : cells ≤ 0) (hs1 : slots ≤ 0) (hlocks : meth.locks = false) :
    W p l e R s m args below meth c H locs cells slots (fy_XE below D cl sz ws E args s) (F0 m pc ls rest) := by
  intro T hT X
  have htr' : e.platform.stackTraces = false := (show e.platform.stackTraces = l.stackTraces by rw [X.admits.platform]).trans htr
  have Y := fy_anew X (R' := { frames := R.frames, locals := R.locals, cells := 1, slots := 6 }) (Nat.le_refl _) (Nat.le_refl _) hc hs
  obtain ⟨s', hs'⟩ : ∃ z, z = (T.setVm s.vm).setFrames (.invoking m args :: below) := ⟨_, rfl⟩
  rw [← hs'] at Y
  have hvm : s'.vm = s.vm := by rw [hs']; rfl
  have hhp : s'.heap = H := by rw [hs']; exact hT
  have hW0 : s.WarmedH s'.vm := by rw [hvm]; exact State.WarmedH.refl s
  have hLa' : fy_La s0 s' := hLa.go hAB hS hhp hW0
  have hown' : s'.vm.findClass own = some m.cls := by rw [hvm]; exact hown
  have hat : ∀ w ∈ fy_nx own ic E Yn ix rx names, w.before args s' = true := fy_later hLa' hw0 hok (by simp [fy_nx, Bundle.throwableAtoms]) (by simp [fy_nx, Bundle.throwableAtoms]) (by simp [fy_nx, Bundle.throwableAtoms])
  have hk' : (Cond.classLink own ik E).before args s' = true := word_at hLa'.1 (Or.inl (by first | rfl | simp [Cond.onTables, Cond.keeps, Cond.steady])) hk0
  have hi' : (Cond.initialized E).before args s' = true := word_at hLa'.1 (Or.inl (by first | rfl | simp [Cond.onTables, Cond.keeps, Cond.steady])) hi0
  have hins : (Cond.instantiable E 6).before args s' = true := hat _ (by simp [fy_nx])
  have hstr : vk_R own is text sa s' := vk_R.warm hLa'.1 hs0
  obtain ⟨vm₁, cX, kX, hfX, hkX, -, -, X₁, st1⟩ := Y.newCold hx (own := own) (C := E) (index := ik) (n := 6) hown' hk' hins hi' (g := F0 m pc ls rest) rfl (by rw [hb]; exact d0) (Nat.le_refl _) (Nat.le_refl _)
  generalize hT1 : (T.setVm vm₁).pushCell { cls := cX, slots := kX.instanceTypes.map defaultValue, vm := .none } = T1 at X₁ st1
  have hcat : (Value.ref T.heap.size).category = 1 := rfl
  have hcellA : T1.heap[T.heap.size]? = some (freshCell cX kX) := by rw [← hT1]; exact State.heap_pushCell_size _ _
  have d3' : decode c.code (pc + 3) = .ok (.dup, 1) := by rw [hb]; exact d3
  have d4' : decode c.code (pc + 4) = .ok (.ldc is, 2) := by rw [hb]; exact d4
  obtain ⟨U, hsteps, hrun, hend, hW, hsame, ce, hce, hOv, hOc⟩ := fy_ctorN X₁ hx htr' (own := own) (E := E) (Y := Yn) (names := names) (ic := ic) hown' hE hY hnames x0 x1 x2 x5 hat (fun x hx => nomatch hx) hfX hkX hcellA (by rw [hhp, hT]; exact Nat.le_refl _) (msg := .ref sa) rfl
    (g := { method := m, pc := pc + 6, locals := ls, stack := .ref sa :: .ref T.heap.size :: .ref T.heap.size :: rest, locked := none }) rfl hsize rfl rfl (rest := rest) rfl
    (by rw [hb]; exact d6) (by rw [hb]; exact d9) (fun x hx => (hout x hx).elim) hRf (by simp only [List.map_cons, List.sum_cons, hcat]; show 2 * 0 + _ + _ ≤ _; omega) hlocks
  have hkeep : ∀ q : Nat, q < H.size → U.heap[q]? = H[q]? := by
    obtain ⟨-, g2, -, -, -, g6⟩ := hsame
    intro q hq
    rw [← hhp] at hq ⊢
    obtain ⟨c9, e1, e2, e3, e4⟩ := g6 q _ (Array.getElem?_eq_getElem hq)
    have h7 : c9.slots = (s'.heap[q]).slots := Array.ext_getElem? fun i => e4 i (fun hm => nomatch hm)
    rw [h7] at e2
    have e5 : U.heap[q]? = some c9 := e1
    rw [e5, e2, Array.getElem?_eq_getElem hq]
  have hgrow : H.size ≤ U.heap.size := by
    have h9 := hsame.2.1
    rw [hhp] at h9
    exact h9
  have hWs : s.WarmedH U.vm := State.WarmedH.trans hW0 hW
  have hcl : s.vm.findClass E = some ce.cls := by
    rw [← hvm, hOc]
    exact hfX
  have hall : s.sameButNew ({ U with vm := s.vm } : State) locs 1 6 := by
    subst hs'
    obtain ⟨e1, e2⟩ := hsame
    rw [State.setFrames_setFrames] at e1
    have h2 : (T.setVm s.vm).sameButNew ({ U with vm := s.vm } : State) [] (0 + 1) (0 + 6) := ⟨e1, e2⟩
    have h3 := X.same.trans h2
    rw [List.append_nil] at h3
    exact h3.mono (by omega) (by omega)
  refine ⟨U, ?_, .threw T.heap.size, hrun, hend, ⟨T.heap.size, ce, locs, rfl, hce, hOv, hcl, hWs, hall, by rw [← hAe]; exact hS.2.2⟩, hP.kept (fun k q hq => hkeep q.1 (hP k q hq).lt), ?_⟩
  · refine st1 _ ?_
    show Steps p.tables e below (T1.setTop { method := m, pc := pc + 3, locals := ls, stack := .ref T.heap.size :: rest, locked := none }) _
    jvm_step X₁.here [X₁.here.top, hx, d3', Value.category]
    exact X₁.ldcString hx (own := own) (text := text) (index := is) (a := sa) hown' hstr.1 hstr.2
      (g := { method := m, pc := pc + 4, locals := ls, stack := .ref T.heap.size :: .ref T.heap.size :: rest, locked := none }) rfl d4' _ hsteps
  · rw [← hAe]
    exact ⟨Nat.le_trans hS.1 hgrow, fun q h1 h2 => by rw [hkeep q (Nat.lt_of_lt_of_le h1 hS.1)]; exact hS.2.1 q h1 h2⟩
end FYN
