/-! a later state of one run; the world that a call gives back in its place; calls of methods that make nothing -/
section FYA
/-- U comes after s0: warmer tables, and what was there is as it was -/
def fy_La (s0 U : State) : Prop := s0.WarmedH U.vm ∧ s0.heap.size ≤ U.heap.size ∧ ∀ q : Nat, q < s0.heap.size → U.heap[q]? = s0.heap[q]?
/-- made since s0 -/
def fy_B (s0 : State) : Nat → Prop := fun q => s0.heap.size ≤ q
theorem fy_La.rf (s0 : State) : fy_La s0 s0 := ⟨State.WarmedH.refl s0, Nat.le_refl _, fun _ _ => rfl⟩
theorem fy_La.go {s0 s U : State} {A : Nat → Prop} {H : Heap} {locs : List Loc} (h : fy_La s0 s) (hA : ∀ q, A q → fy_B s0 q) (hS : va_S A s.heap H locs) (hU : U.heap = H) (hW : s.WarmedH U.vm) : fy_La s0 U := by
  subst hU
  refine ⟨State.WarmedH.trans h.1 hW, Nat.le_trans h.2.1 hS.1, fun q hq => ?_⟩
  rw [hS.2.1 q (Nat.lt_of_lt_of_le hq h.2.1) (fun z => Nat.not_le_of_lt hq (hA q z))]
  exact h.2.2 q hq
/-- the cells es laid into the places is of ws -/
def fy_put : va_W → List Nat → va_W → va_W
  | ws, i :: is, e :: es => fy_put (ws.set i e) is es
  | ws, _, _ => ws
theorem fy_put_get : ∀ (is : List Nat) (es ws : va_W), is.length = es.length → ∀ (k : Nat) (q : Nat × va_E), (fy_put ws is es)[k]? = some q → (∃ j : Nat, is[j]? = some k ∧ es[j]? = some q) ∨ (k ∉ is ∧ ws[k]? = some q)
  | [], es, ws, hl, k, q, h => Or.inr ⟨by simp, by simpa [fy_put] using h⟩
  | i :: is, [], ws, hl, k, q, h => by simp at hl
  | i :: is, e :: es, ws, hl, k, q, h => by
    have h' : (fy_put (ws.set i e) is es)[k]? = some q := h
    rcases fy_put_get is es (ws.set i e) (by simpa using hl) k q h' with ⟨j, h1, h2⟩ | ⟨h1, h2⟩
    · exact Or.inl ⟨j + 1, by simpa using h1, by simpa using h2⟩
    · by_cases hk : k = i
      · subst hk
        have hlt : k < ws.length := by
          have := (List.getElem?_eq_some_iff.mp h2).1
          simpa using this
        rw [List.getElem?_set_self hlt] at h2
        exact Or.inl ⟨0, by simp, by simpa using h2⟩
      · rw [List.getElem?_set_ne (Ne.symm hk)] at h2
        exact Or.inr ⟨by simp [hk, h1], h2⟩
theorem fy_atC {ws wc : va_W} {is : List Nat} (hC : is.map (fun i => ws[i]?) = wc.map some) {j i : Nat} (hj : is[j]? = some i) : ∃ q, wc[j]? = some q ∧ ws[i]? = some q := by
  have h1 : (is.map (fun i => ws[i]?))[j]? = some (ws[i]?) := by rw [List.getElem?_map, hj]; rfl
  rw [hC, List.getElem?_map] at h1
  cases hw : wc[j]? with
  | none => rw [hw] at h1; cases h1
  | some q => rw [hw] at h1; exact ⟨q, rfl, (Option.some.inj h1).symm⟩
theorem fy_inC {ws wc : va_W} {is : List Nat} (hC : is.map (fun i => ws[i]?) = wc.map some) {j : Nat} {q : Nat × va_E} (hj : wc[j]? = some q) : ∃ i, is[j]? = some i ∧ ws[i]? = some q := by
  have h4 : (wc.map some)[j]? = some (some q) := by rw [List.getElem?_map, hj]; rfl
  rw [← hC, List.getElem?_map] at h4
  cases hi : is[j]? with
  | none => rw [hi] at h4; cases h4
  | some i => rw [hi] at h4; exact ⟨i, rfl, Option.some.inj h4⟩
theorem fy_subP {D : va_G} {cl : List vw_C} {ws wc : va_W} {H : Heap} {is : List Nat} (hC : is.map (fun i => ws[i]?) = wc.map some) (hP : va_P D cl ws H) : va_P D cl wc H := fun k q hk => by
  obtain ⟨i, -, h2⟩ := fy_inC hC hk
  exact hP i q h2
theorem fy_nodup {A : Nat → Prop} {w : va_W} (h : va_D A w) : (w.map Prod.fst).Nodup := by
  rw [List.nodup_iff_pairwise_ne, List.pairwise_iff_getElem]
  intro i j hi hj hij he
  simp only [List.length_map] at hi hj
  simp only [List.getElem_map] at he
  have := h.1 i j w[i] w[j] (List.getElem?_eq_getElem hi) (List.getElem?_eq_getElem hj) he
  omega
theorem fy_frame {A : Nat → Prop} {D : va_G} {cl : List vw_C} {ws wc w1 : va_W} {H H1 : Heap} (hP : va_P D cl ws H) (hD : va_D A ws) (is : List Nat) (hnd : va_nd is = true) (hC : is.map (fun i => ws[i]?) = wc.map some) (hf : (w1.map Prod.fst).Perm (wc.map Prod.fst)) (hk : ∀ q : Nat, q < H.size → ¬ va_A wc H.size q → H1[q]? = H[q]?) (hP1 : va_P D cl w1 H1) : va_P D cl (fy_put ws is w1) H1 ∧ va_D A (fy_put ws is w1) := by
  have hlen : is.length = w1.length := by
    have h1 := congrArg List.length hC
    have h2 := hf.length_eq
    simp at h1 h2
    omega
  have hDc : va_D A wc := hD.sub is hnd hC
  have hN1 : (w1.map Prod.fst).Nodup := hf.nodup_iff.mpr (fy_nodup hDc)
  have adr : ∀ (j : Nat) (q : Nat × va_E), w1[j]? = some q → ∃ (i : Nat) (q0 : Nat × va_E), i ∈ is ∧ ws[i]? = some q0 ∧ q0.1 = q.1 := by
    intro j q hj
    have h1 : q.1 ∈ w1.map Prod.fst := List.mem_map_of_mem (List.mem_of_getElem? hj)
    obtain ⟨q0, h2, h3⟩ := List.mem_map.mp (hf.mem_iff.mp h1)
    obtain ⟨j2, h4⟩ := List.getElem?_of_mem h2
    obtain ⟨i, h5, h6⟩ := fy_inC hC h4
    exact ⟨i, q0, List.mem_of_getElem? h5, h6, h3⟩
  refine ⟨fun k q hq => ?_, fun i j x y hi hj hxy => ?_, fun k q hq => ?_⟩
  · rcases fy_put_get is w1 ws hlen k q hq with ⟨j, h1, h2⟩ | ⟨h1, h2⟩
    · exact hP1 j q h2
    · refine (hP k q h2).kept (hk q.1 (hP k q h2).lt ?_)
      rintro (⟨j, e, h3⟩ | h3)
      · obtain ⟨i, h4, h5⟩ := fy_inC hC h3
        have h6 := hD.1 k i q (q.1, e) h2 h5 rfl
        subst h6
        exact h1 (List.mem_of_getElem? h4)
      · exact absurd (hP k q h2).lt (Nat.not_lt.mpr h3)
  · rcases fy_put_get is w1 ws hlen i x hi with ⟨a, h1, h2⟩ | ⟨h1, h2⟩ <;> rcases fy_put_get is w1 ws hlen j y hj with ⟨b, h3, h4⟩ | ⟨h3, h4⟩
    · have la := (List.getElem?_eq_some_iff.mp h2).1
      have e1 : (w1.map Prod.fst)[a]? = some x.1 := by rw [List.getElem?_map, h2]; rfl
      have e2 : (w1.map Prod.fst)[b]? = some x.1 := by rw [List.getElem?_map, h4, hxy]; rfl
      have hab : a = b := (List.getElem?_inj (by simpa using la) hN1).mp (e1.trans e2.symm)
      subst hab
      exact Option.some.inj (h1.symm.trans h3)
    · obtain ⟨i2, q0, g1, g2, g3⟩ := adr a x h2
      have := hD.1 i2 j q0 y g2 h4 (g3.trans hxy)
      subst this
      exact absurd g1 h3
    · obtain ⟨i2, q0, g1, g2, g3⟩ := adr b y h4
      have := hD.1 i2 i q0 x g2 h2 (g3.trans hxy.symm)
      subst this
      exact absurd g1 h1
    · exact hD.1 i j x y h2 h4 hxy
  · rcases fy_put_get is w1 ws hlen k q hq with ⟨j, h1, h2⟩ | ⟨h1, h2⟩
    · obtain ⟨i2, q0, g1, g2, g3⟩ := adr j q h2
      rw [← g3]
      exact hD.2 i2 q0 g2
    · exact hD.2 k q h2
end FYA
section FYB
/-- a contract's start and end: the world ws (its cells are made since s0), the heap's size sz; the answer and the world's new contents by 'post' -/
def fy_Pc (s0 : State) (D : va_G) (cl : List vw_C) (sz : Nat) (av : List Value) (ws : va_W) : Array Value → State → Prop := fun v U => v = av.toArray ∧ fy_La s0 U ∧ U.heap.size = sz ∧ va_P D cl ws U.heap ∧ va_D (fy_B s0) ws
def fy_Qc (D : va_G) (cl : List vw_C) (sz : Nat) (ws : va_W) (post : Option Value → va_W → Prop) : Array Value → State → Outcome → State → Prop := fun _ st oc t =>
  (∃ (r : Option Value) (w1 : va_W), oc = .returned r ∧ post r w1 ∧ (w1.map Prod.fst).Perm (ws.map Prod.fst) ∧ va_P D cl w1 t.heap) ∧ va_F (va_A ws sz) st t
def fy_Met (l : Launch) (s0 : State) (D : va_G) (cl : List vw_C) (y : MethodName) (wl : List Cond) (rm : Room) (mc ms : Nat) (av : List Value) (ws : va_W) (post : Option Value → va_W → Prop) : Prop :=
  ∀ sz : Nat, Met l y wl rm (fy_Pc s0 D cl sz av ws) (fy_Qc D cl sz ws post) mc ms (va_A ws sz)
theorem fy_blind {s0 : State} {D : va_G} {cl : List vw_C} {sz : Nat} {av : List Value} {ws : va_W} : FrameBlind (fy_Pc s0 D cl sz av ws) := fun _ _ _ _ q => q
def fy_rm (d : Nat) : Room := { frames := d, cells := 0, slots := 0, locals := 40 * d }
variable {p : Program} {l : Launch} {e : Env} {R : Room} {s : State} {m : MethodId} {args : Array Value} {below : List Frame} {meth : Method} {c : Code} {H : Heap} {locs : List Loc} {cells slots : Nat} {Q : State → Prop}
variable {s0 : State} {D : va_G} {cl : List vw_C} {A : Nat → Prop} {tys : List (ClassId × FieldType)} {ws wc : va_W} {post : Option Value → va_W → Prop} {pc : Nat} {ls : Array Slot} {rest st0 : List Value}
theorem fy_go {a : Array Value} {mc ms : Nat} (hr : va_Run p l e R s m args below meth c H locs cells slots mc ms (F0 m pc ls st0) rest (fy_Qc D cl H.size wc post a) (va_A wc H.size)) (hP : va_P D cl ws H) (hD : va_D A ws) (hS : va_S A s.heap H locs) (hA : ∀ q, s.heap.size ≤ q → A q) (is : List Nat) (hnd : va_nd is = true) (hC : is.map (fun i => ws[i]?) = wc.map some)
    (kk : ∀ (r : Option Value) (w1 : va_W) (H1 : Heap) (locs1 : List Loc), post r w1 → va_P D cl (fy_put ws is w1) H1 → va_D A (fy_put ws is w1) → va_S A s.heap H1 locs1 → W p l e R s m args below meth c H1 locs1 (cells + mc) (slots + ms) Q (F0 m (pc + 3) ls (r.toList ++ rest))) : W p l e R s m args below meth c H locs cells slots Q (F0 m pc ls st0) := by
  intro T hT X
  obtain ⟨v, st₀, t, T', L, h0, X', hL, e1, e2, ⟨⟨r, w1, hv, hp, hf, hP1⟩, hz, hk⟩, st⟩ := hr T hT X
  cases hv
  rw [h0] at hz hk
  have hfr := va_free hD hS hA is hC
  obtain ⟨hP', hD'⟩ := fy_frame hP hD is hnd hC hf hk hP1
  obtain ⟨t2, a1, b1⟩ := kk _ w1 t.heap (locs ++ L) hp hP' hD' ⟨Nat.le_trans hS.1 hz, fun q h1 h2 => by rw [hk q (Nat.lt_of_lt_of_le h1 hS.1) (fun z => h2 (hfr q z))]; exact hS.2.1 q h1 h2, fun q hq => by
      rcases List.mem_append.mp hq with h | h
      · exact hS.2.2 q h
      · exact hfr _ (hL q h)⟩ T' e1 X'
  exact ⟨t2, st t2 a1, b1⟩
theorem fy_pre {av : List Value} {U : State} (hLa : fy_La s0 s) (hAB : ∀ q, A q → fy_B s0 q) (hP : va_P D cl ws H) (hD : va_D A ws) (hS : va_S A s.heap H locs) (is : List Nat) (hnd : va_nd is = true) (hC : is.map (fun i => ws[i]?) = wc.map some) (hU : U.heap = H) (hW : s.WarmedH U.vm) : fy_Pc s0 D cl H.size av wc av.toArray U :=
  ⟨rfl, hLa.go hAB hS hU hW, by rw [hU], by rw [hU]; exact fy_subP hC hP, (hD.sub is hnd hC).weaken (fun _ q _ h => hAB q.1 h)⟩
variable {cc bytes : ByteArray} {nL maxL n index ci q0 : Nat} {Ts wl : List Cond} {own C : String} {y : MethodName} {ret : Option FieldType} {rm : Room} {b : Nat} {As : List Value} {fs : List Value} {vq : vw_C}
/-- invokevirtual -/
theorem fy_callV (S : CallFix p m c cc nL s args Ts own) (hM : fy_Met l s0 D cl y wl rm 0 0 (.ref b :: As) wc post) (cw : CallW R s args own C index y bytes maxL ret wl rm 0 0 n) (hK : va_K D cl tys s) (hLa : fy_La s0 s) (hAB : ∀ q, A q → fy_B s0 q) (hA : ∀ q, s.heap.size ≤ q → A q) (hP : va_P D cl ws H) (hD : va_D A ws) (hS : va_S A s.heap H locs)
    (is : List Nat) (hnd : va_nd is = true) (hC : is.map (fun i => ws[i]?) = wc.map some) (hc : cl[ci]? = some vq) (hq : vq.1 = C) (he : ws[q0]? = some (b, .inr (ci, fs))) (hn : As.length = n) (hsize : ls.size = nL) (hstack : st0 = As.reverse ++ .ref b :: rest) (hW : (rest.map fun v => v.category).sum ≤ 8) (hdg : decode cc pc = .ok (.invokevirtual index, 3)) (hcs : cells ≤ R.cells ∧ slots ≤ R.slots)
    (kk : ∀ (r : Option Value) (w1 : va_W) (H1 : Heap) (locs1 : List Loc), post r w1 → va_P D cl (fy_put ws is w1) H1 → va_D A (fy_put ws is w1) → va_S A s.heap H1 locs1 → W p l e R s m args below meth c H1 locs1 cells slots Q (F0 m (pc + 3) ls (r.toList ++ rest))) : W p l e R s m args below meth c H locs cells slots Q (F0 m pc ls st0) :=
  fy_go (va_runV (g := F0 m pc ls st0) S (hM H.size) cw ⟨fy_blind, by rw [← hq]; exact va_recv hK hP hc he, fun U hU hW => fy_pre hLa hAB hP hD hS is hnd hC hU hW⟩ rfl hn hsize hstack (lv_room hW) hdg hcs) hP hD hS hA is hnd hC kk
/-- invokestatic -/
theorem fy_callS (S : CallFix p m c cc nL s args Ts own) (hM : fy_Met l s0 D cl y wl rm 0 0 As wc post) (cw : CallB R s args own index y bytes maxL ret wl rm 0 0 n ∧ (Cond.static y).before args s = true) (hLa : fy_La s0 s) (hAB : ∀ q, A q → fy_B s0 q) (hA : ∀ q, s.heap.size ≤ q → A q) (hP : va_P D cl ws H) (hD : va_D A ws) (hS : va_S A s.heap H locs)
    (is : List Nat) (hnd : va_nd is = true) (hC : is.map (fun i => ws[i]?) = wc.map some) (hn : As.length = n) (hsize : ls.size = nL) (hstack : st0 = As.reverse ++ rest) (hW : (rest.map fun v => v.category).sum ≤ 8) (hdg : decode cc pc = .ok (.invokestatic index, 3)) (hcs : cells ≤ R.cells ∧ slots ≤ R.slots)
    (kk : ∀ (r : Option Value) (w1 : va_W) (H1 : Heap) (locs1 : List Loc), post r w1 → va_P D cl (fy_put ws is w1) H1 → va_D A (fy_put ws is w1) → va_S A s.heap H1 locs1 → W p l e R s m args below meth c H1 locs1 cells slots Q (F0 m (pc + 3) ls (r.toList ++ rest))) : W p l e R s m args below meth c H locs cells slots Q (F0 m pc ls st0) :=
  fy_go (va_runS (g := F0 m pc ls st0) S (hM H.size) cw ⟨fy_blind, fun U hU hW => fy_pre hLa hAB hP hD hS is hnd hC hU hW⟩ rfl hn hsize hstack (lv_room hW) hdg hcs) hP hD hS hA is hnd hC kk
/-- the number on top by another of its names -/
theorem fy_top {x z : Int32} (h : x = z) (k : W p l e R s m args below meth c H locs cells slots Q (F0 m pc ls (.int z :: rest))) : W p l e R s m args below meth c H locs cells slots Q (F0 m pc ls (.int x :: rest)) := h ▸ k
theorem fy_topl {x z : Int64} (h : x = z) (k : W p l e R s m args below meth c H locs cells slots Q (F0 m pc ls (.long z :: rest))) : W p l e R s m args below meth c H locs cells slots Q (F0 m pc ls (.long x :: rest)) := h ▸ k
/-- ends -/
theorem fy_reti {w1 : va_W} {v : Int32} {sz : Nat} (hx : p.tables.exec = Jvm.exec) (hb : c.code = cc) (hr : meth.sig.returnType = some .int) (hlocks : meth.locks = false) (hAe : A = va_A ws sz) (hpost : post (some (.int v)) w1) (hf : (w1.map Prod.fst).Perm (ws.map Prod.fst)) (hP : va_P D cl w1 H) (hS : va_S A s.heap H locs) (hdg : decode cc pc = .ok (.ireturn, 1)) :
    W p l e R s m args below meth c H locs cells slots (MQ below (fy_Qc D cl sz ws post) args s cells slots A) (F0 m pc ls [.int v]) := by
  subst hAe
  exact W.iret hx hb hr (fun t ht _ => ⟨⟨_, w1, rfl, hpost, hf, by rw [ht]; exact hP⟩, hS.F ht⟩) hS.2.2 hdg
theorem fy_retz {w1 : va_W} {v : Int32} {sz : Nat} (hx : p.tables.exec = Jvm.exec) (hb : c.code = cc) (hr : meth.sig.returnType = some .boolean) (hlocks : meth.locks = false) (hAe : A = va_A ws sz) (hv : v = 0 ∨ v = 1) (hpost : post (some (.int v)) w1) (hf : (w1.map Prod.fst).Perm (ws.map Prod.fst)) (hP : va_P D cl w1 H) (hS : va_S A s.heap H locs) (hdg : decode cc pc = .ok (.ireturn, 1)) :
    W p l e R s m args below meth c H locs cells slots (MQ below (fy_Qc D cl sz ws post) args s cells slots A) (F0 m pc ls [.int v]) := by
  subst hAe
  exact W.zret hx hb hr (by rcases hv with rfl | rfl <;> rfl) (fun t ht _ => ⟨⟨_, w1, rfl, hpost, hf, by rw [ht]; exact hP⟩, hS.F ht⟩) hS.2.2 hdg
theorem fy_retv {w1 : va_W} {sz : Nat} (hx : p.tables.exec = Jvm.exec) (hb : c.code = cc) (hr : meth.sig.returnType = none) (hlocks : meth.locks = false) (hAe : A = va_A ws sz) (hpost : post none w1) (hf : (w1.map Prod.fst).Perm (ws.map Prod.fst)) (hP : va_P D cl w1 H) (hS : va_S A s.heap H locs) (hdg : decode cc pc = .ok (.return_, 1)) :
    W p l e R s m args below meth c H locs cells slots (MQ below (fy_Qc D cl sz ws post) args s cells slots A) (F0 m pc ls []) := by
  subst hAe
  exact W.vret hx hb hr (fun t ht _ => ⟨⟨_, w1, rfl, hpost, hf, by rw [ht]; exact hP⟩, hS.F ht⟩) hS.2.2 hdg
/-- beginnings -/
theorem fy_in {wl' : List Cond} {av : List Value} {mc ms : Nat} (hy : plainName y.cls = true) (hw : wl = Cond.code y bytes maxL ret :: wl') (hnav : (lg_sl av).length ≤ maxL) (hK0 : va_K D cl tys s0) (hG : ∀ w ∈ Ts, w.before #[] s0 = true) (hgd : ∀ w ∈ Ts, goodWord w = true)
    (body : ∀ (p : Program) (e : Env) (s : State) (m : MethodId) (below : List Frame) (meth : Method) (c : Code) (A : Nat → Prop) (ls : Array Slot),
      p.tables.exec = Jvm.exec → c.code = bytes → meth.sig.returnType = ret → meth.locks = false → c.maxLocals = maxL → s.vm.findClass y.cls = some m.cls → (∀ w ∈ Ts, w.before av.toArray s = true) → va_K D cl tys s → fy_La s0 s → A = va_A ws s.heap.size → (∀ q, A q → fy_B s0 q) → (∀ q, s.heap.size ≤ q → A q) → lv_has ls maxL (lv_args 0 av) → va_P D cl ws s.heap → va_D A ws → va_S A s.heap s.heap [] →
      W p l e rm s m av.toArray below meth c s.heap [] 0 0 (MQ below (fy_Qc D cl s.heap.size ws post) av.toArray s mc ms A) (F0 m 0 ls [])) : fy_Met l s0 D cl y wl rm mc ms av ws post := by
  intro sz
  refine Met.ofW (cc := bytes) (maxL := maxL) (ret := ret) hy hw ?_
  intro p e s m args below meth c s₁ B hml hv
  obtain ⟨rfl, hLa, rfl, hP, hD0⟩ := hv
  rw [lg_entry_eq]
  exact body p e s m below meth c (va_A ws s.heap.size) _ B.exec B.bytes B.returns B.notSynchronized hml (findClass_of_methodNamed B.named) (fun w hw => word_at hLa.1 (good_of_word (hgd w hw)) (hG w hw)) (va_K.moved hLa.1.alike hK0) hLa rfl
    (fun q h => by
      rcases h with ⟨k, z, h⟩ | h
      · exact hD0.2 k (q, z) h
      · exact Nat.le_trans hLa.2.1 h) (fun q h => Or.inr h) (lv_entry av hnav) hP hD0.self va_S.rf
/-- arrays of ints by places that are naturals -/
theorem fy_iald {t0 k N : Nat} {cA : ClassId} {f : Nat → Int32} {v : Int32} (hx : p.tables.exec = Jvm.exec) (hb : c.code = cc) (hK : va_K D cl tys s) (hP : va_P D cl ws H) (q0 : Nat) (ha : ws[q0]? = some (b, .inl (cA, N, .inl f))) (ht : tys[t0]? = some (cA, .int)) (hN : N < 2 ^ 31) (hk : k < N) (hv : f k = v) (hdg : decode cc pc = .ok (.iaload, 1))
    (kk : W p l e R s m args below meth c H locs cells slots Q (F0 m (pc + 1) ls (.int v :: rest))) : W p l e R s m args below meth c H locs cells slots Q (F0 m pc ls (.int (nI k) :: .ref b :: rest)) := by
  refine va_iald hx hb hK hP q0 t0 ha ht (vp_in_nI hk hN) hdg ?_
  rw [nI_clamp (by omega), hv]
  exact kk
theorem fy_zald {t0 k N : Nat} {cA : ClassId} {f : Nat → Int32} {v : Int32} (hx : p.tables.exec = Jvm.exec) (hb : c.code = cc) (hK : va_K D cl tys s) (hP : va_P D cl ws H) (q0 : Nat) (ha : ws[q0]? = some (b, .inl (cA, N, .inl f))) (ht : tys[t0]? = some (cA, .boolean)) (hN : N < 2 ^ 31) (hk : k < N) (hv : f k = v) (hdg : decode cc pc = .ok (.baload, 1))
    (kk : W p l e R s m args below meth c H locs cells slots Q (F0 m (pc + 1) ls (.int v :: rest))) : W p l e R s m args below meth c H locs cells slots Q (F0 m pc ls (.int (nI k) :: .ref b :: rest)) := by
  refine va_zald hx hb hK hP q0 t0 ha ht (vp_in_nI hk hN) hdg ?_
  rw [nI_clamp (by omega), hv]
  exact kk
theorem fy_iast {t0 k N : Nat} {cA : ClassId} {f g : Nat → Int32} {x : Int32} {H0 : Heap} (hx : p.tables.exec = Jvm.exec) (hb : c.code = cc) (hK : va_K D cl tys s) (hP : va_P D cl ws H) (hD : va_D A ws) (hS : va_S A H0 H locs) (q0 : Nat) (ha : ws[q0]? = some (b, .inl (cA, N, .inl f))) (ht : tys[t0]? = some (cA, .int)) (hN : N < 2 ^ 31) (hk : k < N) (hg : upd f k x = g) (hdg : decode cc pc = .ok (.iastore, 1))
    (kk : ∀ (H1 : Heap) (locs1 : List Loc), va_P D cl (ws.set q0 (b, .inl (cA, N, .inl g))) H1 → va_D A (ws.set q0 (b, .inl (cA, N, .inl g))) → va_S A H0 H1 locs1 → W p l e R s m args below meth c H1 locs1 cells slots Q (F0 m (pc + 1) ls rest)) : W p l e R s m args below meth c H locs cells slots Q (F0 m pc ls (.int x :: .int (nI k) :: .ref b :: rest)) := by
  refine va_iast hx hb hK hP hD hS q0 t0 ha ht (vp_in_nI hk hN) hdg ?_
  rw [nI_clamp (by omega), hg]
  exact kk
theorem fy_aald {t0 k N v : Nat} {cA : ClassId} {f : Nat → Option Nat} (hx : p.tables.exec = Jvm.exec) (hb : c.code = cc) (hK : va_K D cl tys s) (hP : va_P D cl ws H) (q0 : Nat) (ha : ws[q0]? = some (b, .inl (cA, N, .inr (.inr (.inr (.inr f)))))) (ht : tys[t0]? = some (cA, .object C)) (hN : N < 2 ^ 31) (hk : k < N) (hv : f k = some v) (hdg : decode cc pc = .ok (.aaload, 1))
    (kk : W p l e R s m args below meth c H locs cells slots Q (F0 m (pc + 1) ls (.ref v :: rest))) : W p l e R s m args below meth c H locs cells slots Q (F0 m pc ls (.int (nI k) :: .ref b :: rest)) := by
  refine va_aldq hx hb hK hP q0 t0 ha ht (vp_in_nI hk hN) hdg ?_
  rw [nI_clamp (by omega), hv]
  exact kk
end FYB
