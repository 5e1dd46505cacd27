/-! calls whose cells lie side by side in the world -/
section FYM
theorem fy_put_mid : ∀ (n : Nat) (X wc Z w1 : va_W), wc.length = n → w1.length = n → fy_put (X ++ wc ++ Z) ((List.range n).map (· + X.length)) w1 = X ++ w1 ++ Z := by
  intro n
  induction n with
  | zero =>
    intro X wc Z w1 h1 h2
    have e1 := List.eq_nil_of_length_eq_zero h1
    have e2 := List.eq_nil_of_length_eq_zero h2
    subst e1
    subst e2
    rfl
  | succ n ih =>
    intro X wc Z w1 h1 h2
    cases wc with
    | nil => simp at h1
    | cons a wc =>
      cases w1 with
      | nil => simp at h2
      | cons a1 w1 =>
        have e : (List.range (n + 1)).map (· + X.length) = X.length :: (List.range n).map (· + (X ++ [a1]).length) := by
          rw [List.range_succ_eq_map, List.map_cons, List.map_map]
          simp only [Nat.zero_add, List.length_append, List.length_singleton, List.cons.injEq, true_and]
          refine List.map_congr_left (fun k _ => ?_)
          simp only [Function.comp]
          omega
        rw [e]
        show fy_put ((X ++ a :: wc ++ Z).set X.length a1) _ w1 = _
        have e2 : (X ++ a :: wc ++ Z).set X.length a1 = (X ++ [a1]) ++ wc ++ Z := by
          rw [List.append_assoc, List.set_append_right _ _ (Nat.le_refl _), Nat.sub_self]
          simp
        rw [e2, ih (X ++ [a1]) wc Z w1 (by simpa using h1) (by simpa using h2)]
        simp
theorem fy_mid_nd (n k : Nat) : va_nd ((List.range n).map (· + k)) = true := by
  induction n generalizing k with
  | zero => rfl
  | succ n ih =>
    have e : (List.range (n + 1)).map (· + k) = k :: (List.range n).map (· + (k + 1)) := by
      rw [List.range_succ_eq_map, List.map_cons, List.map_map]
      simp only [Nat.zero_add, List.cons.injEq, true_and]
      refine List.map_congr_left (fun j _ => ?_)
      simp only [Function.comp]
      omega
    rw [e]
    simp only [va_nd, ih (k + 1), Bool.and_true]
    simp
    intro x _ h
    omega
theorem fy_mid_C (X wc Z : va_W) : ((List.range wc.length).map (· + X.length)).map (fun i => (X ++ wc ++ Z)[i]?) = wc.map some := by
  apply List.ext_getElem?
  intro j
  by_cases h : j < wc.length
  · rw [List.getElem?_map, List.getElem?_map, List.getElem?_range h, List.getElem?_map, List.getElem?_eq_getElem h]
    simp only [Option.map_some]
    rw [List.append_assoc, List.getElem?_append_right (by omega), Nat.add_sub_cancel, List.getElem?_append_left h, List.getElem?_eq_getElem h]
  · rw [List.getElem?_eq_none (by simp; omega), List.getElem?_eq_none (by simp; omega)]
theorem fy_Met.len {l : Launch} {s0 : State} {D : va_G} {cl : List vw_C} {y : MethodName} {wl : List Cond} {rm : Room} {mc ms : Nat} {av : List Value} {ws : va_W} {post : Option Value → va_W → Prop} (h : fy_Met l s0 D cl y wl rm mc ms av ws post) : fy_Met l s0 D cl y wl rm mc ms av ws (fun r w1 => post r w1 ∧ w1.length = ws.length) := by
  intro sz p e ha hc hk s m args below hf happ hP hK
  obtain ⟨n, o, h1, h2, h3, ⟨⟨⟨r, w1, g1, g2, g3, g4⟩, g5⟩, h5⟩⟩ := h sz p e ha hc hk s m args below hf happ hP hK
  refine ⟨n, o, h1, h2, h3, ⟨⟨r, w1, g1, ⟨g2, ?_⟩, g3, g4⟩, g5⟩, h5⟩
  have := g3.length_eq
  simpa using this
variable {p : Program} {l : Launch} {e : Env} {R : Room} {s : State} {m : MethodId} {args : Array Value} {below : List Frame} {meth : Method} {c : Code} {H : Heap} {locs : List Loc} {cells slots : Nat} {Q : State → Prop}
variable {s0 : State} {D : va_G} {cl : List vw_C} {A : Nat → Prop} {tys : List (ClassId × FieldType)} {wc : va_W} {post : Option Value → va_W → Prop} {pc : Nat} {ls : Array Slot} {rest st0 : List Value}
variable {cc bytes : ByteArray} {nL maxL n index ci q0 : Nat} {Ts wl : List Cond} {own C : String} {y : MethodName} {ret : Option FieldType} {rm : Room} {b : Nat} {As fs : List Value} {vq : vw_C} {mc ms : Nat} {hh : List (Nat × Nat × Nat × Nat)}
theorem fy_callSW3 (X Z : va_W) (S : CallFix p m c cc nL s args Ts own) (hM : fy_Met l s0 D cl y wl rm mc ms As wc post) (hw : Cond.codeWith y bytes maxL ret hh ∈ wl) (hG : GoodIn Ts wl) (hrc : rm.cells = mc) (hrs : rm.slots = ms) (hR : rm.frames + 1 ≤ R.frames ∧ 8 + (maxL + 11) + rm.locals ≤ R.locals) (hl : (Cond.methodLink own index y).before args s = true) (hst : (Cond.static y).before args s = true) (hini : (Cond.initialized y.cls).before args s = true)
    (hd : y.cls ≠ "java/lang/invoke/MethodHandle" ∧ y.cls ≠ "java/lang/invoke/VarHandle" ∧ (parseMethodDescriptor y.desc).map (fun d => d.parameters.length) = some As.length) (hLa : fy_La s0 s) (hAB : ∀ q, A q → fy_B s0 q) (hA : ∀ q, s.heap.size ≤ q → A q) (hP : va_P D cl (X ++ wc ++ Z) H) (hD : va_D A (X ++ wc ++ Z)) (hS : va_S A s.heap H locs)
    (hsize : ls.size = nL) (hstack : st0 = As.reverse ++ rest) (hW : (rest.map fun v => v.category).sum ≤ 8) (hdg : decode cc pc = .ok (.invokestatic index, 3)) (hcs : cells + mc ≤ R.cells ∧ slots + ms ≤ R.slots)
    (kk : ∀ (r : Option Value) (w1 : va_W) (H1 : Heap) (locs1 : List Loc), post r w1 → va_P D cl (X ++ w1 ++ Z) H1 → va_D A (X ++ w1 ++ Z) → va_S A s.heap H1 locs1 → W p l e R s m args below meth c H1 locs1 (cells + mc) (slots + ms) Q (F0 m (pc + 3) ls (r.toList ++ rest))) : W p l e R s m args below meth c H locs cells slots Q (F0 m pc ls st0) :=
  fy_callSW S hM.len hw hG hrc hrs hR hl hst hini hd hLa hAB hA hP hD hS _ (fy_mid_nd wc.length X.length) (fy_mid_C X wc Z) hsize hstack hW hdg hcs (fun r w1 H1 locs1 hp hP1 hD1 hS1 => by
    rw [fy_put_mid wc.length X wc Z w1 rfl hp.2] at hP1 hD1
    exact kk r w1 H1 locs1 hp.1 hP1 hD1 hS1)
theorem fy_callV3 (X Z : va_W) (S : CallFix p m c cc nL s args Ts own) (hM : fy_Met l s0 D cl y wl rm 0 0 (.ref b :: As) wc post) (cw : CallW R s args own C index y bytes maxL ret wl rm 0 0 n) (hK : va_K D cl tys s) (hLa : fy_La s0 s) (hAB : ∀ q, A q → fy_B s0 q) (hA : ∀ q, s.heap.size ≤ q → A q) (hP : va_P D cl (X ++ wc ++ Z) H) (hD : va_D A (X ++ wc ++ Z)) (hS : va_S A s.heap H locs)
    (hc : cl[ci]? = some vq) (hq : vq.1 = C) (he : (X ++ wc ++ Z)[q0]? = some (b, .inr (ci, fs))) (hn : As.length = n) (hsize : ls.size = nL) (hstack : st0 = As.reverse ++ .ref b :: rest) (hW : (rest.map fun v => v.category).sum ≤ 8) (hdg : decode cc pc = .ok (.invokevirtual index, 3)) (hcs : cells ≤ R.cells ∧ slots ≤ R.slots)
    (kk : ∀ (r : Option Value) (w1 : va_W) (H1 : Heap) (locs1 : List Loc), post r w1 → va_P D cl (X ++ w1 ++ Z) H1 → va_D A (X ++ w1 ++ Z) → va_S A s.heap H1 locs1 → W p l e R s m args below meth c H1 locs1 cells slots Q (F0 m (pc + 3) ls (r.toList ++ rest))) : W p l e R s m args below meth c H locs cells slots Q (F0 m pc ls st0) :=
  fy_callV S hM.len cw hK hLa hAB hA hP hD hS _ (fy_mid_nd wc.length X.length) (fy_mid_C X wc Z) hc hq he hn hsize hstack hW hdg hcs (fun r w1 H1 locs1 hp hP1 hD1 hS1 => by
    rw [fy_put_mid wc.length X wc Z w1 rfl hp.2] at hP1 hD1
    exact kk r w1 H1 locs1 hp.1 hP1 hD1 hS1)
end FYM
