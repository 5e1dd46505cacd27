/-! the four exceptions of this class, thrown by its own methods -/
section FYT
def fy_nI : String := "java/lang/IllegalArgumentException"
def fy_nS : String := "java/lang/IllegalStateException"
def fy_nO : String := "java/lang/IndexOutOfBoundsException"
def fy_nN : String := "java/util/NoSuchElementException"
def fy_re : List String := ["java/lang/RuntimeException", "java/lang/Exception"]
theorem fy_aI : fy_inT ([.classLink "ForwardYard" 50 fy_nI, .initialized fy_nI] ++ Bundle.ownAtoms "ForwardYard" 54 fy_nI fy_re) = true := by decide +kernel
theorem fy_aS : fy_inT ([.classLink "ForwardYard" 61 fy_nS, .initialized fy_nS] ++ Bundle.ownAtoms "ForwardYard" 65 fy_nS fy_re) = true := by decide +kernel
theorem fy_aO : fy_inT ([.classLink "ForwardYard" 153 fy_nO, .initialized fy_nO] ++ Bundle.ownAtoms "ForwardYard" 157 fy_nO fy_re) = true := by decide +kernel
theorem fy_aN : fy_inT ([.classLink "ForwardYard" 158 fy_nN, .initialized fy_nN] ++ fy_nx "ForwardYard" 162 fy_nN "java/lang/RuntimeException" 13 prog_17_method_4_code ["java/lang/Exception"]) = true := by decide +kernel
theorem fy_oI : (Bundle.ownAtoms "ForwardYard" 54 fy_nI fy_re).all (fun w => (w.onTables && w.keepsFace) || decide (w ∈ fy_four)) = true := by decide +kernel
theorem fy_oS : (Bundle.ownAtoms "ForwardYard" 65 fy_nS fy_re).all (fun w => (w.onTables && w.keepsFace) || decide (w ∈ fy_four)) = true := by decide +kernel
theorem fy_oO : (Bundle.ownAtoms "ForwardYard" 157 fy_nO fy_re).all (fun w => (w.onTables && w.keepsFace) || decide (w ∈ fy_four)) = true := by decide +kernel
theorem fy_oN : (fy_nx "ForwardYard" 162 fy_nN "java/lang/RuntimeException" 13 prog_17_method_4_code ["java/lang/Exception"]).all (fun w => (w.onTables && w.keepsFace) || decide (w ∈ fy_four)) = true := by decide +kernel
variable {p : Program} {l : Launch} {e : Env} {R : Room} {s : State} {m : MethodId} {args : Array Value} {below : List Frame} {meth : Method} {c : Code} {H : Heap} {locs : List Loc}
variable {s0 : State} {D : va_G} {cl : List vw_C} {A : Nat → Prop} {ws : va_W} {pc : Nat} {ls : Array Slot} {cc : ByteArray} {cI cZ cJ cW : ClassId}
theorem fy_findYd (hG : fy_G s0 D cI cZ cJ cW) : ∃ c, s0.vm.findClass "ForwardYard" = some c := by
  have h := hG.ts _ k_new_Yd
  obtain ⟨c, -, h1, -⟩ := Cond.instantiable_spec h
  exact ⟨c, h1⟩
theorem fy_tI {sz is : Nat} {text : String} (hG : fy_G s0 D cI cZ cJ cW) (hX : fy_GX l s0) (hst : Cond.stringRef "ForwardYard" is text ∈ lw_tbl) (hx : p.tables.exec = Jvm.exec) (hb : c.code = cc) (hown : s.vm.findClass "ForwardYard" = some m.cls) (hLa : fy_La s0 s) (hAB : ∀ q, A q → fy_B s0 q) (hAe : A = va_A ws sz) (hP : va_P D cl ws H) (hS : va_S A s.heap H locs) (hsize : ls.size = c.maxLocals)
    (d0 : decode cc pc = .ok (.new 50, 3)) (d3 : decode cc (pc + 3) = .ok (.dup, 1)) (d4 : decode cc (pc + 4) = .ok (.ldc is, 2)) (d6 : decode cc (pc + 6) = .ok (.invokespecial 54, 3)) (d9 : decode cc (pc + 9) = .ok (.athrow, 1)) (hout : ∀ x ∈ c.exceptionTable.toList, False) (hR : 6 ≤ R.frames ∧ 82 ≤ R.locals ∧ 1 ≤ R.cells ∧ 6 ≤ R.slots) (hlocks : meth.locks = false) :
    W p l e R s m args below meth c H locs 0 0 (fy_XE below D cl sz ws fy_nI args s) (F0 m pc ls []) := by
  obtain ⟨sa, hsa⟩ := fy_strR (hG.1 _ hst) (fy_findYd hG)
  have hw := fy_inT.at fy_aI hG.1 hX
  exact fy_throw (names := fy_re) hx hb hX.1 hown (by decide +kernel) (fun n hn => by simp only [fy_re, List.mem_cons, List.not_mem_nil, or_false] at hn; rcases hn with rfl | rfl <;> decide +kernel) hLa hAB (hw _ (List.mem_append_left _ List.mem_cons_self)) (hw _ (List.mem_append_left _ (List.mem_cons_of_mem _ List.mem_cons_self))) hsa (fun w h => hw w (List.mem_append_right _ h)) fy_oI hAe hP hS hsize d0 d3 d4 d6 d9 hout (show _ < R.frames from hR.1) (show 0 + (13 * 3 + 43) ≤ R.locals from hR.2.1) (by omega) (by omega) (Nat.le_refl _) (Nat.le_refl _) hlocks
theorem fy_tS {sz is : Nat} {text : String} (hG : fy_G s0 D cI cZ cJ cW) (hX : fy_GX l s0) (hst : Cond.stringRef "ForwardYard" is text ∈ lw_tbl) (hx : p.tables.exec = Jvm.exec) (hb : c.code = cc) (hown : s.vm.findClass "ForwardYard" = some m.cls) (hLa : fy_La s0 s) (hAB : ∀ q, A q → fy_B s0 q) (hAe : A = va_A ws sz) (hP : va_P D cl ws H) (hS : va_S A s.heap H locs) (hsize : ls.size = c.maxLocals)
    (d0 : decode cc pc = .ok (.new 61, 3)) (d3 : decode cc (pc + 3) = .ok (.dup, 1)) (d4 : decode cc (pc + 4) = .ok (.ldc is, 2)) (d6 : decode cc (pc + 6) = .ok (.invokespecial 65, 3)) (d9 : decode cc (pc + 9) = .ok (.athrow, 1)) (hout : ∀ x ∈ c.exceptionTable.toList, False) (hR : 6 ≤ R.frames ∧ 82 ≤ R.locals ∧ 1 ≤ R.cells ∧ 6 ≤ R.slots) (hlocks : meth.locks = false) :
    W p l e R s m args below meth c H locs 0 0 (fy_XE below D cl sz ws fy_nS args s) (F0 m pc ls []) := by
  obtain ⟨sa, hsa⟩ := fy_strR (hG.1 _ hst) (fy_findYd hG)
  have hw := fy_inT.at fy_aS hG.1 hX
  exact fy_throw (names := fy_re) hx hb hX.1 hown (by decide +kernel) (fun n hn => by simp only [fy_re, List.mem_cons, List.not_mem_nil, or_false] at hn; rcases hn with rfl | rfl <;> decide +kernel) hLa hAB (hw _ (List.mem_append_left _ List.mem_cons_self)) (hw _ (List.mem_append_left _ (List.mem_cons_of_mem _ List.mem_cons_self))) hsa (fun w h => hw w (List.mem_append_right _ h)) fy_oS hAe hP hS hsize d0 d3 d4 d6 d9 hout (show _ < R.frames from hR.1) (show 0 + (13 * 3 + 43) ≤ R.locals from hR.2.1) (by omega) (by omega) (Nat.le_refl _) (Nat.le_refl _) hlocks
theorem fy_tO {sz is : Nat} {text : String} (hG : fy_G s0 D cI cZ cJ cW) (hX : fy_GX l s0) (hst : Cond.stringRef "ForwardYard" is text ∈ lw_tbl) (hx : p.tables.exec = Jvm.exec) (hb : c.code = cc) (hown : s.vm.findClass "ForwardYard" = some m.cls) (hLa : fy_La s0 s) (hAB : ∀ q, A q → fy_B s0 q) (hAe : A = va_A ws sz) (hP : va_P D cl ws H) (hS : va_S A s.heap H locs) (hsize : ls.size = c.maxLocals)
    (d0 : decode cc pc = .ok (.new 153, 3)) (d3 : decode cc (pc + 3) = .ok (.dup, 1)) (d4 : decode cc (pc + 4) = .ok (.ldc is, 2)) (d6 : decode cc (pc + 6) = .ok (.invokespecial 157, 3)) (d9 : decode cc (pc + 9) = .ok (.athrow, 1)) (hout : ∀ x ∈ c.exceptionTable.toList, False) (hR : 6 ≤ R.frames ∧ 82 ≤ R.locals ∧ 1 ≤ R.cells ∧ 6 ≤ R.slots) (hlocks : meth.locks = false) :
    W p l e R s m args below meth c H locs 0 0 (fy_XE below D cl sz ws fy_nO args s) (F0 m pc ls []) := by
  obtain ⟨sa, hsa⟩ := fy_strR (hG.1 _ hst) (fy_findYd hG)
  have hw := fy_inT.at fy_aO hG.1 hX
  exact fy_throw (names := fy_re) hx hb hX.1 hown (by decide +kernel) (fun n hn => by simp only [fy_re, List.mem_cons, List.not_mem_nil, or_false] at hn; rcases hn with rfl | rfl <;> decide +kernel) hLa hAB (hw _ (List.mem_append_left _ List.mem_cons_self)) (hw _ (List.mem_append_left _ (List.mem_cons_of_mem _ List.mem_cons_self))) hsa (fun w h => hw w (List.mem_append_right _ h)) fy_oO hAe hP hS hsize d0 d3 d4 d6 d9 hout (show _ < R.frames from hR.1) (show 0 + (13 * 3 + 43) ≤ R.locals from hR.2.1) (by omega) (by omega) (Nat.le_refl _) (Nat.le_refl _) hlocks
theorem fy_tN {sz is : Nat} {text : String} (hG : fy_G s0 D cI cZ cJ cW) (hX : fy_GX l s0) (hst : Cond.stringRef "ForwardYard" is text ∈ lw_tbl) (hx : p.tables.exec = Jvm.exec) (hb : c.code = cc) (hown : s.vm.findClass "ForwardYard" = some m.cls) (hLa : fy_La s0 s) (hAB : ∀ q, A q → fy_B s0 q) (hAe : A = va_A ws sz) (hP : va_P D cl ws H) (hS : va_S A s.heap H locs) (hsize : ls.size = c.maxLocals)
    (d0 : decode cc pc = .ok (.new 158, 3)) (d3 : decode cc (pc + 3) = .ok (.dup, 1)) (d4 : decode cc (pc + 4) = .ok (.ldc is, 2)) (d6 : decode cc (pc + 6) = .ok (.invokespecial 162, 3)) (d9 : decode cc (pc + 9) = .ok (.athrow, 1)) (hout : ∀ x ∈ c.exceptionTable.toList, False) (hR : 6 ≤ R.frames ∧ 82 ≤ R.locals ∧ 1 ≤ R.cells ∧ 6 ≤ R.slots) (hlocks : meth.locks = false) :
    W p l e R s m args below meth c H locs 0 0 (fy_XE below D cl sz ws fy_nN args s) (F0 m pc ls []) := by
  obtain ⟨sa, hsa⟩ := fy_strR (hG.1 _ hst) (fy_findYd hG)
  have hw := fy_inT.at fy_aN hG.1 hX
  exact fy_throwN (Yn := "java/lang/RuntimeException") (ix := 13) (rx := prog_17_method_4_code) (names := ["java/lang/Exception"]) hx hb hX.1 hown (by decide +kernel) (by decide +kernel) (by decide +kernel) (by decide +kernel) (by decide +kernel) (by decide +kernel) (fun n hn => by rw [List.mem_singleton] at hn; subst hn; decide +kernel) hLa hAB (hw _ (List.mem_append_left _ List.mem_cons_self)) (hw _ (List.mem_append_left _ (List.mem_cons_of_mem _ List.mem_cons_self))) hsa (fun w h => hw w (List.mem_append_right _ h)) fy_oN hAe hP hS hsize d0 d3 d4 d6 d9 hout (show _ < R.frames from hR.1) (show 0 + (13 * 3 + 43) ≤ R.locals from hR.2.1) (by omega) (by omega) (Nat.le_refl _) (Nat.le_refl _) hlocks
theorem k_str_149 : Cond.stringRef "ForwardYard" 149 "no such register" ∈ lw_tbl := List.mem_of_getElem? (i := 192) rfl
set_option maxRecDepth 20000 in
theorem k_str_52 : Cond.stringRef "ForwardYard" 52 "fields is not 0 .. 4" ∈ lw_tbl := List.mem_of_getElem? (i := 219) rfl
set_option maxRecDepth 20000 in
theorem k_str_63 : Cond.stringRef "ForwardYard" 63 "the words would be more than 240" ∈ lw_tbl := List.mem_of_getElem? (i := 233) rfl
set_option maxRecDepth 20000 in
theorem k_str_160 : Cond.stringRef "ForwardYard" 160 "the register refers to nothing" ∈ lw_tbl := List.mem_of_getElem? (i := 266) rfl
set_option maxRecDepth 20000 in
theorem k_str_155 : Cond.stringRef "ForwardYard" 155 "the object has no such field" ∈ lw_tbl := List.mem_of_getElem? (i := 290) rfl
set_option maxRecDepth 20000 in
theorem k_str_151 : Cond.stringRef "ForwardYard" 151 "no such weak register" ∈ lw_tbl := List.mem_of_getElem? (i := 351) rfl
set_option maxRecDepth 20000 in
theorem k_str_102 : Cond.stringRef "ForwardYard" 102 "what is not 0 .. 3" ∈ lw_tbl := List.mem_of_getElem? (i := 381) rfl
set_option maxRecDepth 20000 in
theorem k_str_117 : Cond.stringRef "ForwardYard" 117 "workers is not 1 .. 4" ∈ lw_tbl := List.mem_of_getElem? (i := 425) rfl
set_option maxRecDepth 20000 in
theorem k_str_147 : Cond.stringRef "ForwardYard" 147 "k is not 0 .. 3" ∈ lw_tbl := List.mem_of_getElem? (i := 498) rfl
end FYT
