/-! what the writes of a space do to its objects -/
section FMR
variable {L : List Nat} {val : Nat → Int32} {age nf : Nat → Nat} {tr : Nat → Nat → Option Nat} {pl : Nat → Nat} {row : Nat → Int32} {w : Nat}
theorem fm_Row.congr {val' : Nat → Int32} {age' nf' : Nat → Nat} {tr' : Nat → Nat → Option Nat} {pl' : Nat → Nat} (h : fm_Row L val age nf tr pl row w) (he : ∀ n ∈ L, val n = val' n ∧ age n = age' n ∧ nf n = nf' n ∧ pl n = pl' n ∧ ∀ f, f < nf n → tr n f = tr' n f) : fm_Row L val' age' nf' tr' pl' row w := by
  refine ⟨fun n hn => ?_, fun n hn k hk hne => ?_⟩
  · obtain ⟨e1, e2, e3, e4, e5⟩ := he n hn
    obtain ⟨h1, h2, h3, h4, h5⟩ := h.1 n hn
    rw [← e1, ← e2, ← e3, ← e4]
    exact ⟨h1, h2, h3, h4, fun f hf => by rw [← e5 f hf]; exact h5 f hf⟩
  · obtain ⟨-, -, e3, e4, -⟩ := he n hn
    obtain ⟨-, -, g3, g4, -⟩ := he k hk
    rw [← e3, ← e4, ← g3, ← g4]
    exact h.2 n hn k hk hne
/-- an object is laid down behind the others -/
def fm_lay (row : Nat → Int32) (at0 : Nat) (x v : Int32) (k : Nat) : Nat → Int32 := fun j => if j = at0 then x else if j = at0 + 1 then v else if j = at0 + 2 then nI k else if at0 + 3 ≤ j ∧ j < at0 + 3 + k then -1 else row j
theorem fm_lay_lo {at0 k j : Nat} {x v : Int32} (h : j < at0) : fm_lay row at0 x v k j = row j := by
  unfold fm_lay
  rw [if_neg (by omega), if_neg (by omega), if_neg (by omega), if_neg (by omega)]
theorem fm_Row.lay {N k : Nat} {v : Int32} (h : fm_Row L val age nf tr pl row w) (hN : N ∉ L) : fm_Row (L ++ [N]) (va_up val N v) (va_up age N 0) (va_up nf N k) (va_up tr N (fun _ => none)) (va_up pl N w) (fm_lay row w (nI N) v k) (w + 3 + k) := by
  have ne : ∀ n, n ∈ L → n ≠ N := fun n hn q => hN (q ▸ hn)
  refine ⟨fun n hn => ?_, fun n hn m hm hne => ?_⟩
  · rcases List.mem_append.mp hn with hn | hn
    · obtain ⟨h1, h2, h3, h4, h5⟩ := h.1 n hn
      rw [va_up_ne _ _ (ne n hn), va_up_ne _ _ (ne n hn), va_up_ne _ _ (ne n hn), va_up_ne _ _ (ne n hn), va_up_ne _ _ (ne n hn)]
      refine ⟨by omega, ?_, ?_, ?_, fun f hf => ?_⟩
      · rw [fm_lay_lo (by omega)]; exact h2
      · rw [fm_lay_lo (by omega)]; exact h3
      · rw [fm_lay_lo (by omega)]; exact h4
      · rw [fm_lay_lo (by omega)]; exact h5 f hf
    · rw [List.mem_singleton] at hn
      subst hn
      rw [va_up_self, va_up_self, va_up_self, va_up_self, va_up_self]
      refine ⟨Nat.le_refl _, ?_, ?_, ?_, fun f hf => ?_⟩
      · simp [fm_lay]
      · simp [fm_lay]
      · simp [fm_lay]
      · unfold fm_lay
        rw [if_neg (by omega), if_neg (by omega), if_neg (by omega), if_pos (by omega)]
        rfl
  · rcases List.mem_append.mp hn with g1 | g1 <;> rcases List.mem_append.mp hm with g2 | g2
    · rw [va_up_ne _ _ (ne n g1), va_up_ne _ _ (ne n g1), va_up_ne _ _ (ne m g2), va_up_ne _ _ (ne m g2)]
      exact h.2 n g1 m g2 hne
    · rw [List.mem_singleton] at g2
      rw [g2, va_up_ne _ _ (ne n g1), va_up_ne _ _ (ne n g1), va_up_self, va_up_self]
      exact Or.inl (h.1 n g1).1
    · rw [List.mem_singleton] at g1
      rw [g1, va_up_ne _ _ (ne m g2), va_up_ne _ _ (ne m g2), va_up_self, va_up_self]
      exact Or.inr (h.1 m g2).1
    · rw [List.mem_singleton] at g1 g2
      exact absurd (g1.trans g2.symm) hne
theorem fm_upd_ne {f : Nat → Int32} {k j : Nat} {x : Int32} (h : j ≠ k) : upd f k x j = f j := by simp [upd, h]
theorem fm_upd_self {f : Nat → Int32} {k : Nat} {x : Int32} : upd f k x k = x := by simp [upd]
theorem fm_Row.put {n : Nat} {v : Int32} (h : fm_Row L val age nf tr pl row w) (hn : n ∈ L) : fm_Row L (va_up val n v) age nf tr pl (upd row (pl n + 1) v) w := by
  refine ⟨fun m hm => ?_, h.2⟩
  obtain ⟨h1, h2, h3, h4, h5⟩ := h.1 m hm
  by_cases hmn : m = n
  · subst hmn
    rw [va_up_self]
    exact ⟨h1, by rw [fm_upd_ne (by omega)]; exact h2, fm_upd_self, by rw [fm_upd_ne (by omega)]; exact h4, fun f hf => by rw [fm_upd_ne (by omega)]; exact h5 f hf⟩
  · rw [va_up_ne _ _ hmn]
    have hd := h.2 m hm n hn hmn
    have hw := (h.1 n hn).1
    refine ⟨h1, by rw [fm_upd_ne (by omega)]; exact h2, by rw [fm_upd_ne (by omega)]; exact h3, by rw [fm_upd_ne (by omega)]; exact h4, fun f hf => by rw [fm_upd_ne (by omega)]; exact h5 f hf⟩
theorem fm_Row.refer {n f : Nat} {o : Option Nat} (h : fm_Row L val age nf tr pl row w) (hn : n ∈ L) (hf : f < nf n) : fm_Row L val age nf (va_up tr n (va_up (tr n) f o)) pl (upd row (pl n + 3 + f) (fm_o o)) w := by
  refine ⟨fun m hm => ?_, h.2⟩
  obtain ⟨h1, h2, h3, h4, h5⟩ := h.1 m hm
  by_cases hmn : m = n
  · subst hmn
    rw [va_up_self]
    refine ⟨h1, by rw [fm_upd_ne (by omega)]; exact h2, by rw [fm_upd_ne (by omega)]; exact h3, by rw [fm_upd_ne (by omega)]; exact h4, fun g hg => ?_⟩
    by_cases hgf : g = f
    · subst hgf
      rw [fm_upd_self, va_up_self]
    · rw [fm_upd_ne (by omega), va_up_ne _ _ hgf]
      exact h5 g hg
  · rw [va_up_ne _ _ hmn]
    have hd := h.2 m hm n hn hmn
    have hw := (h.1 n hn).1
    refine ⟨h1, by rw [fm_upd_ne (by omega)]; exact h2, by rw [fm_upd_ne (by omega)]; exact h3, by rw [fm_upd_ne (by omega)]; exact h4, fun g hg => by rw [fm_upd_ne (by omega)]; exact h5 g hg⟩
/-- an object of another space is taken over, one older -/
theorem fm_Row.take {LF : List Nat} {trF : Nat → Nat → Option Nat} {plF : Nat → Nat} {rowF : Nat → Int32} {wF n : Nat} {ag : Nat → Nat} (h : fm_Row L val age nf tr pl row w) (hF : fm_Row LF val ag nf trF plF rowF wF) (hn : n ∈ LF) (hnL : n ∉ L) (ha : age n = ag n + 1) :
    fm_Row (L ++ [n]) val age nf (va_up tr n (trF n)) (va_up pl n w) (upd (va_cpy rowF row (plF n) w (3 + nf n)) (w + 2) (nI (8 * ag n + nf n + 8))) (w + 3 + nf n) := by
  have ne : ∀ k, k ∈ L → k ≠ n := fun k hk q => hnL (q ▸ hk)
  obtain ⟨f1, f2, f3, f4, f5⟩ := hF.1 n hn
  refine ⟨fun k hk => ?_, fun k hk m hm hne => ?_⟩
  · rcases List.mem_append.mp hk with hk | hk
    · obtain ⟨h1, h2, h3, h4, h5⟩ := h.1 k hk
      rw [va_up_ne _ _ (ne k hk), va_up_ne _ _ (ne k hk)]
      refine ⟨by omega, ?_, ?_, ?_, fun f hf => ?_⟩
      · rw [fm_upd_ne (by omega), pk_cpy_out (by omega)]; exact h2
      · rw [fm_upd_ne (by omega), pk_cpy_out (by omega)]; exact h3
      · rw [fm_upd_ne (by omega), pk_cpy_out (by omega)]; exact h4
      · rw [fm_upd_ne (by omega), pk_cpy_out (by omega)]; exact h5 f hf
    · rw [List.mem_singleton] at hk
      subst hk
      rw [va_up_self, va_up_self]
      refine ⟨Nat.le_refl _, ?_, ?_, ?_, fun f hf => ?_⟩
      · rw [fm_upd_ne (by omega), pk_cpy_in (by omega) (by omega), show plF k + (w - w) = plF k by omega]; exact f2
      · rw [fm_upd_ne (by omega), pk_cpy_in (by omega) (by omega), show plF k + (w + 1 - w) = plF k + 1 by omega]; exact f3
      · rw [fm_upd_self, ha]
        exact congrArg nI (by omega)
      · rw [fm_upd_ne (by omega), pk_cpy_in (by omega) (by omega), show plF k + (w + 3 + f - w) = plF k + 3 + f by omega]; exact f5 f hf
  · rcases List.mem_append.mp hk with g1 | g1 <;> rcases List.mem_append.mp hm with g2 | g2
    · rw [va_up_ne _ _ (ne k g1), va_up_ne _ _ (ne m g2)]
      exact h.2 k g1 m g2 hne
    · rw [List.mem_singleton] at g2
      rw [g2, va_up_ne _ _ (ne k g1), va_up_self]
      exact Or.inl (h.1 k g1).1
    · rw [List.mem_singleton] at g1
      rw [g1, va_up_ne _ _ (ne m g2), va_up_self]
      exact Or.inr (h.1 m g2).1
    · rw [List.mem_singleton] at g1 g2
      exact absurd (g1.trans g2.symm) hne
/-- the place of the n-th of those that were copied -/
def fm_q (nf : Nat → Nat) (Q : List Nat) (n : Nat) : Nat := fm_w nf (Q.takeWhile (fun k => k != n))
theorem fm_q_app {nf : Nat → Nat} {Q X : List Nat} {n : Nat} (h : n ∈ Q) : fm_q nf (Q ++ X) n = fm_q nf Q n := by
  unfold fm_q
  induction Q with
  | nil => simp at h
  | cons a Q ih =>
    by_cases ha : a = n
    · subst ha; simp
    · have h2 : n ∈ Q := by
        rcases List.mem_cons.mp h with q | q
        · exact absurd q.symm ha
        · exact q
      have h3 : (a != n) = true := by simp [ha]
      have e : ∀ Z : List Nat, List.takeWhile (fun k => k != n) (a :: Z) = a :: List.takeWhile (fun k => k != n) Z := fun Z => List.takeWhile_cons_of_pos (p := fun k => k != n) h3
      rw [List.cons_append, e, e, fm_w_cons, fm_w_cons, ih h2]
theorem fm_q_new {nf : Nat → Nat} {Q : List Nat} {n : Nat} (h : n ∉ Q) : fm_q nf (Q ++ [n]) n = fm_w nf Q := by
  unfold fm_q
  rw [List.takeWhile_append_of_pos (fun a ha => by simp; exact fun q => h (q ▸ ha))]
  simp
def fm_layf (row : Nat → Int32) (a : Nat) (x v : Int32) (k f : Nat) : Nat → Int32 := fun j => if j = a then x else if j = a + 1 then v else if j = a + 2 then nI k else if a + 3 ≤ j ∧ j < a + 3 + f then -1 else row j
theorem fm_layf_0 {a k : Nat} {x v : Int32} : upd (upd (upd row a x) (a + 1) v) (a + 2) (nI k) = fm_layf row a x v k 0 := by
  funext j
  simp only [upd, fm_layf]
  repeat' split
  all_goals first | rfl | (exfalso; omega)
theorem fm_layf_s {a k f : Nat} {x v : Int32} : upd (fm_layf row a x v k f) (a + 3 + f) (-1) = fm_layf row a x v k (f + 1) := by
  funext j
  simp only [upd, fm_layf]
  repeat' split
  all_goals first | rfl | (exfalso; omega)
/-- the queue and the marks of a walk -/
def fm_rep (pl : Nat → Nat) (Q : List Nat) (se qu : Nat → Int32) : Prop := (∀ p, p < 240 → se p = if p ∈ Q.map pl then 1 else 0) ∧ ∀ i n, Q[i]? = some n → qu i = nI (pl n)
theorem fm_rep_nil {pl : Nat → Nat} {se qu : Nat → Int32} (h : ∀ p, p < 240 → se p = 0) : fm_rep pl [] se qu := ⟨fun p hp => by rw [h p hp]; simp, fun i n hi => by simp at hi⟩
theorem fm_rep_new {pl : Nat → Nat} {Q : List Nat} {se qu : Nat → Int32} {n : Nat} (h : fm_rep pl Q se qu) : fm_rep pl (Q ++ [n]) (upd se (pl n) 1) (upd qu Q.length (nI (pl n))) := by
  refine ⟨fun p hp => ?_, fun i k hi => ?_⟩
  · by_cases q : p = pl n
    · subst q
      rw [fm_upd_self, if_pos (by simp)]
    · rw [fm_upd_ne q, h.1 p hp]
      simp [q]
  · by_cases q : i = Q.length
    · subst q
      rw [List.getElem?_append_right (Nat.le_refl _), Nat.sub_self] at hi
      simp at hi
      rw [fm_upd_self, hi]
    · have hl := (List.getElem?_eq_some_iff.mp hi).1
      simp at hl
      rw [List.getElem?_append_left (by omega)] at hi
      rw [fm_upd_ne q]
      exact h.2 i k hi
end FMR
