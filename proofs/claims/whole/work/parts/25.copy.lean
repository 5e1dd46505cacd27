/-! the state of a copying -/
section FMK
/-- what field g of x holds: its new place where D says so, else the old one -/
def fm_tr (rf : Nat → Nat → Option Nat) (pl q : Nat → Nat) (D : Nat → Nat → Bool) (x g : Nat) : Option Nat := if D x g = true then (rf x g).map q else (rf x g).map pl
/-- Q is copied, D done; row: the new space; F: where to -/
def fm_K (L : List Nat) (val : Nat → Int32) (age nf : Nat → Nat) (rf : Nat → Nat → Option Nat) (pl : Nat → Nat) (Q : List Nat) (D : Nat → Nat → Bool) (row F : Nat → Int32) : Prop :=
  Q.Nodup ∧ (∀ x ∈ Q, x ∈ L) ∧ fm_Row Q val (fun n => age n + 1) nf (fm_tr rf pl (fm_q nf Q) D) (fm_q nf Q) row (fm_w nf Q) ∧ (∀ n ∈ L, F (pl n) = if n ∈ Q then nI (fm_q nf Q n) else -1) ∧
  (∀ x g b, D x g = true → x ∈ Q → g < nf x → rf x g = some b → b ∈ Q) ∧ ∀ x g, x ∉ Q → D x g = false
def fm_new (Q : List Nat) (o : Option Nat) : List Nat := match o with
  | none => []
  | some n => if n ∈ Q then [] else [n]
theorem fm_new_eq {Q : List Nat} {o : Option Nat} : fm_add Q o = Q ++ fm_new Q o := by
  cases o with
  | none => simp [fm_add, fm_new]
  | some n =>
    by_cases h : n ∈ Q
    · simp [fm_add, fm_new, h]
    · simp [fm_add, fm_new, h]
/-- the pile of a worker -/
def fm_P (q : Nat → Nat) (P : List Nat) (pf : Nat → Int32) : Prop := ∀ j n, P[j]? = some n → pf j = nI (q n)
theorem fm_P.grow {nf : Nat → Nat} {Q X P : List Nat} {pf : Nat → Int32} (h : fm_P (fm_q nf Q) P pf) (hP : ∀ x ∈ P, x ∈ Q) : fm_P (fm_q nf (Q ++ X)) P pf := fun j n hj => by
  rw [fm_q_app (hP n (List.mem_of_getElem? hj))]
  exact h j n hj
theorem fm_P.push {q : Nat → Nat} {P : List Nat} {pf : Nat → Int32} {n : Nat} (h : fm_P q P pf) : fm_P q (P ++ [n]) (upd pf P.length (nI (q n))) := by
  intro j k hj
  by_cases e : j = P.length
  · subst e
    rw [List.getElem?_append_right (Nat.le_refl _), Nat.sub_self] at hj
    simp at hj
    rw [fm_upd_self, hj]
  · have hl := (List.getElem?_eq_some_iff.mp hj).1
    simp at hl
    rw [List.getElem?_append_left (by omega)] at hj
    rw [fm_upd_ne e]
    exact h j k hj
theorem fm_P.pop {q : Nat → Nat} {P : List Nat} {pf : Nat → Int32} {n : Nat} (h : fm_P q (P ++ [n]) pf) : fm_P q P pf := fun j k hj => h j k (by
  rw [List.getElem?_append_left (List.getElem?_eq_some_iff.mp hj).1]
  exact hj)
theorem fm_P.top {q : Nat → Nat} {P : List Nat} {pf : Nat → Int32} {n : Nat} (h : fm_P q (P ++ [n]) pf) : pf P.length = nI (q n) := h P.length n (by simp)
variable {L : List Nat} {val : Nat → Int32} {age nf : Nat → Nat} {rf : Nat → Nat → Option Nat} {pl : Nat → Nat} {Q : List Nat} {D : Nat → Nat → Bool} {row F : Nat → Int32} {rowF : Nat → Int32}
theorem fm_q_lt {nf : Nat → Nat} {Q : List Nat} {n : Nat} (h : n ∈ Q) : fm_q nf Q n + 3 + nf n ≤ fm_w nf Q := by
  unfold fm_q
  induction Q with
  | nil => simp at h
  | cons a Q ih =>
    by_cases e : a = n
    · subst e
      simp [fm_w_cons, fm_w_nil]
      omega
    · have h3 : (a != n) = true := by simp [e]
      have h2 : n ∈ Q := by
        rcases List.mem_cons.mp h with q | q
        · exact absurd q.symm e
        · exact q
      rw [List.takeWhile_cons_of_pos (p := fun k => k != n) h3, fm_w_cons, fm_w_cons]
      have := ih h2
      omega
theorem fm_map_q {nf : Nat → Nat} {Q X : List Nat} {o : Option Nat} (h : ∀ b, o = some b → b ∈ Q) : o.map (fm_q nf (Q ++ X)) = o.map (fm_q nf Q) := by
  cases o with
  | none => rfl
  | some b => simp [fm_q_app (h b rfl)]
/-- one more object is copied -/
theorem fm_K.new {n : Nat} (h : fm_K L val age nf rf pl Q D row F) (hk : fm_Ok L val age nf rf pl rowF) (hn : n ∈ L) (hnQ : n ∉ Q) :
    fm_K L val age nf rf pl (Q ++ [n]) D (upd (va_cpy rowF row (pl n) (fm_w nf Q) (3 + nf n)) (fm_w nf Q + 2) (nI (8 * age n + nf n + 8))) (upd F (pl n) (nI (fm_w nf Q))) := by
  obtain ⟨h1, h2, h3, h4, h5, h6⟩ := h
  have ne : ∀ x, x ∈ Q → x ≠ n := fun x hx q => hnQ (q ▸ hx)
  refine ⟨by rw [← fm_add_new hnQ]; exact fm_add_nodup h1, fun x hx => ?_, ?_, fun x hx => ?_, fun x g b hD hx hg hb => ?_, fun x g hx => ?_⟩
  · rcases List.mem_append.mp hx with q | q
    · exact h2 x q
    · rw [List.mem_singleton] at q; exact q ▸ hn
  · have ht := h3.take (n := n) hk.1 hn hnQ rfl
    rw [fm_w_app, fm_w_one, show fm_w nf Q + (nf n + 3) = fm_w nf Q + 3 + nf n by omega]
    refine ht.congr (fun x hx => ?_)
    rcases List.mem_append.mp hx with q | q
    · refine ⟨rfl, rfl, rfl, by rw [va_up_ne _ _ (ne x q), fm_q_app q], fun f hf => ?_⟩
      rw [va_up_ne _ _ (ne x q)]
      unfold fm_tr
      by_cases hd : D x f = true
      · rw [if_pos hd, if_pos hd, fm_map_q (fun b hb => h5 x f b hd q hf hb)]
      · rw [if_neg hd, if_neg hd]
    · rw [List.mem_singleton] at q
      subst q
      refine ⟨rfl, rfl, rfl, by rw [va_up_self, fm_q_new hnQ], fun f hf => ?_⟩
      rw [va_up_self]
      unfold fm_tr
      rw [if_neg (by rw [h6 x f hnQ]; exact Bool.false_ne_true)]
  · by_cases e : x = n
    · subst e
      rw [fm_upd_self, if_pos (by simp), fm_q_new hnQ]
    · rw [fm_upd_ne (fun q => e (hk.inj x hx n hn q)), h4 x hx]
      by_cases hxQ : x ∈ Q
      · rw [if_pos hxQ, if_pos (List.mem_append_left _ hxQ), fm_q_app hxQ]
      · rw [if_neg hxQ, if_neg]
        intro q
        rcases List.mem_append.mp q with q | q
        · exact hxQ q
        · rw [List.mem_singleton] at q; exact e q
  · by_cases hxQ : x ∈ Q
    · exact List.mem_append_left _ (h5 x g b hD hxQ hg hb)
    · rw [h6 x g hxQ] at hD
      exact absurd hD Bool.false_ne_true
  · exact h6 x g (fun q => hx (List.mem_append_left _ q))
/-- a field gets its new place -/
theorem fm_K.refer {n f : Nat} (h : fm_K L val age nf rf pl Q D row F) (hn : n ∈ Q) (hf : f < nf n) (hb : ∀ b, rf n f = some b → b ∈ Q) :
    fm_K L val age nf rf pl Q (fun x g => D x g || (x == n && g == f)) (upd row (fm_q nf Q n + 3 + f) (fm_o ((rf n f).map (fm_q nf Q)))) F := by
  obtain ⟨h1, h2, h3, h4, h5, h6⟩ := h
  refine ⟨h1, h2, (h3.refer hn hf).congr (fun x hx => ⟨rfl, rfl, rfl, rfl, fun g hg => ?_⟩), h4, fun x g b hD hx hg hb' => ?_, fun x g hx => ?_⟩
  · by_cases e : x = n
    · subst e
      rw [va_up_self]
      by_cases e2 : g = f
      · subst e2
        rw [va_up_self]
        simp [fm_tr]
      · rw [va_up_ne _ _ e2]
        simp [fm_tr, e2]
    · rw [va_up_ne _ _ e]
      simp [fm_tr, e]
  · simp at hD
    rcases hD with q | ⟨rfl, rfl⟩
    · exact h5 x g b q hx hg hb'
    · exact hb b hb'
  · have hxn : x ≠ n := fun q => hx (q ▸ hn)
    simp [h6 x g hx, hxn]
theorem fm_K.same {D' : Nat → Nat → Bool} (h : fm_K L val age nf rf pl Q D row F) (he : ∀ x g, x ∈ Q → g < nf x → D x g = D' x g) (h6' : ∀ x g, x ∉ Q → D' x g = false) : fm_K L val age nf rf pl Q D' row F := by
  obtain ⟨h1, h2, h3, h4, h5, h6⟩ := h
  refine ⟨h1, h2, h3.congr (fun x hx => ⟨rfl, rfl, rfl, rfl, fun g hg => ?_⟩), h4, fun x g b hD hx hg hb => ?_, h6'⟩
  · unfold fm_tr
    rw [he x g hx hg]
  · exact h5 x g b (by rw [he x g hx hg]; exact hD) hx hg hb
theorem fm_K.start {F : Nat → Int32} (hk : fm_Ok L val age nf rf pl rowF) (hF : ∀ p, p < 240 → F p = -1) : fm_K L val age nf rf pl [] (fun _ _ => false) row F :=
  ⟨List.nodup_nil, fun x hx => by simp at hx, ⟨fun n hn => by simp at hn, fun n hn => by simp at hn⟩, fun n hn => by rw [hF _ (hk.lt n hn)]; simp, fun x g b hD => absurd hD Bool.false_ne_true, fun _ _ _ => rfl⟩
end FMK
