/-! a search by a queue finds what is reached; a copying by piles copies it -/
section FMB
variable {L : List Nat} {nf : Nat → Nat} {rf : Nat → Nat → Option Nat} {o : Option Nat}
/-- the queue Q, of which i are done -/
def fm_B (L : List Nat) (nf : Nat → Nat) (rf : Nat → Nat → Option Nat) (S : Nat → Prop) (i : Nat) (Q : List Nat) : Prop :=
  Q.Nodup ∧ (∀ x ∈ Q, x ∈ L ∧ fm_Cl nf rf S x) ∧ (∀ m, S m → m ∈ Q) ∧ i ≤ Q.length ∧ ∀ j, j < i → ∀ n, Q[j]? = some n → ∀ f b, f < nf n → rf n f = some b → b ∈ Q
def fm_closed (L : List Nat) (nf : Nat → Nat) (rf : Nat → Nat → Option Nat) : Prop := ∀ n ∈ L, ∀ f, f < nf n → ∀ b, rf n f = some b → b ∈ L
theorem fm_B_start (ho : ∀ m, o = some m → m ∈ L) : fm_B L nf rf (fun m => o = some m) 0 (fm_add [] o) := by
  refine ⟨fm_add_nodup List.nodup_nil, fun x hx => ?_, fun m hm => ?_, Nat.zero_le _, fun j hj => absurd hj (Nat.not_lt_zero j)⟩
  · rw [fm_mem_add] at hx
    rcases hx with h | h
    · simp at h
    · exact ⟨ho x h, fm_Cl.base h⟩
  · rw [fm_mem_add]
    exact Or.inr hm
theorem fm_B_step {S : Nat → Prop} {i n : Nat} {Q : List Nat} (h : fm_B L nf rf S i Q) (hn : Q[i]? = some n) (hL : fm_closed L nf rf) : fm_B L nf rf S (i + 1) (fm_adds rf n Q (nf n)) := by
  obtain ⟨h1, h2, h3, h4, h5⟩ := h
  obtain ⟨X, hX⟩ := fm_adds_pre (rf := rf) (n := n) (Q := Q) (nf n)
  have hi : i < Q.length := (List.getElem?_eq_some_iff.mp hn).1
  have hnQ : n ∈ Q := List.mem_of_getElem? hn
  refine ⟨fm_adds_nodup h1 _, fun x hx => ?_, fun m hm => ?_, ?_, fun j hj k hk f b hf hb => ?_⟩
  · rw [fm_mem_adds] at hx
    rcases hx with hx | ⟨f, hf, hx⟩
    · exact h2 x hx
    · exact ⟨hL n (h2 n hnQ).1 f hf x hx, (h2 n hnQ).2.step hf hx⟩
  · rw [fm_mem_adds]
    exact Or.inl (h3 m hm)
  · rw [hX, List.length_append]; omega
  · rw [hX, List.getElem?_append_left (by omega)] at hk
    rw [fm_mem_adds]
    by_cases hji : j = i
    · subst hji
      cases Option.some.inj (hk.symm.trans hn)
      exact Or.inr ⟨f, hf, hb⟩
    · exact Or.inl (h5 j (by omega) k hk f b hf hb)
theorem fm_B_len {S : Nat → Prop} {i : Nat} {Q : List Nat} (h : fm_B L nf rf S i Q) : Q.length ≤ L.length := List.Nodup.length_le_of_subset h.1 (fun x hx => (h.2.1 x hx).1)
theorem fm_B_end {S : Nat → Prop} {i : Nat} {Q : List Nat} (h : fm_B L nf rf S i Q) (hi : Q.length ≤ i) (hL : L.Nodup) : Q.Perm (fm_keep L (fm_Cl nf rf S)) := by
  obtain ⟨h1, h2, h3, h4, h5⟩ := h
  refine fm_perm h1 hL fun n => ⟨fun hn => h2 n hn, fun hn => ?_⟩
  refine fm_Cl.least (P := fun n => n ∈ Q) h3 (fun a f b ha hf hb => ?_) hn.2
  obtain ⟨j, hj⟩ := List.getElem?_of_mem ha
  exact h5 j (Nat.lt_of_lt_of_le (List.getElem?_eq_some_iff.mp hj).1 hi) a hj f b hf hb
/-- four piles, one behind another -/
def fm_F (P : Nat → List Nat) : List Nat := P 0 ++ P 1 ++ P 2 ++ P 3
theorem fm_F_push {P : Nat → List Nat} {t : Nat} {X : List Nat} (ht : t < 4) : (fm_F (va_up P t (P t ++ X))).Perm (fm_F P ++ X) := by
  rw [List.perm_iff_count]
  intro a
  rcases (show t = 0 ∨ t = 1 ∨ t = 2 ∨ t = 3 by omega) with rfl | rfl | rfl | rfl <;> simp [fm_F, va_up, List.count_append] <;> omega
theorem fm_F_pop {P : Nat → List Nat} {t n : Nat} {P' : List Nat} (ht : t < 4) (h : P t = P' ++ [n]) : (fm_F P).Perm (fm_F (va_up P t P') ++ [n]) := by
  rw [List.perm_iff_count]
  intro a
  rcases (show t = 0 ∨ t = 1 ∨ t = 2 ∨ t = 3 by omega) with rfl | rfl | rfl | rfl <;> simp [fm_F, va_up, h, List.count_append, List.count_cons] <;> omega
theorem fm_F_nil {P : Nat → List Nat} (h : ∀ w, w < 4 → P w = []) : fm_F P = [] := by
  simp [fm_F, h 0 (by omega), h 1 (by omega), h 2 (by omega), h 3 (by omega)]
theorem fm_F_mem {P : Nat → List Nat} {w x : Nat} (hw : w < 4) (hx : x ∈ P w) : x ∈ fm_F P := by
  rcases (show w = 0 ∨ w = 1 ∨ w = 2 ∨ w = 3 by omega) with rfl | rfl | rfl | rfl <;> simp [fm_F, hx]
/-- copied: Q; done: E; the others lie in the piles P -/
def fm_C (L : List Nat) (nf : Nat → Nat) (rf : Nat → Nat → Option Nat) (S : Nat → Prop) (Q E : List Nat) (P : Nat → List Nat) : Prop :=
  Q.Nodup ∧ (∀ x ∈ Q, x ∈ L ∧ fm_Cl nf rf S x) ∧ Q.Perm (E ++ fm_F P) ∧ ∀ n ∈ E, ∀ f b, f < nf n → rf n f = some b → b ∈ Q
theorem fm_C_len {S : Nat → Prop} {Q E : List Nat} {P : Nat → List Nat} (h : fm_C L nf rf S Q E P) : Q.length ≤ L.length ∧ fm_w nf Q ≤ fm_w nf L := ⟨List.Nodup.length_le_of_subset h.1 (fun x hx => (h.2.1 x hx).1), fm_w_sub h.1 (fun x hx => (h.2.1 x hx).1)⟩
theorem fm_C_start {S : Nat → Prop} : fm_C L nf rf S [] [] (fun _ => []) := ⟨List.nodup_nil, fun x hx => by simp at hx, by simp [fm_F], fun n hn => by simp at hn⟩
/-- a root is brought by worker t -/
theorem fm_C_root {S : Nat → Prop} {Q E X : List Nat} {P : Nat → List Nat} {t : Nat} {o : Option Nat} (h : fm_C L nf rf S Q E P) (ho : ∀ m, o = some m → m ∈ L ∧ fm_Cl nf rf S m) (ht : t < 4) (hX : fm_add Q o = Q ++ X) : fm_C L nf rf S (fm_add Q o) E (va_up P t (P t ++ X)) := by
  obtain ⟨h1, h2, h3, h4⟩ := h
  refine ⟨fm_add_nodup h1, fun x hx => ?_, ?_, fun n hn f b hf hb => ?_⟩
  · rw [fm_mem_add] at hx
    rcases hx with hx | hx
    · exact h2 x hx
    · exact ho x hx
  · rw [hX]
    refine (h3.append_right X).trans ?_
    rw [List.append_assoc]
    exact (fm_F_push ht).symm.append_left E
  · rw [fm_mem_add]
    exact Or.inl (h4 n hn f b hf hb)
/-- worker t takes n off the pile w and does its fields -/
theorem fm_C_step {S : Nat → Prop} {Q E X P' : List Nat} {P : Nat → List Nat} {w t n : Nat} (h : fm_C L nf rf S Q E P) (hL : fm_closed L nf rf) (hw : w < 4) (ht : t < 4) (hP : P w = P' ++ [n]) (hX : fm_adds rf n Q (nf n) = Q ++ X) : fm_C L nf rf S (fm_adds rf n Q (nf n)) (E ++ [n]) (va_up (va_up P w P') t ((va_up P w P') t ++ X)) := by
  obtain ⟨h1, h2, h3, h4⟩ := h
  have hnQ : n ∈ Q := h3.mem_iff.mpr (List.mem_append_right _ (fm_F_mem hw (by rw [hP]; simp)))
  refine ⟨fm_adds_nodup h1 _, fun x hx => ?_, ?_, fun k hk f b hf hb => ?_⟩
  · rw [fm_mem_adds] at hx
    rcases hx with hx | ⟨f, hf, hx⟩
    · exact h2 x hx
    · exact ⟨hL n (h2 n hnQ).1 f hf x hx, (h2 n hnQ).2.step hf hx⟩
  · rw [hX]
    have p1 := fm_F_pop hw hP
    have p2 := fm_F_push (P := va_up P w P') (X := X) ht
    rw [List.perm_iff_count] at h3 p1 p2 ⊢
    intro a
    have q1 := h3 a
    have q2 := p1 a
    have q3 := p2 a
    simp only [List.count_append] at q1 q2 q3 ⊢
    omega
  · rw [fm_mem_adds]
    rcases List.mem_append.mp hk with hk | hk
    · exact Or.inl (h4 k hk f b hf hb)
    · rw [List.mem_singleton] at hk
      subst hk
      exact Or.inr ⟨f, hf, hb⟩
theorem fm_C_end {S : Nat → Prop} {Q E : List Nat} {P : Nat → List Nat} (h : fm_C L nf rf S Q E P) (hS : ∀ m, S m → m ∈ Q) (hd : Q.length ≤ E.length) (hL : L.Nodup) : Q.Perm (fm_keep L (fm_Cl nf rf S)) ∧ fm_F P = [] ∧ ∀ n ∈ Q, n ∈ E := by
  obtain ⟨h1, h2, h3, h4⟩ := h
  have hl := h3.length_eq
  rw [List.length_append] at hl
  have hF : fm_F P = [] := List.eq_nil_of_length_eq_zero (by omega)
  have hE : ∀ n ∈ Q, n ∈ E := fun n hn => by
    have := h3.mem_iff.mp hn
    rw [hF, List.append_nil] at this
    exact this
  refine ⟨fm_perm h1 hL fun n => ⟨fun hn => h2 n hn, fun hn => ?_⟩, hF, hE⟩
  exact fm_Cl.least (P := fun n => n ∈ Q) hS (fun a f b ha hf hb => h4 a (hE a ha) f b hf hb) hn.2
/-- while not all are done a pile holds something -/
theorem fm_C_more {S : Nat → Prop} {Q E : List Nat} {P : Nat → List Nat} (h : fm_C L nf rf S Q E P) (hd : E.length < Q.length) : ∃ w, w < 4 ∧ P w ≠ [] := by
  by_cases q : ∃ w, w < 4 ∧ P w ≠ []
  · exact q
  · exfalso
    have hF : fm_F P = [] := fm_F_nil (fun w hw => by
      by_cases z : P w = []
      · exact z
      · exact absurd ⟨w, hw, z⟩ q)
    have hl := h.2.2.1.length_eq
    rw [hF, List.append_nil] at hl
    omega
end FMB
