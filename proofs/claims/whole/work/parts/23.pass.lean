/-! the reference's marking: passes over the list until none adds anything -/
section FMP
variable {L : List Nat} {nf : Nat → Nat} {rf : Nat → Nat → Option Nat}
def fm_one (nf : Nat → Nat) (rf : Nat → Nat → Option Nat) (X : List Nat) (n : Nat) : List Nat := if n ∈ X then fm_adds rf n X (nf n) else X
def fm_pass (L : List Nat) (nf : Nat → Nat) (rf : Nat → Nat → Option Nat) (X : List Nat) : Nat → List Nat
  | 0 => X
  | k + 1 => match L[k]? with
    | none => fm_pass L nf rf X k
    | some n => fm_one nf rf (fm_pass L nf rf X k) n
theorem fm_pass_s {X : List Nat} {k n : Nat} (h : L[k]? = some n) : fm_pass L nf rf X (k + 1) = fm_one nf rf (fm_pass L nf rf X k) n := by
  simp [fm_pass, h]
theorem fm_one_pre {X : List Nat} {n : Nat} : ∃ Y, fm_one nf rf X n = X ++ Y := by
  unfold fm_one
  split
  · exact fm_adds_pre _
  · exact ⟨[], by simp⟩
theorem fm_pass_pre {X : List Nat} (k : Nat) : ∃ Y, fm_pass L nf rf X k = X ++ Y := by
  induction k with
  | zero => exact ⟨[], by simp [fm_pass]⟩
  | succ k ih =>
    obtain ⟨Y, h⟩ := ih
    cases hk : L[k]? with
    | none => exact ⟨Y, by simp [fm_pass, hk, h]⟩
    | some n =>
      obtain ⟨Z, h2⟩ := fm_one_pre (nf := nf) (rf := rf) (X := fm_pass L nf rf X k) (n := n)
      exact ⟨Y ++ Z, by rw [fm_pass_s hk, h2, h, List.append_assoc]⟩
theorem fm_pass_mono {X : List Nat} {k : Nat} : ∀ d, (fm_pass L nf rf X k).length ≤ (fm_pass L nf rf X (k + d)).length
  | 0 => Nat.le_refl _
  | d + 1 => by
    refine Nat.le_trans (fm_pass_mono d) ?_
    show _ ≤ (fm_pass L nf rf X (k + d + 1)).length
    cases hk : L[k + d]? with
    | none => simp [fm_pass, hk]
    | some n =>
      obtain ⟨Z, h2⟩ := fm_one_pre (nf := nf) (rf := rf) (X := fm_pass L nf rf X (k + d)) (n := n)
      rw [fm_pass_s hk, h2, List.length_append]
      omega
theorem fm_pass_same {X : List Nat} {k : Nat} (h : (fm_pass L nf rf X k).length = X.length) : fm_pass L nf rf X k = X := by
  obtain ⟨Y, hY⟩ := fm_pass_pre (L := L) (nf := nf) (rf := rf) (X := X) k
  rw [hY, List.length_append] at h
  rw [hY, List.eq_nil_of_length_eq_zero (show Y.length = 0 by omega), List.append_nil]
/-- what is marked so far -/
def fm_M (L : List Nat) (nf : Nat → Nat) (rf : Nat → Nat → Option Nat) (S : Nat → Prop) (X : List Nat) : Prop := X.Nodup ∧ ∀ x ∈ X, x ∈ L ∧ fm_Cl nf rf S x
theorem fm_M_nil {S : Nat → Prop} : fm_M L nf rf S [] := ⟨List.nodup_nil, fun x hx => by simp at hx⟩
theorem fm_M_add {S : Nat → Prop} {X : List Nat} {o : Option Nat} (h : fm_M L nf rf S X) (ho : ∀ m, o = some m → m ∈ L ∧ fm_Cl nf rf S m) : fm_M L nf rf S (fm_add X o) := by
  refine ⟨fm_add_nodup h.1, fun x hx => ?_⟩
  rw [fm_mem_add] at hx
  rcases hx with hx | hx
  · exact h.2 x hx
  · exact ho x hx
theorem fm_M_adds {S : Nat → Prop} {X : List Nat} {n : Nat} (h : fm_M L nf rf S X) (hL : fm_closed L nf rf) (hn : n ∈ X) : ∀ k, k ≤ nf n → fm_M L nf rf S (fm_adds rf n X k)
  | 0, _ => h
  | k + 1, hk => fm_M_add (fm_M_adds h hL hn k (by omega)) (fun m hm => ⟨hL n (h.2 n hn).1 k (by omega) m hm, (h.2 n hn).2.step (by omega) hm⟩)
theorem fm_M_one {S : Nat → Prop} {X : List Nat} {n : Nat} (h : fm_M L nf rf S X) (hL : fm_closed L nf rf) : fm_M L nf rf S (fm_one nf rf X n) := by
  unfold fm_one
  split
  · exact fm_M_adds h hL (by assumption) _ (Nat.le_refl _)
  · exact h
theorem fm_M_pass {S : Nat → Prop} {X : List Nat} (h : fm_M L nf rf S X) (hL : fm_closed L nf rf) : ∀ k, fm_M L nf rf S (fm_pass L nf rf X k)
  | 0 => h
  | k + 1 => by
    cases hk : L[k]? with
    | none => simp only [fm_pass, hk]; exact fm_M_pass h hL k
    | some n => rw [fm_pass_s hk]; exact fm_M_one (fm_M_pass h hL k) hL
theorem fm_M_len {S : Nat → Prop} {X : List Nat} (h : fm_M L nf rf S X) : X.length ≤ L.length := List.Nodup.length_le_of_subset h.1 (fun x hx => (h.2 x hx).1)
theorem fm_M_end {S : Nat → Prop} {X : List Nat} (h : fm_M L nf rf S X) (hS : ∀ m, S m → m ∈ X) (hL : L.Nodup) (hp : (fm_pass L nf rf X L.length).length = X.length) : X.Perm (fm_keep L (fm_Cl nf rf S)) := by
  refine fm_perm h.1 hL fun n => ⟨fun hn => h.2 n hn, fun hn => ?_⟩
  refine fm_Cl.least (P := fun n => n ∈ X) hS (fun a f b ha hf hb => ?_) hn.2
  obtain ⟨k, hk⟩ := List.getElem?_of_mem (h.2 a ha).1
  have hkl : k < L.length := (List.getElem?_eq_some_iff.mp hk).1
  have e0 : ∀ j, j ≤ L.length → fm_pass L nf rf X j = X := fun j hj => by
    have h1 := fm_pass_mono (L := L) (nf := nf) (rf := rf) (X := X) (k := j) (L.length - j)
    rw [show j + (L.length - j) = L.length by omega, hp] at h1
    obtain ⟨Y, hY⟩ := fm_pass_pre (L := L) (nf := nf) (rf := rf) (X := X) j
    refine fm_pass_same ?_
    rw [hY, List.length_append] at h1 ⊢
    omega
  have e1 := e0 (k + 1) (by omega)
  rw [fm_pass_s hk, e0 k (by omega), fm_one, if_pos ha] at e1
  rw [← e1, fm_mem_adds]
  exact Or.inr ⟨f, hf, hb⟩
theorem fm_count {X : List Nat} {P : Nat → Prop} (h : X.Perm (fm_keep L P)) : (L.filter (fun n => decide (n ∈ X))).length = (fm_keep L P).length := by
  have : L.filter (fun n => decide (n ∈ X)) = fm_keep L P := by
    unfold fm_keep
    refine List.filter_congr fun n hn => ?_
    have h1 : n ∈ X ↔ P n := by
      rw [h.mem_iff, fm_mem_keep]
      exact ⟨fun z => z.2, fun z => ⟨hn, z⟩⟩
    by_cases hp : P n
    · simp [hp, h1.mpr hp]
    · have hx : n ∉ X := fun z => hp (h1.mp z)
      simp [hp, hx]
  rw [this]
end FMP
