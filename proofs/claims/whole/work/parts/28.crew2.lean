section FMX
variable {L : List Nat} {nf : Nat → Nat} {rf : Nat → Nat → Option Nat} {S : Nat → Prop} {Q E : List Nat} {P : Nat → List Nat}
theorem fm_C.pile (h : fm_C L nf rf S Q E P) {w : Nat} (hw : w < 4) : (∀ x ∈ P w, x ∈ Q) ∧ (P w).length ≤ Q.length ∧ ∀ x ∈ P w, x ∉ E := by
  obtain ⟨h1, h2, h3, h4⟩ := h
  have hl := h3.length_eq
  have hn : (E ++ fm_F P).Nodup := h3.nodup_iff.mp h1
  rw [List.nodup_append] at hn
  refine ⟨fun x hx => h3.mem_iff.mpr (List.mem_append_right _ (fm_F_mem hw hx)), ?_, fun x hx hE => hn.2.2 x hE x (fm_F_mem hw hx) rfl⟩
  rw [List.length_append] at hl
  have : (P w).length ≤ (fm_F P).length := by
    rcases (show w = 0 ∨ w = 1 ∨ w = 2 ∨ w = 3 by omega) with rfl | rfl | rfl | rfl <;> simp [fm_F] <;> omega
  omega
theorem fm_last {l : List Nat} {k : Nat} (h : l.length = k + 1) : ∃ (l' : List Nat) (n : Nat), l = l' ++ [n] ∧ l'.length = k := by
  have hne : l ≠ [] := fun q => by rw [q] at h; simp at h
  exact ⟨l.dropLast, l.getLast hne, (List.dropLast_concat_getLast hne).symm, by simp [h]⟩
theorem fm_upl {P : Nat → List Nat} {w : Nat} {P' : List Nat} (j : Nat) : va_up (fun w => (P w).length) w P'.length j = ((va_up P w P') j).length := by
  unfold va_up
  split <;> rfl
theorem fm_none_of_nil {P : Nat → List Nat} (h : fm_F P = []) {w : Nat} (hw : w < 4) : P w = [] := by
  simp [fm_F] at h
  rcases (show w = 0 ∨ w = 1 ∨ w = 2 ∨ w = 3 by omega) with rfl | rfl | rfl | rfl
  · exact h.1
  · exact h.2.1
  · exact h.2.2.1
  · exact h.2.2.2
theorem fm_dec {n : Nat} : (fun (x _ : Nat) => decide (x ∈ E) || x == n) = fun (x _ : Nat) => decide (x ∈ E ++ [n]) := by
  funext x g
  rw [Bool.eq_iff_iff]
  simp
/-- of what a weak register refers to, that which is still there -/
def fm_wk (Q : List Nat) (o : Option Nat) : Option Nat := match o with
  | none => none
  | some n => if n ∈ Q then some n else none
end FMX
