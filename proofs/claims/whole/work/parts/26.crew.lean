/-! the crew's bookkeeping -/
section FMW
def fm_aX (rf : Nat → Nat → Option Nat) (n : Nat) (Q : List Nat) : Nat → List Nat
  | 0 => []
  | k + 1 => fm_aX rf n Q k ++ fm_new (fm_adds rf n Q k) (rf n k)
theorem fm_aX_eq {rf : Nat → Nat → Option Nat} {n : Nat} {Q : List Nat} (k : Nat) : fm_adds rf n Q k = Q ++ fm_aX rf n Q k := by
  induction k with
  | zero => simp [fm_adds, fm_aX]
  | succ k ih => rw [fm_adds, fm_new_eq, fm_aX, ← List.append_assoc, ← ih]
def fm_Df (Dn : Nat → Nat → Bool) (n f : Nat) : Nat → Nat → Bool := fun x g => Dn x g || (x == n && decide (g < f))
theorem fm_Df_0 {Dn : Nat → Nat → Bool} {n : Nat} : fm_Df Dn n 0 = Dn := by
  funext x g
  simp [fm_Df]
theorem fm_Df_s {Dn : Nat → Nat → Bool} {n f : Nat} : (fun x g => fm_Df Dn n f x g || (x == n && g == f)) = fm_Df Dn n (f + 1) := by
  funext x g
  unfold fm_Df
  rw [Bool.eq_iff_iff]
  simp
  constructor
  · rintro ((h | h) | h)
    · exact Or.inl h
    · exact Or.inr ⟨h.1, by omega⟩
    · exact Or.inr ⟨h.1, by omega⟩
  · rintro (h | h)
    · exact Or.inl (Or.inl h)
    · by_cases e : g = f
      · exact Or.inr ⟨h.1, e⟩
      · exact Or.inl (Or.inr ⟨h.1, by omega⟩)
theorem fm_cyc {t n w : Nat} (ht : t < n) (hw : w < n) : ∃ j, j < n ∧ (t + j) % n = w := by
  by_cases h : t ≤ w
  · exact ⟨w - t, by omega, by rw [show t + (w - t) = w by omega]; exact Nat.mod_eq_of_lt hw⟩
  · exact ⟨w + n - t, by omega, by rw [show t + (w + n - t) = w + n by omega, Nat.add_mod_right]; exact Nat.mod_eq_of_lt hw⟩
theorem fm_K.w {L : List Nat} {val : Nat → Int32} {age nf : Nat → Nat} {rf : Nat → Nat → Option Nat} {pl : Nat → Nat} {Q : List Nat} {D : Nat → Nat → Bool} {row F rowF : Nat → Int32} (h : fm_K L val age nf rf pl Q D row F) (hk : fm_Ok L val age nf rf pl rowF) : fm_w nf Q ≤ 240 := Nat.le_trans (fm_w_sub h.1 (fun x hx => h.2.1 x hx)) hk.2.1
/-- what holds of an object that is copied -/
theorem fm_K.at {L : List Nat} {val : Nat → Int32} {age nf : Nat → Nat} {rf : Nat → Nat → Option Nat} {pl : Nat → Nat} {Q : List Nat} {D : Nat → Nat → Bool} {row F rowF : Nat → Int32} (h : fm_K L val age nf rf pl Q D row F) (hk : fm_Ok L val age nf rf pl rowF) {n : Nat} (hn : n ∈ Q) : fm_q nf Q n + 3 + nf n ≤ 240 ∧ row (fm_q nf Q n + 2) = nI (8 * (age n + 1) + nf n) ∧ (∀ f, f < nf n → row (fm_q nf Q n + 3 + f) = fm_o (fm_tr rf pl (fm_q nf Q) D n f)) ∧ nf n ≤ 4 ∧ age n < 2 ^ 20 := by
  obtain ⟨g1, g2, g3, g4, g5⟩ := h.2.2.1.1 n hn
  have hw := h.w hk
  obtain ⟨-, -, -, -, -, k6, k7, -⟩ := hk.at (h.2.1 n hn)
  exact ⟨by omega, g4, g5, k6, k7⟩
end FMW
