/-! a space that is in order -/
section FMO
def fm_Ok (L : List Nat) (val : Nat → Int32) (age nf : Nat → Nat) (rf : Nat → Nat → Option Nat) (pl : Nat → Nat) (row : Nat → Int32) : Prop :=
  fm_Row L val age nf (fun n f => (rf n f).map pl) pl row (fm_w nf L) ∧ fm_w nf L ≤ 240 ∧ L.Nodup ∧ fm_closed L nf rf ∧ ∀ n ∈ L, nf n ≤ 4 ∧ age n < 2 ^ 20 ∧ n < 2 ^ 20
variable {L : List Nat} {val : Nat → Int32} {age nf : Nat → Nat} {rf : Nat → Nat → Option Nat} {pl : Nat → Nat} {row : Nat → Int32}
theorem fm_Ok.len (h : fm_Ok L val age nf rf pl row) : L.length ≤ 80 := by
  have h1 := fm_w_len (nf := nf) L
  have h2 := h.2.1
  omega
theorem fm_Ok.at (h : fm_Ok L val age nf rf pl row) {n : Nat} (hn : n ∈ L) : pl n + 3 + nf n ≤ 240 ∧ row (pl n) = nI n ∧ row (pl n + 1) = val n ∧ row (pl n + 2) = nI (8 * age n + nf n) ∧ (∀ f, f < nf n → row (pl n + 3 + f) = fm_o ((rf n f).map pl)) ∧ nf n ≤ 4 ∧ age n < 2 ^ 20 ∧ n < 2 ^ 20 := by
  obtain ⟨h1, h2, h3, h4, h5⟩ := h.1.1 n hn
  have h6 := h.2.1
  exact ⟨by omega, h2, h3, h4, h5, h.2.2.2.2 n hn⟩
theorem fm_Ok.inj (h : fm_Ok L val age nf rf pl row) : ∀ a ∈ L, ∀ b ∈ L, pl a = pl b → a = b := fun a ha b hb he => h.1.inj ha hb he
theorem fm_Ok.lt (h : fm_Ok L val age nf rf pl row) : ∀ n ∈ L, pl n < 240 := fun n hn => by
  have := (h.at hn).1
  omega
theorem fm_full {L Q : List Nat} {m : Nat} (hQ : Q.Nodup) (hs : ∀ x ∈ Q, x ∈ L) (hm : m ∈ L) (hn : m ∉ Q) : Q.length < L.length := by
  have h1 : (Q ++ [m]).Nodup := by rw [← fm_add_new hn]; exact fm_add_nodup hQ
  have h2 := List.Nodup.length_le_of_subset h1 (l₂ := L) (fun x hx => by
    rcases List.mem_append.mp hx with q | q
    · exact hs x q
    · rw [List.mem_singleton] at q; exact q ▸ hm)
  rw [List.length_append] at h2
  simp at h2
  omega
theorem fm_adds_sub {L Q : List Nat} {nf : Nat → Nat} {rf : Nat → Nat → Option Nat} {n : Nat} (hs : ∀ x ∈ Q, x ∈ L) (hc : fm_closed L nf rf) (hn : n ∈ L) {k : Nat} (hk : k ≤ nf n) : ∀ x ∈ fm_adds rf n Q k, x ∈ L := by
  intro x hx
  rw [fm_mem_adds] at hx
  rcases hx with h | ⟨f, h1, h2⟩
  · exact hs x h
  · exact hc n hn f (by omega) x h2
end FMO
