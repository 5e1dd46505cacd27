/-! the store as mathematics: numbers of objects, what is reached, sums over lists without doubles -/
section FM
/-- a number, or nothing -/
def fm_o (o : Option Nat) : Int32 := match o with
  | none => -1
  | some n => nI n
def fm_lt (o : Option Nat) (b : Nat) : Prop := ∀ n, o = some n → n < b
theorem fm_lt.mono {o : Option Nat} {a b : Nat} (h : fm_lt o a) (hab : a ≤ b) : fm_lt o b := fun n hn => Nat.lt_of_lt_of_le (h n hn) hab
theorem fm_lt.map {o : Option Nat} {b : Nat} {g : Nat → Nat} (h : ∀ n, o = some n → g n < b) : fm_lt (o.map g) b := by
  intro n hn
  cases o with
  | none => simp at hn
  | some k => simp at hn; subst hn; exact h k rfl
theorem fm_m1 {n : Nat} (h : n < 2 ^ 31) : ¬ nI n = -1 := by
  intro q
  have a := nI_toInt h
  rw [q] at a
  have : (-1 : Int32).toInt = -1 := by decide
  omega
theorem fm_o_m1 {o : Option Nat} (h : fm_lt o (2 ^ 31)) : fm_o o = -1 ↔ o = none := by
  cases o with
  | none => simp [fm_o]
  | some n => simp [fm_o, fm_m1 (h n rfl)]
theorem fm_o_neg {o : Option Nat} (h : fm_lt o (2 ^ 31)) : fm_o o < 0 ↔ o = none := by
  cases o with
  | none => simp [fm_o]
  | some n => simp [fm_o, nI_pos (h n rfl)]
theorem fm_o_nn {o : Option Nat} (h : fm_lt o (2 ^ 31)) : 0 ≤ fm_o o ↔ o ≠ none := by
  cases o with
  | none => simp [fm_o]
  | some n => simp [fm_o, nI_pos' (h n rfl)]
theorem fm_o_inj {a b : Option Nat} (ha : fm_lt a (2 ^ 31)) (hb : fm_lt b (2 ^ 31)) : fm_o a = fm_o b ↔ a = b := by
  cases a with
  | none =>
    constructor
    · intro h; exact ((fm_o_m1 hb).mp h.symm).symm
    · rintro rfl; rfl
  | some n =>
    cases b with
    | none => simp [fm_o, fm_m1 (ha n rfl)]
    | some k => simp [fm_o, nI_eq (ha n rfl) (hb k rfl)]
/-- the least set that holds S and, with an object, what its fields refer to -/
def fm_Cl (nf : Nat → Nat) (rf : Nat → Nat → Option Nat) (S : Nat → Prop) (n : Nat) : Prop := ∀ P : Nat → Prop, (∀ m, S m → P m) → (∀ a f b, P a → f < nf a → rf a f = some b → P b) → P n
theorem fm_Cl.base {nf : Nat → Nat} {rf : Nat → Nat → Option Nat} {S : Nat → Prop} {n : Nat} (h : S n) : fm_Cl nf rf S n := fun _ h1 _ => h1 n h
theorem fm_Cl.step {nf : Nat → Nat} {rf : Nat → Nat → Option Nat} {S : Nat → Prop} {a f b : Nat} (h : fm_Cl nf rf S a) (hf : f < nf a) (hr : rf a f = some b) : fm_Cl nf rf S b := fun P h1 h2 => h2 a f b (h P h1 h2) hf hr
theorem fm_Cl.least {nf : Nat → Nat} {rf : Nat → Nat → Option Nat} {S P : Nat → Prop} (h1 : ∀ m, S m → P m) (h2 : ∀ a f b, P a → f < nf a → rf a f = some b → P b) {n : Nat} (h : fm_Cl nf rf S n) : P n := h P h1 h2
/-- those of a list that have a property -/
noncomputable def fm_keep (L : List Nat) (P : Nat → Prop) : List Nat := L.filter (fun n => @decide (P n) (Classical.propDecidable _))
theorem fm_mem_keep {L : List Nat} {P : Nat → Prop} {n : Nat} : n ∈ fm_keep L P ↔ n ∈ L ∧ P n := by
  simp [fm_keep]
theorem fm_keep_nodup {L : List Nat} {P : Nat → Prop} (h : L.Nodup) : (fm_keep L P).Nodup := List.Sublist.nodup List.filter_sublist h
theorem fm_perm {Q L : List Nat} {P : Nat → Prop} (hQ : Q.Nodup) (hL : L.Nodup) (h : ∀ n, n ∈ Q ↔ n ∈ L ∧ P n) : Q.Perm (fm_keep L P) :=
  (List.perm_ext_iff_of_nodup hQ (fm_keep_nodup hL)).mpr fun n => by rw [h, fm_mem_keep]
/-- the words of the objects of a list -/
def fm_w (nf : Nat → Nat) (L : List Nat) : Nat := (L.map (fun n => nf n + 3)).sum
theorem fm_w_nil {nf : Nat → Nat} : fm_w nf [] = 0 := rfl
theorem fm_w_app {nf : Nat → Nat} {a b : List Nat} : fm_w nf (a ++ b) = fm_w nf a + fm_w nf b := by
  simp [fm_w, List.sum_append_nat]
theorem fm_w_one {nf : Nat → Nat} {n : Nat} : fm_w nf [n] = nf n + 3 := by simp [fm_w]
theorem fm_w_cons {nf : Nat → Nat} {n : Nat} {L : List Nat} : fm_w nf (n :: L) = nf n + 3 + fm_w nf L := by simp [fm_w]
theorem fm_w_perm {nf : Nat → Nat} {a b : List Nat} (h : a.Perm b) : fm_w nf a = fm_w nf b := (h.map _).sum_nat
theorem fm_w_len {nf : Nat → Nat} (L : List Nat) : 3 * L.length ≤ fm_w nf L := by
  induction L with
  | nil => simp [fm_w]
  | cons a L ih => rw [fm_w_cons, List.length_cons]; omega
theorem fm_w_erase {nf : Nat → Nat} {L : List Nat} {n : Nat} (h : n ∈ L) : fm_w nf L = nf n + 3 + fm_w nf (L.erase n) := by
  have := fm_w_perm (nf := nf) (List.perm_cons_erase h)
  rw [this, fm_w_cons]
theorem fm_w_sub {nf : Nat → Nat} : ∀ {a b : List Nat}, a.Nodup → a ⊆ b → fm_w nf a ≤ fm_w nf b
  | [], b, _, _ => by simp [fm_w]
  | n :: a, b, h, hs => by
    rw [List.nodup_cons] at h
    have hn : n ∈ b := hs List.mem_cons_self
    rw [fm_w_cons, fm_w_erase hn]
    have := fm_w_sub (nf := nf) (a := a) (b := b.erase n) h.2 (fun z hz => by
      have hzn : z ≠ n := fun q => h.1 (q ▸ hz)
      exact (List.mem_erase_of_ne hzn).mpr (hs (List.mem_cons_of_mem _ hz)))
    omega
theorem fm_w_congr {nf nf' : Nat → Nat} {L : List Nat} (h : ∀ n ∈ L, nf n = nf' n) : fm_w nf L = fm_w nf' L := by
  induction L with
  | nil => rfl
  | cons a L ih => rw [fm_w_cons, fm_w_cons, h a List.mem_cons_self, ih (fun n hn => h n (List.mem_cons_of_mem _ hn))]
/-- one more, if it isn't there -/
def fm_add (Q : List Nat) (o : Option Nat) : List Nat := match o with
  | none => Q
  | some n => if n ∈ Q then Q else Q ++ [n]
theorem fm_add_none {Q : List Nat} : fm_add Q none = Q := rfl
theorem fm_add_in {Q : List Nat} {n : Nat} (h : n ∈ Q) : fm_add Q (some n) = Q := by simp [fm_add, h]
theorem fm_add_new {Q : List Nat} {n : Nat} (h : n ∉ Q) : fm_add Q (some n) = Q ++ [n] := by simp [fm_add, h]
theorem fm_add_nodup {Q : List Nat} {o : Option Nat} (h : Q.Nodup) : (fm_add Q o).Nodup := by
  cases o with
  | none => exact h
  | some n =>
    by_cases hn : n ∈ Q
    · rw [fm_add_in hn]; exact h
    · rw [fm_add_new hn]
      rw [List.nodup_append]
      refine ⟨h, by simp, ?_⟩
      intro a ha b hb
      simp at hb
      subst hb
      exact fun q => hn (q ▸ ha)
theorem fm_mem_add {Q : List Nat} {o : Option Nat} {k : Nat} : k ∈ fm_add Q o ↔ k ∈ Q ∨ o = some k := by
  cases o with
  | none => simp [fm_add]
  | some n =>
    by_cases hn : n ∈ Q
    · rw [fm_add_in hn]
      constructor
      · exact Or.inl
      · rintro (h | h)
        · exact h
        · cases h; exact hn
    · rw [fm_add_new hn]
      simp
      constructor
      · rintro (h | h)
        · exact Or.inl h
        · exact Or.inr h.symm
      · rintro (h | h)
        · exact Or.inl h
        · exact Or.inr h.symm
/-- the same of the first k fields of n -/
def fm_adds (rf : Nat → Nat → Option Nat) (n : Nat) (Q : List Nat) : Nat → List Nat
  | 0 => Q
  | k + 1 => fm_add (fm_adds rf n Q k) (rf n k)
theorem fm_adds_nodup {rf : Nat → Nat → Option Nat} {n : Nat} {Q : List Nat} (h : Q.Nodup) : ∀ k, (fm_adds rf n Q k).Nodup
  | 0 => h
  | k + 1 => fm_add_nodup (fm_adds_nodup h k)
theorem fm_mem_adds {rf : Nat → Nat → Option Nat} {n : Nat} {Q : List Nat} {x : Nat} : ∀ k, x ∈ fm_adds rf n Q k ↔ x ∈ Q ∨ ∃ f, f < k ∧ rf n f = some x
  | 0 => by simp [fm_adds]
  | k + 1 => by
    rw [fm_adds, fm_mem_add, fm_mem_adds k]
    constructor
    · rintro ((h | ⟨f, h1, h2⟩) | h)
      · exact Or.inl h
      · exact Or.inr ⟨f, by omega, h2⟩
      · exact Or.inr ⟨k, by omega, h⟩
    · rintro (h | ⟨f, h1, h2⟩)
      · exact Or.inl (Or.inl h)
      · by_cases hf : f = k
        · subst hf; exact Or.inr h2
        · exact Or.inl (Or.inr ⟨f, by omega, h2⟩)
theorem fm_add_pre {Q : List Nat} {o : Option Nat} : ∃ X, fm_add Q o = Q ++ X := by
  cases o with
  | none => exact ⟨[], by simp [fm_add]⟩
  | some n =>
    by_cases hn : n ∈ Q
    · exact ⟨[], by simp [fm_add_in hn]⟩
    · exact ⟨[n], fm_add_new hn⟩
theorem fm_adds_pre {rf : Nat → Nat → Option Nat} {n : Nat} {Q : List Nat} : ∀ k, ∃ X, fm_adds rf n Q k = Q ++ X
  | 0 => ⟨[], by simp [fm_adds]⟩
  | k + 1 => by
    obtain ⟨X, h⟩ := fm_adds_pre (rf := rf) (n := n) (Q := Q) k
    obtain ⟨Y, h2⟩ := fm_add_pre (Q := fm_adds rf n Q k) (o := rf n k)
    exact ⟨X ++ Y, by rw [fm_adds, h2, h, List.append_assoc]⟩
/-- a space: the objects of L lie at their places, apart, below 'words' -/
def fm_Row (L : List Nat) (val : Nat → Int32) (age nf : Nat → Nat) (tr : Nat → Nat → Option Nat) (pl : Nat → Nat) (row : Nat → Int32) (words : Nat) : Prop :=
  (∀ n ∈ L, pl n + 3 + nf n ≤ words ∧ row (pl n) = nI n ∧ row (pl n + 1) = val n ∧ row (pl n + 2) = nI (8 * age n + nf n) ∧ ∀ f, f < nf n → row (pl n + 3 + f) = fm_o (tr n f)) ∧
  ∀ n ∈ L, ∀ k ∈ L, n ≠ k → pl n + 3 + nf n ≤ pl k ∨ pl k + 3 + nf k ≤ pl n
theorem fm_Row.inj {L : List Nat} {val : Nat → Int32} {age nf : Nat → Nat} {tr : Nat → Nat → Option Nat} {pl : Nat → Nat} {row : Nat → Int32} {words : Nat} (h : fm_Row L val age nf tr pl row words) {n k : Nat} (hn : n ∈ L) (hk : k ∈ L) (he : pl n = pl k) : n = k := by
  by_cases q : n = k
  · exact q
  · have := h.2 n hn k hk q
    omega
end FM
