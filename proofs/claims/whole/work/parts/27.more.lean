theorem fm_K.all {L : List Nat} {val : Nat → Int32} {age nf : Nat → Nat} {rf : Nat → Nat → Option Nat} {pl : Nat → Nat} {Q : List Nat} {Dn : Nat → Nat → Bool} {row F : Nat → Int32} {n : Nat} (h : fm_K L val age nf rf pl Q (fm_Df Dn n (nf n)) row F) (hn : n ∈ Q) : fm_K L val age nf rf pl Q (fun x g => Dn x g || x == n) row F := by
  refine h.same (fun x g hx hg => ?_) (fun x g hx => ?_)
  · unfold fm_Df
    by_cases e : x = n
    · subst e
      simp [hg]
    · have e2 : (x == n) = false := by simp [e]
      rw [e2]
      simp
  · have h9 := h.2.2.2.2.2 x g hx
    unfold fm_Df at h9
    have hxn : (x == n) = false := by
      simp
      intro q
      exact hx (q ▸ hn)
    rw [hxn] at h9 ⊢
    simpa using h9
