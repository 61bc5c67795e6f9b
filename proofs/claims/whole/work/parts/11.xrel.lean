/-! THE CLASS'S CELLS AND THE DOCUMENT'S STATE -/
def isCm (k : Nat) : Prop := f_shp k = .inr 0 ∧ f_shp (k + 1) = .inl (0, 11) ∧ k + 1 < 77 ∧ f_pc k 0 = k + 2 ∧ k ≠ 7 ∧ k ≠ 8
/-- the references that stay: all but the plan's two rows of commands -/
def x_ref (P : Fr) : Prop := ∀ k j, k ≠ 7 → k ≠ 8 → P k j = f_pc k j
/-- the command at cell k is c -/
def x_cmd (I : Fm) (k : Nat) (c : List Nat) : Prop := I k 1 = nI c.length ∧ c.length ≤ 11 ∧ (∀ i, i < c.length → I (k + 1) i = nI (e_at c i)) ∧ ∀ x ∈ c, x < 256
theorem x_ref_cm {P : Fr} {k : Nat} (hP : x_ref P) (hk : isCm k) : P k 0 = k + 1 + 1 := (hP k 0 hk.2.2.2.2.1 hk.2.2.2.2.2).trans hk.2.2.2.1
theorem e_at_ge {c : List Nat} {j : Nat} (h : c.length ≤ j) : e_at c j = 0 := by simp [e_at, List.getD, List.getElem?_eq_none h]
theorem e_at_lt {c : List Nat} (h : ∀ x ∈ c, x < 256) (j : Nat) : e_at c j < 256 := by
  by_cases hj : j < c.length
  · unfold e_at
    rw [List.getD_eq_getElem?_getD, List.getElem?_eq_getElem hj]
    exact h _ (List.getElem_mem hj)
  · rw [e_at_ge (by omega)]
    omega
theorem e_at_drop (c : List Nat) (n i : Nat) : e_at (c.drop n) i = e_at c (n + i) := by
  simp [e_at, List.getD, List.getElem?_drop]
theorem x_cmd_kept {I I' : Fm} {k : Nat} {c : List Nat} (h : x_cmd I k c) (h1 : I' k = I k) (h2 : I' (k + 1) = I (k + 1)) : x_cmd I' k c := by
  obtain ⟨a, b, e, f⟩ := h
  exact ⟨by rw [h1]; exact a, b, fun i hi => by rw [h2]; exact e i hi, f⟩
