/-! counting slots -/
def bfb (tm od : Nat → Nat) (a b : Nat) : Bool := decide (tm a < tm b) || (decide (tm a = tm b) && decide (od a < od b))
theorem bfb_iff {tm od : Nat → Nat} {a b : Nat} : bfb tm od a b = true ↔ bf tm od a b := by simp [bfb, bf]
def dq (D : List Nat) (k : Nat) : Nat := if k ∈ D then 1 else 0
theorem dq_2 (D : List Nat) (k : Nat) : dq D k < 2 := by unfold dq; split <;> omega
def cn (X : List Nat) (q : Nat → Bool) : Nat → Nat
  | 0 => 0
  | m + 1 => cn X q m + if m ∈ X ∧ q m = true then 1 else 0
theorem cn_nil (q : Nat → Bool) : ∀ m, cn [] q m = 0
  | 0 => rfl
  | m + 1 => by rw [cn, cn_nil q m, if_neg (by simp)]
theorem cn_cons {a : Nat} {X : List Nat} {q : Nat → Bool} (ha : a ∉ X) : ∀ m, cn (a :: X) q m = cn X q m + if a < m ∧ q a = true then 1 else 0
  | 0 => by rw [cn, cn, if_neg (by omega)]
  | m + 1 => by
    rw [cn, cn, cn_cons ha m]
    by_cases e : m = a
    · subst e
      rw [if_neg (show ¬ (m < m ∧ q m = true) by omega), if_neg (show ¬ (m ∈ X ∧ q m = true) from fun z => ha z.1)]
      by_cases hq : q m = true
      · rw [if_pos ⟨List.mem_cons_self, hq⟩, if_pos ⟨by omega, hq⟩]
      · rw [if_neg (fun z => hq z.2), if_neg (fun z => hq z.2)]
    · have h1 : (m ∈ a :: X ∧ q m = true) ↔ (m ∈ X ∧ q m = true) := by simp [e]
      have h2 : (a < m + 1 ∧ q a = true) ↔ (a < m ∧ q a = true) := by constructor <;> intro z <;> exact ⟨by omega, z.2⟩
      simp only [h1, h2]
      omega
theorem cn_len {q : Nat → Bool} {m : Nat} : ∀ {X : List Nat}, X.Nodup → (∀ k ∈ X, k < m) → cn X q m = (X.filter q).length
  | [], _, _ => cn_nil q m
  | a :: X, hn, hm => by
    obtain ⟨h1, h2⟩ := List.nodup_cons.mp hn
    rw [cn_cons h1, cn_len h2 (fun k hk => hm k (List.mem_cons_of_mem _ hk)), List.filter_cons]
    have ha := hm a List.mem_cons_self
    by_cases hq : q a = true
    · rw [if_pos ⟨ha, hq⟩, if_pos hq, List.length_cons]
    · rw [if_neg (fun z => hq z.2), if_neg hq]; rfl
theorem cn_le (X : List Nat) (q : Nat → Bool) : ∀ m, cn X q m ≤ m
  | 0 => Nat.le_refl _
  | m + 1 => by have := cn_le X q m; rw [cn]; split <;> omega
theorem bf_irr {tm od : Nat → Nat} {a : Nat} : ¬ bf tm od a a := by unfold bf; omega
theorem bf_asy {tm od : Nat → Nat} {a b : Nat} (h : bf tm od a b) : ¬ bf tm od b a := by unfold bf at h ⊢; omega
/-- in a list by before, as many lie before an element as its place says -/
theorem rank_at {tm od : Nat → Nat} : ∀ {X : List Nat}, X.Pairwise (bf tm od) → ∀ {i : Nat} (hi : i < X.length), (X.filter (fun a => bfb tm od a X[i])).length = i
  | [], _, i, hi => absurd hi (Nat.not_lt_zero i)
  | a :: X, h, 0, hi => by
    obtain ⟨h1, h2⟩ := List.pairwise_cons.mp h
    rw [List.getElem_cons_zero, List.filter_cons, if_neg (fun z => bf_irr (bfb_iff.mp z)), List.filter_eq_nil_iff.mpr]
    · rfl
    · intro b hb z
      exact bf_asy (h1 b hb) (bfb_iff.mp z)
  | a :: X, h, i + 1, hi => by
    obtain ⟨h1, h2⟩ := List.pairwise_cons.mp h
    have hi : i < X.length := by simpa using hi
    rw [List.getElem_cons_succ, List.filter_cons, if_pos (bfb_iff.mpr (h1 _ (List.getElem_mem hi))), List.length_cons, rank_at h2 hi]
section Sl
variable {I : Fm} {tm od : Nat → Nat} {cd : Nat → List Nat} {L D : List Nat} {ca : Nat}
theorem sl_od (h : m_pln I tm od cd L D ca) {k : Nat} (hk : k < 6) : I 62 k = nI (od k) := (h.2.1 k hk).1
theorem sl_tm (h : m_pln I tm od cd L D ca) {k : Nat} (hk : k < 6) : I 61 k = nI (tm k) := (h.2.1 k hk).2.1
theorem sl_du (h : m_pln I tm od cd L D ca) {k : Nat} (hk : k < 6) : I 63 k = nI (dq D k) := (h.2.1 k hk).2.2.2.2.1.trans (by unfold dq; split <;> rfl)
theorem sl_bd (h : m_pln I tm od cd L D ca) {k : Nat} (hk : k < 6) : tm k ≤ 65535 ∧ od k ≤ ca := ⟨(h.2.1 k hk).2.2.1, (h.2.1 k hk).2.2.2.1⟩
theorem sl_ac (h : m_pln I tm od cd L D ca) {k : Nat} (hk : k < 6) : od k ≠ 0 ↔ (k ∈ L ∨ k ∈ D) := (h.2.1 k hk).2.2.2.2.2.1
theorem sl_cd (h : m_pln I tm od cd L D ca) {k : Nat} (hk : k < 6) : od k ≠ 0 → I 60 k = nI (cd k).length ∧ (cd k).length ≤ 11 ∧ (∀ i, i < (cd k).length → I 59 (12 * k + i) = nI (e_at (cd k) i)) ∧ ∀ x ∈ cd k, x < 256 := (h.2.1 k hk).2.2.2.2.2.2
theorem sl_inL (h : m_pln I tm od cd L D ca) {k : Nat} (hk : k < 6) : (od k ≠ 0 ∧ dq D k = 0) ↔ k ∈ L := by
  obtain ⟨-, hn, -⟩ := h.2
  have hdis := (List.nodup_append.mp hn).2.2
  constructor
  · intro z
    rcases (sl_ac h hk).mp z.1 with q | q
    · exact q
    · unfold dq at z; rw [if_pos q] at z; omega
  · intro z
    refine ⟨(sl_ac h hk).mpr (Or.inl z), ?_⟩
    unfold dq
    rw [if_neg (fun q => hdis k z k q rfl)]
theorem sl_inD (h : m_pln I tm od cd L D ca) {k : Nat} (hk : k < 6) : (od k ≠ 0 ∧ dq D k = 1) ↔ k ∈ D := by
  constructor
  · intro z
    apply Classical.byContradiction
    intro q
    unfold dq at z; rw [if_neg q] at z; omega
  · intro z
    refine ⟨(sl_ac h hk).mpr (Or.inr z), ?_⟩
    unfold dq
    rw [if_pos z]
theorem sl_L (h : m_pln I tm od cd L D ca) : L.Nodup ∧ (∀ k ∈ L, k < 6) ∧ L.Pairwise (bf tm od) ∧ L.length ≤ 6 := by
  have hn := (List.nodup_append.mp h.2.2.1).1
  have hm : ∀ k ∈ L, k < 6 := fun k hk => h.2.2.2.1 k (List.mem_append_left _ hk)
  refine ⟨hn, hm, h.2.2.2.2.2.1, ?_⟩
  have := cn_len (q := fun _ => true) hn hm
  rw [show L.filter (fun _ => true) = L from List.filter_eq_self.mpr (fun _ _ => rfl)] at this
  rw [← this]
  exact cn_le _ _ _
theorem sl_D (h : m_pln I tm od cd L D ca) : D.Nodup ∧ (∀ k ∈ D, k < 6) ∧ D.Pairwise (bf tm od) := ⟨(List.nodup_append.mp h.2.2.1).2.1, fun k hk => h.2.2.2.1 k (List.mem_append_right _ hk), h.2.2.2.2.2.2⟩
end Sl
theorem cn_all {X : List Nat} (hn : X.Nodup) (hm : ∀ k ∈ X, k < 6) : cn X (fun _ => true) 6 = X.length := by
  rw [cn_len hn hm, show X.filter (fun _ => true) = X from List.filter_eq_self.mpr (fun _ _ => rfl)]
