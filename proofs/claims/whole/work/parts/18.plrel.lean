/-! numbers with a sign -/
theorem sgn_toInt {b : Nat} (hb : b < 256) : (e_sgn b).toInt = e_sgz b := by
  unfold e_sgn e_sgz
  split
  · exact nI_toInt (by omega)
  · have h : (nI b - nI 256).toInt = (b : Int) - (256 : Nat) := pk_sub_toInt (by omega) (by decide)
    exact h
theorem sgz_bd {b : Nat} (hb : b < 256) : -128 ≤ e_sgz b ∧ e_sgz b ≤ 127 := by
  unfold e_sgz
  split <;> omega
theorem sgn_add {a b : Nat} (ha : a ≤ 65535) (hb : b < 256) : (nI a + e_sgn b).toInt = a + e_sgz b := by
  have h := sgz_bd hb
  rw [Int32.toInt_add, nI_toInt (by omega), sgn_toInt hb]
  exact Jvm.Kit.bmod32 (by omega) (by omega)
theorem sgn_addN {a b : Nat} (ha : a ≤ 65535) (hb : b < 256) (h0 : 0 ≤ (a : Int) + e_sgz b) : nI a + e_sgn b = nI ((a : Int) + e_sgz b).toNat := by
  have h := sgz_bd hb
  apply Int32.toInt_inj.mp
  rw [sgn_add ha hb, nI_toInt (by omega)]
  omega
theorem q_leT {x : Int32} {t : Nat} (ht : t < 2 ^ 31) : x ≤ nI t ↔ x.toInt ≤ t := by rw [Int32.le_iff_toInt_le, nI_toInt ht]
/-! the plan's cells -/
def isPC (k : Nat) : Prop := 9 ≤ k ∧ k ≤ 31 ∧ k % 2 = 1
theorem isPC_cm {k : Nat} (h : isPC k) : isCm k := by
  have h1 : ∀ k, k < 32 → (9 ≤ k ∧ k % 2 = 1) → isCm k := by
    unfold isCm
    decide +kernel
  exact h1 k (by have := h.2.1; omega) ⟨h.1, h.2.2⟩
def x_pm (P : Fr) (cm du : Nat → Nat) : Prop := (∀ i, i < 6 → P 7 i = cm i + 1 ∧ P 8 i = du i + 1 ∧ isPC (cm i) ∧ isPC (du i)) ∧ (∀ i j, i < 6 → j < 6 → cm i = cm j → i = j) ∧ (∀ i j, i < 6 → j < 6 → du i = du j → i = j) ∧ ∀ i j, i < 6 → j < 6 → cm i ≠ du j
def p_t (pl : List (Nat × List Nat)) (i : Nat) : Nat := (pl.getD i (0, [])).1
def p_c (pl : List (Nat × List Nat)) (i : Nat) : List Nat := (pl.getD i (0, [])).2
def x_pl (I : Fm) (cm : Nat → Nat) (pl : List (Nat × List Nat)) : Prop := I 5 3 = nI pl.length ∧ pl.length ≤ 6 ∧ ∀ i, i < pl.length → I 6 i = nI (p_t pl i) ∧ x_cmd I (cm i) (p_c pl i) ∧ p_t pl i ≤ 65535
def p_so (pl : List (Nat × List Nat)) : Prop := ∀ i j, i ≤ j → j < pl.length → p_t pl i ≤ p_t pl j
theorem p_mem {pl : List (Nat × List Nat)} {i : Nat} (h : i < pl.length) : pl.getD i (0, []) ∈ pl := by
  rw [List.getD_eq_getElem?_getD, List.getElem?_eq_getElem h]
  exact List.getElem_mem h
theorem p_of_mem {pl : List (Nat × List Nat)} {e : Nat × List Nat} (h : e ∈ pl) : ∃ i, i < pl.length ∧ e = pl.getD i (0, []) := by
  obtain ⟨i, hi, rfl⟩ := List.getElem_of_mem h
  exact ⟨i, hi, by rw [List.getD_eq_getElem?_getD, List.getElem?_eq_getElem hi]; rfl⟩
theorem x_pl_kept {I I' : Fm} {cm : Nat → Nat} {pl : List (Nat × List Nat)} (h : x_pl I cm pl) (h5 : I' 5 3 = I 5 3) (h6 : I' 6 = I 6) (hc : ∀ i, i < pl.length → I' (cm i) = I (cm i) ∧ I' (cm i + 1) = I (cm i + 1)) : x_pl I' cm pl := by
  obtain ⟨h1, h2, h3⟩ := h
  refine ⟨by rw [h5]; exact h1, h2, fun i hi => ?_⟩
  obtain ⟨a, b, c⟩ := h3 i hi
  exact ⟨by rw [h6]; exact a, x_cmd_kept b (hc i hi).1 (hc i hi).2, c⟩
theorem x_ref_7 {P : Fr} (hP : x_ref P) (j v : Nat) : x_ref (f_u P 7 j v) := fun k i h1 h2 => by rw [f_u_ne h1]; exact hP k i h1 h2
theorem x_ref_8 {P : Fr} (hP : x_ref P) (j v : Nat) : x_ref (f_u P 8 j v) := fun k i h1 h2 => by rw [f_u_ne h2]; exact hP k i h1 h2
/-- putting in: places -/
def p_pi (p n i : Nat) : Nat := if i < p then i else if i = p then n else if i ≤ n then i - 1 else i
theorem pi_lt {p n i : Nat} (hi : i < 6) (hn : n < 6) : p_pi p n i < 6 := by
  unfold p_pi; split; omega; split; omega; split <;> omega
theorem pi_inj {p n i j : Nat} (hp : p ≤ n) (h : p_pi p n i = p_pi p n j) : i = j := by
  unfold p_pi at h
  split at h <;> split at h <;> (try split at h) <;> (try split at h) <;> (try split at h) <;> (try split at h) <;> omega
theorem getD_ins {α : Type} {l : List α} {x d : α} {p i : Nat} (hp : p ≤ l.length) : (l.take p ++ x :: l.drop p).getD i d = if i < p then l.getD i d else if i = p then x else l.getD (i - 1) d := by
  have hl : (l.take p).length = p := by rw [List.length_take]; omega
  simp only [List.getD_eq_getElem?_getD]
  by_cases h : i < p
  · rw [if_pos h, List.getElem?_append_left (by omega), List.getElem?_take, if_pos h]
  · rw [if_neg h, List.getElem?_append_right (by omega), hl]
    by_cases h2 : i = p
    · rw [if_pos h2, h2, Nat.sub_self]; rfl
    · rw [if_neg h2, show i - p = (i - 1 - p) + 1 by omega, List.getElem?_cons_succ, List.getElem?_drop, show p + (i - 1 - p) = i - 1 by omega]
theorem ins_at : ∀ (pl : List (Nat × List Nat)) (p t : Nat) (c : List Nat), p ≤ pl.length → (∀ i, i < p → p_t pl i ≤ t) → (∀ i, p ≤ i → i < pl.length → t < p_t pl i) → e_ins pl t c = pl.take p ++ (t, c) :: pl.drop p
  | [], p, t, c, hp, _, _ => by
    have : p = 0 := by simpa using hp
    subst this
    rfl
  | e :: l, 0, t, c, _, _, h2 => by
    have h : t < e.1 := h2 0 (Nat.le_refl _) (by simp)
    unfold e_ins
    rw [if_neg (by omega)]
    rfl
  | e :: l, p + 1, t, c, hp, h1, h2 => by
    have h : e.1 ≤ t := h1 0 (by omega)
    unfold e_ins
    rw [if_pos h, ins_at l p t c (by simpa using hp) (fun i hi => h1 (i + 1) (by omega)) (fun i hi hl => h2 (i + 1) (by omega) (by simpa using hl))]
    rfl
theorem p_ext {a b : List (Nat × List Nat)} (hl : a.length = b.length) (h : ∀ i, i < a.length → a.getD i (0, []) = b.getD i (0, [])) : a = b := by
  apply List.ext_getElem hl
  intro i h1 h2
  have := h i h1
  rw [List.getD_eq_getElem?_getD, List.getD_eq_getElem?_getD, List.getElem?_eq_getElem h1, List.getElem?_eq_getElem h2] at this
  exact this
