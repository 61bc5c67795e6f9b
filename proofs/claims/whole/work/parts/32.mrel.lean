/-! THE REFERENCE'S CELLS AND THE DOCUMENT'S STATE -/
def m_d (σ : Sg) (I : Fm) : Prop := I 56 24 = nI (s_g σ 0) ∧ I 56 25 = nI (s_g σ 1) ∧ I 56 26 = nI (1 - s_g σ 2) ∧ I 56 27 = nI (s_g σ 5) ∧ I 56 28 = nI (s_g σ 6) ∧ I 56 29 = nI (s_g σ 7) ∧ I 56 30 = nI (s_g σ 8) ∧ I 56 31 = nI (s_g σ 9)
def m_sto (I : Fm) (sr : List Q4) : Prop := I 56 23 = nI sr.length ∧ sr.length ≤ 10 ∧ ∀ i, i < sr.length → sr[i]? = some (I 76 (4 * i), I 76 (4 * i + 1), I 76 (4 * i + 2), I 76 (4 * i + 3))
def m_pa (σ : Sg) (I : Fm) : Prop := ∀ p, p < 8 → I 75 p = s_pa σ p
def m_ws (σ : Sg) (I : Fm) : Prop := ∀ m, m < 4 → I 66 m = nI (s_wn σ m 0) ∧ I 67 m = nI (s_wn σ m 1) ∧ I 68 m = s_wb σ m 0 ∧ I 69 m = s_wb σ m 1 ∧ I 70 m = nI (s_wn σ m 2) ∧ I 71 m = nI (s_wn σ m 3) ∧ I 72 m = nI (s_wn σ m 4)
def m_li (σ : Sg) (I : Fm) : Prop := ∀ s, s < 2 → I 73 s = nI (s_ho σ s 0) ∧ I 74 s = nI (s_ho σ s 1)
def m_ac (σ : Sg) (I : Fm) : Prop := ∀ e, e < 4 → I 65 e = nI (s_ac σ e).length ∧ (s_ac σ e).length ≤ 11 ∧ (∀ i, i < (s_ac σ e).length → I 64 (12 * e + i) = nI (e_at (s_ac σ e) i)) ∧ ∀ x ∈ s_ac σ e, x < 256
/-- the command at work -/
def m_w (I : Fm) (c : List Nat) : Prop := I 56 3 = nI c.length ∧ c.length ≤ 11 ∧ (∀ i, i < c.length → I 58 i = nI (e_at c i)) ∧ ∀ x ∈ c, x < 256
/-- before: by time, then by coming -/
def bf (tm od : Nat → Nat) (a b : Nat) : Prop := tm a < tm b ∨ (tm a = tm b ∧ od a < od b)
def m_pln (I : Fm) (tm od : Nat → Nat) (cd : Nat → List Nat) (L D : List Nat) (ca : Nat) : Prop :=
  I 56 8 = nI ca ∧ (∀ k, k < 6 → I 62 k = nI (od k) ∧ I 61 k = nI (tm k) ∧ tm k ≤ 65535 ∧ od k ≤ ca ∧ I 63 k = (if k ∈ D then nI 1 else nI 0) ∧ (od k ≠ 0 ↔ (k ∈ L ∨ k ∈ D)) ∧ (od k ≠ 0 → I 60 k = nI (cd k).length ∧ (cd k).length ≤ 11 ∧ (∀ i, i < (cd k).length → I 59 (12 * k + i) = nI (e_at (cd k) i)) ∧ ∀ x ∈ cd k, x < 256)) ∧ (L ++ D).Nodup ∧ (∀ k ∈ L ++ D, k < 6) ∧ (∀ a b, a < 6 → b < 6 → od a ≠ 0 → od a = od b → a = b) ∧ L.Pairwise (bf tm od) ∧ D.Pairwise (bf tm od)
def MP (I : Fm) (pl : List (Nat × List Nat)) (dl : List (Nat × List Nat)) (B : Nat) : Prop := ∃ tm od cd L D ca, m_pln I tm od cd L D ca ∧ ca ≤ B ∧ pl = L.map (fun k => (tm k, cd k)) ∧ dl = D.map (fun k => (tm k, cd k))
def MR (σ : Sg) (dl : List (Nat × List Nat)) (B : Nat) (I : Fm) : Prop := m_d σ I ∧ m_sto I (s_sr σ) ∧ m_pa σ I ∧ m_ws σ I ∧ m_li σ I ∧ m_ac σ I ∧ MP I (s_pl σ) dl B
section MK
variable {σ : Sg} {I I' : Fm}
theorem m_d_kept (h : m_d σ I) (h1 : ∀ j, 24 ≤ j → j ≤ 31 → I' 56 j = I 56 j) : m_d σ I' := by
  unfold m_d at h ⊢
  rw [h1 24 (by decide) (by decide), h1 25 (by decide) (by decide), h1 26 (by decide) (by decide), h1 27 (by decide) (by decide), h1 28 (by decide) (by decide), h1 29 (by decide) (by decide), h1 30 (by decide) (by decide), h1 31 (by decide) (by decide)]
  exact h
theorem m_sto_kept {sr : List Q4} (h : m_sto I sr) (h1 : I' 56 23 = I 56 23) (h2 : I' 76 = I 76) : m_sto I' sr := by unfold m_sto at h ⊢; rw [h1, h2]; exact h
theorem m_pa_kept (h : m_pa σ I) (h1 : I' 75 = I 75) : m_pa σ I' := by unfold m_pa at h ⊢; rw [h1]; exact h
theorem m_ws_kept (h : m_ws σ I) (h1 : ∀ a, 66 ≤ a → a ≤ 72 → I' a = I a) : m_ws σ I' := by
  unfold m_ws at h ⊢
  rw [h1 66 (by decide) (by decide), h1 67 (by decide) (by decide), h1 68 (by decide) (by decide), h1 69 (by decide) (by decide), h1 70 (by decide) (by decide), h1 71 (by decide) (by decide), h1 72 (by decide) (by decide)]
  exact h
theorem m_li_kept (h : m_li σ I) (h1 : I' 73 = I 73) (h2 : I' 74 = I 74) : m_li σ I' := by unfold m_li at h ⊢; rw [h1, h2]; exact h
theorem m_ac_kept (h : m_ac σ I) (h1 : I' 64 = I 64) (h2 : I' 65 = I 65) : m_ac σ I' := by unfold m_ac at h ⊢; rw [h1, h2]; exact h
theorem m_w_kept {c : List Nat} (h : m_w I c) (h1 : I' 56 3 = I 56 3) (h2 : I' 58 = I 58) : m_w I' c := by unfold m_w at h ⊢; rw [h1, h2]; exact h
theorem m_pln_kept {tm od : Nat → Nat} {cd : Nat → List Nat} {L D : List Nat} {ca : Nat} (h : m_pln I tm od cd L D ca) (h1 : I' 56 8 = I 56 8) (h2 : ∀ a, 59 ≤ a → a ≤ 63 → I' a = I a) : m_pln I' tm od cd L D ca := by
  unfold m_pln at h ⊢
  rw [h1, h2 59 (by decide) (by decide), h2 60 (by decide) (by decide), h2 61 (by decide) (by decide), h2 62 (by decide) (by decide), h2 63 (by decide) (by decide)]
  exact h
theorem MP_kept {pl dl : List (Nat × List Nat)} {B : Nat} (h : MP I pl dl B) (h1 : I' 56 8 = I 56 8) (h2 : ∀ a, 59 ≤ a → a ≤ 63 → I' a = I a) : MP I' pl dl B := by
  obtain ⟨tm, od, cd, L, D, ca, a, b⟩ := h
  exact ⟨tm, od, cd, L, D, ca, m_pln_kept a h1 h2, b⟩
/-- a change of other cells and slots than the relation's -/
theorem MR_kept {dl : List (Nat × List Nat)} {B : Nat} (h : MR σ dl B I) (h1 : ∀ j, j ≠ 1 → j ≠ 3 → I' 56 j = I 56 j) (h2 : ∀ a, 59 ≤ a → I' a = I a) : MR σ dl B I' := by
  obtain ⟨a, b, c, d, e, f, g⟩ := h
  exact ⟨m_d_kept a (fun j h _ => h1 j (by omega) (by omega)), m_sto_kept b (h1 23 (by decide) (by decide)) (h2 76 (by decide)), m_pa_kept c (h2 75 (by decide)), m_ws_kept d (fun a h _ => h2 a (by omega)), m_li_kept e (h2 73 (by decide)) (h2 74 (by decide)), m_ac_kept f (h2 64 (by decide)) (h2 65 (by decide)), MP_kept g (h1 8 (by decide) (by decide)) (fun a h _ => h2 a h)⟩
end MK
/-- the store, shifted -/
theorem ms_pop {I I' : Fm} {q : Q4} {sr : List Q4} (h : m_sto I (q :: sr)) (h1 : I' 56 23 = nI sr.length) (h2 : ∀ k, k < 4 * sr.length → I' 76 k = I 76 (k + 4)) : m_sto I' sr := by
  obtain ⟨a, b, c⟩ := h
  have b : sr.length + 1 ≤ 10 := b
  refine ⟨h1, by omega, fun i hi => ?_⟩
  have := c (i + 1) (by simp; omega)
  rw [List.getElem?_cons_succ] at this
  rw [this, h2 _ (by omega), h2 _ (by omega), h2 _ (by omega), h2 _ (by omega), show 4 * i + 4 = 4 * (i + 1) by omega, show 4 * i + 1 + 4 = 4 * (i + 1) + 1 by omega, show 4 * i + 2 + 4 = 4 * (i + 1) + 2 by omega, show 4 * i + 3 + 4 = 4 * (i + 1) + 3 by omega]
theorem ms_push {I I' : Fm} {sr : List Q4} {q : Q4} (h : m_sto I sr) (hl : sr.length < 10) (h1 : I' 56 23 = nI (sr.length + 1)) (h2 : ∀ k, k < 4 * sr.length → I' 76 k = I 76 k) (h3 : (I' 76 (4 * sr.length), I' 76 (4 * sr.length + 1), I' 76 (4 * sr.length + 2), I' 76 (4 * sr.length + 3)) = q) : m_sto I' (sr ++ [q]) := by
  obtain ⟨a, b, c⟩ := h
  refine ⟨by rw [List.length_append]; exact h1, by rw [List.length_append]; exact hl, fun i hi => ?_⟩
  rw [List.length_append] at hi
  have hi : i < sr.length + 1 := hi
  by_cases e : i < sr.length
  · rw [List.getElem?_append_left e, c i e, h2 _ (by omega), h2 _ (by omega), h2 _ (by omega), h2 _ (by omega)]
  · have e2 : i = sr.length := by omega
    subst e2
    rw [List.getElem?_append_right (Nat.le_refl _), h3]
    simp
theorem MR_add {σ : Sg} {dl : List (Nat × List Nat)} {B : Nat} {I I' : Fm} {k a b : Int32} (h : MR σ dl B I) (hs : m_sto I' (st_add (s_sr σ) (s_g σ 5) (k, nI (s_g σ 0), a, b)).1) (h5 : I' 56 27 = nI (st_add (s_sr σ) (s_g σ 5) (k, nI (s_g σ 0), a, b)).2) (h1 : ∀ j, j ≠ 23 → j ≠ 27 → I' 56 j = I 56 j) (h2 : ∀ x, x ≠ 56 → x ≠ 76 → I' x = I x) : MR (e_add σ k a b) dl B I' := by
  obtain ⟨q1, q2, q3, q4, q5, q6, q7⟩ := h
  refine ⟨?_, by rw [add_sr]; exact hs, ?_, ?_, ?_, ?_, ?_⟩
  · unfold m_d at q1 ⊢
    rw [add_g5, add_g _ _ _ _ (by decide), add_g _ _ _ _ (by decide), add_g _ _ _ _ (by decide), add_g _ _ _ _ (by decide), add_g _ _ _ _ (by decide), add_g _ _ _ _ (by decide), add_g _ _ _ _ (by decide), h1 24 (by decide) (by decide), h1 25 (by decide) (by decide), h1 26 (by decide) (by decide), h1 28 (by decide) (by decide), h1 29 (by decide) (by decide), h1 30 (by decide) (by decide), h1 31 (by decide) (by decide)]
    exact ⟨q1.1, q1.2.1, q1.2.2.1, h5, q1.2.2.2.2⟩
  · have := m_pa_kept q3 (h2 75 (by decide) (by decide))
    unfold m_pa at this ⊢; rw [add_pa]; exact this
  · have := m_ws_kept q4 (fun a _ _ => h2 a (by omega) (by omega))
    unfold m_ws at this ⊢; rw [add_wn, add_wb]; exact this
  · have := m_li_kept q5 (h2 73 (by decide) (by decide)) (h2 74 (by decide) (by decide))
    unfold m_li at this ⊢; rw [add_ho]; exact this
  · have := m_ac_kept q6 (h2 64 (by decide) (by decide)) (h2 65 (by decide) (by decide))
    unfold m_ac at this ⊢; rw [add_ac]; exact this
  · rw [add_pl]; exact MP_kept q7 (h1 8 (by decide) (by decide)) (fun a _ _ => h2 a (by omega) (by omega))
