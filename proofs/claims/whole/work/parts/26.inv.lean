/-! WHAT HOLDS OF EVERY STATE -/
def va1 (c : List Nat) : Prop := e_one c = 0 ∧ e_at c 0 ≠ 3 ∧ e_at c 0 ≠ 8
def va2 (c : List Nat) : Prop := e_one c = 0 ∧ e_at c 0 ≠ 3 ∧ (e_at c 0 = 8 → va1 (c.drop 2))
def va3 (c : List Nat) : Prop := e_one c = 0 ∧ (e_at c 0 = 3 → va2 (c.drop 3)) ∧ (e_at c 0 = 8 → va1 (c.drop 2))
theorem va12 {c : List Nat} (h : va1 c) : va2 c := ⟨h.1, h.2.1, fun z => absurd z h.2.2⟩
theorem va23 {c : List Nat} (h : va2 c) : va3 c := ⟨h.1, fun z => absurd z h.2.1, h.2.2⟩
theorem brk_s {f : Nat} {c : List Nat} (h : e_brk (f + 1) c = 0) : e_one c = 0 ∧ (e_holds (e_at c 0) = true → e_brk f (c.drop (e_want (e_at c 0) + 1)) = 0) := by
  unfold e_brk at h
  by_cases h1 : e_one c = 0
  · rw [if_neg (fun z => z h1)] at h
    refine ⟨h1, fun hh => ?_⟩
    rw [if_pos hh] at h
    exact h
  · rw [if_pos h1] at h
    exact absurd h h1
theorem one_in8 {c : List Nat} (h : e_one c = 0) (e : e_at c 0 = 8) : e_at c 2 ≠ 3 ∧ e_at c 2 ≠ 8 := by
  have := ((e_rng_iff (c := c) (s := 0) (one_sv h).1).mp (one_sv h).2.2).2.2 e
  simpa using this
theorem one_in3 {c : List Nat} (h : e_one c = 0) (e : e_at c 0 = 3) : e_at c 3 ≠ 3 := by
  have := ((e_rng_iff (c := c) (s := 0) (one_sv h).1).mp (one_sv h).2.2).2.1 e
  simpa using this
theorem va_of8 {f : Nat} {c : List Nat} (h : e_brk (f + 2) c = 0) (e : e_at c 0 = 8) : va1 (c.drop 2) := by
  obtain ⟨h1, h2⟩ := brk_s h
  have h3 := (brk_s (h2 (by rw [e]; rfl))).1
  rw [e] at h3
  have h4 := one_in8 h1 e
  refine ⟨h3, ?_, ?_⟩
  · rw [e_at_drop]; exact h4.1
  · rw [e_at_drop]; exact h4.2
theorem va_of {c : List Nat} (h : e_brk 3 c = 0) : va3 c := by
  obtain ⟨h1, h2⟩ := brk_s h
  refine ⟨h1, fun e => ?_, fun e => va_of8 h e⟩
  have h3 := h2 (by rw [e]; rfl)
  rw [e] at h3
  have h3 : e_brk 2 (c.drop 3) = 0 := h3
  refine ⟨(brk_s h3).1, ?_, fun e8 => va_of8 (f := 0) h3 e8⟩
  rw [e_at_drop]
  exact one_in3 h1 e
def p_pw (pl : List (Nat × List Nat)) : Prop := pl.Pairwise (fun a b => a.1 ≤ b.1)
theorem so_of {pl : List (Nat × List Nat)} (h : p_pw pl) : p_so pl := by
  intro i j hij hj
  by_cases e : i = j
  · subst e; exact Nat.le_refl _
  · have := (List.pairwise_iff_getElem.mp h) i j (by omega) hj (by omega)
    unfold p_t
    rw [List.getD_eq_getElem?_getD, List.getD_eq_getElem?_getD, List.getElem?_eq_getElem (by omega), List.getElem?_eq_getElem hj]
    exact this
def SI (σ : Sg) : Prop := s_g σ 0 ≤ 60000 ∧ s_g σ 1 < 2 ∧ s_g σ 2 < 2 ∧ p_pw (s_pl σ) ∧ (∀ e ∈ s_pl σ, va2 e.2 ∧ e.1 ≤ 65535) ∧ (∀ m, m < 4 → s_ac σ m = [] ∨ va1 (s_ac σ m)) ∧ (∀ m, m < 4 → s_wn σ m 0 < 2 ∧ s_wn σ m 1 < 8 ∧ s_wn σ m 2 < 4 ∧ s_wn σ m 3 < 4 ∧ s_wn σ m 4 ≤ s_wn σ m 2) ∧ ∀ s, s < 2 → s_ho σ s 0 < 256 ∧ s_ho σ s 1 < 256
theorem SI_add {σ : Sg} (h : SI σ) (k a b : Int32) : SI (e_add σ k a b) := by
  obtain ⟨h1, h2, h3, h4, h5, h6, h7, h8⟩ := h
  unfold SI
  rw [add_pl, add_ac, add_wn, add_ho, add_g _ _ _ _ (by decide), add_g _ _ _ _ (by decide), add_g _ _ _ _ (by decide)]
  exact ⟨h1, h2, h3, h4, h5, h6, h7, h8⟩
theorem ins_mem : ∀ (l : List (Nat × List Nat)) (t : Nat) (c : List Nat) (e : Nat × List Nat), e ∈ e_ins l t c → e = (t, c) ∨ e ∈ l
  | [], t, c, e, h => by
    rcases List.mem_singleton.mp h with rfl
    exact Or.inl rfl
  | x :: l, t, c, e, h => by
    unfold e_ins at h
    split at h
    · rcases List.mem_cons.mp h with h | h
      · exact Or.inr (by rw [h]; exact List.mem_cons_self)
      · rcases ins_mem l t c e h with h | h
        · exact Or.inl h
        · exact Or.inr (List.mem_cons_of_mem _ h)
    · rcases List.mem_cons.mp h with h | h
      · exact Or.inl h
      · exact Or.inr h
theorem ins_pw : ∀ (l : List (Nat × List Nat)) (t : Nat) (c : List Nat), p_pw l → p_pw (e_ins l t c)
  | [], t, c, _ => List.pairwise_singleton _ _
  | x :: l, t, c, h => by
    obtain ⟨h1, h2⟩ := List.pairwise_cons.mp h
    unfold e_ins
    split
    · rename_i hx
      refine List.pairwise_cons.mpr ⟨fun e he => ?_, ins_pw l t c h2⟩
      rcases ins_mem l t c e he with rfl | he
      · exact hx
      · exact h1 e he
    · rename_i hx
      refine List.pairwise_cons.mpr ⟨fun e he => ?_, h⟩
      show t ≤ e.1
      rcases List.mem_cons.mp he with rfl | he
      · omega
      · have := h1 e he
        omega
theorem shift_pw {l : List (Nat × List Nat)} {d : Int} (h : p_pw l) : p_pw (e_shift l d) := by
  unfold p_pw e_shift
  rw [List.pairwise_map]
  exact h.imp (fun {a b} hab => by show ((a.1 : Int) + d).toNat ≤ ((b.1 : Int) + d).toNat; omega)
theorem SI_perf {σ : Sg} {c : List Nat} (h : SI σ) (hv : va3 c) (hr : e_ref σ c = 0) (hb : ∀ x ∈ c, x < 256) : SI (e_perf σ c) := by
  have hb := e_at_lt hb
  obtain ⟨h1, h2, h3, h4, h5, h6, h7, h8⟩ := h
  have har := one_rng hv.1
  rcases (one_sv hv.1).1 with e | e | e | e | e | e | e | e | e | e | e <;> have ha := ar_at har e <;> unfold e_perf <;> rw [e]
  · exact ⟨h1, h2, h3, h4, h5, h6, h7, h8⟩
  · exact ⟨h1, h2, h3, h4, h5, h6, h7, h8⟩
  · refine ⟨h1, h2, h3, ins_pw _ _ _ h4, fun x hx => ?_, h6, h7, h8⟩
    rcases ins_mem _ _ _ x hx with rfl | hx
    · refine ⟨hv.2.1 e, ?_⟩
      have a1 := hb 1
      have a2 := hb 2
      show e_at c 1 * 256 + e_at c 2 ≤ 65535
      omega
    · exact h5 x hx
  · show SI (if e_at c 1 = 2 then w_pl σ [] else w_g σ 2 (if e_at c 1 = 1 then 1 else 0))
    split
    · exact ⟨h1, h2, h3, List.Pairwise.nil, fun x hx => absurd hx List.not_mem_nil, h6, h7, h8⟩
    · refine ⟨h1, h2, ?_, h4, h5, h6, h7, h8⟩
      show (if e_at c 1 = 1 then 1 else 0) < 2
      split <;> omega
  · refine ⟨h1, h2, h3, shift_pw h4, fun x hx => ?_, h6, h7, h8⟩
    obtain ⟨y, hy, rfl⟩ := List.mem_map.mp hx
    have := ref_shift hr e y hy
    refine ⟨(h5 y hy).1, ?_⟩
    show ((y.1 : Int) + e_sgz (e_at c 1)).toNat ≤ 65535
    omega
  · refine ⟨h1, h2, h3, h4, h5, h6, fun m hm => ?_, h8⟩
    show s_u (s_wn σ) (e_at c 1) _ m 0 < 2 ∧ s_u (s_wn σ) (e_at c 1) _ m 1 < 8 ∧ s_u (s_wn σ) (e_at c 1) _ m 2 < 4 ∧ s_u (s_wn σ) (e_at c 1) _ m 3 < 4 ∧ s_u (s_wn σ) (e_at c 1) _ m 4 ≤ s_u (s_wn σ) (e_at c 1) _ m 2
    unfold s_u
    split
    · have ha : e_wr c 0 := ha
      unfold e_wr at ha
      simp only [Nat.zero_add] at ha
      exact ⟨(by decide : (1 : Nat) < 2), ha.2.1, by show e_at c 5 < 4; omega, ha.2.2.2.2.2, Nat.zero_le _⟩
    · exact h7 m hm
  · refine ⟨h1, h2, h3, h4, h5, h6, fun m hm => ?_, h8⟩
    show s_u (s_wn σ) (e_at c 1) _ m 0 < 2 ∧ s_u (s_wn σ) (e_at c 1) _ m 1 < 8 ∧ s_u (s_wn σ) (e_at c 1) _ m 2 < 4 ∧ s_u (s_wn σ) (e_at c 1) _ m 3 < 4 ∧ s_u (s_wn σ) (e_at c 1) _ m 4 ≤ s_u (s_wn σ) (e_at c 1) _ m 2
    unfold s_u
    split
    · rename_i em
      rw [← em]
      exact ⟨(by decide : (0 : Nat) < 2), (h7 m hm).2⟩
    · exact h7 m hm
  · refine ⟨h1, h2, h3, h4, h5, fun m hm => ?_, h7, h8⟩
    show s_u (s_ac σ) (e_at c 1) _ m = [] ∨ va1 (s_u (s_ac σ) (e_at c 1) _ m)
    unfold s_u
    split
    · exact Or.inr (hv.2.2 e)
    · exact h6 m hm
  · refine ⟨h1, h2, h3, h4, h5, fun m hm => ?_, h7, h8⟩
    show s_u (s_ac σ) (e_at c 1) _ m = [] ∨ va1 (s_u (s_ac σ) (e_at c 1) _ m)
    unfold s_u
    split
    · exact Or.inl rfl
    · exact h6 m hm
  · refine ⟨h1, h2, h3, h4, h5, h6, h7, fun s hs => ?_⟩
    show s_u (s_ho σ) (e_at c 1) _ s 0 < 256 ∧ s_u (s_ho σ) (e_at c 1) _ s 1 < 256
    unfold s_u
    split
    · exact ⟨hb 2, hb 3⟩
    · exact h8 s hs
  · show SI (if e_at c 1 = 1 then w_g (w_g σ 1 1) 2 0 else w_g σ 1 0)
    split
    · exact ⟨h1, (by decide : (1 : Nat) < 2), (by decide : (0 : Nat) < 2), h4, h5, h6, h7, h8⟩
    · exact ⟨h1, (by decide : (0 : Nat) < 2), h3, h4, h5, h6, h7, h8⟩
theorem SI_g9 {σ : Sg} (h : SI σ) {j : Nat} (hj : 5 ≤ j) (v : Nat) : SI (w_g σ j v) := by
  obtain ⟨h1, h2, h3, h4⟩ := h
  have e : ∀ i, i < 5 → s_g (w_g σ j v) i = s_g σ i := fun i hi => if_neg (by omega)
  refine ⟨by rw [e 0 (by decide)]; exact h1, by rw [e 1 (by decide)]; exact h2, by rw [e 2 (by decide)]; exact h3, h4⟩
theorem SI_carry {σ : Sg} {c : List Nat} {num : Nat} (h : SI σ) (hv : va3 c) (hb : ∀ x ∈ c, x < 256) : SI (e_carry σ c num).1 := by
  unfold e_carry
  split
  · exact SI_add h _ _ _
  · rename_i hr
    have hr : e_ref σ c = 0 := Classical.byContradiction hr
    dsimp only
    refine SI_add (SI_g9 ?_ (by decide) _) _ _ _
    split
    · exact SI_perf (SI_add h _ _ _) hv (ref_add.trans hr) hb
    · exact SI_perf h hv hr hb
theorem perf_g0 (σ : Sg) (c : List Nat) : s_g (e_perf σ c) 0 = s_g σ 0 := by
  unfold e_perf
  split <;> first | rfl | (split <;> rfl)
theorem carry_g0 (σ : Sg) (c : List Nat) (num : Nat) : s_g (e_carry σ c num).1 0 = s_g σ 0 := by
  unfold e_carry
  split
  · exact add_g _ _ _ _ (by decide)
  · dsimp only
    rw [add_g _ _ _ _ (by decide)]
    show s_g (e_perf _ c) 0 = _
    rw [perf_g0]
    split
    · exact add_g _ _ _ _ (by decide)
    · rfl
