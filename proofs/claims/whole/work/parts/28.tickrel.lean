def x_frB (I I' : Fm) : Prop := ∀ a, (a = 1 ∨ a = 2 ∨ 56 ≤ a) → I' a = I a
theorem frB_of {du : Nat → Nat} {I I' : Fm} (h : x_fr du I I') : x_frB I I' := fun a ha => h a (by rcases ha with h | h | h <;> simp [h])
theorem frB_tr {I I' I'' : Fm} (h1 : x_frB I I') (h2 : x_frB I' I'') : x_frB I I'' := fun a h => (h2 a h).trans (h1 a h)
theorem XR_plan' {σ : Sg} {cm du cm' du' : Nat → Nat} {I I' : Fm} {P P' : Fr} (h : XR σ cm du I P) {l : List (Nat × List Nat)} (hP' : x_ref P') (hpm' : x_pm P' cm' du') (hl : x_pl I' cm' l) (h54 : I' 5 4 = I 5 4) (hf : ∀ a, a < 5 ∨ 32 < a → I' a = I a) : XR (w_pl σ l) cm' du' I' P' := by
  obtain ⟨h1, h2, h3, h4, h5, h6, h7, h8, h9, h10⟩ := h
  exact ⟨hP', hpm', x_d_kept h3 (hf 0 (by omega)), hl, h54.trans h5, x_sto_kept h6 (fun a _ _ => hf a (by omega)), x_pa_kept h7 (hf 38 (by omega)), x_ws_kept h8 (fun m _ => hf _ (by omega)), x_ac_kept h9 (fun m _ => hf _ (by omega)), x_li_kept h10 (fun m _ => hf _ (by omega))⟩
theorem XR_34 {σ : Sg} {cm du : Nat → Nat} {I I' : Fm} {P : Fr} (h : XR σ cm du I P) (hf : ∀ a, a ≠ 1 → a ≠ 2 → a ≠ 3 → a ≠ 4 → I' a = I a) : XR σ cm du I' P := by
  obtain ⟨h1, h2, h3, h4, h5, h6, h7, h8, h9, h10⟩ := h
  have h0 : I' 0 = I 0 := hf 0 (by decide) (by decide) (by decide) (by decide)
  have hf : ∀ a, 5 ≤ a → I' a = I a := fun a ha => hf a (by omega) (by omega) (by omega) (by omega)
  exact ⟨h1, h2, x_d_kept h3 h0, x_pl_kept2 h2 h4 (fun a h _ => hf a h), by rw [hf 5 (by decide)]; exact h5, x_sto_kept h6 (fun a _ _ => hf a (by omega)), x_pa_kept h7 (hf 38 (by decide)), x_ws_kept h8 (fun m _ => hf _ (by omega)), x_ac_kept h9 (fun m _ => hf _ (by omega)), x_li_kept h10 (fun m _ => hf _ (by omega))⟩
theorem XR_cnt {σ : Sg} {cm du : Nat → Nat} {I : Fm} {P : Fr} (h : XR σ cm du I P) {m : Nat} (hm : m < 4) (v : Nat) : XR (w_wn σ (s_u (s_wn σ) m (s_u (s_wn σ m) 4 v))) cm du (f_u I (40 + m) 6 (nI v)) P ∧ x_fr du I (f_u I (40 + m) 6 (nI v)) := by
  have hw := h.2.2.2.2.2.2.2.1 m hm
  have q := XR_wat (m := m) h hm (n := s_u (s_wn σ m) 4 v) (b := s_wb σ m) (I' := f_u I (40 + m) 6 (nI v)) ⟨f_uc (by decide) hw.1, f_uc (by decide) hw.2.1, f_uc (by decide) hw.2.2.1, f_uc (by decide) hw.2.2.2.1, f_uc (by decide) hw.2.2.2.2.1, f_uc (by decide) hw.2.2.2.2.2.1, f_u_s⟩ (fun a h => f_u_ne h)
  rw [show s_u (s_wb σ) m (s_wb σ m) = s_wb σ from funext fun j => by unfold s_u; split; subst_vars; rfl; rfl] at q
  exact q
theorem tw_at : ∀ (pl : List (Nat × List Nat)) (m t : Nat), m ≤ pl.length → (∀ i, i < m → p_t pl i ≤ t) → (m < pl.length → t < p_t pl m) → pl.takeWhile (fun e => decide (e.1 ≤ t)) = pl.take m ∧ pl.dropWhile (fun e => decide (e.1 ≤ t)) = pl.drop m
  | [], m, t, _, _, _ => by simp
  | e :: l, 0, t, _, _, h2 => by
    have h : t < e.1 := h2 (by simp)
    have hd : ¬ e.1 ≤ t := by omega
    simp [hd]
  | e :: l, m + 1, t, hm, h1, h2 => by
    have h : e.1 ≤ t := h1 0 (by omega)
    obtain ⟨a, b⟩ := tw_at l m t (by simpa using hm) (fun i hi => h1 (i + 1) (by omega)) (fun hl => h2 (by simpa using hl))
    simp [h, a, b]
section EL
variable {σ : Sg} {m : Nat}
theorem el_off (h : s_wn σ m 0 = 0) : e_look σ m = σ := by unfold e_look; dsimp only; rw [if_pos h]
theorem el_in (h : ¬ s_wn σ m 0 = 0) (hi : s_wb σ m 0 ≤ s_pa σ (s_wn σ m 1) ∧ s_pa σ (s_wn σ m 1) ≤ s_wb σ m 1) : e_look σ m = w_wn σ (s_u (s_wn σ) m (s_u (s_wn σ m) 4 0)) := by unfold e_look; dsimp only; rw [if_neg h, if_pos hi]
theorem el_sat (h : ¬ s_wn σ m 0 = 0) (hi : ¬ (s_wb σ m 0 ≤ s_pa σ (s_wn σ m 1) ∧ s_pa σ (s_wn σ m 1) ≤ s_wb σ m 1)) (h2 : s_wn σ m 2 ≤ s_wn σ m 4) : e_look σ m = σ := by unfold e_look; dsimp only; rw [if_neg h, if_neg hi, if_pos h2]
theorem el_cnt (h : ¬ s_wn σ m 0 = 0) (hi : ¬ (s_wb σ m 0 ≤ s_pa σ (s_wn σ m 1) ∧ s_pa σ (s_wn σ m 1) ≤ s_wb σ m 1)) (h2 : ¬ s_wn σ m 2 ≤ s_wn σ m 4) (h3 : s_wn σ m 4 + 1 < s_wn σ m 2) : e_look σ m = w_wn σ (s_u (s_wn σ) m (s_u (s_wn σ m) 4 (s_wn σ m 4 + 1))) := by unfold e_look; dsimp only; rw [if_neg h, if_neg hi, if_neg h2, if_pos h3]
theorem el_ev (h : ¬ s_wn σ m 0 = 0) (hi : ¬ (s_wb σ m 0 ≤ s_pa σ (s_wn σ m 1) ∧ s_pa σ (s_wn σ m 1) ≤ s_wb σ m 1)) (h2 : ¬ s_wn σ m 2 ≤ s_wn σ m 4) (h3 : ¬ s_wn σ m 4 + 1 < s_wn σ m 2) {σ2 : Sg} (h4 : σ2 = e_add (w_wn σ (s_u (s_wn σ) m (s_u (s_wn σ m) 4 (s_wn σ m 4 + 1)))) 4 (nI (s_wn σ m 3)) (s_pa σ (s_wn σ m 1))) : e_look σ m = if s_ac σ2 (s_wn σ m 3) = [] then σ2 else (e_carry σ2 (s_ac σ2 (s_wn σ m 3)) 257).1 := by
  subst h4
  unfold e_look; dsimp only; rw [if_neg h, if_neg hi, if_neg h2, if_neg h3]
end EL
theorem SI_cnt {σ : Sg} (h : SI σ) {m v : Nat} (hv : v ≤ s_wn σ m 2) : SI (w_wn σ (s_u (s_wn σ) m (s_u (s_wn σ m) 4 v))) := by
  obtain ⟨h1, h2, h3, h4, h5, h6, h7, h8⟩ := h
  refine ⟨h1, h2, h3, h4, h5, h6, fun q hq => ?_, h8⟩
  show s_u (s_wn σ) m _ q 0 < 2 ∧ s_u (s_wn σ) m _ q 1 < 8 ∧ s_u (s_wn σ) m _ q 2 < 4 ∧ s_u (s_wn σ) m _ q 3 < 4 ∧ s_u (s_wn σ) m _ q 4 ≤ s_u (s_wn σ) m _ q 2
  by_cases e : q = m
  · subst e
    have := h7 q hq
    simp only [s_u, if_pos rfl]
    exact ⟨this.1, this.2.1, this.2.2.1, this.2.2.2.1, hv⟩
  · simp only [s_u, if_neg e]
    exact h7 q hq
theorem ac_bytes {σ : Sg} {I : Fm} (h : x_ac σ I) {e : Nat} (he : e < 4) : ∀ x ∈ s_ac σ e, x < 256 := (h e he).2.2.2
theorem SI_look {σ : Sg} (h : SI σ) (hb : ∀ e, e < 4 → ∀ x ∈ s_ac σ e, x < 256) {m : Nat} (hm : m < 4) : SI (e_look σ m) := by
  have h7 := h.2.2.2.2.2.2.1 m hm
  by_cases a : s_wn σ m 0 = 0
  · rw [el_off a]; exact h
  · by_cases b : s_wb σ m 0 ≤ s_pa σ (s_wn σ m 1) ∧ s_pa σ (s_wn σ m 1) ≤ s_wb σ m 1
    · rw [el_in a b]; exact SI_cnt h (Nat.zero_le _)
    · by_cases c : s_wn σ m 2 ≤ s_wn σ m 4
      · rw [el_sat a b c]; exact h
      · by_cases d : s_wn σ m 4 + 1 < s_wn σ m 2
        · rw [el_cnt a b c d]; exact SI_cnt h (by omega)
        · rw [el_ev a b c d rfl]
          have h2 := SI_add (SI_cnt h (m := m) (v := s_wn σ m 4 + 1) (by omega)) 4 (nI (s_wn σ m 3)) (s_pa σ (s_wn σ m 1))
          split
          · exact h2
          · rename_i hne
            rcases h2.2.2.2.2.2.1 (s_wn σ m 3) h7.2.2.2.1 with z | z
            · exact absurd z hne
            · refine SI_carry h2 (va23 (va12 z)) ?_
              rw [add_ac]
              exact hb _ h7.2.2.2.1
theorem SI_house {σ : Sg} (h : SI σ) (s : Nat) : SI (e_house σ s) := by
  unfold e_house
  split
  · exact h
  · exact SI_add h _ _ _
theorem carry_2 (σ : Sg) (c : List Nat) (num : Nat) : (e_carry σ c num).2 < 2 := by
  unfold e_carry
  split
  · exact (by decide : (0 : Nat) < 2)
  · exact (by decide : (1 : Nat) < 2)
