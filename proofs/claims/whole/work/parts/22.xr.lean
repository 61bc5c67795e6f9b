/-! the whole desk, but for its receiver -/
def x_d (σ : Sg) (I : Fm) : Prop := I 0 8 = nI (s_g σ 0) ∧ I 0 9 = nI (s_g σ 1) ∧ I 0 10 = nI (s_g σ 9)
def x_pa (σ : Sg) (I : Fm) : Prop := ∀ p, p < 8 → I 38 p = s_pa σ p
def x_ws (σ : Sg) (I : Fm) : Prop := ∀ m, m < 4 → x_wa I (40 + m) (s_wn σ m) (s_wb σ m)
def x_ac (σ : Sg) (I : Fm) : Prop := ∀ e, e < 4 → x_cmd I (45 + 2 * e) (s_ac σ e)
def x_li (σ : Sg) (I : Fm) : Prop := ∀ s, s < 2 → I (54 + s) 0 = nI (s_ho σ s 0) ∧ I (54 + s) 1 = nI (s_ho σ s 1)
def XR (σ : Sg) (cm du : Nat → Nat) (I : Fm) (P : Fr) : Prop := x_ref P ∧ x_pm P cm du ∧ x_d σ I ∧ x_pl I cm (s_pl σ) ∧ I 5 4 = nI (s_g σ 2) ∧ x_sto I (s_sr σ) (s_g σ 5) ∧ x_pa σ I ∧ x_ws σ I ∧ x_ac σ I ∧ x_li σ I
/-- rows that carrying out leaves alone: the receiver, the incoming command, the reference's cells, the commands that are due -/
def x_fr (du : Nat → Nat) (I I' : Fm) : Prop := ∀ a, (a = 1 ∨ a = 2 ∨ a = 3 ∨ a = 4 ∨ 56 ≤ a ∨ ∃ i, i < 6 ∧ (a = du i ∨ a = du i + 1)) → I' a = I a
theorem x_fr_rf {du : Nat → Nat} {I : Fm} : x_fr du I I := fun _ _ => rfl
theorem x_fr_tr {du : Nat → Nat} {I I' I'' : Fm} (h1 : x_fr du I I') (h2 : x_fr du I' I'') : x_fr du I I'' := fun a h => (h2 a h).trans (h1 a h)
theorem x_wa_kept {I I' : Fm} {w : Nat} {n : Nat → Nat} {b : Nat → Int32} (h : x_wa I w n b) (h1 : I' w = I w) : x_wa I' w n b := by
  unfold x_wa at h ⊢
  rw [h1]
  exact h
section Kept
variable {σ : Sg} {I I' : Fm} {P : Fr} {cm du : Nat → Nat}
theorem x_d_kept (h : x_d σ I) (h1 : I' 0 = I 0) : x_d σ I' := by unfold x_d at h ⊢; rw [h1]; exact h
theorem x_pa_kept (h : x_pa σ I) (h1 : I' 38 = I 38) : x_pa σ I' := by unfold x_pa at h ⊢; rw [h1]; exact h
theorem x_ws_kept (h : x_ws σ I) (h1 : ∀ m, m < 4 → I' (40 + m) = I (40 + m)) : x_ws σ I' := fun m hm => x_wa_kept (h m hm) (h1 m hm)
theorem x_ac_kept (h : x_ac σ I) (h1 : ∀ e, e < 8 → I' (45 + e) = I (45 + e)) : x_ac σ I' := fun e he => x_cmd_kept (h e he) (h1 (2 * e) (by omega)) (by have := h1 (2 * e + 1) (by omega); rw [← Nat.add_assoc] at this; exact this)
theorem x_li_kept (h : x_li σ I) (h1 : ∀ s, s < 2 → I' (54 + s) = I (54 + s)) : x_li σ I' := fun s hs => by rw [h1 s hs]; exact h s hs
theorem pc_bd {P : Fr} (hpm : x_pm P cm du) {i : Nat} (hi : i < 6) : 9 ≤ cm i ∧ cm i ≤ 31 ∧ 9 ≤ du i ∧ du i ≤ 31 := by
  obtain ⟨-, -, a, b⟩ := hpm.1 i hi
  exact ⟨a.1, a.2.1, b.1, b.2.1⟩
theorem x_pl_kept2 {P : Fr} (hpm : x_pm P cm du) {pl : List (Nat × List Nat)} (h : x_pl I cm pl) (h1 : ∀ a, 5 ≤ a → a ≤ 32 → I' a = I a) : x_pl I' cm pl := by
  refine x_pl_kept h (by rw [h1 5 (by decide) (by decide)]) (h1 6 (by decide) (by decide)) (fun i hi => ?_)
  have := pc_bd hpm (show i < 6 by have := h.2.1; omega)
  exact ⟨h1 _ (by omega) (by omega), h1 _ (by omega) (by omega)⟩
theorem fr_of {du : Nat → Nat} {P : Fr} {cm : Nat → Nat} (hpm : x_pm P cm du) (h : ∀ a, (1 ≤ a ∧ a ≤ 4) ∨ (9 ≤ a ∧ a ≤ 32) ∨ 56 ≤ a → I' a = I a) : x_fr du I I' := by
  intro a ha
  apply h
  rcases ha with rfl | rfl | rfl | rfl | ha | ⟨i, hi, ha⟩
  · omega
  · omega
  · omega
  · omega
  · omega
  · have := pc_bd hpm hi
    omega
/-- reports -/
theorem add_sr (σ : Sg) (k a b : Int32) : s_sr (e_add σ k a b) = (st_add (s_sr σ) (s_g σ 5) (k, nI (s_g σ 0), a, b)).1 := by
  unfold e_add st_add; split <;> rfl
theorem add_g5 (σ : Sg) (k a b : Int32) : s_g (e_add σ k a b) 5 = (st_add (s_sr σ) (s_g σ 5) (k, nI (s_g σ 0), a, b)).2 := by
  unfold e_add st_add; split <;> rfl
theorem add_g (σ : Sg) (k a b : Int32) {j : Nat} (h : j ≠ 5) : s_g (e_add σ k a b) j = s_g σ j := by
  unfold e_add; split
  · exact if_neg h
  · rfl
theorem add_pa (σ : Sg) (k a b : Int32) : s_pa (e_add σ k a b) = s_pa σ := by unfold e_add; split <;> rfl
theorem add_wn (σ : Sg) (k a b : Int32) : s_wn (e_add σ k a b) = s_wn σ := by unfold e_add; split <;> rfl
theorem add_wb (σ : Sg) (k a b : Int32) : s_wb (e_add σ k a b) = s_wb σ := by unfold e_add; split <;> rfl
theorem add_ho (σ : Sg) (k a b : Int32) : s_ho (e_add σ k a b) = s_ho σ := by unfold e_add; split <;> rfl
theorem add_ac (σ : Sg) (k a b : Int32) : s_ac (e_add σ k a b) = s_ac σ := by unfold e_add; split <;> rfl
theorem add_pl (σ : Sg) (k a b : Int32) : s_pl (e_add σ k a b) = s_pl σ := by unfold e_add; split <;> rfl
theorem XR_add (h : XR σ cm du I P) {k a b : Int32} (hs : x_sto I' (st_add (s_sr σ) (s_g σ 5) (k, nI (s_g σ 0), a, b)).1 (st_add (s_sr σ) (s_g σ 5) (k, nI (s_g σ 0), a, b)).2) (hf : ∀ x, (x < 33 ∨ 37 < x) → I' x = I x) : XR (e_add σ k a b) cm du I' P ∧ x_fr du I I' := by
  obtain ⟨h1, h2, h3, h4, h5, h6, h7, h8, h9, h10⟩ := h
  refine ⟨⟨h1, h2, ?_, ?_, ?_, ?_, ?_, ?_, ?_, ?_⟩, fr_of h2 (fun x hx => hf x (by omega))⟩
  · unfold x_d at h3 ⊢
    rw [add_g _ _ _ _ (by decide), add_g _ _ _ _ (by decide), add_g _ _ _ _ (by decide), hf 0 (by omega)]
    exact h3
  · rw [add_pl]; exact x_pl_kept2 h2 h4 (fun a _ _ => hf a (by omega))
  · rw [add_g _ _ _ _ (by decide), hf 5 (by omega)]; exact h5
  · rw [add_sr, add_g5]; exact hs
  · unfold x_pa at h7 ⊢; rw [add_pa, hf 38 (by omega)]; exact h7
  · have := x_ws_kept h8 (fun m _ => hf (40 + m) (by omega))
    unfold x_ws at this ⊢; rw [add_wn, add_wb]; exact this
  · have := x_ac_kept h9 (fun m _ => hf (45 + m) (by omega))
    unfold x_ac at this ⊢; rw [add_ac]; exact this
  · have := x_li_kept h10 (fun m _ => hf (54 + m) (by omega))
    unfold x_li at this ⊢; rw [add_ho]; exact this
/-- one slot of the desk itself -/
theorem XR_g (h : XR σ cm du I P) {j slot v : Nat} (hj : (j = 0 ∧ slot = 8) ∨ (j = 1 ∧ slot = 9) ∨ (j = 9 ∧ slot = 10)) : XR (w_g σ j v) cm du (f_u I 0 slot (nI v)) P ∧ x_fr du I (f_u I 0 slot (nI v)) := by
  obtain ⟨h1, h2, h3, h4, h5, h6, h7, h8, h9, h10⟩ := h
  have hf : ∀ x, x ≠ 0 → f_u I 0 slot (nI v) x = I x := fun x hx => f_u_ne hx
  have hg : ∀ i, i ≠ j → s_g (w_g σ j v) i = s_g σ i := fun i hi => if_neg hi
  refine ⟨⟨h1, h2, ?_, x_pl_kept2 h2 h4 (fun a _ _ => hf a (by omega)), ?_, ?_, ?_, ?_, ?_, ?_⟩, fr_of h2 (fun x hx => hf x (by omega))⟩
  · obtain ⟨a1, a2, a3⟩ := h3
    rcases hj with ⟨rfl, rfl⟩ | ⟨rfl, rfl⟩ | ⟨rfl, rfl⟩
    · exact ⟨f_u_s, f_uc (by decide) a2, f_uc (by decide) a3⟩
    · exact ⟨f_uc (by decide) a1, f_u_s, f_uc (by decide) a3⟩
    · exact ⟨f_uc (by decide) a1, f_uc (by decide) a2, f_u_s⟩
  · rw [hg 2 (by omega), hf 5 (by decide)]; exact h5
  · rw [hg 5 (by omega)]; exact x_sto_kept h6 (fun a _ _ => hf a (by omega))
  · exact x_pa_kept h7 (hf 38 (by decide))
  · exact x_ws_kept h8 (fun m _ => hf _ (by omega))
  · exact x_ac_kept h9 (fun m _ => hf _ (by omega))
  · exact x_li_kept h10 (fun m _ => hf _ (by omega))
theorem XR_runs (h : XR σ cm du I P) (v : Nat) : XR (w_g σ 2 v) cm du (f_u I 5 4 (nI v)) P ∧ x_fr du I (f_u I 5 4 (nI v)) := by
  obtain ⟨h1, h2, h3, h4, h5, h6, h7, h8, h9, h10⟩ := h
  have hf : ∀ x, x ≠ 5 → f_u I 5 4 (nI v) x = I x := fun x hx => f_u_ne hx
  refine ⟨⟨h1, h2, x_d_kept h3 (hf 0 (by decide)), ?_, f_u_s, x_sto_kept h6 (fun a _ _ => hf a (by omega)), x_pa_kept h7 (hf 38 (by decide)), x_ws_kept h8 (fun m _ => hf _ (by omega)), x_ac_kept h9 (fun m _ => hf _ (by omega)), x_li_kept h10 (fun m _ => hf _ (by omega))⟩, fr_of h2 (fun x hx => hf x (by omega))⟩
  refine x_pl_kept h4 (f_uc (by decide) rfl) (hf 6 (by decide)) (fun i hi => ?_)
  have hi : i < (s_pl σ).length := hi
  have := pc_bd h2 (show i < 6 by have := h4.2.1; omega)
  exact ⟨hf _ (by omega), hf _ (by omega)⟩
/-- the plan: new entries, all else alike -/
theorem XR_plan {P' : Fr} {cm' : Nat → Nat} (h : XR σ cm du I P) {l : List (Nat × List Nat)} (hP' : x_ref P') (hpm' : x_pm P' cm' du) (hl : x_pl I' cm' l) (h54 : I' 5 4 = I 5 4) (hf : ∀ a, a < 5 ∨ 32 < a → I' a = I a) : XR (w_pl σ l) cm' du I' P' := by
  obtain ⟨h1, h2, h3, h4, h5, h6, h7, h8, h9, h10⟩ := h
  exact ⟨hP', hpm', x_d_kept h3 (hf 0 (by omega)), hl, h54.trans h5, x_sto_kept h6 (fun a _ _ => hf a (by omega)), x_pa_kept h7 (hf 38 (by omega)), x_ws_kept h8 (fun m _ => hf _ (by omega)), x_ac_kept h9 (fun m _ => hf _ (by omega)), x_li_kept h10 (fun m _ => hf _ (by omega))⟩
theorem XR_par (h : XR σ cm du I P) {p : Nat} (v : Int32) : XR (w_pa σ p v) cm du (f_u I 38 p v) P ∧ x_fr du I (f_u I 38 p v) := by
  obtain ⟨h1, h2, h3, h4, h5, h6, h7, h8, h9, h10⟩ := h
  have hf : ∀ x, x ≠ 38 → f_u I 38 p v x = I x := fun x hx => f_u_ne hx
  refine ⟨⟨h1, h2, x_d_kept h3 (hf 0 (by decide)), x_pl_kept2 h2 h4 (fun a _ _ => hf a (by omega)), by rw [hf 5 (by decide)]; exact h5, x_sto_kept h6 (fun a _ _ => hf a (by omega)), fun q hq => ?_, x_ws_kept h8 (fun m _ => hf _ (by omega)), x_ac_kept h9 (fun m _ => hf _ (by omega)), x_li_kept h10 (fun m _ => hf _ (by omega))⟩, fr_of h2 (fun x hx => hf x (by omega))⟩
  show _ = s_u (s_pa σ) p v q
  unfold s_u
  by_cases e : q = p
  · subst e; rw [if_pos rfl]; exact f_u_s
  · rw [if_neg e]; exact f_uc e (h7 q hq)
theorem XR_wat (h : XR σ cm du I P) {m : Nat} (hm : m < 4) {n : Nat → Nat} {b : Nat → Int32} (hw : x_wa I' (40 + m) n b) (hf : ∀ a, a ≠ 40 + m → I' a = I a) : XR (w_wb (w_wn σ (s_u (s_wn σ) m n)) (s_u (s_wb σ) m b)) cm du I' P ∧ x_fr du I I' := by
  obtain ⟨h1, h2, h3, h4, h5, h6, h7, h8, h9, h10⟩ := h
  refine ⟨⟨h1, h2, x_d_kept h3 (hf 0 (by omega)), x_pl_kept2 h2 h4 (fun a _ _ => hf a (by omega)), by rw [hf 5 (by omega)]; exact h5, x_sto_kept h6 (fun a _ _ => hf a (by omega)), x_pa_kept h7 (hf 38 (by omega)), fun q hq => ?_, x_ac_kept h9 (fun e he => hf _ (by omega)), x_li_kept h10 (fun s hs => hf _ (by omega))⟩, fr_of h2 (fun x hx => hf x (by omega))⟩
  show x_wa I' (40 + q) (s_u (s_wn σ) m n q) (s_u (s_wb σ) m b q)
  unfold s_u
  by_cases e : q = m
  · subst e; rw [if_pos rfl, if_pos rfl]; exact hw
  · rw [if_neg e, if_neg e]; exact x_wa_kept (h8 q hq) (hf _ (by omega))
theorem XR_act (h : XR σ cm du I P) {e : Nat} (he : e < 4) {c : List Nat} (hc : x_cmd I' (45 + 2 * e) c) (hf : ∀ a, a ≠ 45 + 2 * e → a ≠ 45 + 2 * e + 1 → I' a = I a) : XR (w_ac σ e c) cm du I' P ∧ x_fr du I I' := by
  obtain ⟨h1, h2, h3, h4, h5, h6, h7, h8, h9, h10⟩ := h
  refine ⟨⟨h1, h2, x_d_kept h3 (hf 0 (by omega) (by omega)), x_pl_kept2 h2 h4 (fun a _ _ => hf a (by omega) (by omega)), by rw [hf 5 (by omega) (by omega)]; exact h5, x_sto_kept h6 (fun a _ _ => hf a (by omega) (by omega)), x_pa_kept h7 (hf 38 (by omega) (by omega)), x_ws_kept h8 (fun m hm => hf _ (by omega) (by omega)), fun q hq => ?_, x_li_kept h10 (fun s hs => hf _ (by omega) (by omega))⟩, fr_of h2 (fun x hx => hf x (by omega) (by omega))⟩
  show x_cmd I' (45 + 2 * q) (s_u (s_ac σ) e c q)
  unfold s_u
  by_cases e1 : q = e
  · subst e1; rw [if_pos rfl]; exact hc
  · rw [if_neg e1]; exact x_cmd_kept (h9 q hq) (hf _ (by omega) (by omega)) (hf _ (by omega) (by omega))
theorem XR_lis (h : XR σ cm du I P) {s x y : Nat} (hs : s < 2) : XR (w_ho σ (s_u (s_ho σ) s (fun j => match j with | 0 => x | _ => y))) cm du (f_u (f_u I (54 + s) 0 (nI x)) (54 + s) 1 (nI y)) P ∧ x_fr du I (f_u (f_u I (54 + s) 0 (nI x)) (54 + s) 1 (nI y)) := by
  obtain ⟨h1, h2, h3, h4, h5, h6, h7, h8, h9, h10⟩ := h
  have hf : ∀ a, a ≠ 54 + s → f_u (f_u I (54 + s) 0 (nI x)) (54 + s) 1 (nI y) a = I a := fun a ha => by rw [f_u_ne ha, f_u_ne ha]
  refine ⟨⟨h1, h2, x_d_kept h3 (hf 0 (by omega)), x_pl_kept2 h2 h4 (fun a _ _ => hf a (by omega)), by rw [hf 5 (by omega)]; exact h5, x_sto_kept h6 (fun a _ _ => hf a (by omega)), x_pa_kept h7 (hf 38 (by omega)), x_ws_kept h8 (fun m hm => hf _ (by omega)), x_ac_kept h9 (fun m hm => hf _ (by omega)), fun q hq => ?_⟩, fr_of h2 (fun x hx => hf x (by omega))⟩
  show _ = nI (s_u (s_ho σ) s _ q 0) ∧ _ = nI (s_u (s_ho σ) s _ q 1)
  unfold s_u
  by_cases e : q = s
  · subst e; rw [if_pos rfl]; exact ⟨f_uc (by decide) f_u_s, f_u_s⟩
  · rw [if_neg e, hf _ (by omega)]; exact h10 q hq
end Kept
