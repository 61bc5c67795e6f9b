section MW
variable {σ : Sg} {dl : List (Nat × List Nat)} {B : Nat} {I I' : Fm}
theorem MP_le {pl dl : List (Nat × List Nat)} {B' : Nat} (h : MP I pl dl B) (hB : B ≤ B') : MP I pl dl B' := by
  obtain ⟨tm, od, cd, L, D, ca, a, b, c⟩ := h
  exact ⟨tm, od, cd, L, D, ca, a, by omega, c⟩
theorem MR_le {B' : Nat} (h : MR σ dl B I) (hB : B ≤ B') : MR σ dl B' I := ⟨h.1, h.2.1, h.2.2.1, h.2.2.2.1, h.2.2.2.2.1, h.2.2.2.2.2.1, MP_le h.2.2.2.2.2.2 hB⟩
theorem MR_wpa (h : MR σ dl B I) (p : Nat) (v : Int32) : MR (w_pa σ p v) dl B (f_u I 75 p v) := by
  obtain ⟨q1, q2, q3, q4, q5, q6, q7⟩ := h
  refine ⟨m_d_kept q1 (fun j _ _ => f_ur (by decide) rfl), m_sto_kept q2 (f_ur (by decide) rfl) (f_u_ne (by decide)), fun a ha => ?_, m_ws_kept q4 (fun a _ _ => f_u_ne (by omega)), m_li_kept q5 (f_u_ne (by decide)) (f_u_ne (by decide)), m_ac_kept q6 (f_u_ne (by decide)) (f_u_ne (by decide)), MP_kept q7 (f_ur (by decide) rfl) (fun a _ _ => f_u_ne (by omega))⟩
  show f_u I 75 p v 75 a = s_u (s_pa σ) p v a
  by_cases e : a = p
  · subst e; rw [f_u_s, s_u_s]
  · rw [s_u_n e]; exact f_uc e (q3 a ha)
theorem MR_wpl {l dl' : List (Nat × List Nat)} {B' : Nat} (h : MR σ dl B I) (hm : MP I' l dl' B') (h1 : ∀ j, 23 ≤ j → I' 56 j = I 56 j) (h2 : ∀ a, 64 ≤ a → I' a = I a) : MR (w_pl σ l) dl' B' I' := by
  obtain ⟨q1, q2, q3, q4, q5, q6, q7⟩ := h
  exact ⟨m_d_kept q1 (fun j hj _ => h1 j (by omega)), m_sto_kept q2 (h1 23 (by decide)) (h2 76 (by decide)), m_pa_kept q3 (h2 75 (by decide)), m_ws_kept q4 (fun a _ _ => h2 a (by omega)), m_li_kept q5 (h2 73 (by decide)) (h2 74 (by decide)), m_ac_kept q6 (h2 64 (by decide)) (h2 65 (by decide)), hm⟩
theorem MR_wg {j v : Nat} (h : MR σ dl B I) (hd : m_d (w_g σ j v) I') (h1 : I' 56 23 = I 56 23) (h2 : I' 56 8 = I 56 8) (h3 : ∀ a, a ≠ 56 → I' a = I a) : MR (w_g σ j v) dl B I' := by
  obtain ⟨q1, q2, q3, q4, q5, q6, q7⟩ := h
  exact ⟨hd, m_sto_kept q2 h1 (h3 76 (by decide)), m_pa_kept q3 (h3 75 (by decide)), m_ws_kept q4 (fun a _ _ => h3 a (by omega)), m_li_kept q5 (h3 73 (by decide)) (h3 74 (by decide)), m_ac_kept q6 (h3 64 (by decide)) (h3 65 (by decide)), MP_kept q7 h2 (fun a _ _ => h3 a (by omega))⟩
theorem MR_wws {fn : Nat → Nat → Nat} {fb : Nat → Nat → Int32} (h : MR σ dl B I) (hw : ∀ m, m < 4 → I' 66 m = nI (fn m 0) ∧ I' 67 m = nI (fn m 1) ∧ I' 68 m = fb m 0 ∧ I' 69 m = fb m 1 ∧ I' 70 m = nI (fn m 2) ∧ I' 71 m = nI (fn m 3) ∧ I' 72 m = nI (fn m 4)) (h3 : ∀ a, a < 66 ∨ 72 < a → I' a = I a) : MR (w_wb (w_wn σ fn) fb) dl B I' := by
  obtain ⟨q1, q2, q3, q4, q5, q6, q7⟩ := h
  have h56 := h3 56 (by decide)
  exact ⟨m_d_kept q1 (fun j _ _ => by rw [h56]), m_sto_kept q2 (by rw [h56]) (h3 76 (by decide)), m_pa_kept q3 (h3 75 (by decide)), hw, m_li_kept q5 (h3 73 (by decide)) (h3 74 (by decide)), m_ac_kept q6 (h3 64 (by decide)) (h3 65 (by decide)), MP_kept q7 (by rw [h56]) (fun a _ _ => h3 a (by omega))⟩
theorem MR_wli {fh : Nat → Nat → Nat} (h : MR σ dl B I) (hw : ∀ s, s < 2 → I' 73 s = nI (fh s 0) ∧ I' 74 s = nI (fh s 1)) (h3 : ∀ a, a ≠ 73 → a ≠ 74 → I' a = I a) : MR (w_ho σ fh) dl B I' := by
  obtain ⟨q1, q2, q3, q4, q5, q6, q7⟩ := h
  have h56 := h3 56 (by decide) (by decide)
  exact ⟨m_d_kept q1 (fun j _ _ => by rw [h56]), m_sto_kept q2 (by rw [h56]) (h3 76 (by decide) (by decide)), m_pa_kept q3 (h3 75 (by decide) (by decide)), m_ws_kept q4 (fun a _ _ => h3 a (by omega) (by omega)), hw, m_ac_kept q6 (h3 64 (by decide) (by decide)) (h3 65 (by decide) (by decide)), MP_kept q7 (by rw [h56]) (fun a _ _ => h3 a (by omega) (by omega))⟩
theorem MR_wac {m : Nat} {c : List Nat} (h : MR σ dl B I) (hc : c.length ≤ 11) (hb : ∀ x ∈ c, x < 256) (h65 : I' 65 m = nI c.length) (n65 : ∀ j, j ≠ m → I' 65 j = I 65 j) (h64 : ∀ i, i < c.length → I' 64 (12 * m + i) = nI (e_at c i)) (n64 : ∀ q, q < 12 * m ∨ 12 * m + 12 ≤ q → I' 64 q = I 64 q) (h3 : ∀ a, a ≠ 64 → a ≠ 65 → I' a = I a) : MR (w_ac σ m c) dl B I' := by
  obtain ⟨q1, q2, q3, q4, q5, q6, q7⟩ := h
  have h56 := h3 56 (by decide) (by decide)
  refine ⟨m_d_kept q1 (fun j _ _ => by rw [h56]), m_sto_kept q2 (by rw [h56]) (h3 76 (by decide) (by decide)), m_pa_kept q3 (h3 75 (by decide) (by decide)), m_ws_kept q4 (fun a _ _ => h3 a (by omega) (by omega)), m_li_kept q5 (h3 73 (by decide) (by decide)) (h3 74 (by decide) (by decide)), fun e he => ?_, MP_kept q7 (by rw [h56]) (fun a _ _ => h3 a (by omega) (by omega))⟩
  show I' 65 e = nI (s_u (s_ac σ) m c e).length ∧ (s_u (s_ac σ) m c e).length ≤ 11 ∧ (∀ i, i < (s_u (s_ac σ) m c e).length → I' 64 (12 * e + i) = nI (e_at (s_u (s_ac σ) m c e) i)) ∧ ∀ x ∈ s_u (s_ac σ) m c e, x < 256
  by_cases z : e = m
  · subst z
    rw [s_u_s]
    exact ⟨h65, hc, h64, hb⟩
  · rw [s_u_n z, n65 e z]
    obtain ⟨b1, b2, b3, b4⟩ := q6 e he
    exact ⟨b1, b2, fun i hi => (n64 _ (by omega)).trans (b3 i hi), b4⟩
theorem MR_g2 {v w : Nat} (h : MR σ dl B I) (e : w = 1 - v) : MR (w_g σ 2 v) dl B (f_u I 56 26 (nI w)) := by
  subst e
  obtain ⟨b1, b2, b3, b4, b5, b6, b7, b8⟩ := h.1
  exact MR_wg h ⟨f_uc (by decide) b1, f_uc (by decide) b2, f_u_s, f_uc (by decide) b4, f_uc (by decide) b5, f_uc (by decide) b6, f_uc (by decide) b7, f_uc (by decide) b8⟩ (f_uc (by decide) rfl) (f_uc (by decide) rfl) (fun a ha => f_u_ne ha)
theorem MR_g1 {v : Nat} (h : MR σ dl B I) : MR (w_g σ 1 v) dl B (f_u I 56 25 (nI v)) := by
  obtain ⟨b1, b2, b3, b4, b5, b6, b7, b8⟩ := h.1
  exact MR_wg h ⟨f_uc (by decide) b1, f_u_s, f_uc (by decide) b3, f_uc (by decide) b4, f_uc (by decide) b5, f_uc (by decide) b6, f_uc (by decide) b7, f_uc (by decide) b8⟩ (f_uc (by decide) rfl) (f_uc (by decide) rfl) (fun a ha => f_u_ne ha)
theorem MR_g0 {v : Nat} (h : MR σ dl B I) : MR (w_g σ 0 v) dl B (f_u I 56 24 (nI v)) := by
  obtain ⟨b1, b2, b3, b4, b5, b6, b7, b8⟩ := h.1
  exact MR_wg h ⟨f_u_s, f_uc (by decide) b2, f_uc (by decide) b3, f_uc (by decide) b4, f_uc (by decide) b5, f_uc (by decide) b6, f_uc (by decide) b7, f_uc (by decide) b8⟩ (f_uc (by decide) rfl) (f_uc (by decide) rfl) (fun a ha => f_u_ne ha)
theorem MR_g6 {v : Nat} (h : MR σ dl B I) : MR (w_g σ 6 v) dl B (f_u I 56 28 (nI v)) := by
  obtain ⟨b1, b2, b3, b4, b5, b6, b7, b8⟩ := h.1
  exact MR_wg h ⟨f_uc (by decide) b1, f_uc (by decide) b2, f_uc (by decide) b3, f_uc (by decide) b4, f_u_s, f_uc (by decide) b6, f_uc (by decide) b7, f_uc (by decide) b8⟩ (f_uc (by decide) rfl) (f_uc (by decide) rfl) (fun a ha => f_u_ne ha)
theorem MR_g7 {v : Nat} (h : MR σ dl B I) : MR (w_g σ 7 v) dl B (f_u I 56 29 (nI v)) := by
  obtain ⟨b1, b2, b3, b4, b5, b6, b7, b8⟩ := h.1
  exact MR_wg h ⟨f_uc (by decide) b1, f_uc (by decide) b2, f_uc (by decide) b3, f_uc (by decide) b4, f_uc (by decide) b5, f_u_s, f_uc (by decide) b7, f_uc (by decide) b8⟩ (f_uc (by decide) rfl) (f_uc (by decide) rfl) (fun a ha => f_u_ne ha)
theorem MR_g8 {v : Nat} (h : MR σ dl B I) : MR (w_g σ 8 v) dl B (f_u I 56 30 (nI v)) := by
  obtain ⟨b1, b2, b3, b4, b5, b6, b7, b8⟩ := h.1
  exact MR_wg h ⟨f_uc (by decide) b1, f_uc (by decide) b2, f_uc (by decide) b3, f_uc (by decide) b4, f_uc (by decide) b5, f_uc (by decide) b6, f_u_s, f_uc (by decide) b8⟩ (f_uc (by decide) rfl) (f_uc (by decide) rfl) (fun a ha => f_u_ne ha)
theorem MR_g9 {v : Nat} (h : MR σ dl B I) : MR (w_g σ 9 v) dl B (f_u I 56 31 (nI v)) := by
  obtain ⟨b1, b2, b3, b4, b5, b6, b7, b8⟩ := h.1
  exact MR_wg h ⟨f_uc (by decide) b1, f_uc (by decide) b2, f_uc (by decide) b3, f_uc (by decide) b4, f_uc (by decide) b5, f_uc (by decide) b6, f_uc (by decide) b7, f_u_s⟩ (f_uc (by decide) rfl) (f_uc (by decide) rfl) (fun a ha => f_u_ne ha)
theorem su_comm {α : Type} {f : Nat → α} {j k : Nat} {x y : α} (h : j ≠ k) : s_u (s_u f j x) k y = s_u (s_u f k y) j x := by
  funext i
  unfold s_u
  by_cases e : i = j
  · subst e; rw [if_neg h, if_pos rfl, if_pos rfl]
  · rw [if_neg e, if_neg e]
theorem add_w9 (k a b : Int32) (v : Nat) : e_add (w_g σ 9 v) k a b = w_g (e_add σ k a b) 9 v := by
  unfold e_add
  show (if 10 ≤ (s_sr σ).length then _ else _) = _
  split
  · show w_sr (w_g (w_g σ 9 v) 5 (s_g σ 5 + 1)) _ = w_g (w_sr (w_g σ 5 (s_g σ 5 + 1)) _) 9 v
    show (s_u (s_u (s_g σ) 9 v) 5 (s_g σ 5 + 1), _) = (s_u (s_u (s_g σ) 5 (s_g σ 5 + 1)) 9 v, _)
    rw [su_comm (by decide)]
    rfl
  · rfl
end MW
theorem shift_map {tm : Nat → Nat} {cd : Nat → List Nat} {z : Int} (L : List Nat) : L.map (fun k => ((fun j => if j ∈ L then ((tm j : Int) + z).toNat else tm j) k, cd k)) = e_shift (L.map (fun k => (tm k, cd k))) z := by
  unfold e_shift
  rw [List.map_map]
  exact List.map_congr_left (fun a ha => by simp only [Function.comp, if_pos ha])
