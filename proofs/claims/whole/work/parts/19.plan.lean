set_option maxRecDepth 100000 in
set_option maxHeartbeats 4000000 in
theorem sp_has {d : Nat} {x : Int32} {cm : Nat → Nat} {pl : List (Nat × List Nat)} {I : Fm} {P : Fr} {K : Option Fs → Fm → Fr → Prop} (h : x_pl I cm pl) (hK1 : ∀ j, j < pl.length → x = nI j → K (some (.inr (nI 1))) I P) (hK0 : (¬ ∃ j, j < pl.length ∧ x = nI j) → K (some (.inr (nI 0))) I P) : Fk d m_Pl_has 77 77 0 0 [rf 6, .inr x] I P K := by
  have hl := h.2.1
  refine Fk.intro (by decide +kernel) (Nat.le_of_ble_eq_true rfl) (fun G hC => ?_)
  refine Zv.iload_n hC d_Pl_has_0 rfl ?_
  refine Zv.if_lt (tgt := 16) hC d_Pl_has_1 (by decide) (fun h1 => ?_) (fun h1 => ?_)
  · skip
    have hn := q_out0 (n := pl.length) h1 (by omega)
    refine Zv.iconst hC d_Pl_has_16 ic_0 ?_
    refine Zv.zret hC rfl d_Pl_has_17 rfl (Nat.le_refl _) (Nat.le_refl _) ?_
    exact hK0 hn
  · skip
    refine Zv.iload_n hC d_Pl_has_4 rfl ?_
    refine Zv.aload_n hC d_Pl_has_5 rfl ?_
    refine Zv.geti hC d_Pl_has_6 fl_Pl_29 rfl rfl (by decide) h.1 ?_
    refine Zv.icmp_ge (tgt := 16) hC d_Pl_has_9 (by decide) (fun h9 => ?_) (fun h9 => ?_)
    · skip
      have hn := q_out1 h9 (by omega)
      refine Zv.iconst hC d_Pl_has_16 ic_0 ?_
      refine Zv.zret hC rfl d_Pl_has_17 rfl (Nat.le_refl _) (Nat.le_refl _) ?_
      exact hK0 hn
    · skip
      obtain ⟨j, hj, e⟩ := q_in h1 h9 (by omega)
      refine Zv.iconst hC d_Pl_has_12 ic_1 ?_
      refine Zv.goto (tgt := 17) hC d_Pl_has_13 (by decide) ?_
      refine Zv.zret hC rfl d_Pl_has_17 rfl (Nat.le_refl _) (Nat.le_refl _) ?_
      exact hK1 j hj e
set_option maxRecDepth 100000 in
set_option maxHeartbeats 4000000 in
theorem sp_isFull {d : Nat} {cm : Nat → Nat} {pl : List (Nat × List Nat)} {I : Fm} {P : Fr} {K : Option Fs → Fm → Fr → Prop} (h : x_pl I cm pl) (hK : ∀ r : Nat, r < 2 → (r ≠ 0 ↔ 6 ≤ pl.length) → K (some (.inr (nI r))) I P) : Fk d m_Pl_isFull 77 77 0 0 [rf 6] I P K := by
  have hl := h.2.1
  refine Fk.intro (by decide +kernel) (Nat.le_of_ble_eq_true rfl) (fun G hC => ?_)
  refine Zv.aload_n hC d_Pl_isFull_0 rfl ?_
  refine Zv.geti hC d_Pl_isFull_1 fl_Pl_29 rfl rfl (by decide) h.1 ?_
  refine Zv.bipush hC d_Pl_isFull_4 bp_6 ?_
  refine Zv.icmp_lt (tgt := 13) hC d_Pl_isFull_6 (by decide) (fun h6 => ?_) (fun h6 => ?_)
  · try have g6 := q_l h6 (by omega) (by omega)
    refine Zv.iconst hC d_Pl_isFull_13 ic_0 ?_
    refine Zv.zret hC rfl d_Pl_isFull_14 rfl (Nat.le_refl _) (Nat.le_refl _) ?_
    exact hK 0 (by decide) ⟨fun z => absurd rfl z, fun z => absurd z (by omega)⟩
  · try have g6 := q_nl h6 (by omega) (by omega)
    refine Zv.iconst hC d_Pl_isFull_9 ic_1 ?_
    refine Zv.goto (tgt := 14) hC d_Pl_isFull_10 (by decide) ?_
    refine Zv.zret hC rfl d_Pl_isFull_14 rfl (Nat.le_refl _) (Nat.le_refl _) ?_
    exact hK 1 (by decide) ⟨fun _ => by omega, fun _ => by decide⟩
set_option maxRecDepth 100000 in
set_option maxHeartbeats 4000000 in
theorem sp_pclear {d : Nat} {I : Fm} {P : Fr} {K : Option Fs → Fm → Fr → Prop} (hK : K none (f_u I 5 3 (nI 0)) P) : Fk d m_Pl_clear 77 77 0 0 [rf 6] I P K := by
  refine Fk.intro (by decide +kernel) (Nat.le_of_ble_eq_true rfl) (fun G hC => ?_)
  refine Zv.aload_n hC d_Pl_clear_0 rfl ?_
  refine Zv.iconst hC d_Pl_clear_1 ic_0 ?_
  refine Zv.puti hC d_Pl_clear_2 fl_Pl_29 rfl ck_2 rfl rfl rfl rfl (by decide) ?_
  refine Zv.vret hC rfl d_Pl_clear_5 (Nat.le_refl _) (Nat.le_refl _) ?_
  exact hK
set_option maxRecDepth 100000 in
set_option maxHeartbeats 4000000 in
theorem lp_canShift {G : Fx} {d b t : Nat} {cm : Nat → Nat} {pl : List (Nat × List Nat)} {I : Fm} {P : Fr} {K : Option Fs → Fm → Fr → Prop} (hC : Fc G m_Pl_canShift d 0 0) (hP : x_ref P) (h : x_pl I cm pl) (hb : b < 256) (ht : t < 2 ^ 30) (hK : ∀ r : Nat, r < 2 → (r ≠ 0 ↔ ∀ e ∈ pl, (t : Int) < e.1 + e_sgz b ∧ (e.1 : Int) + e_sgz b ≤ 65535) → K (some (.inr (nI r))) I P) : ∀ (m i : Nat), i + m = pl.length + 1 → (∀ j, j < i → (t : Int) < p_t pl j + e_sgz b ∧ (p_t pl j : Int) + e_sgz b ≤ 65535) → Zv G (f_R G K 77 0 0) 77 0 0 2 [(0, rf 6), (1, .inr (e_sgn b)), (2, .inr (nI t)), (3, .inr (nI i))] [] I P := by
  have hl := h.2.1
  intro m
  induction m with
  | zero =>
    intro i him hi
    refine Zv.iload_n hC d_Pl_canShift_2 rfl ?_
    refine Zv.aload_n hC d_Pl_canShift_3 rfl ?_
    refine Zv.geti hC d_Pl_canShift_4 fl_Pl_29 rfl rfl (by decide) h.1 ?_
    refine Zv.icmp_ge (tgt := 41) hC d_Pl_canShift_7 (by decide) (fun h7 => ?_) (fun h7 => absurd (nI_le (by omega) (by omega)) h7)
    refine Zv.iconst hC d_Pl_canShift_41 ic_1 ?_
    refine Zv.zret hC rfl d_Pl_canShift_42 rfl (Nat.le_refl _) (Nat.le_refl _) ?_
    refine hK 1 (by decide) ⟨fun _ e he => ?_, fun _ => by decide⟩
    obtain ⟨j, hj, rfl⟩ := p_of_mem he
    exact hi j (by omega)
  | succ m ih =>
    intro i him hi
    refine Zv.iload_n hC d_Pl_canShift_2 rfl ?_
    refine Zv.aload_n hC d_Pl_canShift_3 rfl ?_
    refine Zv.geti hC d_Pl_canShift_4 fl_Pl_29 rfl rfl (by decide) h.1 ?_
    refine Zv.icmp_ge (tgt := 41) hC d_Pl_canShift_7 (by decide) (fun h7 => ?_) (fun h7 => ?_)
    · try have g7 := q_le h7 (by omega) (by omega)
      have hall : ∀ j, j < pl.length → (t : Int) < p_t pl j + e_sgz b ∧ (p_t pl j : Int) + e_sgz b ≤ 65535 := fun j hj => hi j (by omega)
      refine Zv.iconst hC d_Pl_canShift_41 ic_1 ?_
      refine Zv.zret hC rfl d_Pl_canShift_42 rfl (Nat.le_refl _) (Nat.le_refl _) ?_
      refine hK 1 (by decide) ⟨fun _ e he => ?_, fun _ => by decide⟩
      obtain ⟨j, hj, rfl⟩ := p_of_mem he
      exact hall j hj
    · try have g7 := q_nle h7 (by omega) (by omega)
      refine Zv.aload_n hC d_Pl_canShift_10 rfl ?_
      refine Zv.getr (q := 7) hC d_Pl_canShift_11 fl_Pl_11 rfl rfl (by decide) (hP _ _ (by decide) (by decide)) ?_
      refine Zv.iload_n hC d_Pl_canShift_14 rfl ?_
      refine Zv.iald hC d_Pl_canShift_15 rfl (by decide) rfl (by omega) (by first | decide | omega) ((h.2.2 i (by omega)).1) ?_
      refine Zv.iload_n hC d_Pl_canShift_16 rfl ?_
      first | refine Zv.iaddN hC d_Pl_canShift_17 ?_ | refine Zv.iadd hC d_Pl_canShift_17 ?_
      refine Zv.istore hC d_Pl_canShift_18 (by decide) rfl ?_
      refine Zv.iload hC d_Pl_canShift_20 rfl ?_
      refine Zv.iload_n hC d_Pl_canShift_22 rfl ?_
      refine Zv.icmp_le (tgt := 33) hC d_Pl_canShift_23 (by decide) (fun h23 => ?_) (fun h23 => ?_)
      · skip
        have hno : ¬ ((t : Int) < p_t pl i + e_sgz b ∧ (p_t pl i : Int) + e_sgz b ≤ 65535) := fun z => by
          have h23 := (q_leT (by omega)).mp h23
          rw [sgn_add (h.2.2 i g7).2.2 hb] at h23
          omega
        refine Zv.iconst hC d_Pl_canShift_33 ic_0 ?_
        refine Zv.zret hC rfl d_Pl_canShift_34 rfl (Nat.le_refl _) (Nat.le_refl _) ?_
        exact hK 0 (by decide) ⟨fun z => absurd rfl z, fun z => absurd (z _ (p_mem g7)) hno⟩
      · skip
        refine Zv.iload hC d_Pl_canShift_26 rfl ?_
        refine Zv.ldc hC d_Pl_canShift_28 co_Pl_49 ?_
        refine Zv.icmp_le (tgt := 35) hC d_Pl_canShift_30 (by decide) (fun h30 => ?_) (fun h30 => ?_)
        · skip
          have h23 : ¬ (p_t pl i : Int) + e_sgz b ≤ t := fun z => h23 ((q_leT (by omega)).mpr (by rw [sgn_add (h.2.2 i g7).2.2 hb]; exact z))
          have h30 := (q_leT (by decide)).mp h30
          rw [sgn_add (h.2.2 i g7).2.2 hb] at h30
          refine Zv.iinc hC d_Pl_canShift_35 rfl (by decide) (q_inc _) rfl ?_
          refine Zv.goto (tgt := 2) hC d_Pl_canShift_38 (by decide) ?_
          refine Zv.take 4 ?_
          refine ih (i + 1) (by omega) (fun j hj => ?_)
          by_cases e : j = i
          · subst e; exact ⟨by omega, h30⟩
          · exact hi j (by omega)
        · skip
          have hno : ¬ ((t : Int) < p_t pl i + e_sgz b ∧ (p_t pl i : Int) + e_sgz b ≤ 65535) := fun z => h30 ((q_leT (by decide)).mpr (by rw [sgn_add (h.2.2 i g7).2.2 hb]; exact z.2))
          refine Zv.iconst hC d_Pl_canShift_33 ic_0 ?_
          refine Zv.zret hC rfl d_Pl_canShift_34 rfl (Nat.le_refl _) (Nat.le_refl _) ?_
          exact hK 0 (by decide) ⟨fun z => absurd rfl z, fun z => absurd (z _ (p_mem g7)) hno⟩
set_option maxRecDepth 100000 in
set_option maxHeartbeats 4000000 in
theorem sp_canShift {d b t : Nat} {cm : Nat → Nat} {pl : List (Nat × List Nat)} {I : Fm} {P : Fr} {K : Option Fs → Fm → Fr → Prop} (hP : x_ref P) (h : x_pl I cm pl) (hb : b < 256) (ht : t < 2 ^ 30) (hK : ∀ r : Nat, r < 2 → (r ≠ 0 ↔ ∀ e ∈ pl, (t : Int) < e.1 + e_sgz b ∧ (e.1 : Int) + e_sgz b ≤ 65535) → K (some (.inr (nI r))) I P) : Fk d m_Pl_canShift 77 77 0 0 [rf 6, .inr (e_sgn b), .inr (nI t)] I P K := by
  refine Fk.intro (by decide +kernel) (Nat.le_of_ble_eq_true rfl) (fun G hC => ?_)
  refine Zv.iconst hC d_Pl_canShift_0 ic_0 ?_
  refine Zv.istore_n hC d_Pl_canShift_1 (by decide) rfl ?_
  exact lp_canShift hC hP h hb ht hK (pl.length + 1) 0 (by omega) (fun j hj => absurd hj (Nat.not_lt_zero j))
set_option maxRecDepth 100000 in
set_option maxHeartbeats 4000000 in
theorem lp_shift {G : Fx} {d b n : Nat} {T : Nat → Nat} {I : Fm} {P : Fr} {K : Option Fs → Fm → Fr → Prop} (hC : Fc G m_Pl_shift d 0 0) (hP : x_ref P) (hn : n ≤ 6) (h5 : I 5 3 = nI n) (hb : b < 256) (hb2 : ∀ i, i < n → T i ≤ 65535) (h0 : ∀ i, i < n → 0 ≤ (T i : Int) + e_sgz b) (hK : ∀ I' : Fm, (∀ j, j < n → I' 6 j = nI ((T j : Int) + e_sgz b).toNat) → (∀ a, a ≠ 6 → I' a = I a) → K none I' P) : ∀ (m i : Nat) (J : Fm), i + m = n + 1 → (∀ j, j < i → J 6 j = nI ((T j : Int) + e_sgz b).toNat) → (∀ j, i ≤ j → j < n → J 6 j = nI (T j)) → (∀ a, a ≠ 6 → J a = I a) → Zv G (f_R G K 77 0 0) 77 0 0 2 [(0, rf 6), (1, .inr (e_sgn b)), (2, .inr (nI i))] [] J P := by
  intro m
  induction m with
  | zero =>
    intro i J him hJ1 hJ2 hJ3
    have hJ5 : J 5 3 = nI n := by rw [hJ3 5 (by decide)]; exact h5
    refine Zv.iload_n hC d_Pl_shift_2 rfl ?_
    refine Zv.aload_n hC d_Pl_shift_3 rfl ?_
    refine Zv.geti hC d_Pl_shift_4 fl_Pl_29 rfl rfl (by decide) hJ5 ?_
    refine Zv.icmp_ge (tgt := 26) hC d_Pl_shift_7 (by decide) (fun h7 => ?_) (fun h7 => absurd (nI_le (by omega) (by omega)) h7)
    refine Zv.vret hC rfl d_Pl_shift_26 (Nat.le_refl _) (Nat.le_refl _) ?_
    exact hK J (fun j hj => hJ1 j (by omega)) hJ3
  | succ m ih =>
    intro i J him hJ1 hJ2 hJ3
    have hJ5 : J 5 3 = nI n := by rw [hJ3 5 (by decide)]; exact h5
    refine Zv.iload_n hC d_Pl_shift_2 rfl ?_
    refine Zv.aload_n hC d_Pl_shift_3 rfl ?_
    refine Zv.geti hC d_Pl_shift_4 fl_Pl_29 rfl rfl (by decide) hJ5 ?_
    refine Zv.icmp_ge (tgt := 26) hC d_Pl_shift_7 (by decide) (fun h7 => ?_) (fun h7 => ?_)
    · try have g7 := q_le h7 (by omega) (by omega)
      refine Zv.vret hC rfl d_Pl_shift_26 (Nat.le_refl _) (Nat.le_refl _) ?_
      exact hK J (fun j hj => hJ1 j (by omega)) hJ3
    · try have g7 := q_nle h7 (by omega) (by omega)
      refine Zv.aload_n hC d_Pl_shift_10 rfl ?_
      refine Zv.getr (q := 7) hC d_Pl_shift_11 fl_Pl_11 rfl rfl (by decide) (hP _ _ (by decide) (by decide)) ?_
      refine Zv.iload_n hC d_Pl_shift_14 rfl ?_
      refine Zv.dup2 hC d_Pl_shift_15 ?_
      refine Zv.iald hC d_Pl_shift_16 rfl (by decide) rfl (by omega) (by first | decide | omega) ((hJ2 i (by omega) (by omega))) ?_
      refine Zv.iload_n hC d_Pl_shift_17 rfl ?_
      refine Zv.iadd hC d_Pl_shift_18 ?_
      rw [sgn_addN (hb2 i g7) hb (h0 i g7)]
      refine Zv.iast hC d_Pl_shift_19 rfl (by decide) rfl (by omega) (by decide) ?_
      refine Zv.iinc hC d_Pl_shift_20 rfl (by decide) (q_inc _) rfl ?_
      refine Zv.goto (tgt := 2) hC d_Pl_shift_23 (by decide) ?_
      refine ih (i + 1) _ (by omega) (fun j hj => ?_) (fun j h1 h2 => ?_) (fun a h => ?_)
      · by_cases e : j = i
        · subst e; exact f_u_s
        · exact f_uc e (hJ1 j (by omega))
      · exact f_uc (by omega) (hJ2 j (by omega) h2)
      · rw [f_u_ne h]; exact hJ3 a h
theorem sh_len (pl : List (Nat × List Nat)) (d : Int) : (e_shift pl d).length = pl.length := List.length_map _
theorem sh_get {pl : List (Nat × List Nat)} {d : Int} {i : Nat} (h : i < pl.length) : (e_shift pl d).getD i (0, []) = (((p_t pl i : Int) + d).toNat, p_c pl i) := by
  unfold e_shift p_t p_c
  simp [List.getD_eq_getElem?_getD, List.getElem?_map, List.getElem?_eq_getElem h]
set_option maxRecDepth 100000 in
set_option maxHeartbeats 4000000 in
theorem sp_shift {d b t : Nat} {cm du : Nat → Nat} {pl : List (Nat × List Nat)} {I : Fm} {P : Fr} {K : Option Fs → Fm → Fr → Prop} (hP : x_ref P) (hpm : x_pm P cm du) (h : x_pl I cm pl) (hb : b < 256) (hcs : ∀ e ∈ pl, (t : Int) < e.1 + e_sgz b ∧ (e.1 : Int) + e_sgz b ≤ 65535) (hK : ∀ I' : Fm, x_pl I' cm (e_shift pl (e_sgz b)) → (∀ a, a ≠ 6 → I' a = I a) → K none I' P) : Fk d m_Pl_shift 77 77 0 0 [rf 6, .inr (e_sgn b)] I P K := by
  refine Fk.intro (by decide +kernel) (Nat.le_of_ble_eq_true rfl) (fun G hC => ?_)
  refine Zv.iconst hC d_Pl_shift_0 ic_0 ?_
  refine Zv.istore_n hC d_Pl_shift_1 (by decide) rfl ?_
  refine lp_shift (T := p_t pl) hC hP h.2.1 h.1 hb (fun i hi => (h.2.2 i hi).2.2) (fun i hi => ?_) (fun I' h1 h2 => ?_) (pl.length + 1) 0 I (by omega) (fun j hj => absurd hj (Nat.not_lt_zero j)) (fun j _ hj => (h.2.2 j hj).1) (fun _ _ => rfl)
  · have := hcs _ (p_mem hi); unfold p_t; omega
  · refine hK I' ⟨?_, ?_, fun i hi => ?_⟩ h2
    · rw [h2 5 (by decide), sh_len]; exact h.1
    · rw [sh_len]; exact h.2.1
    · rw [sh_len] at hi
      have hc := hcs _ (p_mem hi)
      have hpc := isPC_cm (hpm.1 i (by have := h.2.1; omega)).2.2.1
      have hpb := (hpm.1 i (by have := h.2.1; omega)).2.2.1
      unfold isPC at hpb
      unfold p_t p_c
      rw [sh_get hi]
      refine ⟨h1 i hi, x_cmd_kept (h.2.2 i hi).2.1 (h2 _ (by omega)) (h2 _ (by omega)), ?_⟩
      show ((p_t pl i : Int) + e_sgz b).toNat ≤ 65535
      unfold p_t
      omega
