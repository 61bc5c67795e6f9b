def p_sw (x y j : Nat) : Nat := if j = y then x else if j = x then y else j
theorem sw_lt {x y j : Nat} (hx : x < 6) (hy : y < 6) (hj : j < 6) : p_sw x y j < 6 := by
  unfold p_sw; split; omega; split <;> omega
theorem sw_inj {x y i j : Nat} (h : p_sw x y i = p_sw x y j) : i = j := by
  unfold p_sw at h
  split at h <;> split at h <;> (try split at h) <;> (try split at h) <;> omega
abbrev c_1 (m : Nat) (cm du : Nat → Nat) (i : Nat) : Nat := if i < m then du i else cm i
theorem c1_pc {P : Fr} {cm du : Nat → Nat} (h : x_pm P cm du) (m : Nat) : (∀ i, i < 6 → isPC (c_1 m cm du i)) ∧ (∀ i j, i < 6 → j < 6 → c_1 m cm du i = c_1 m cm du j → i = j) ∧ ∀ i j, i < 6 → j < 6 → c_1 m cm du i ≠ c_1 m du cm j := by
  obtain ⟨h1, h2, h3, h4⟩ := h
  refine ⟨fun i hi => ?_, fun i j hi hj e => ?_, fun i j hi hj e => ?_⟩
  · unfold c_1
    split
    · exact (h1 i hi).2.2.2
    · exact (h1 i hi).2.2.1
  · unfold c_1 at e
    split at e <;> split at e
    · exact h3 i j hi hj e
    · exact absurd e.symm (h4 j i hj hi)
    · exact absurd e (h4 i j hi hj)
    · exact h2 i j hi hj e
  · unfold c_1 at e
    split at e <;> split at e
    · exact h4 j i hj hi e.symm
    · rename_i a b
      have := h3 i j hi hj e
      omega
    · rename_i a b
      have := h2 i j hi hj e
      omega
    · exact h4 i j hi hj e
theorem c1_pc' {P : Fr} {cm du : Nat → Nat} (h : x_pm P cm du) (m : Nat) : (∀ i, i < 6 → isPC (c_1 m du cm i)) ∧ ∀ i j, i < 6 → j < 6 → c_1 m du cm i = c_1 m du cm j → i = j := by
  obtain ⟨h1, h2, h3, h4⟩ := h
  refine ⟨fun i hi => ?_, fun i j hi hj e => ?_⟩
  · unfold c_1
    split
    · exact (h1 i hi).2.2.1
    · exact (h1 i hi).2.2.2
  · unfold c_1 at e
    split at e <;> split at e
    · exact h2 i j hi hj e
    · exact absurd e (h4 i j hi hj)
    · exact absurd e.symm (h4 j i hj hi)
    · exact h3 i j hi hj e
theorem drop_get {pl : List (Nat × List Nat)} {m i : Nat} : (pl.drop m).getD i (0, []) = pl.getD (m + i) (0, []) := by
  simp [List.getD_eq_getElem?_getD, List.getElem?_drop]
set_option maxRecDepth 100000 in
set_option maxHeartbeats 4000000 in
theorem lp_due2 {G : Fx} {d t : Nat} {cm du : Nat → Nat} {pl : List (Nat × List Nat)} {I : Fm} {P : Fr} {K : Option Fs → Fm → Fr → Prop} (hC : Fc G m_Pl_takeOutDue d 0 0) (hP : x_ref P) (hpm : x_pm P cm du) (h : x_pl I cm pl) (ht : t < 2 ^ 30) (hK : ∀ (m : Nat) (I' : Fm) (P' : Fr) (cm' du' : Nat → Nat), m ≤ pl.length → (∀ i, i < m → p_t pl i ≤ t) → (m < pl.length → t < p_t pl m) → x_ref P' → x_pm P' cm' du' → x_pl I' cm' (pl.drop m) → (∀ i, i < m → x_cmd I' (du' i) (p_c pl i)) → (∀ a, a ≠ 5 → a ≠ 6 → I' a = I a) → I' 5 4 = I 5 4 → K (some (.inr (nI m))) I' P') (m : Nat) (hm : m ≤ pl.length) (hle : ∀ i, i < m → p_t pl i ≤ t) (hgt : m < pl.length → t < p_t pl m) : ∀ (f i : Nat) (J : Fm) (Q : Fr) (cx : Nat → Nat), i + f = pl.length → m ≤ i → i ≤ pl.length → (∀ j, j < i - m → J 6 j = I 6 (m + j)) → (∀ j, i ≤ j → j < 6 → J 6 j = I 6 j) → (∀ a, a ≠ 6 → J a = I a) → (∀ j, j < 6 → Q 7 j = cx j + 1) → (∀ j, j < 6 → Q 8 j = c_1 m du cm j + 1) → (∀ j, j < 6 → isPC (cx j)) → (∀ a b, a < 6 → b < 6 → cx a = cx b → a = b) → (∀ a b, a < 6 → b < 6 → cx a ≠ c_1 m du cm b) → (∀ j, j < i - m → cx j = c_1 m cm du (m + j)) → (∀ j, i ≤ j → j < 6 → cx j = c_1 m cm du j) → (∀ a, a ≠ 7 → a ≠ 8 → Q a = P a) → Zv G (f_R G K 77 0 0) 77 0 0 54 [(0, rf 6), (1, .inr (nI t)), (2, .inr (nI m)), (3, .inr (nI i))] [] J Q := by
  have hl := h.2.1
  intro f
  induction f with
  | zero =>
    intro i J Q cx hif hmi hi g1 g2 g3 hc0 hc8 hc1 hc2 hc3 hc4 hc5 g4
    have hQ : x_ref Q := fun a j h7 h8 => by rw [g4 a h7 h8]; exact hP a j h7 h8
    have hJ5 : J 5 3 = nI pl.length := by rw [g3 5 (by decide)]; exact h.1
    have ei : i = pl.length := by omega
    subst ei
    refine Zv.iload_n hC d_Pl_takeOutDue_54 rfl ?_
    refine Zv.aload_n hC d_Pl_takeOutDue_55 rfl ?_
    refine Zv.geti hC d_Pl_takeOutDue_56 fl_Pl_29 rfl rfl (by decide) hJ5 ?_
    refine Zv.icmp_ge (tgt := 114) hC d_Pl_takeOutDue_59 (by decide) (fun h59 => ?_) (fun h59 => absurd (nI_le (by omega) (by omega)) h59)
    refine Zv.aload_n hC d_Pl_takeOutDue_114 rfl ?_
    refine Zv.dup hC d_Pl_takeOutDue_115 ?_
    refine Zv.geti hC d_Pl_takeOutDue_116 fl_Pl_29 rfl rfl (by decide) hJ5 ?_
    refine Zv.iload_n hC d_Pl_takeOutDue_119 rfl ?_
    refine Zv.isubN hC d_Pl_takeOutDue_120 (by omega) ?_
    refine Zv.puti hC d_Pl_takeOutDue_121 fl_Pl_29 rfl ck_2 rfl rfl rfl rfl (by decide) ?_
    refine Zv.iload_n hC d_Pl_takeOutDue_124 rfl ?_
    refine Zv.iret hC rfl d_Pl_takeOutDue_125 (Nat.le_refl _) (Nat.le_refl _) ?_
    refine hK m _ _ cx (c_1 m du cm) hm hle hgt hQ ⟨fun j hj => ⟨hc0 j hj, hc8 j hj, hc1 j hj, (c1_pc' hpm m).1 j hj⟩, hc2, (c1_pc' hpm m).2, hc3⟩ ⟨?_, ?_, fun j hj => ?_⟩ (fun j hj => ?_) (fun a h5 h6 => ?_) ?_
    · rw [List.length_drop]; exact f_u_s
    · rw [List.length_drop]; omega
    · rw [List.length_drop] at hj
      obtain ⟨b1, b2, b3⟩ := h.2.2 (m + j) (by omega)
      unfold p_t p_c
      rw [drop_get]
      have e : cx j = cm (m + j) := by rw [hc4 j (by omega)]; exact if_neg (by omega)
      have a1 := hc1 j (by omega)
      unfold isPC at a1
      refine ⟨f_ur (by decide) ((g1 j (by omega)).trans b1), ?_, b3⟩
      rw [e] at a1 ⊢
      exact x_cmd_kept b2 (by rw [f_u_ne (by omega), g3 _ (by omega)]) (by rw [f_u_ne (by omega), g3 _ (by omega)])
    · have e : c_1 m du cm j = cm j := if_pos hj
      have a1 := (hpm.1 j (by omega)).2.2.1
      unfold isPC at a1
      rw [e]
      exact x_cmd_kept (h.2.2 j (by omega)).2.1 (by rw [f_u_ne (by omega), g3 _ (by omega)]) (by rw [f_u_ne (by omega), g3 _ (by omega)])
    · rw [f_u_ne h5, g3 a h6]
    · exact f_uc (by decide) (by rw [g3 5 (by decide)])
  | succ f ih =>
    intro i J Q cx hif hmi hi g1 g2 g3 hc0 hc8 hc1 hc2 hc3 hc4 hc5 g4
    have hQ : x_ref Q := fun a j h7 h8 => by rw [g4 a h7 h8]; exact hP a j h7 h8
    have hJ5 : J 5 3 = nI pl.length := by rw [g3 5 (by decide)]; exact h.1
    refine Zv.iload_n hC d_Pl_takeOutDue_54 rfl ?_
    refine Zv.aload_n hC d_Pl_takeOutDue_55 rfl ?_
    refine Zv.geti hC d_Pl_takeOutDue_56 fl_Pl_29 rfl rfl (by decide) hJ5 ?_
    refine Zv.icmp_ge (tgt := 114) hC d_Pl_takeOutDue_59 (by decide) (fun h59 => ?_) (fun h59 => ?_)
    · try have g59 := q_le h59 (by omega) (by omega)
      have ei : i = pl.length := by omega
      subst ei
      refine Zv.aload_n hC d_Pl_takeOutDue_114 rfl ?_
      refine Zv.dup hC d_Pl_takeOutDue_115 ?_
      refine Zv.geti hC d_Pl_takeOutDue_116 fl_Pl_29 rfl rfl (by decide) hJ5 ?_
      refine Zv.iload_n hC d_Pl_takeOutDue_119 rfl ?_
      refine Zv.isubN hC d_Pl_takeOutDue_120 (by omega) ?_
      refine Zv.puti hC d_Pl_takeOutDue_121 fl_Pl_29 rfl ck_2 rfl rfl rfl rfl (by decide) ?_
      refine Zv.iload_n hC d_Pl_takeOutDue_124 rfl ?_
      refine Zv.iret hC rfl d_Pl_takeOutDue_125 (Nat.le_refl _) (Nat.le_refl _) ?_
      refine hK m _ _ cx (c_1 m du cm) hm hle hgt hQ ⟨fun j hj => ⟨hc0 j hj, hc8 j hj, hc1 j hj, (c1_pc' hpm m).1 j hj⟩, hc2, (c1_pc' hpm m).2, hc3⟩ ⟨?_, ?_, fun j hj => ?_⟩ (fun j hj => ?_) (fun a h5 h6 => ?_) ?_
      · rw [List.length_drop]; exact f_u_s
      · rw [List.length_drop]; omega
      · rw [List.length_drop] at hj
        obtain ⟨b1, b2, b3⟩ := h.2.2 (m + j) (by omega)
        unfold p_t p_c
        rw [drop_get]
        have e : cx j = cm (m + j) := by rw [hc4 j (by omega)]; exact if_neg (by omega)
        have a1 := hc1 j (by omega)
        unfold isPC at a1
        refine ⟨f_ur (by decide) ((g1 j (by omega)).trans b1), ?_, b3⟩
        rw [e] at a1 ⊢
        exact x_cmd_kept b2 (by rw [f_u_ne (by omega), g3 _ (by omega)]) (by rw [f_u_ne (by omega), g3 _ (by omega)])
      · have e : c_1 m du cm j = cm j := if_pos hj
        have a1 := (hpm.1 j (by omega)).2.2.1
        unfold isPC at a1
        rw [e]
        exact x_cmd_kept (h.2.2 j (by omega)).2.1 (by rw [f_u_ne (by omega), g3 _ (by omega)]) (by rw [f_u_ne (by omega), g3 _ (by omega)])
      · rw [f_u_ne h5, g3 a h6]
      · exact f_uc (by decide) (by rw [g3 5 (by decide)])
    · try have g59 := q_nle h59 (by omega) (by omega)
      refine Zv.aload_n hC d_Pl_takeOutDue_62 rfl ?_
      refine Zv.getr (q := 8) hC d_Pl_takeOutDue_63 fl_Pl_17 rfl rfl (by decide) (hQ _ _ (by decide) (by decide)) ?_
      refine Zv.iload_n hC d_Pl_takeOutDue_66 rfl ?_
      refine Zv.iload_n hC d_Pl_takeOutDue_67 rfl ?_
      refine Zv.isubN hC d_Pl_takeOutDue_68 (by omega) ?_
      refine Zv.aald (q := ((cx (i - m))) + 1) hC d_Pl_takeOutDue_69 rfl (fun _ => rfl) (by decide) (by decide) rfl (by omega) (by decide) (hc0 (i - m) (by omega)) ?_
      refine Zv.astore hC d_Pl_takeOutDue_70 (by decide) rfl ?_
      refine Zv.aload_n hC d_Pl_takeOutDue_72 rfl ?_
      refine Zv.getr (q := 8) hC d_Pl_takeOutDue_73 fl_Pl_17 rfl rfl (by decide) (hQ _ _ (by decide) (by decide)) ?_
      refine Zv.iload_n hC d_Pl_takeOutDue_76 rfl ?_
      refine Zv.iload_n hC d_Pl_takeOutDue_77 rfl ?_
      refine Zv.isubN hC d_Pl_takeOutDue_78 (by omega) ?_
      refine Zv.aload_n hC d_Pl_takeOutDue_79 rfl ?_
      refine Zv.getr (q := 8) hC d_Pl_takeOutDue_80 fl_Pl_17 rfl rfl (by decide) (hQ _ _ (by decide) (by decide)) ?_
      refine Zv.iload_n hC d_Pl_takeOutDue_83 rfl ?_
      refine Zv.aald (q := ((cx i)) + 1) hC d_Pl_takeOutDue_84 rfl (fun _ => rfl) (by decide) (by decide) rfl (by omega) (by decide) (hc0 i (by omega)) ?_
      refine Zv.aast hC d_Pl_takeOutDue_85 rfl (fun _ => rfl) (by decide) (by decide) rfl (by omega) (by decide) (isPC_cm (hc1 i (by omega))).1 (by have := hc1 i (by omega); unfold isPC at this; omega) rfl ?_
      refine Zv.aload_n hC d_Pl_takeOutDue_86 rfl ?_
      refine Zv.getr (q := 8) hC d_Pl_takeOutDue_87 fl_Pl_17 rfl rfl (by decide) ((x_ref_7 hQ _ _) _ _ (by decide) (by decide)) ?_
      refine Zv.iload_n hC d_Pl_takeOutDue_90 rfl ?_
      refine Zv.aload hC d_Pl_takeOutDue_91 rfl ?_
      refine Zv.aast hC d_Pl_takeOutDue_93 rfl (fun _ => rfl) (by decide) (by decide) rfl (by omega) (by decide) (isPC_cm (hc1 (i - m) (by omega))).1 (by have := hc1 (i - m) (by omega); unfold isPC at this; omega) rfl ?_
      refine Zv.aload_n hC d_Pl_takeOutDue_94 rfl ?_
      refine Zv.getr (q := 7) hC d_Pl_takeOutDue_95 fl_Pl_11 rfl rfl (by decide) ((x_ref_7 (x_ref_7 hQ _ _) _ _) _ _ (by decide) (by decide)) ?_
      refine Zv.iload_n hC d_Pl_takeOutDue_98 rfl ?_
      refine Zv.iload_n hC d_Pl_takeOutDue_99 rfl ?_
      refine Zv.isubN hC d_Pl_takeOutDue_100 (by omega) ?_
      refine Zv.aload_n hC d_Pl_takeOutDue_101 rfl ?_
      refine Zv.getr (q := 7) hC d_Pl_takeOutDue_102 fl_Pl_11 rfl rfl (by decide) ((x_ref_7 (x_ref_7 hQ _ _) _ _) _ _ (by decide) (by decide)) ?_
      refine Zv.iload_n hC d_Pl_takeOutDue_105 rfl ?_
      refine Zv.iald hC d_Pl_takeOutDue_106 rfl (by decide) rfl (by omega) (by first | decide | omega) rfl ?_
      refine Zv.iast hC d_Pl_takeOutDue_107 rfl (by decide) rfl (by omega) (by first | decide | omega) ?_
      refine Zv.iinc hC d_Pl_takeOutDue_108 rfl (by decide) (q_inc _) rfl ?_
      refine Zv.goto (tgt := 54) hC d_Pl_takeOutDue_111 (by decide) ?_
      refine Zv.take 4 ?_
      refine ih (i + 1) _ _ (fun j => cx (p_sw (i - m) i j)) (by omega) (by omega) (by omega) (fun j hj => ?_) (fun j h1 h2 => f_uc (by omega) (g2 j (by omega) h2)) (fun a ha => by rw [f_u_ne ha]; exact g3 a ha) (fun j hj => ?_) (fun j hj => ?_) (fun j hj => hc1 _ (sw_lt (by omega) (by omega) hj)) (fun a b ha hb e => sw_inj (hc2 _ _ (sw_lt (by omega) (by omega) ha) (sw_lt (by omega) (by omega) hb) e)) (fun a b ha hb => hc3 _ _ (sw_lt (by omega) (by omega) ha) hb) (fun j hj => ?_) (fun j h1 h2 => ?_) (fun a h7 h8 => by rw [f_u_ne h7, f_u_ne h7]; exact g4 a h7 h8)
      · by_cases e : j = i - m
        · subst e
          refine f_u_s.trans ?_
          rw [show m + (i - m) = i by omega]
          exact g2 i (Nat.le_refl _) (by omega)
        · exact f_uc e (g1 j (by omega))
      · show _ = cx (p_sw (i - m) i j) + 1
        unfold p_sw
        by_cases e1 : j = i
        · subst e1
          rw [if_pos rfl]
          exact f_u_s
        · rw [if_neg e1]
          by_cases e2 : j = i - m
          · subst e2
            rw [if_pos rfl]
            exact f_uc e1 f_u_s
          · rw [if_neg e2]
            exact f_uc e1 (f_uc e2 (hc0 j hj))
      · exact f_ur (by decide) (f_ur (by decide) (hc8 j hj))
      · show cx (p_sw (i - m) i j) = _
        unfold p_sw
        by_cases e1 : j = i
        · subst e1
          rw [if_pos rfl, show j - m = j by omega, show m + j = j by omega]
          exact hc5 j (Nat.le_refl _) (by omega)
        · rw [if_neg e1]
          by_cases e2 : j = i - m
          · subst e2
            rw [if_pos rfl, show m + (i - m) = i by omega]
            exact hc5 i (Nat.le_refl _) (by omega)
          · rw [if_neg e2]
            exact hc4 j (by omega)
      · show cx (p_sw (i - m) i j) = _
        unfold p_sw
        rw [if_neg (by omega), if_neg (by omega)]
        exact hc5 j (by omega) h2
set_option maxRecDepth 100000 in
set_option maxHeartbeats 4000000 in
theorem lp_due1 {G : Fx} {d t : Nat} {cm du : Nat → Nat} {pl : List (Nat × List Nat)} {I : Fm} {P : Fr} {K : Option Fs → Fm → Fr → Prop} (hC : Fc G m_Pl_takeOutDue d 0 0) (hP : x_ref P) (hpm : x_pm P cm du) (h : x_pl I cm pl) (ht : t < 2 ^ 30) (hK : ∀ (m : Nat) (I' : Fm) (P' : Fr) (cm' du' : Nat → Nat), m ≤ pl.length → (∀ i, i < m → p_t pl i ≤ t) → (m < pl.length → t < p_t pl m) → x_ref P' → x_pm P' cm' du' → x_pl I' cm' (pl.drop m) → (∀ i, i < m → x_cmd I' (du' i) (p_c pl i)) → (∀ a, a ≠ 5 → a ≠ 6 → I' a = I a) → I' 5 4 = I 5 4 → K (some (.inr (nI m))) I' P') : ∀ (f m : Nat) (Q : Fr), m + f = pl.length → m ≤ pl.length → (∀ i, i < m → p_t pl i ≤ t) → (∀ j, j < 6 → Q 7 j = c_1 m cm du j + 1) → (∀ j, j < 6 → Q 8 j = c_1 m du cm j + 1) → (∀ a, a ≠ 7 → a ≠ 8 → Q a = P a) → Zv G (f_R G K 77 0 0) 77 0 0 2 [(0, rf 6), (1, .inr (nI t)), (2, .inr (nI m))] [] I Q := by
  have hl := h.2.1
  intro f
  induction f with
  | zero =>
    intro m Q hif hm hle hq7 hq8 g4
    refine Zv.iload_n hC d_Pl_takeOutDue_2 rfl ?_
    refine Zv.aload_n hC d_Pl_takeOutDue_3 rfl ?_
    refine Zv.geti hC d_Pl_takeOutDue_4 fl_Pl_29 rfl rfl (by decide) h.1 ?_
    refine Zv.icmp_ge (tgt := 52) hC d_Pl_takeOutDue_7 (by decide) (fun h7 => ?_) (fun h7 => absurd (nI_le (by omega) (by omega)) h7)
    refine Zv.iload_n hC d_Pl_takeOutDue_52 rfl ?_
    refine Zv.istore_n hC d_Pl_takeOutDue_53 (by decide) rfl ?_
    exact lp_due2 hC hP hpm h ht hK m hm hle (fun z => absurd z (by omega)) (pl.length - m) m I Q (c_1 m cm du) (by omega) (Nat.le_refl _) hm (fun j hj => absurd hj (by omega)) (fun _ _ _ => rfl) (fun _ _ => rfl) hq7 hq8 (c1_pc hpm m).1 (c1_pc hpm m).2.1 (c1_pc hpm m).2.2 (fun j hj => absurd hj (by omega)) (fun _ _ _ => rfl) g4
  | succ f ih =>
    intro m Q hif hm hle hq7 hq8 g4
    have hQ : x_ref Q := fun a j h7 h8 => by rw [g4 a h7 h8]; exact hP a j h7 h8
    refine Zv.iload_n hC d_Pl_takeOutDue_2 rfl ?_
    refine Zv.aload_n hC d_Pl_takeOutDue_3 rfl ?_
    refine Zv.geti hC d_Pl_takeOutDue_4 fl_Pl_29 rfl rfl (by decide) h.1 ?_
    refine Zv.icmp_ge (tgt := 52) hC d_Pl_takeOutDue_7 (by decide) (fun h7 => ?_) (fun h7 => ?_)
    · try have g7 := q_le h7 (by omega) (by omega)
      refine Zv.iload_n hC d_Pl_takeOutDue_52 rfl ?_
      refine Zv.istore_n hC d_Pl_takeOutDue_53 (by decide) rfl ?_
      exact lp_due2 hC hP hpm h ht hK m hm hle (fun z => absurd z (by omega)) (pl.length - m) m I Q (c_1 m cm du) (by omega) (Nat.le_refl _) hm (fun j hj => absurd hj (by omega)) (fun _ _ _ => rfl) (fun _ _ => rfl) hq7 hq8 (c1_pc hpm m).1 (c1_pc hpm m).2.1 (c1_pc hpm m).2.2 (fun j hj => absurd hj (by omega)) (fun _ _ _ => rfl) g4
    · try have g7 := q_nle h7 (by omega) (by omega)
      refine Zv.aload_n hC d_Pl_takeOutDue_10 rfl ?_
      refine Zv.getr (q := 7) hC d_Pl_takeOutDue_11 fl_Pl_11 rfl rfl (by decide) (hQ _ _ (by decide) (by decide)) ?_
      refine Zv.iload_n hC d_Pl_takeOutDue_14 rfl ?_
      refine Zv.iald hC d_Pl_takeOutDue_15 rfl (by decide) rfl (by omega) (by first | decide | omega) (h.2.2 m (by omega)).1 ?_
      have htm := (h.2.2 m g7).2.2
      refine Zv.iload_n hC d_Pl_takeOutDue_16 rfl ?_
      refine Zv.icmp_gt (tgt := 52) hC d_Pl_takeOutDue_17 (by decide) (fun h17 => ?_) (fun h17 => ?_)
      · try have g17 := q_l h17 (by omega) (by omega)
        refine Zv.iload_n hC d_Pl_takeOutDue_52 rfl ?_
        refine Zv.istore_n hC d_Pl_takeOutDue_53 (by decide) rfl ?_
        exact lp_due2 hC hP hpm h ht hK m hm hle (fun _ => g17) (pl.length - m) m I Q (c_1 m cm du) (by omega) (Nat.le_refl _) hm (fun j hj => absurd hj (by omega)) (fun _ _ _ => rfl) (fun _ _ => rfl) hq7 hq8 (c1_pc hpm m).1 (c1_pc hpm m).2.1 (c1_pc hpm m).2.2 (fun j hj => absurd hj (by omega)) (fun _ _ _ => rfl) g4
      · try have g17 := q_nl h17 (by omega) (by omega)
        refine Zv.aload_n hC d_Pl_takeOutDue_20 rfl ?_
        refine Zv.getr (q := 9) hC d_Pl_takeOutDue_21 fl_Pl_21 rfl rfl (by decide) (hQ _ _ (by decide) (by decide)) ?_
        refine Zv.iload_n hC d_Pl_takeOutDue_24 rfl ?_
        refine Zv.aald (q := ((du m)) + 1) hC d_Pl_takeOutDue_25 rfl (fun _ => rfl) (by decide) (by decide) rfl (by omega) (by decide) ((hq8 m (by omega)).trans (by rw [c_1, if_neg (by omega)])) ?_
        refine Zv.astore_n hC d_Pl_takeOutDue_26 (by decide) rfl ?_
        refine Zv.aload_n hC d_Pl_takeOutDue_27 rfl ?_
        refine Zv.getr (q := 9) hC d_Pl_takeOutDue_28 fl_Pl_21 rfl rfl (by decide) (hQ _ _ (by decide) (by decide)) ?_
        refine Zv.iload_n hC d_Pl_takeOutDue_31 rfl ?_
        refine Zv.aload_n hC d_Pl_takeOutDue_32 rfl ?_
        refine Zv.getr (q := 8) hC d_Pl_takeOutDue_33 fl_Pl_17 rfl rfl (by decide) (hQ _ _ (by decide) (by decide)) ?_
        refine Zv.iload_n hC d_Pl_takeOutDue_36 rfl ?_
        refine Zv.aald (q := ((cm m)) + 1) hC d_Pl_takeOutDue_37 rfl (fun _ => rfl) (by decide) (by decide) rfl (by omega) (by decide) ((hq7 m (by omega)).trans (by rw [c_1, if_neg (by omega)])) ?_
        refine Zv.aast hC d_Pl_takeOutDue_38 rfl (fun _ => rfl) (by decide) (by decide) rfl (by omega) (by decide) (isPC_cm (hpm.1 m (by omega)).2.2.1).1 (by have := (hpm.1 m (by omega)).2.2.1; unfold isPC at this; omega) rfl ?_
        refine Zv.aload_n hC d_Pl_takeOutDue_39 rfl ?_
        refine Zv.getr (q := 8) hC d_Pl_takeOutDue_40 fl_Pl_17 rfl rfl (by decide) ((x_ref_8 hQ _ _) _ _ (by decide) (by decide)) ?_
        refine Zv.iload_n hC d_Pl_takeOutDue_43 rfl ?_
        refine Zv.aload_n hC d_Pl_takeOutDue_44 rfl ?_
        refine Zv.aast hC d_Pl_takeOutDue_45 rfl (fun _ => rfl) (by decide) (by decide) rfl (by omega) (by decide) (isPC_cm (hpm.1 m (by omega)).2.2.2).1 (by have := (hpm.1 m (by omega)).2.2.2; unfold isPC at this; omega) rfl ?_
        refine Zv.iinc hC d_Pl_takeOutDue_46 rfl (by decide) (q_inc _) rfl ?_
        refine Zv.goto (tgt := 2) hC d_Pl_takeOutDue_49 (by decide) ?_
        refine Zv.take 3 ?_
        refine ih (m + 1) _ (by omega) (by omega) (fun i hi => ?_) (fun j hj => ?_) (fun j hj => ?_) (fun a h7 h8 => by rw [f_u_ne h7, f_u_ne h8]; exact g4 a h7 h8)
        · by_cases e : i = m
          · subst e; omega
          · exact hle i (by omega)
        · by_cases e : j = m
          · subst e
            rw [c_1, if_pos (by omega)]
            exact f_u_s
          · refine f_uc e (f_ur (by decide) ((hq7 j hj).trans ?_))
            unfold c_1
            by_cases e2 : j < m
            · rw [if_pos e2, if_pos (by omega)]
            · rw [if_neg e2, if_neg (by omega)]
        · by_cases e : j = m
          · subst e
            rw [c_1, if_pos (by omega)]
            exact f_ur (by decide) f_u_s
          · refine f_ur (by decide) (f_uc e ((hq8 j hj).trans ?_))
            unfold c_1
            by_cases e2 : j < m
            · rw [if_pos e2, if_pos (by omega)]
            · rw [if_neg e2, if_neg (by omega)]
set_option maxRecDepth 100000 in
set_option maxHeartbeats 4000000 in
theorem sp_takeOutDue {d t : Nat} {cm du : Nat → Nat} {pl : List (Nat × List Nat)} {I : Fm} {P : Fr} {K : Option Fs → Fm → Fr → Prop} (hP : x_ref P) (hpm : x_pm P cm du) (h : x_pl I cm pl) (ht : t < 2 ^ 30) (hK : ∀ (m : Nat) (I' : Fm) (P' : Fr) (cm' du' : Nat → Nat), m ≤ pl.length → (∀ i, i < m → p_t pl i ≤ t) → (m < pl.length → t < p_t pl m) → x_ref P' → x_pm P' cm' du' → x_pl I' cm' (pl.drop m) → (∀ i, i < m → x_cmd I' (du' i) (p_c pl i)) → (∀ a, a ≠ 5 → a ≠ 6 → I' a = I a) → I' 5 4 = I 5 4 → K (some (.inr (nI m))) I' P') : Fk d m_Pl_takeOutDue 77 77 0 0 [rf 6, .inr (nI t)] I P K := by
  refine Fk.intro (by decide +kernel) (Nat.le_of_ble_eq_true rfl) (fun G hC => ?_)
  refine Zv.iconst hC d_Pl_takeOutDue_0 ic_0 ?_
  refine Zv.istore_n hC d_Pl_takeOutDue_1 (by decide) rfl ?_
  exact lp_due1 hC hP hpm h ht hK pl.length 0 P (by omega) (Nat.zero_le _) (fun i hi => absurd hi (Nat.not_lt_zero i)) (fun j hj => (hpm.1 j hj).1) (fun j hj => (hpm.1 j hj).2.1) (fun _ _ _ => rfl)
