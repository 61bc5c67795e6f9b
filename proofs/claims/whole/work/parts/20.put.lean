set_option maxRecDepth 100000 in
set_option maxHeartbeats 4000000 in
theorem lp_put80 {G : Fx} {d t k : Nat} {cm du : Nat → Nat} {pl : List (Nat × List Nat)} {c : List Nat} {I : Fm} {P : Fr} {K : Option Fs → Fm → Fr → Prop} (hC : Fc G m_Pl_put (d + 1) 0 0) (hP : x_ref P) (hpm : x_pm P cm du) (h : x_pl I cm pl) (hso : p_so pl) (hn : pl.length < 6) (ht : t ≤ 65535) (hk : isCm k) (hk9 : k + 1 < 5 ∨ 32 < k) (hc : x_cmd I k c) (hc3 : 3 ≤ c.length) (hK : ∀ (I' : Fm) (P' : Fr) (cm' : Nat → Nat), x_ref P' → x_pm P' cm' du → x_pl I' cm' (e_ins pl t (c.drop 3)) → (∀ a, a ≠ 5 → a ≠ 6 → (∀ i, i < 6 → a ≠ cm i ∧ a ≠ cm i + 1) → I' a = I a) → I' 5 4 = I 5 4 → P' 8 = P 8 → K none I' P') (p : Nat) (J : Fm) (Q : Fr) (hp : p ≤ pl.length) (hle : ∀ i, i < p → p_t pl i ≤ t) : (∀ i, i < p → J 6 i = I 6 i) → (∀ i, p ≤ i → i < pl.length → J 6 (i + 1) = I 6 i) → (∀ i, i < p → Q 7 i = P 7 i) → (∀ i, p ≤ i → i < pl.length → Q 7 (i + 1) = P 7 i) → (∀ i, pl.length < i → Q 7 i = P 7 i) → (∀ a, a ≠ 6 → J a = I a) → (∀ a, a ≠ 7 → Q a = P a) → (∀ i, p ≤ i → i < pl.length → t < p_t pl i) → Zv G (f_R G K 77 0 0) 77 0 0 80 [(0, rf 6), (1, .inr (nI t)), (2, rf (k + 1)), (3, rf (cm pl.length + 1)), (4, .inr (nI p))] [] J Q := by
  intro g1 g2 g3 g4 g5 g6 g7 g8
  have hub := (hpm.1 pl.length hn).2.2.1
  have hu := isPC_cm hub
  have hcu : cm pl.length + 1 < 33 ∧ 8 < cm pl.length := by unfold isPC at hub; omega
  have hQ : x_ref Q := fun a j h1 h2 => by rw [g7 a h1]; exact hP a j h1 h2
  have hJk : J k 1 = nI c.length := by rw [g6 k (by omega)]; exact hc.1
  refine Zv.aload_n hC d_Pl_put_80 rfl ?_
  refine Zv.getr (q := 7) hC d_Pl_put_81 fl_Pl_11 rfl rfl (by decide) (hQ _ _ (by decide) (by decide)) ?_
  refine Zv.iload hC d_Pl_put_84 rfl ?_
  refine Zv.iload_n hC d_Pl_put_86 rfl ?_
  refine Zv.iast hC d_Pl_put_87 rfl (by decide) rfl (by omega) (by first | decide | omega) ?_
  refine Zv.aload_n hC d_Pl_put_88 rfl ?_
  refine Zv.getr (q := 8) hC d_Pl_put_89 fl_Pl_17 rfl rfl (by decide) (hQ _ _ (by decide) (by decide)) ?_
  refine Zv.iload hC d_Pl_put_92 rfl ?_
  refine Zv.aload_n hC d_Pl_put_94 rfl ?_
  refine Zv.aast hC d_Pl_put_95 rfl (fun _ => rfl) (by decide) (by decide) rfl (by omega) (by decide) hu.1 (by have := hu.2.2.1; omega) rfl ?_
  refine Zv.aload_n hC d_Pl_put_96 rfl ?_
  refine Zv.aload_n hC d_Pl_put_97 rfl ?_
  refine Zv.getr (q := ((k + 1)) + 1) hC d_Pl_put_98 fl_Pl_37 rfl hk.1 (by have := hk.2.2.1; omega) (x_ref_cm (x_ref_7 hQ _ _) hk) ?_
  refine Zv.iconst hC d_Pl_put_101 ic_3 ?_
  refine Zv.callS1 hC d_Pl_put_102 ml_Pl_40 mk_D_insideOf (Nat.le_of_ble_eq_true rfl) ?_
  refine sp_insideOf rfl (by decide) ?_
  refine Zv.aload_n hC d_Pl_put_105 rfl ?_
  refine Zv.geti hC d_Pl_put_106 fl_Pl_44 rfl hk.1 (by have := hk.2.2.1; omega) (f_ur (by omega) hJk) ?_
  refine Zv.callV3 hC d_Pl_put_109 ml_Pl_45 mk_Cm_load rfl (Nat.le_of_ble_eq_true rfl) hu.1 (by have := hu.2.2.1; omega) ?_
  refine sp_load (La := 11) (src := c) (f := 3) hu (x_ref_7 hQ _ _) hk.2.1 hk.2.2.1 (by omega) (by decide) (fun i hi => f_ur (by omega) (by rw [g6 (k + 1) (by omega)]; exact hc.2.2.1 i hi)) hc.2.2.2 hc.2.1 hc3 (by have := hc.2.1; omega) rfl rfl (fun J2 hx2 hf2 => ?_)
  have hJ25 : J2 5 3 = nI pl.length := by rw [hf2 5 (by omega) (by omega), f_u_ne (by decide), g6 5 (by decide)]; exact h.1
  refine Zv.aload_n hC d_Pl_put_112 rfl ?_
  refine Zv.dup hC d_Pl_put_113 ?_
  refine Zv.geti hC d_Pl_put_114 fl_Pl_29 rfl rfl (by decide) hJ25 ?_
  refine Zv.iconst hC d_Pl_put_117 ic_1 ?_
  first | refine Zv.iaddN hC d_Pl_put_118 ?_ | refine Zv.iadd hC d_Pl_put_118 ?_
  refine Zv.puti hC d_Pl_put_119 fl_Pl_29 rfl ck_2 rfl rfl rfl rfl (by decide) ?_
  refine Zv.vret hC rfl d_Pl_put_122 (Nat.le_refl _) (Nat.le_refl _) ?_
  refine hK _ _ (fun i => cm (p_pi p pl.length i)) (x_ref_7 hQ _ _) ⟨fun i hi => ?_, fun i j hi hj e => pi_inj hp (hpm.2.1 _ _ (pi_lt hi hn) (pi_lt hj hn) e), hpm.2.2.1, fun i j hi hj => hpm.2.2.2 _ _ (pi_lt hi hn) hj⟩ ?_ (fun a h5 h6 hcm => ?_) ?_ ?_
  · refine ⟨?_, ?_, (hpm.1 _ (pi_lt hi hn)).2.2.1, (hpm.1 i hi).2.2.2⟩
    · show f_u Q 7 p (cm pl.length + 1) 7 i = cm (p_pi p pl.length i) + 1
      unfold p_pi
      by_cases e1 : i < p
      · rw [if_pos e1]
        exact f_uc (by omega) ((g3 i e1).trans (hpm.1 i hi).1)
      · rw [if_neg e1]
        by_cases e2 : i = p
        · subst e2
          rw [if_pos rfl]
          exact f_u_s
        · rw [if_neg e2]
          by_cases e3 : i ≤ pl.length
          · rw [if_pos e3]
            have := g4 (i - 1) (by omega) (by omega)
            rw [Nat.sub_add_cancel (by omega)] at this
            exact f_uc e2 (this.trans (hpm.1 (i - 1) (by omega)).1)
          · rw [if_neg e3]
            exact f_uc e2 ((g5 i (by omega)).trans (hpm.1 i hi).1)
    · exact f_ur (by decide) (by rw [g7 8 (by decide)]; exact (hpm.1 i hi).2.1)
  · rw [ins_at pl p t (c.drop 3) hp hle g8]
    have hlen : (pl.take p ++ (t, c.drop 3) :: pl.drop p).length = pl.length + 1 := by
      rw [List.length_append, List.length_cons, List.length_take, List.length_drop]; omega
    refine ⟨by rw [hlen]; exact f_u_s, by rw [hlen]; omega, fun i hi => ?_⟩
    rw [hlen] at hi
    unfold p_t p_c
    rw [getD_ins hp]
    have hrow : ∀ x, x < pl.length → ∀ q, x_cmd I (cm x) q → x_cmd (f_u J2 5 3 (nI (pl.length + 1))) (cm x) q := by
      intro x hx q hq
      have a1 := (hpm.1 x (by omega)).2.2.1
      have a2 := hub
      unfold isPC at a1 a2
      have a3 : cm x ≠ cm pl.length := fun z => by have := hpm.2.1 x pl.length (by omega) (by omega) z; omega
      refine x_cmd_kept hq ?_ ?_
      · rw [f_u_ne (by omega), hf2 _ a3 (by omega), f_u_ne (by omega), g6 _ (by omega)]
      · rw [f_u_ne (by omega), hf2 _ (by omega) (by omega), f_u_ne (by omega), g6 _ (by omega)]
    have h6r : ∀ j, f_u J2 5 3 (nI (pl.length + 1)) 6 j = f_u J 6 p (nI t) 6 j := by
      intro j
      have a2 := hub
      unfold isPC at a2
      rw [f_u_ne (by decide), hf2 6 (by omega) (by omega)]
    by_cases e1 : i < p
    · rw [if_pos e1]
      have hpi : p_pi p pl.length i = i := by unfold p_pi; rw [if_pos e1]
      dsimp only
      rw [hpi]
      obtain ⟨b1, b2, b3⟩ := h.2.2 i (by omega)
      exact ⟨(h6r i).trans (f_uc (by omega) ((g1 i e1).trans b1)), hrow i (by omega) _ b2, b3⟩
    · rw [if_neg e1]
      by_cases e2 : i = p
      · subst e2
        have hpi : p_pi i pl.length i = pl.length := by unfold p_pi; rw [if_neg e1, if_pos rfl]
        rw [if_pos rfl]
        dsimp only
        rw [hpi]
        refine ⟨(h6r i).trans f_u_s, ?_, ht⟩
        have a2 := hub
        unfold isPC at a2
        exact x_cmd_kept hx2 (f_u_ne (by omega)) (f_u_ne (by omega))
      · rw [if_neg e2]
        have hpi : p_pi p pl.length i = i - 1 := by unfold p_pi; rw [if_neg e1, if_neg e2, if_pos (by omega)]
        dsimp only
        rw [hpi]
        obtain ⟨b1, b2, b3⟩ := h.2.2 (i - 1) (by omega)
        have := g2 (i - 1) (by omega) (by omega)
        rw [Nat.sub_add_cancel (by omega)] at this
        exact ⟨(h6r i).trans (f_uc e2 (this.trans b1)), hrow (i - 1) (by omega) _ b2, b3⟩
  · rw [f_u_ne h5, hf2 a (hcm pl.length hn).1 (hcm pl.length hn).2, f_u_ne h6, g6 a h6]
  · have a2 := hub
    unfold isPC at a2
    exact f_uc (by decide) (by rw [hf2 5 (by omega) (by omega), f_u_ne (by decide), g6 5 (by decide)])
  · rw [f_u_ne (by decide), g7 8 (by decide)]
set_option maxRecDepth 100000 in
set_option maxHeartbeats 4000000 in
theorem lp_put {G : Fx} {d t k : Nat} {cm du : Nat → Nat} {pl : List (Nat × List Nat)} {c : List Nat} {I : Fm} {P : Fr} {K : Option Fs → Fm → Fr → Prop} (hC : Fc G m_Pl_put (d + 1) 0 0) (hP : x_ref P) (hpm : x_pm P cm du) (h : x_pl I cm pl) (hso : p_so pl) (hn : pl.length < 6) (ht : t ≤ 65535) (hk : isCm k) (hk9 : k + 1 < 5 ∨ 32 < k) (hc : x_cmd I k c) (hc3 : 3 ≤ c.length) (hK : ∀ (I' : Fm) (P' : Fr) (cm' : Nat → Nat), x_ref P' → x_pm P' cm' du → x_pl I' cm' (e_ins pl t (c.drop 3)) → (∀ a, a ≠ 5 → a ≠ 6 → (∀ i, i < 6 → a ≠ cm i ∧ a ≠ cm i + 1) → I' a = I a) → I' 5 4 = I 5 4 → P' 8 = P 8 → K none I' P') : ∀ (p : Nat) (J : Fm) (Q : Fr), p ≤ pl.length → (∀ i, i < p → J 6 i = I 6 i) → (∀ i, p ≤ i → i < pl.length → J 6 (i + 1) = I 6 i) → (∀ i, i < p → Q 7 i = P 7 i) → (∀ i, p ≤ i → i < pl.length → Q 7 (i + 1) = P 7 i) → (∀ i, pl.length < i → Q 7 i = P 7 i) → (∀ a, a ≠ 6 → J a = I a) → (∀ a, a ≠ 7 → Q a = P a) → (∀ i, p ≤ i → i < pl.length → t < p_t pl i) → Zv G (f_R G K 77 0 0) 77 0 0 24 [(0, rf 6), (1, .inr (nI t)), (2, rf (k + 1)), (3, rf (cm pl.length + 1)), (4, .inr (nI p))] [] J Q := by
  intro p
  induction p with
  | zero =>
    intro J Q hp g1 g2 g3 g4 g5 g6 g7 g8
    refine Zv.iload hC d_Pl_put_24 rfl ?_
    refine Zv.if_le (tgt := 80) hC d_Pl_put_26 (by decide) (fun _ => ?_) (fun h26 => absurd (by decide) h26)
    exact lp_put80 hC hP hpm h hso hn ht hk hk9 hc hc3 hK 0 J Q hp (fun i hi => absurd hi (Nat.not_lt_zero i)) g1 g2 g3 g4 g5 g6 g7 g8
  | succ p ih =>
    intro J Q hp g1 g2 g3 g4 g5 g6 g7 g8
    have hQ : x_ref Q := fun a j h1 h2 => by rw [g7 a h1]; exact hP a j h1 h2
    have hJp : J 6 p = nI (p_t pl p) := (g1 p (by omega)).trans (h.2.2 p (by omega)).1
    have hQp : Q 7 p = cm p + 1 := (g3 p (by omega)).trans (hpm.1 p (by omega)).1
    have htp := (h.2.2 p (by omega)).2.2
    refine Zv.iload hC d_Pl_put_24 rfl ?_
    refine Zv.if_le (tgt := 80) hC d_Pl_put_26 (by decide) (fun h26 => ?_) (fun h26 => ?_)
    · try have g26 := q_le0 h26 (by omega)
      exact absurd g26 (by omega)
    · try have g26 := q_nle0 h26
      refine Zv.aload_n hC d_Pl_put_29 rfl ?_
      refine Zv.getr (q := 7) hC d_Pl_put_30 fl_Pl_11 rfl rfl (by decide) (hQ _ _ (by decide) (by decide)) ?_
      refine Zv.iload hC d_Pl_put_33 rfl ?_
      refine Zv.iconst hC d_Pl_put_35 ic_1 ?_
      refine Zv.isubN hC d_Pl_put_36 (by omega) ?_
      refine Zv.iald hC d_Pl_put_37 rfl (by decide) rfl (by omega) (by first | decide | omega) hJp ?_
      refine Zv.iload_n hC d_Pl_put_38 rfl ?_
      refine Zv.icmp_le (tgt := 80) hC d_Pl_put_39 (by decide) (fun h39 => ?_) (fun h39 => ?_)
      · try have g39 := q_le h39 (by omega) (by omega)
        exact lp_put80 hC hP hpm h hso hn ht hk hk9 hc hc3 hK (p + 1) J Q hp (fun i hi => Nat.le_trans (hso i p (by omega) (by omega)) g39) g1 g2 g3 g4 g5 g6 g7 g8
      · try have g39 := q_nle h39 (by omega) (by omega)
        refine Zv.aload_n hC d_Pl_put_42 rfl ?_
        refine Zv.getr (q := 7) hC d_Pl_put_43 fl_Pl_11 rfl rfl (by decide) (hQ _ _ (by decide) (by decide)) ?_
        refine Zv.iload hC d_Pl_put_46 rfl ?_
        refine Zv.aload_n hC d_Pl_put_48 rfl ?_
        refine Zv.getr (q := 7) hC d_Pl_put_49 fl_Pl_11 rfl rfl (by decide) (hQ _ _ (by decide) (by decide)) ?_
        refine Zv.iload hC d_Pl_put_52 rfl ?_
        refine Zv.iconst hC d_Pl_put_54 ic_1 ?_
        refine Zv.isubN hC d_Pl_put_55 (by omega) ?_
        refine Zv.iald hC d_Pl_put_56 rfl (by decide) rfl (by omega) (by first | decide | omega) hJp ?_
        refine Zv.iast hC d_Pl_put_57 rfl (by decide) rfl (by omega) (by first | decide | omega) ?_
        refine Zv.aload_n hC d_Pl_put_58 rfl ?_
        refine Zv.getr (q := 8) hC d_Pl_put_59 fl_Pl_17 rfl rfl (by decide) (hQ _ _ (by decide) (by decide)) ?_
        refine Zv.iload hC d_Pl_put_62 rfl ?_
        refine Zv.aload_n hC d_Pl_put_64 rfl ?_
        refine Zv.getr (q := 8) hC d_Pl_put_65 fl_Pl_17 rfl rfl (by decide) (hQ _ _ (by decide) (by decide)) ?_
        refine Zv.iload hC d_Pl_put_68 rfl ?_
        refine Zv.iconst hC d_Pl_put_70 ic_1 ?_
        refine Zv.isubN hC d_Pl_put_71 (by omega) ?_
        refine Zv.aald (q := ((cm p)) + 1) hC d_Pl_put_72 rfl (fun _ => rfl) (by decide) (by decide) rfl (by omega) (by decide) hQp ?_
        refine Zv.aast hC d_Pl_put_73 rfl (fun _ => rfl) (by decide) (by decide) rfl (by omega) (by decide) (isPC_cm (hpm.1 p (by omega)).2.2.1).1 (by have := (hpm.1 p (by omega)).2.2.1; unfold isPC at this; omega) rfl ?_
        refine Zv.iinc hC d_Pl_put_74 rfl (by decide) (q_dec (by omega)) rfl ?_
        refine Zv.goto (tgt := 24) hC d_Pl_put_77 (by decide) ?_
        refine ih _ _ (by omega) (fun i hi => f_uc (by omega) (g1 i (by omega))) (fun i h1 h2 => ?_) (fun i hi => f_uc (by omega) (g3 i (by omega))) (fun i h1 h2 => ?_) (fun i hi => f_uc (by omega) (g5 i hi)) (fun a ha => by rw [f_u_ne ha]; exact g6 a ha) (fun a ha => by rw [f_u_ne ha]; exact g7 a ha) (fun i h1 h2 => ?_)
        · by_cases e : i + 1 = p + 1
          · have e : i = p := by omega
            subst e
            exact f_u_s.trans (h.2.2 i (by omega)).1.symm
          · exact f_uc e (g2 i (by omega) h2)
        · by_cases e : i + 1 = p + 1
          · have e : i = p := by omega
            subst e
            exact f_u_s.trans (hpm.1 i (by omega)).1.symm
          · exact f_uc e (g4 i (by omega) h2)
        · by_cases e : i = p
          · subst e; exact g39
          · exact g8 i (by omega) h2
set_option maxRecDepth 100000 in
set_option maxHeartbeats 4000000 in
theorem sp_put {d t k : Nat} {cm du : Nat → Nat} {pl : List (Nat × List Nat)} {c : List Nat} {I : Fm} {P : Fr} {K : Option Fs → Fm → Fr → Prop} (hP : x_ref P) (hpm : x_pm P cm du) (h : x_pl I cm pl) (hso : p_so pl) (hn : pl.length < 6) (ht : t ≤ 65535) (hk : isCm k) (hk9 : k + 1 < 5 ∨ 32 < k) (hc : x_cmd I k c) (hc3 : 3 ≤ c.length) (hK : ∀ (I' : Fm) (P' : Fr) (cm' : Nat → Nat), x_ref P' → x_pm P' cm' du → x_pl I' cm' (e_ins pl t (c.drop 3)) → (∀ a, a ≠ 5 → a ≠ 6 → (∀ i, i < 6 → a ≠ cm i ∧ a ≠ cm i + 1) → I' a = I a) → I' 5 4 = I 5 4 → P' 8 = P 8 → K none I' P') : Fk (d + 1) m_Pl_put 77 77 0 0 [rf 6, .inr (nI t), rf (k + 1)] I P K := by
  refine Fk.intro (by decide +kernel) (Nat.le_of_ble_eq_true rfl) (fun G hC => ?_)
  refine Zv.aload_n hC d_Pl_put_0 rfl ?_
  refine Zv.callV0 hC d_Pl_put_1 ml_Pl_33 mk_Pl_isFull rfl (Nat.le_of_ble_eq_true rfl) rfl (by decide) ?_
  refine sp_isFull h (fun r1 hr1 he1 => ?_)
  refine Zv.if_eq (tgt := 8) hC d_Pl_put_4 (by decide) (fun h4 => ?_) (fun h4 => ?_)
  · try have g4 := q_e0 h4 (by omega)
    refine Zv.aload_n hC d_Pl_put_8 rfl ?_
    refine Zv.getr (q := 8) hC d_Pl_put_9 fl_Pl_17 rfl rfl (by decide) (hP _ _ (by decide) (by decide)) ?_
    refine Zv.aload_n hC d_Pl_put_12 rfl ?_
    refine Zv.geti hC d_Pl_put_13 fl_Pl_29 rfl rfl (by decide) h.1 ?_
    refine Zv.aald (q := ((cm pl.length)) + 1) hC d_Pl_put_16 rfl (fun _ => rfl) (by decide) (by decide) rfl (by omega) (by decide) (hpm.1 pl.length hn).1 ?_
    refine Zv.astore_n hC d_Pl_put_17 (by decide) rfl ?_
    refine Zv.aload_n hC d_Pl_put_18 rfl ?_
    refine Zv.geti hC d_Pl_put_19 fl_Pl_29 rfl rfl (by decide) h.1 ?_
    refine Zv.istore hC d_Pl_put_22 (by decide) rfl ?_
    exact lp_put hC hP hpm h hso hn ht hk hk9 hc hc3 hK pl.length I P (Nat.le_refl _) (fun _ _ => rfl) (fun i h1 h2 => absurd h1 (by omega)) (fun _ _ => rfl) (fun i h1 h2 => absurd h1 (by omega)) (fun _ _ => rfl) (fun _ _ => rfl) (fun _ _ => rfl) (fun i h1 h2 => absurd h1 (by omega))
  · try have g4 := q_n0 h4
    exact absurd (he1.mp g4) (by omega)
