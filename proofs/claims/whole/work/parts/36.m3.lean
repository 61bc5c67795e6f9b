set_option maxRecDepth 100000 in
set_option maxHeartbeats 4000000 in
theorem lm_entries {G : Fx} {d : Nat} {tm od : Nat → Nat} {cd : Nat → List Nat} {L D : List Nat} {ca : Nat} {I : Fm} {P : Fr} {K : Option Fs → Fm → Fr → Prop} (hC : Fc G m_M_entries d 0 0) (hP : x_ref P) (h : m_pln I tm od cd L D ca) (hca : ca < 2 ^ 30) (hK : K (some (.inr (nI (cn L (fun _ => true) 6)))) I P) : ∀ (f i : Nat), i + f = 7 ∧ i ≤ 6 → Zv G (f_R G K 77 0 0) 77 0 0 4 [(0, rf 57), (1, .inr (nI (cn L (fun _ => true) i))), (2, .inr (nI i))] [] I P := by
  intro f
  induction f with
  | zero => intro i h; omega
  | succ f ih =>
    intro i hi
    refine Zv.iload_n hC d_M_entries_4 rfl ?_
    refine Zv.bipush hC d_M_entries_5 bp_6 ?_
    refine Zv.icmp_ge (tgt := 37) hC d_M_entries_7 (by decide) (fun h7 => ?_) (fun h7 => ?_)
    · try have g7 := q_le h7 (by omega) (by omega)
      have ei : i = 6 := by omega
      subst ei
      refine Zv.iload_n hC d_M_entries_37 rfl ?_
      refine Zv.iret hC rfl d_M_entries_38 (Nat.le_refl _) (Nat.le_refl _) ?_
      exact hK
    · try have g7 := q_nle h7 (by omega) (by omega)
      have hb := sl_bd h g7
      have hd2 := dq_2 D i
      refine Zv.aload_n hC d_M_entries_10 rfl ?_
      refine Zv.getr (q := 63) hC d_M_entries_11 fl_M_29 rfl rfl (by decide) (hP _ _ (by decide) (by decide)) ?_
      refine Zv.iload_n hC d_M_entries_14 rfl ?_
      refine Zv.iald hC d_M_entries_15 rfl (by decide) rfl (by omega) (by first | decide | omega) (sl_od h g7) ?_
      refine Zv.if_eq (tgt := 31) hC d_M_entries_16 (by decide) (fun h16 => ?_) (fun h16 => ?_)
      · try have g16 := q_e0 h16 (by omega)
        refine Zv.iinc hC d_M_entries_31 rfl (by decide) (q_inc _) rfl ?_
        refine Zv.goto (tgt := 4) hC d_M_entries_34 (by decide) ?_
        have := ih (i + 1) (by omega)
        rw [cn, if_neg (fun z => absurd ((sl_inL h g7).mpr z.1).1 (by omega)), Nat.add_zero] at this
        exact this
      · try have g16 := q_n0 h16
        refine Zv.aload_n hC d_M_entries_19 rfl ?_
        refine Zv.getr (q := 64) hC d_M_entries_20 fl_M_32 rfl rfl (by decide) (hP _ _ (by decide) (by decide)) ?_
        refine Zv.iload_n hC d_M_entries_23 rfl ?_
        refine Zv.zald hC d_M_entries_24 rfl (by decide) rfl (by omega) (by first | decide | omega) (sl_du h g7) ?_
        refine Zv.if_ne (tgt := 31) hC d_M_entries_25 (by decide) (fun h25 => ?_) (fun h25 => ?_)
        · try have g25 := q_n0 h25
          refine Zv.iinc hC d_M_entries_31 rfl (by decide) (q_inc _) rfl ?_
          refine Zv.goto (tgt := 4) hC d_M_entries_34 (by decide) ?_
          have := ih (i + 1) (by omega)
          rw [cn, if_neg (fun z => absurd ((sl_inL h g7).mpr z.1).2 (by omega)), Nat.add_zero] at this
          exact this
        · try have g25 := q_e0 h25 (by omega)
          refine Zv.iinc hC d_M_entries_28 rfl (by decide) (q_inc _) rfl ?_
          refine Zv.iinc hC d_M_entries_31 rfl (by decide) (q_inc _) rfl ?_
          refine Zv.goto (tgt := 4) hC d_M_entries_34 (by decide) ?_
          have := ih (i + 1) (by omega)
          rw [cn, if_pos ⟨(sl_inL h g7).mp ⟨g16, g25⟩, rfl⟩] at this
          exact this
set_option maxRecDepth 100000 in
set_option maxHeartbeats 4000000 in
theorem sm_entries {d : Nat} {tm od : Nat → Nat} {cd : Nat → List Nat} {L D : List Nat} {ca : Nat} {I : Fm} {P : Fr} {K : Option Fs → Fm → Fr → Prop} (hP : x_ref P) (h : m_pln I tm od cd L D ca) (hca : ca < 2 ^ 30) (hK : K (some (.inr (nI L.length))) I P) : Fk d m_M_entries 77 77 0 0 [rf 57] I P K := by
  refine Fk.intro (by decide +kernel) (Nat.le_of_ble_eq_true rfl) (fun G hC => ?_)
  refine Zv.iconst hC d_M_entries_0 ic_0 ?_
  refine Zv.istore_n hC d_M_entries_1 (by decide) rfl ?_
  refine Zv.iconst hC d_M_entries_2 ic_0 ?_
  refine Zv.istore_n hC d_M_entries_3 (by decide) rfl ?_
  exact lm_entries hC hP h hca (by rw [cn_all (sl_L h).1 (sl_L h).2.1]; exact hK) 7 0 (by omega)
set_option maxRecDepth 100000 in
set_option maxHeartbeats 4000000 in
theorem lm_badShift {G : Fx} {d b t : Nat} {tm od : Nat → Nat} {cd : Nat → List Nat} {L D : List Nat} {ca : Nat} {I : Fm} {P : Fr} {K : Option Fs → Fm → Fr → Prop} (hC : Fc G m_M_badShift d 0 0) (hP : x_ref P) (h : m_pln I tm od cd L D ca) (hca : ca < 2 ^ 30) (hb : b < 256) (ht : t < 2 ^ 30) (h24 : I 56 24 = nI t) (hK : ∀ r : Nat, r < 2 → (r ≠ 0 ↔ ¬ ∀ j ∈ L, ((t : Int) < tm j + e_sgz b ∧ (tm j : Int) + e_sgz b ≤ 65535)) → K (some (.inr (nI r))) I P) : ∀ (f i : Nat), i + f = 7 ∧ i ≤ 6 → (∀ j, j < i → j ∈ L → ((t : Int) < tm j + e_sgz b ∧ (tm j : Int) + e_sgz b ≤ 65535)) → Zv G (f_R G K 77 0 0) 77 0 0 2 [(0, rf 57), (1, .inr (e_sgn b)), (2, .inr (nI i))] [] I P := by
  intro f
  induction f with
  | zero => intro i h; omega
  | succ f ih =>
    intro i hi6 hi
    refine Zv.iload_n hC d_M_badShift_2 rfl ?_
    refine Zv.bipush hC d_M_badShift_3 bp_6 ?_
    refine Zv.icmp_ge (tgt := 62) hC d_M_badShift_5 (by decide) (fun h5 => ?_) (fun h5 => ?_)
    · try have g5 := q_le h5 (by omega) (by omega)
      have ei : i = 6 := by omega
      subst ei
      refine Zv.iconst hC d_M_badShift_62 ic_0 ?_
      refine Zv.zret hC rfl d_M_badShift_63 rfl (Nat.le_refl _) (Nat.le_refl _) ?_
      exact hK 0 (by decide) ⟨fun z => absurd rfl z, fun z => absurd (fun j hL => hi j ((sl_L h).2.1 j hL) hL) z⟩
    · try have g5 := q_nle h5 (by omega) (by omega)
      have hb2 := sl_bd h g5
      have hd2 := dq_2 D i
      refine Zv.aload_n hC d_M_badShift_8 rfl ?_
      refine Zv.getr (q := 63) hC d_M_badShift_9 fl_M_29 rfl rfl (by decide) (hP _ _ (by decide) (by decide)) ?_
      refine Zv.iload_n hC d_M_badShift_12 rfl ?_
      refine Zv.iald hC d_M_badShift_13 rfl (by decide) rfl (by omega) (by first | decide | omega) (sl_od h g5) ?_
      refine Zv.if_eq (tgt := 56) hC d_M_badShift_14 (by decide) (fun h14 => ?_) (fun h14 => ?_)
      · try have g14 := q_e0 h14 (by omega)
        refine Zv.iinc hC d_M_badShift_56 rfl (by decide) (q_inc _) rfl ?_
        refine Zv.goto (tgt := 2) hC d_M_badShift_59 (by decide) ?_
        refine ih (i + 1) (by omega) (fun j hj hL => ?_)
        by_cases e : j = i
        · subst e
          exact absurd ((sl_inL h g5).mpr hL).1 (by omega)
        · exact hi j (by omega) hL
      · try have g14 := q_n0 h14
        refine Zv.aload_n hC d_M_badShift_17 rfl ?_
        refine Zv.getr (q := 64) hC d_M_badShift_18 fl_M_32 rfl rfl (by decide) (hP _ _ (by decide) (by decide)) ?_
        refine Zv.iload_n hC d_M_badShift_21 rfl ?_
        refine Zv.zald hC d_M_badShift_22 rfl (by decide) rfl (by omega) (by first | decide | omega) (sl_du h g5) ?_
        refine Zv.if_ne (tgt := 56) hC d_M_badShift_23 (by decide) (fun h23 => ?_) (fun h23 => ?_)
        · try have g23 := q_n0 h23
          refine Zv.iinc hC d_M_badShift_56 rfl (by decide) (q_inc _) rfl ?_
          refine Zv.goto (tgt := 2) hC d_M_badShift_59 (by decide) ?_
          refine ih (i + 1) (by omega) (fun j hj hL => ?_)
          by_cases e : j = i
          · subst e
            exact absurd ((sl_inL h g5).mpr hL).2 (by omega)
          · exact hi j (by omega) hL
        · try have g23 := q_e0 h23 (by omega)
          refine Zv.aload_n hC d_M_badShift_26 rfl ?_
          refine Zv.getr (q := 62) hC d_M_badShift_27 fl_M_26 rfl rfl (by decide) (hP _ _ (by decide) (by decide)) ?_
          refine Zv.iload_n hC d_M_badShift_30 rfl ?_
          refine Zv.iald hC d_M_badShift_31 rfl (by decide) rfl (by omega) (by first | decide | omega) (sl_tm h g5) ?_
          refine Zv.iload_n hC d_M_badShift_32 rfl ?_
          first | refine Zv.iaddN hC d_M_badShift_33 ?_ | refine Zv.iadd hC d_M_badShift_33 ?_
          refine Zv.aload_n hC d_M_badShift_34 rfl ?_
          refine Zv.geti hC d_M_badShift_35 fl_M_84 rfl rfl (by decide) h24 ?_
          refine Zv.icmp_le (tgt := 54) hC d_M_badShift_38 (by decide) (fun h38 => ?_) (fun h38 => ?_)
          · skip
            refine Zv.iconst hC d_M_badShift_54 ic_1 ?_
            refine Zv.zret hC rfl d_M_badShift_55 rfl (Nat.le_refl _) (Nat.le_refl _) ?_
            have h38 := (q_leT (by omega)).mp h38
            rw [sgn_add hb2.1 hb] at h38
            exact hK 1 (by decide) ⟨fun _ z => absurd (z i ((sl_inL h g5).mp ⟨g14, g23⟩)).1 (by omega), fun _ => by decide⟩
          · skip
            refine Zv.aload_n hC d_M_badShift_41 rfl ?_
            refine Zv.getr (q := 62) hC d_M_badShift_42 fl_M_26 rfl rfl (by decide) (hP _ _ (by decide) (by decide)) ?_
            refine Zv.iload_n hC d_M_badShift_45 rfl ?_
            refine Zv.iald hC d_M_badShift_46 rfl (by decide) rfl (by omega) (by first | decide | omega) (sl_tm h g5) ?_
            refine Zv.iload_n hC d_M_badShift_47 rfl ?_
            first | refine Zv.iaddN hC d_M_badShift_48 ?_ | refine Zv.iadd hC d_M_badShift_48 ?_
            refine Zv.ldc hC d_M_badShift_49 co_M_101 ?_
            refine Zv.icmp_le (tgt := 56) hC d_M_badShift_51 (by decide) (fun h51 => ?_) (fun h51 => ?_)
            · skip
              refine Zv.iinc hC d_M_badShift_56 rfl (by decide) (q_inc _) rfl ?_
              refine Zv.goto (tgt := 2) hC d_M_badShift_59 (by decide) ?_
              refine ih (i + 1) (by omega) (fun j hj hL => ?_)
              by_cases e : j = i
              · subst e
                have h38 : ¬ (tm j : Int) + e_sgz b ≤ t := fun z => h38 ((q_leT (by omega)).mpr (by rw [sgn_add hb2.1 hb]; exact z))
                have h51 := (q_leT (by decide)).mp h51
                rw [sgn_add hb2.1 hb] at h51
                exact ⟨by omega, h51⟩
              · exact hi j (by omega) hL
            · skip
              refine Zv.iconst hC d_M_badShift_54 ic_1 ?_
              refine Zv.zret hC rfl d_M_badShift_55 rfl (Nat.le_refl _) (Nat.le_refl _) ?_
              exact hK 1 (by decide) ⟨fun _ z => h51 ((q_leT (by decide)).mpr (by rw [sgn_add hb2.1 hb]; exact (z i ((sl_inL h g5).mp ⟨g14, g23⟩)).2)), fun _ => by decide⟩
set_option maxRecDepth 100000 in
set_option maxHeartbeats 4000000 in
theorem sm_badShift {d b t : Nat} {tm od : Nat → Nat} {cd : Nat → List Nat} {L D : List Nat} {ca : Nat} {I : Fm} {P : Fr} {K : Option Fs → Fm → Fr → Prop} (hP : x_ref P) (h : m_pln I tm od cd L D ca) (hca : ca < 2 ^ 30) (hb : b < 256) (ht : t < 2 ^ 30) (h24 : I 56 24 = nI t) (hK : ∀ r : Nat, r < 2 → (r ≠ 0 ↔ ¬ ∀ j ∈ L, ((t : Int) < tm j + e_sgz b ∧ (tm j : Int) + e_sgz b ≤ 65535)) → K (some (.inr (nI r))) I P) : Fk d m_M_badShift 77 77 0 0 [rf 57, .inr (e_sgn b)] I P K := by
  refine Fk.intro (by decide +kernel) (Nat.le_of_ble_eq_true rfl) (fun G hC => ?_)
  refine Zv.iconst hC d_M_badShift_0 ic_0 ?_
  refine Zv.istore_n hC d_M_badShift_1 (by decide) rfl ?_
  exact lm_badShift hC hP h hca hb ht h24 hK 7 0 (by omega) (fun j hj => absurd hj (Nat.not_lt_zero j))
set_option maxRecDepth 100000 in
set_option maxHeartbeats 4000000 in
theorem sm_before {d i k : Nat} {tm od : Nat → Nat} {cd : Nat → List Nat} {L D : List Nat} {ca : Nat} {I : Fm} {P : Fr} {K : Option Fs → Fm → Fr → Prop} (hP : x_ref P) (h : m_pln I tm od cd L D ca) (hca : ca < 2 ^ 30) (hi : i < 6) (hk : k < 6) (hK : ∀ r : Nat, r < 2 → (r ≠ 0 ↔ bf tm od i k) → K (some (.inr (nI r))) I P) : Fk d m_M_before 77 77 0 0 [rf 57, .inr (nI i), .inr (nI k)] I P K := by
  have b1 := sl_bd h hi
  have b2 := sl_bd h hk
  refine Fk.intro (by decide +kernel) (Nat.le_of_ble_eq_true rfl) (fun G hC => ?_)
  refine Zv.aload_n hC d_M_before_0 rfl ?_
  refine Zv.getr (q := 62) hC d_M_before_1 fl_M_26 rfl rfl (by decide) (hP _ _ (by decide) (by decide)) ?_
  refine Zv.iload_n hC d_M_before_4 rfl ?_
  refine Zv.iald hC d_M_before_5 rfl (by decide) rfl (by omega) (by first | decide | omega) (sl_tm h hi) ?_
  refine Zv.aload_n hC d_M_before_6 rfl ?_
  refine Zv.getr (q := 62) hC d_M_before_7 fl_M_26 rfl rfl (by decide) (hP _ _ (by decide) (by decide)) ?_
  refine Zv.iload_n hC d_M_before_10 rfl ?_
  refine Zv.iald hC d_M_before_11 rfl (by decide) rfl (by omega) (by first | decide | omega) (sl_tm h hk) ?_
  refine Zv.icmp_lt (tgt := 45) hC d_M_before_12 (by decide) (fun h12 => ?_) (fun h12 => ?_)
  · try have g12 := q_l h12 (by omega) (by omega)
    refine Zv.iconst hC d_M_before_45 ic_1 ?_
    refine Zv.goto (tgt := 50) hC d_M_before_46 (by decide) ?_
    refine Zv.zret hC rfl d_M_before_50 rfl (Nat.le_refl _) (Nat.le_refl _) ?_
    exact hK 1 (by decide) ⟨fun _ => Or.inl g12, fun _ => by decide⟩
  · try have g12 := q_nl h12 (by omega) (by omega)
    refine Zv.aload_n hC d_M_before_15 rfl ?_
    refine Zv.getr (q := 62) hC d_M_before_16 fl_M_26 rfl rfl (by decide) (hP _ _ (by decide) (by decide)) ?_
    refine Zv.iload_n hC d_M_before_19 rfl ?_
    refine Zv.iald hC d_M_before_20 rfl (by decide) rfl (by omega) (by first | decide | omega) (sl_tm h hi) ?_
    refine Zv.aload_n hC d_M_before_21 rfl ?_
    refine Zv.getr (q := 62) hC d_M_before_22 fl_M_26 rfl rfl (by decide) (hP _ _ (by decide) (by decide)) ?_
    refine Zv.iload_n hC d_M_before_25 rfl ?_
    refine Zv.iald hC d_M_before_26 rfl (by decide) rfl (by omega) (by first | decide | omega) (sl_tm h hk) ?_
    refine Zv.icmp_ne (tgt := 49) hC d_M_before_27 (by decide) (fun h27 => ?_) (fun h27 => ?_)
    · try have g27 := q_n h27
      refine Zv.iconst hC d_M_before_49 ic_0 ?_
      refine Zv.zret hC rfl d_M_before_50 rfl (Nat.le_refl _) (Nat.le_refl _) ?_
      exact hK 0 (by decide) ⟨fun z => absurd rfl z, fun z => by unfold bf at z; omega⟩
    · try have g27 := q_e h27 (by omega) (by omega)
      refine Zv.aload_n hC d_M_before_30 rfl ?_
      refine Zv.getr (q := 63) hC d_M_before_31 fl_M_29 rfl rfl (by decide) (hP _ _ (by decide) (by decide)) ?_
      refine Zv.iload_n hC d_M_before_34 rfl ?_
      refine Zv.iald hC d_M_before_35 rfl (by decide) rfl (by omega) (by first | decide | omega) (sl_od h hi) ?_
      refine Zv.aload_n hC d_M_before_36 rfl ?_
      refine Zv.getr (q := 63) hC d_M_before_37 fl_M_29 rfl rfl (by decide) (hP _ _ (by decide) (by decide)) ?_
      refine Zv.iload_n hC d_M_before_40 rfl ?_
      refine Zv.iald hC d_M_before_41 rfl (by decide) rfl (by omega) (by first | decide | omega) (sl_od h hk) ?_
      refine Zv.icmp_ge (tgt := 49) hC d_M_before_42 (by decide) (fun h42 => ?_) (fun h42 => ?_)
      · try have g42 := q_le h42 (by omega) (by omega)
        refine Zv.iconst hC d_M_before_49 ic_0 ?_
        refine Zv.zret hC rfl d_M_before_50 rfl (Nat.le_refl _) (Nat.le_refl _) ?_
        exact hK 0 (by decide) ⟨fun z => absurd rfl z, fun z => by unfold bf at z; omega⟩
      · try have g42 := q_nle h42 (by omega) (by omega)
        refine Zv.iconst hC d_M_before_45 ic_1 ?_
        refine Zv.goto (tgt := 50) hC d_M_before_46 (by decide) ?_
        refine Zv.zret hC rfl d_M_before_50 rfl (Nat.le_refl _) (Nat.le_refl _) ?_
        exact hK 1 (by decide) ⟨fun _ => Or.inr ⟨g27, g42⟩, fun _ => by decide⟩
set_option maxRecDepth 100000 in
set_option maxHeartbeats 4000000 in
theorem lm_entry_in {G : Fx} {d k : Nat} {tm od : Nat → Nat} {cd : Nat → List Nat} {L D : List Nat} {ca : Nat} {X : List Nat} {ou : Nat} {x : Int32} {I : Fm} {P : Fr} {K : Option Fs → Fm → Fr → Prop} (hC : Fc G m_M_entry (d + 1) 0 0) (hP : x_ref P) (h : m_pln I tm od cd L D ca) (hca : ca < 2 ^ 30) (hX : ∀ i, i < 6 → ((od i ≠ 0 ∧ dq D i = ou) ↔ i ∈ X)) (hou : ou < 2) (hk : k < 6) (hgo : Zv G (f_R G K 77 0 0) 77 0 0 83 [(0, rf 57), (1, .inr (nI ou)), (2, .inr x), (3, .inr (nI k)), (4, .inr (nI (cn X (fun a => bfb tm od a k) 6)))] [] I P) : ∀ (f i : Nat), i + f = 7 ∧ i ≤ 6 → Zv G (f_R G K 77 0 0) 77 0 0 36 [(0, rf 57), (1, .inr (nI ou)), (2, .inr x), (3, .inr (nI k)), (4, .inr (nI (cn X (fun a => bfb tm od a k) i))), (5, .inr (nI i))] [] I P := by
  intro f
  induction f with
  | zero => intro i h; omega
  | succ f ih =>
    intro i hi
    refine Zv.iload hC d_M_entry_36 rfl ?_
    refine Zv.bipush hC d_M_entry_38 bp_6 ?_
    refine Zv.icmp_ge (tgt := 83) hC d_M_entry_40 (by decide) (fun h40 => ?_) (fun h40 => ?_)
    · try have g40 := q_le h40 (by omega) (by omega)
      have ei : i = 6 := by omega
      subst ei
      exact Zv.take 5 hgo
    · try have g40 := q_nle h40 (by omega) (by omega)
      have hb2 := sl_bd h g40
      have hd2 := dq_2 D i
      refine Zv.aload_n hC d_M_entry_43 rfl ?_
      refine Zv.getr (q := 63) hC d_M_entry_44 fl_M_29 rfl rfl (by decide) (hP _ _ (by decide) (by decide)) ?_
      refine Zv.iload hC d_M_entry_47 rfl ?_
      refine Zv.iald hC d_M_entry_49 rfl (by decide) rfl (by omega) (by first | decide | omega) (sl_od h g40) ?_
      refine Zv.if_eq (tgt := 77) hC d_M_entry_50 (by decide) (fun h50 => ?_) (fun h50 => ?_)
      · try have g50 := q_e0 h50 (by omega)
        refine Zv.iinc hC d_M_entry_77 rfl (by decide) (q_inc _) rfl ?_
        refine Zv.goto (tgt := 36) hC d_M_entry_80 (by decide) ?_
        have := ih (i + 1) (by omega)
        rw [cn, if_neg (fun z => absurd ((hX i g40).mpr z.1).1 (by omega)), Nat.add_zero] at this
        exact this
      · try have g50 := q_n0 h50
        refine Zv.aload_n hC d_M_entry_53 rfl ?_
        refine Zv.getr (q := 64) hC d_M_entry_54 fl_M_32 rfl rfl (by decide) (hP _ _ (by decide) (by decide)) ?_
        refine Zv.iload hC d_M_entry_57 rfl ?_
        refine Zv.zald hC d_M_entry_59 rfl (by decide) rfl (by omega) (by first | decide | omega) (sl_du h g40) ?_
        refine Zv.iload_n hC d_M_entry_60 rfl ?_
        refine Zv.icmp_ne (tgt := 77) hC d_M_entry_61 (by decide) (fun h61 => ?_) (fun h61 => ?_)
        · try have g61 := q_n h61
          refine Zv.iinc hC d_M_entry_77 rfl (by decide) (q_inc _) rfl ?_
          refine Zv.goto (tgt := 36) hC d_M_entry_80 (by decide) ?_
          have := ih (i + 1) (by omega)
          rw [cn, if_neg (fun z => absurd ((hX i g40).mpr z.1).2 (by omega)), Nat.add_zero] at this
          exact this
        · try have g61 := q_e h61 (by omega) (by omega)
          refine Zv.aload_n hC d_M_entry_64 rfl ?_
          refine Zv.iload hC d_M_entry_65 rfl ?_
          refine Zv.iload_n hC d_M_entry_67 rfl ?_
          refine Zv.callV2 hC d_M_entry_68 ml_M_164 mk_M_before rfl (Nat.le_of_ble_eq_true rfl) rfl (by decide) ?_
          refine sm_before hP h hca g40 hk (fun r68 hr68 he68 => ?_)
          refine Zv.if_eq (tgt := 77) hC d_M_entry_71 (by decide) (fun h71 => ?_) (fun h71 => ?_)
          · try have g71 := q_e0 h71 (by omega)
            refine Zv.iinc hC d_M_entry_77 rfl (by decide) (q_inc _) rfl ?_
            refine Zv.goto (tgt := 36) hC d_M_entry_80 (by decide) ?_
            have := ih (i + 1) (by omega)
            rw [cn, if_neg (fun z => absurd (he68.mpr (bfb_iff.mp z.2)) (by omega)), Nat.add_zero] at this
            exact this
          · try have g71 := q_n0 h71
            refine Zv.iinc hC d_M_entry_74 rfl (by decide) (q_inc _) rfl ?_
            refine Zv.iinc hC d_M_entry_77 rfl (by decide) (q_inc _) rfl ?_
            refine Zv.goto (tgt := 36) hC d_M_entry_80 (by decide) ?_
            have := ih (i + 1) (by omega)
            rw [cn, if_pos ⟨(hX i g40).mp ⟨g50, g61⟩, bfb_iff.mpr (he68.mp g71)⟩] at this
            exact this
set_option maxRecDepth 100000 in
set_option maxHeartbeats 4000000 in
theorem lm_entry {G : Fx} {d : Nat} {tm od : Nat → Nat} {cd : Nat → List Nat} {L D : List Nat} {ca : Nat} {X : List Nat} {ou : Nat} {x : Int32} {I : Fm} {P : Fr} {K : Option Fs → Fm → Fr → Prop} (hC : Fc G m_M_entry (d + 1) 0 0) (hP : x_ref P) (h : m_pln I tm od cd L D ca) (hca : ca < 2 ^ 30) (hX : ∀ i, i < 6 → ((od i ≠ 0 ∧ dq D i = ou) ↔ i ∈ X)) (hou : ou < 2) (hXn : X.Nodup) (hXm : ∀ k ∈ X, k < 6) (hXs : X.Pairwise (bf tm od)) (hK1 : ∀ j, j < X.length → x = nI j → K (some (.inr (nI (X.getD j 0)))) I P) (hK0 : (¬ ∃ j, j < X.length ∧ x = nI j) → K (some (.inr (nI 6))) I P) : ∀ (f k : Nat), k + f = 7 ∧ k ≤ 6 → (∀ a, a < k → a ∈ X → ¬ x = nI (cn X (fun b => bfb tm od b a) 6)) → Zv G (f_R G K 77 0 0) 77 0 0 2 [(0, rf 57), (1, .inr (nI ou)), (2, .inr x), (3, .inr (nI k))] [] I P := by
  intro f
  induction f with
  | zero => intro k h; omega
  | succ f ih =>
    intro k hk hno
    refine Zv.iload_n hC d_M_entry_2 rfl ?_
    refine Zv.bipush hC d_M_entry_3 bp_6 ?_
    refine Zv.icmp_ge (tgt := 97) hC d_M_entry_5 (by decide) (fun h5 => ?_) (fun h5 => ?_)
    · try have g5 := q_le h5 (by omega) (by omega)
      have ek : k = 6 := by omega
      subst ek
      refine Zv.bipush hC d_M_entry_97 bp_6 ?_
      refine Zv.iret hC rfl d_M_entry_99 (Nat.le_refl _) (Nat.le_refl _) ?_
      exact hK0 (fun ⟨j, hj, ex⟩ => hno (X[j]) (hXm _ (List.getElem_mem hj)) (List.getElem_mem hj) (by rw [cn_len hXn hXm, rank_at hXs hj]; exact ex))
    · try have g5 := q_nle h5 (by omega) (by omega)
      have hb2 := sl_bd h g5
      have hd2 := dq_2 D k
      refine Zv.aload_n hC d_M_entry_8 rfl ?_
      refine Zv.getr (q := 63) hC d_M_entry_9 fl_M_29 rfl rfl (by decide) (hP _ _ (by decide) (by decide)) ?_
      refine Zv.iload_n hC d_M_entry_12 rfl ?_
      refine Zv.iald hC d_M_entry_13 rfl (by decide) rfl (by omega) (by first | decide | omega) (sl_od h g5) ?_
      refine Zv.if_eq (tgt := 91) hC d_M_entry_14 (by decide) (fun h14 => ?_) (fun h14 => ?_)
      · try have g14 := q_e0 h14 (by omega)
        refine Zv.iinc hC d_M_entry_91 rfl (by decide) (q_inc _) rfl ?_
        refine Zv.goto (tgt := 2) hC d_M_entry_94 (by decide) ?_
        refine Zv.take 4 ?_
        refine ih (k + 1) (by omega) (fun a ha hm => ?_)
        by_cases e : a = k
        · subst e
          exact absurd ((hX a g5).mpr hm).1 (by omega)
        · exact hno a (by omega) hm
      · try have g14 := q_n0 h14
        refine Zv.aload_n hC d_M_entry_17 rfl ?_
        refine Zv.getr (q := 64) hC d_M_entry_18 fl_M_32 rfl rfl (by decide) (hP _ _ (by decide) (by decide)) ?_
        refine Zv.iload_n hC d_M_entry_21 rfl ?_
        refine Zv.zald hC d_M_entry_22 rfl (by decide) rfl (by omega) (by first | decide | omega) (sl_du h g5) ?_
        refine Zv.iload_n hC d_M_entry_23 rfl ?_
        refine Zv.icmp_eq (tgt := 30) hC d_M_entry_24 (by decide) (fun h24 => ?_) (fun h24 => ?_)
        · try have g24 := q_e h24 (by omega) (by omega)
          refine Zv.iconst hC d_M_entry_30 ic_0 ?_
          refine Zv.istore hC d_M_entry_31 (by decide) rfl ?_
          refine Zv.iconst hC d_M_entry_33 ic_0 ?_
          refine Zv.istore hC d_M_entry_34 (by decide) rfl ?_
          refine lm_entry_in hC hP h hca hX hou g5 ?_ 7 0 (by omega)
          refine Zv.iload hC d_M_entry_83 rfl ?_
          refine Zv.iload_n hC d_M_entry_85 rfl ?_
          refine Zv.icmp_ne (tgt := 91) hC d_M_entry_86 (by decide) (fun h86 => ?_) (fun h86 => ?_)
          · skip
            refine Zv.iinc hC d_M_entry_91 rfl (by decide) (q_inc _) rfl ?_
            refine Zv.goto (tgt := 2) hC d_M_entry_94 (by decide) ?_
            refine Zv.take 4 ?_
            refine ih (k + 1) (by omega) (fun a ha hm => ?_)
            by_cases e : a = k
            · subst e
              exact fun z => h86 z.symm
            · exact hno a (by omega) hm
          · skip
            refine Zv.iload_n hC d_M_entry_89 rfl ?_
            refine Zv.iret hC rfl d_M_entry_90 (Nat.le_refl _) (Nat.le_refl _) ?_
            obtain ⟨j, hj, ej⟩ := List.getElem_of_mem ((hX k g5).mp ⟨g14, g24⟩)
            subst ej
            rw [cn_len hXn hXm, rank_at hXs hj] at h86
            have := hK1 j hj h86.symm
            rw [List.getD_eq_getElem?_getD, List.getElem?_eq_getElem hj] at this
            exact this
        · try have g24 := q_n h24
          refine Zv.goto (tgt := 91) hC d_M_entry_27 (by decide) ?_
          refine Zv.iinc hC d_M_entry_91 rfl (by decide) (q_inc _) rfl ?_
          refine Zv.goto (tgt := 2) hC d_M_entry_94 (by decide) ?_
          refine Zv.take 4 ?_
          refine ih (k + 1) (by omega) (fun a ha hm => ?_)
          by_cases e : a = k
          · subst e
            exact absurd ((hX a g5).mpr hm).2 g24
          · exact hno a (by omega) hm
set_option maxRecDepth 100000 in
set_option maxHeartbeats 4000000 in
theorem sm_entry {d : Nat} {tm od : Nat → Nat} {cd : Nat → List Nat} {L D : List Nat} {ca : Nat} {X : List Nat} {ou : Nat} {x : Int32} {I : Fm} {P : Fr} {K : Option Fs → Fm → Fr → Prop} (hP : x_ref P) (h : m_pln I tm od cd L D ca) (hca : ca < 2 ^ 30) (hX : ∀ i, i < 6 → ((od i ≠ 0 ∧ dq D i = ou) ↔ i ∈ X)) (hou : ou < 2) (hXn : X.Nodup) (hXm : ∀ k ∈ X, k < 6) (hXs : X.Pairwise (bf tm od)) (hK1 : ∀ j, j < X.length → x = nI j → K (some (.inr (nI (X.getD j 0)))) I P) (hK0 : (¬ ∃ j, j < X.length ∧ x = nI j) → K (some (.inr (nI 6))) I P) : Fk (d + 1) m_M_entry 77 77 0 0 [rf 57, .inr (nI ou), .inr x] I P K := by
  refine Fk.intro (by decide +kernel) (Nat.le_of_ble_eq_true rfl) (fun G hC => ?_)
  refine Zv.iconst hC d_M_entry_0 ic_0 ?_
  refine Zv.istore_n hC d_M_entry_1 (by decide) rfl ?_
  exact lm_entry hC hP h hca hX hou hXn hXm hXs hK1 hK0 7 0 (by omega) (fun a ha => absurd ha (Nat.not_lt_zero a))
