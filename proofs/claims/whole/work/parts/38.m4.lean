set_option maxRecDepth 100000 in
set_option maxHeartbeats 4000000 in
theorem lm_refusal {G : Fx} {d : Nat} {σ : Sg} {c : List Nat} {tm od : Nat → Nat} {cd : Nat → List Nat} {L D : List Nat} {ca : Nat} {I : Fm} {P : Fr} {K : Option Fs → Fm → Fr → Prop} (hC : Fc G m_M_refusal (d + 1) 0 0) (hP : x_ref P) (h24 : I 56 24 = nI (s_g σ 0)) (hcl : s_g σ 0 ≤ 60000) (h : m_pln I tm od cd L D ca) (hca : ca < 2 ^ 30) (hpl : s_pl σ = L.map (fun k => (tm k, cd k))) (hc : m_w I c) (hv : e_one c = 0) (q1 : ¬ (s_g σ 1 ≠ 0 ∧ ¬ (e_at c 0 = 1 ∨ e_at c 0 = 2 ∨ e_at c 0 = 7 ∨ e_at c 0 = 11))) (hK : K (some (.inr (nI (e_ref σ c)))) I P) : Zv G (f_R G K 77 0 0) 77 0 0 38 [(0, rf 57), (1, .inr (nI (e_at c 0)))] [] I P := by
  have hb := e_at_lt hc.2.2.2
  have hb0 := hb 0
  have hb1 := hb 1
  have hb2 := hb 2
  have hl6 := (sl_L h).2.2.2
  have el : (s_pl σ).length = L.length := by rw [hpl, List.length_map]
  have hsh : (∀ e ∈ s_pl σ, (s_g σ 0 : Int) < e.1 + e_sgz (e_at c 1) ∧ (e.1 : Int) + e_sgz (e_at c 1) ≤ 65535) ↔ ∀ j ∈ L, ((s_g σ 0 : Int) < tm j + e_sgz (e_at c 1) ∧ (tm j : Int) + e_sgz (e_at c 1) ≤ 65535) := by
    rw [hpl]
    exact ⟨fun z j hj => z _ (List.mem_map.mpr ⟨j, hj, rfl⟩), fun z e he => by obtain ⟨j, hj, rfl⟩ := List.mem_map.mp he; exact z j hj⟩
  refine Zv.iload_n hC d_M_refusal_38 rfl ?_
  refine Zv.iconst hC d_M_refusal_39 ic_3 ?_
  refine Zv.icmp_ne (tgt := 54) hC d_M_refusal_40 (by decide) (fun h40 => ?_) (fun h40 => ?_)
  · try have g40 := q_n h40
    have q2 := ref_n2 (σ := σ) (Or.inl g40)
    refine Zv.iload_n hC d_M_refusal_54 rfl ?_
    refine Zv.iconst hC d_M_refusal_55 ic_3 ?_
    refine Zv.icmp_ne (tgt := 83) hC d_M_refusal_56 (by decide) (fun h56 => ?_) (fun h56 => ?_)
    · try have g56 := q_n h56
      have q3 := ref_n3 (σ := σ) (Or.inl g56)
      refine Zv.iload_n hC d_M_refusal_83 rfl ?_
      refine Zv.iconst hC d_M_refusal_84 ic_5 ?_
      refine Zv.icmp_ne (tgt := 107) hC d_M_refusal_85 (by decide) (fun h85 => ?_) (fun h85 => ?_)
      · try have g85 := q_n h85
        have q4 := ref_n4 (σ := σ) (Or.inl g85)
        refine Zv.iconst hC d_M_refusal_107 ic_0 ?_
        refine Zv.iret hC rfl d_M_refusal_108 (Nat.le_refl _) (Nat.le_refl _) ?_
        have hR : e_ref σ c = 0 := by unfold e_ref; rw [if_neg q1, if_neg q2, if_neg q3, if_neg q4]
        rw [hR] at hK
        exact hK
      · try have g85 := q_e h85 (by omega) (by omega)
        refine Zv.aload_n hC d_M_refusal_88 rfl ?_
        refine Zv.aload_n hC d_M_refusal_89 rfl ?_
        refine Zv.getr (q := 59) hC d_M_refusal_90 fl_M_17 rfl rfl (by decide) (hP _ _ (by decide) (by decide)) ?_
        refine Zv.iconst hC d_M_refusal_93 ic_1 ?_
        refine Zv.iald hC d_M_refusal_94 rfl (by decide) rfl (by omega) (by first | decide | omega) (hc.2.2.1 1 (by rw [one_len hv g85 rfl]; decide)) ?_
        refine Zv.callS1 hC d_M_refusal_95 ml_M_87 mk_M_signed (Nat.le_of_ble_eq_true rfl) ?_
        refine sm_signed rfl (hb 1) ?_
        refine Zv.callV1 hC d_M_refusal_98 ml_M_110 mk_M_badShift rfl (Nat.le_of_ble_eq_true rfl) rfl (by decide) ?_
        refine sm_badShift hP h hca (hb 1) (by omega) h24 (fun r98 hr98 he98 => ?_)
        refine Zv.if_eq (tgt := 107) hC d_M_refusal_101 (by decide) (fun h101 => ?_) (fun h101 => ?_)
        · try have g101 := q_e0 h101 (by omega)
          have q4 : ¬ (e_at c 0 = 5 ∧ ¬ _) := ref_n4 (σ := σ) (Or.inr (hsh.mpr (Classical.byContradiction fun z => absurd (he98.mpr z) (by omega))))
          refine Zv.iconst hC d_M_refusal_107 ic_0 ?_
          refine Zv.iret hC rfl d_M_refusal_108 (Nat.le_refl _) (Nat.le_refl _) ?_
          have hR : e_ref σ c = 0 := by unfold e_ref; rw [if_neg q1, if_neg q2, if_neg q3, if_neg q4]
          rw [hR] at hK
          exact hK
        · try have g101 := q_n0 h101
          refine Zv.bipush hC d_M_refusal_104 bp_6 ?_
          refine Zv.iret hC rfl d_M_refusal_106 (Nat.le_refl _) (Nat.le_refl _) ?_
          have hR : e_ref σ c = 6 := by unfold e_ref; rw [if_neg q1, if_neg q2, if_neg q3, if_pos ⟨g85, fun z => (he98.mp g101) (hsh.mp z)⟩]
          rw [hR] at hK
          exact hK
    · try have g56 := q_e h56 (by omega) (by omega)
      refine Zv.aload_n hC d_M_refusal_59 rfl ?_
      refine Zv.getr (q := 59) hC d_M_refusal_60 fl_M_17 rfl rfl (by decide) (hP _ _ (by decide) (by decide)) ?_
      refine Zv.iconst hC d_M_refusal_63 ic_1 ?_
      refine Zv.iald hC d_M_refusal_64 rfl (by decide) rfl (by omega) (by first | decide | omega) (hc.2.2.1 1 (by have := one_len3 hv g56; omega)) ?_
      refine Zv.sipush hC d_M_refusal_65 sp_256 ?_
      first | refine Zv.imulN hC d_M_refusal_68 ?_ | refine Zv.imul hC d_M_refusal_68 ?_
      refine Zv.aload_n hC d_M_refusal_69 rfl ?_
      refine Zv.getr (q := 59) hC d_M_refusal_70 fl_M_17 rfl rfl (by decide) (hP _ _ (by decide) (by decide)) ?_
      refine Zv.iconst hC d_M_refusal_73 ic_2 ?_
      refine Zv.iald hC d_M_refusal_74 rfl (by decide) rfl (by omega) (by first | decide | omega) (hc.2.2.1 2 (by have := one_len3 hv g56; omega)) ?_
      first | refine Zv.iaddN hC d_M_refusal_75 ?_ | refine Zv.iadd hC d_M_refusal_75 ?_
      refine Zv.aload_n hC d_M_refusal_76 rfl ?_
      refine Zv.geti hC d_M_refusal_77 fl_M_84 rfl rfl (by decide) h24 ?_
      refine Zv.icmp_le (tgt := 104) hC d_M_refusal_80 (by decide) (fun h80 => ?_) (fun h80 => ?_)
      · try have g80 := q_le h80 (by omega) (by omega)
        refine Zv.bipush hC d_M_refusal_104 bp_6 ?_
        refine Zv.iret hC rfl d_M_refusal_106 (Nat.le_refl _) (Nat.le_refl _) ?_
        have hR : e_ref σ c = 6 := by unfold e_ref; rw [if_neg q1, if_neg q2, if_pos ⟨g56, g80⟩]
        rw [hR] at hK
        exact hK
      · try have g80 := q_nle h80 (by omega) (by omega)
        have q3 : ¬ (e_at c 0 = 3 ∧ e_at c 1 * 256 + e_at c 2 ≤ s_g σ 0) := ref_n3 (Or.inr g80)
        refine Zv.iload_n hC d_M_refusal_83 rfl ?_
        refine Zv.iconst hC d_M_refusal_84 ic_5 ?_
        refine Zv.icmp_ne (tgt := 107) hC d_M_refusal_85 (by decide) (fun h85 => ?_) (fun h85 => ?_)
        · try have g85 := q_n h85
          have q4 := ref_n4 (σ := σ) (Or.inl g85)
          refine Zv.iconst hC d_M_refusal_107 ic_0 ?_
          refine Zv.iret hC rfl d_M_refusal_108 (Nat.le_refl _) (Nat.le_refl _) ?_
          have hR : e_ref σ c = 0 := by unfold e_ref; rw [if_neg q1, if_neg q2, if_neg q3, if_neg q4]
          rw [hR] at hK
          exact hK
        · try have g85 := q_e h85 (by omega) (by omega)
          refine Zv.aload_n hC d_M_refusal_88 rfl ?_
          refine Zv.aload_n hC d_M_refusal_89 rfl ?_
          refine Zv.getr (q := 59) hC d_M_refusal_90 fl_M_17 rfl rfl (by decide) (hP _ _ (by decide) (by decide)) ?_
          refine Zv.iconst hC d_M_refusal_93 ic_1 ?_
          refine Zv.iald hC d_M_refusal_94 rfl (by decide) rfl (by omega) (by first | decide | omega) (hc.2.2.1 1 (by rw [one_len hv g85 rfl]; decide)) ?_
          refine Zv.callS1 hC d_M_refusal_95 ml_M_87 mk_M_signed (Nat.le_of_ble_eq_true rfl) ?_
          refine sm_signed rfl (hb 1) ?_
          refine Zv.callV1 hC d_M_refusal_98 ml_M_110 mk_M_badShift rfl (Nat.le_of_ble_eq_true rfl) rfl (by decide) ?_
          refine sm_badShift hP h hca (hb 1) (by omega) h24 (fun r98 hr98 he98 => ?_)
          refine Zv.if_eq (tgt := 107) hC d_M_refusal_101 (by decide) (fun h101 => ?_) (fun h101 => ?_)
          · try have g101 := q_e0 h101 (by omega)
            have q4 : ¬ (e_at c 0 = 5 ∧ ¬ _) := ref_n4 (σ := σ) (Or.inr (hsh.mpr (Classical.byContradiction fun z => absurd (he98.mpr z) (by omega))))
            refine Zv.iconst hC d_M_refusal_107 ic_0 ?_
            refine Zv.iret hC rfl d_M_refusal_108 (Nat.le_refl _) (Nat.le_refl _) ?_
            have hR : e_ref σ c = 0 := by unfold e_ref; rw [if_neg q1, if_neg q2, if_neg q3, if_neg q4]
            rw [hR] at hK
            exact hK
          · try have g101 := q_n0 h101
            refine Zv.bipush hC d_M_refusal_104 bp_6 ?_
            refine Zv.iret hC rfl d_M_refusal_106 (Nat.le_refl _) (Nat.le_refl _) ?_
            have hR : e_ref σ c = 6 := by unfold e_ref; rw [if_neg q1, if_neg q2, if_neg q3, if_pos ⟨g85, fun z => (he98.mp g101) (hsh.mp z)⟩]
            rw [hR] at hK
            exact hK
  · try have g40 := q_e h40 (by omega) (by omega)
    refine Zv.aload_n hC d_M_refusal_43 rfl ?_
    refine Zv.callV0 hC d_M_refusal_44 ml_M_106 mk_M_entries rfl (Nat.le_of_ble_eq_true rfl) rfl (by decide) ?_
    refine sm_entries hP h hca ?_
    refine Zv.bipush hC d_M_refusal_47 bp_6 ?_
    refine Zv.icmp_ne (tgt := 54) hC d_M_refusal_49 (by decide) (fun h49 => ?_) (fun h49 => ?_)
    · try have g49 := q_n h49
      have q2 : ¬ (e_at c 0 = 3 ∧ 6 ≤ (s_pl σ).length) := ref_n2 (Or.inr (by rw [el]; omega))
      refine Zv.iload_n hC d_M_refusal_54 rfl ?_
      refine Zv.iconst hC d_M_refusal_55 ic_3 ?_
      refine Zv.icmp_ne (tgt := 83) hC d_M_refusal_56 (by decide) (fun h56 => ?_) (fun h56 => ?_)
      · try have g56 := q_n h56
        have q3 := ref_n3 (σ := σ) (Or.inl g56)
        refine Zv.iload_n hC d_M_refusal_83 rfl ?_
        refine Zv.iconst hC d_M_refusal_84 ic_5 ?_
        refine Zv.icmp_ne (tgt := 107) hC d_M_refusal_85 (by decide) (fun h85 => ?_) (fun h85 => ?_)
        · try have g85 := q_n h85
          have q4 := ref_n4 (σ := σ) (Or.inl g85)
          refine Zv.iconst hC d_M_refusal_107 ic_0 ?_
          refine Zv.iret hC rfl d_M_refusal_108 (Nat.le_refl _) (Nat.le_refl _) ?_
          have hR : e_ref σ c = 0 := by unfold e_ref; rw [if_neg q1, if_neg q2, if_neg q3, if_neg q4]
          rw [hR] at hK
          exact hK
        · try have g85 := q_e h85 (by omega) (by omega)
          refine Zv.aload_n hC d_M_refusal_88 rfl ?_
          refine Zv.aload_n hC d_M_refusal_89 rfl ?_
          refine Zv.getr (q := 59) hC d_M_refusal_90 fl_M_17 rfl rfl (by decide) (hP _ _ (by decide) (by decide)) ?_
          refine Zv.iconst hC d_M_refusal_93 ic_1 ?_
          refine Zv.iald hC d_M_refusal_94 rfl (by decide) rfl (by omega) (by first | decide | omega) (hc.2.2.1 1 (by rw [one_len hv g85 rfl]; decide)) ?_
          refine Zv.callS1 hC d_M_refusal_95 ml_M_87 mk_M_signed (Nat.le_of_ble_eq_true rfl) ?_
          refine sm_signed rfl (hb 1) ?_
          refine Zv.callV1 hC d_M_refusal_98 ml_M_110 mk_M_badShift rfl (Nat.le_of_ble_eq_true rfl) rfl (by decide) ?_
          refine sm_badShift hP h hca (hb 1) (by omega) h24 (fun r98 hr98 he98 => ?_)
          refine Zv.if_eq (tgt := 107) hC d_M_refusal_101 (by decide) (fun h101 => ?_) (fun h101 => ?_)
          · try have g101 := q_e0 h101 (by omega)
            have q4 : ¬ (e_at c 0 = 5 ∧ ¬ _) := ref_n4 (σ := σ) (Or.inr (hsh.mpr (Classical.byContradiction fun z => absurd (he98.mpr z) (by omega))))
            refine Zv.iconst hC d_M_refusal_107 ic_0 ?_
            refine Zv.iret hC rfl d_M_refusal_108 (Nat.le_refl _) (Nat.le_refl _) ?_
            have hR : e_ref σ c = 0 := by unfold e_ref; rw [if_neg q1, if_neg q2, if_neg q3, if_neg q4]
            rw [hR] at hK
            exact hK
          · try have g101 := q_n0 h101
            refine Zv.bipush hC d_M_refusal_104 bp_6 ?_
            refine Zv.iret hC rfl d_M_refusal_106 (Nat.le_refl _) (Nat.le_refl _) ?_
            have hR : e_ref σ c = 6 := by unfold e_ref; rw [if_neg q1, if_neg q2, if_neg q3, if_pos ⟨g85, fun z => (he98.mp g101) (hsh.mp z)⟩]
            rw [hR] at hK
            exact hK
      · try have g56 := q_e h56 (by omega) (by omega)
        refine Zv.aload_n hC d_M_refusal_59 rfl ?_
        refine Zv.getr (q := 59) hC d_M_refusal_60 fl_M_17 rfl rfl (by decide) (hP _ _ (by decide) (by decide)) ?_
        refine Zv.iconst hC d_M_refusal_63 ic_1 ?_
        refine Zv.iald hC d_M_refusal_64 rfl (by decide) rfl (by omega) (by first | decide | omega) (hc.2.2.1 1 (by have := one_len3 hv g56; omega)) ?_
        refine Zv.sipush hC d_M_refusal_65 sp_256 ?_
        first | refine Zv.imulN hC d_M_refusal_68 ?_ | refine Zv.imul hC d_M_refusal_68 ?_
        refine Zv.aload_n hC d_M_refusal_69 rfl ?_
        refine Zv.getr (q := 59) hC d_M_refusal_70 fl_M_17 rfl rfl (by decide) (hP _ _ (by decide) (by decide)) ?_
        refine Zv.iconst hC d_M_refusal_73 ic_2 ?_
        refine Zv.iald hC d_M_refusal_74 rfl (by decide) rfl (by omega) (by first | decide | omega) (hc.2.2.1 2 (by have := one_len3 hv g56; omega)) ?_
        first | refine Zv.iaddN hC d_M_refusal_75 ?_ | refine Zv.iadd hC d_M_refusal_75 ?_
        refine Zv.aload_n hC d_M_refusal_76 rfl ?_
        refine Zv.geti hC d_M_refusal_77 fl_M_84 rfl rfl (by decide) h24 ?_
        refine Zv.icmp_le (tgt := 104) hC d_M_refusal_80 (by decide) (fun h80 => ?_) (fun h80 => ?_)
        · try have g80 := q_le h80 (by omega) (by omega)
          refine Zv.bipush hC d_M_refusal_104 bp_6 ?_
          refine Zv.iret hC rfl d_M_refusal_106 (Nat.le_refl _) (Nat.le_refl _) ?_
          have hR : e_ref σ c = 6 := by unfold e_ref; rw [if_neg q1, if_neg q2, if_pos ⟨g56, g80⟩]
          rw [hR] at hK
          exact hK
        · try have g80 := q_nle h80 (by omega) (by omega)
          have q3 : ¬ (e_at c 0 = 3 ∧ e_at c 1 * 256 + e_at c 2 ≤ s_g σ 0) := ref_n3 (Or.inr g80)
          refine Zv.iload_n hC d_M_refusal_83 rfl ?_
          refine Zv.iconst hC d_M_refusal_84 ic_5 ?_
          refine Zv.icmp_ne (tgt := 107) hC d_M_refusal_85 (by decide) (fun h85 => ?_) (fun h85 => ?_)
          · try have g85 := q_n h85
            have q4 := ref_n4 (σ := σ) (Or.inl g85)
            refine Zv.iconst hC d_M_refusal_107 ic_0 ?_
            refine Zv.iret hC rfl d_M_refusal_108 (Nat.le_refl _) (Nat.le_refl _) ?_
            have hR : e_ref σ c = 0 := by unfold e_ref; rw [if_neg q1, if_neg q2, if_neg q3, if_neg q4]
            rw [hR] at hK
            exact hK
          · try have g85 := q_e h85 (by omega) (by omega)
            refine Zv.aload_n hC d_M_refusal_88 rfl ?_
            refine Zv.aload_n hC d_M_refusal_89 rfl ?_
            refine Zv.getr (q := 59) hC d_M_refusal_90 fl_M_17 rfl rfl (by decide) (hP _ _ (by decide) (by decide)) ?_
            refine Zv.iconst hC d_M_refusal_93 ic_1 ?_
            refine Zv.iald hC d_M_refusal_94 rfl (by decide) rfl (by omega) (by first | decide | omega) (hc.2.2.1 1 (by rw [one_len hv g85 rfl]; decide)) ?_
            refine Zv.callS1 hC d_M_refusal_95 ml_M_87 mk_M_signed (Nat.le_of_ble_eq_true rfl) ?_
            refine sm_signed rfl (hb 1) ?_
            refine Zv.callV1 hC d_M_refusal_98 ml_M_110 mk_M_badShift rfl (Nat.le_of_ble_eq_true rfl) rfl (by decide) ?_
            refine sm_badShift hP h hca (hb 1) (by omega) h24 (fun r98 hr98 he98 => ?_)
            refine Zv.if_eq (tgt := 107) hC d_M_refusal_101 (by decide) (fun h101 => ?_) (fun h101 => ?_)
            · try have g101 := q_e0 h101 (by omega)
              have q4 : ¬ (e_at c 0 = 5 ∧ ¬ _) := ref_n4 (σ := σ) (Or.inr (hsh.mpr (Classical.byContradiction fun z => absurd (he98.mpr z) (by omega))))
              refine Zv.iconst hC d_M_refusal_107 ic_0 ?_
              refine Zv.iret hC rfl d_M_refusal_108 (Nat.le_refl _) (Nat.le_refl _) ?_
              have hR : e_ref σ c = 0 := by unfold e_ref; rw [if_neg q1, if_neg q2, if_neg q3, if_neg q4]
              rw [hR] at hK
              exact hK
            · try have g101 := q_n0 h101
              refine Zv.bipush hC d_M_refusal_104 bp_6 ?_
              refine Zv.iret hC rfl d_M_refusal_106 (Nat.le_refl _) (Nat.le_refl _) ?_
              have hR : e_ref σ c = 6 := by unfold e_ref; rw [if_neg q1, if_neg q2, if_neg q3, if_pos ⟨g85, fun z => (he98.mp g101) (hsh.mp z)⟩]
              rw [hR] at hK
              exact hK
    · try have g49 := q_e h49 (by omega) (by omega)
      refine Zv.iconst hC d_M_refusal_52 ic_5 ?_
      refine Zv.iret hC rfl d_M_refusal_53 (Nat.le_refl _) (Nat.le_refl _) ?_
      have hR : e_ref σ c = 5 := by unfold e_ref; rw [if_neg q1, if_pos ⟨g40, by rw [el]; omega⟩]
      rw [hR] at hK
      exact hK
set_option maxRecDepth 100000 in
set_option maxHeartbeats 4000000 in
theorem sm_refusal {d : Nat} {σ : Sg} {dl : List (Nat × List Nat)} {B : Nat} {c : List Nat} {I : Fm} {P : Fr} {K : Option Fs → Fm → Fr → Prop} (hP : x_ref P) (h : MR σ dl B I) (hB : B < 2 ^ 30) (hcl : s_g σ 0 ≤ 60000) (hsf : s_g σ 1 < 2) (hc : m_w I c) (hv : e_one c = 0) (hK : K (some (.inr (nI (e_ref σ c)))) I P) : Fk (d + 1) m_M_refusal 77 77 0 0 [rf 57] I P K := by
  obtain ⟨tm, od, cd, L, D, ca, hp, hcaB, hpl, hdl⟩ := h.2.2.2.2.2.2
  have hca : ca < 2 ^ 30 := by omega
  have hb0 := e_at_lt hc.2.2.2 0
  refine Fk.intro (by decide +kernel) (Nat.le_of_ble_eq_true rfl) (fun G hC => ?_)
  refine Zv.aload_n hC d_M_refusal_0 rfl ?_
  refine Zv.getr (q := 59) hC d_M_refusal_1 fl_M_17 rfl rfl (by decide) (hP _ _ (by decide) (by decide)) ?_
  refine Zv.iconst hC d_M_refusal_4 ic_0 ?_
  refine Zv.iald hC d_M_refusal_5 rfl (by decide) rfl (by omega) (by first | decide | omega) (hc.2.2.1 0 (one_pos hv)) ?_
  refine Zv.istore_n hC d_M_refusal_6 (by decide) rfl ?_
  refine Zv.aload_n hC d_M_refusal_7 rfl ?_
  refine Zv.geti hC d_M_refusal_8 fl_M_102 rfl rfl (by decide) h.1.2.1 ?_
  refine Zv.if_eq (tgt := 38) hC d_M_refusal_11 (by decide) (fun h11 => ?_) (fun h11 => ?_)
  · try have g11 := q_e0 h11 (by omega)
    exact lm_refusal hC hP h.1.1 hcl hp hca hpl hc hv (ref_n1 (by omega)) hK
  · try have g11 := q_n0 h11
    refine Zv.iload_n hC d_M_refusal_14 rfl ?_
    refine Zv.iconst hC d_M_refusal_15 ic_1 ?_
    refine Zv.icmp_eq (tgt := 38) hC d_M_refusal_16 (by decide) (fun h16 => ?_) (fun h16 => ?_)
    · try have g16 := q_e h16 (by omega) (by omega)
      exact lm_refusal hC hP h.1.1 hcl hp hca hpl hc hv (ref_n1 (by omega)) hK
    · try have g16 := q_n h16
      refine Zv.iload_n hC d_M_refusal_19 rfl ?_
      refine Zv.iconst hC d_M_refusal_20 ic_2 ?_
      refine Zv.icmp_eq (tgt := 38) hC d_M_refusal_21 (by decide) (fun h21 => ?_) (fun h21 => ?_)
      · try have g21 := q_e h21 (by omega) (by omega)
        exact lm_refusal hC hP h.1.1 hcl hp hca hpl hc hv (ref_n1 (by omega)) hK
      · try have g21 := q_n h21
        refine Zv.iload_n hC d_M_refusal_24 rfl ?_
        refine Zv.bipush hC d_M_refusal_25 bp_7 ?_
        refine Zv.icmp_eq (tgt := 38) hC d_M_refusal_27 (by decide) (fun h27 => ?_) (fun h27 => ?_)
        · try have g27 := q_e h27 (by omega) (by omega)
          exact lm_refusal hC hP h.1.1 hcl hp hca hpl hc hv (ref_n1 (by omega)) hK
        · try have g27 := q_n h27
          refine Zv.iload_n hC d_M_refusal_30 rfl ?_
          refine Zv.bipush hC d_M_refusal_31 bp_11 ?_
          refine Zv.icmp_eq (tgt := 38) hC d_M_refusal_33 (by decide) (fun h33 => ?_) (fun h33 => ?_)
          · try have g33 := q_e h33 (by omega) (by omega)
            exact lm_refusal hC hP h.1.1 hcl hp hca hpl hc hv (ref_n1 (by omega)) hK
          · try have g33 := q_n h33
            refine Zv.iconst hC d_M_refusal_36 ic_4 ?_
            refine Zv.iret hC rfl d_M_refusal_37 (Nat.le_refl _) (Nat.le_refl _) ?_
            have hR : e_ref σ c = 4 := by unfold e_ref; rw [if_pos ⟨g11, by omega⟩]
            rw [hR] at hK
            exact hK
set_option maxRecDepth 100000 in
set_option maxHeartbeats 4000000 in
theorem lm_plan {G : Fx} {d k : Nat} {c : List Nat} {I : Fm} {P : Fr} {K : Option Fs → Fm → Fr → Prop} (hC : Fc G m_M_plan d 0 0) (hP : x_ref P) (hk : k < 6) (hl : 4 ≤ c.length ∧ c.length ≤ 11) (h3 : I 56 3 = nI c.length) (h58 : ∀ i, i < c.length → I 58 i = nI (e_at c i)) (hK : ∀ J : Fm, (∀ a, a ≠ 59 → J a = I a) → (∀ j, 3 ≤ j → j < c.length → J 59 (12 * k + j - 3) = nI (e_at c j)) → (∀ q, q < 12 * k ∨ 12 * k + 12 ≤ q → J 59 q = I 59 q) → K none J P) : ∀ (f i : Nat) (J : Fm), i + f = c.length + 1 → 3 ≤ i → i ≤ c.length → (∀ a, a ≠ 59 → J a = I a) → (∀ j, j < i → 3 ≤ j → J 59 (12 * k + j - 3) = nI (e_at c j)) → (∀ q, q < 12 * k ∨ 12 * k + 12 ≤ q → J 59 q = I 59 q) → Zv G (f_R G K 77 0 0) 77 0 0 79 [(0, rf 57), (1, .inr (nI k)), (2, .inr (nI i))] [] J P := by
  intro f
  induction f with
  | zero => intro i J h1 h2 h3; omega
  | succ f ih =>
    intro i J hif hi3 hin hJ1 hJ2 hJ3
    refine Zv.iload_n hC d_M_plan_79 rfl ?_
    refine Zv.aload_n hC d_M_plan_80 rfl ?_
    refine Zv.geti hC d_M_plan_81 fl_M_91 rfl rfl (by decide) ((congrFun (hJ1 56 (by decide)) 3).trans h3) ?_
    refine Zv.icmp_ge (tgt := 112) hC d_M_plan_84 (by decide) (fun h84 => ?_) (fun h84 => ?_)
    · try have g84 := q_le h84 (by omega) (by omega)
      refine Zv.vret hC rfl d_M_plan_112 (Nat.le_refl _) (Nat.le_refl _) ?_
      exact hK J hJ1 (fun j h1 h2 => hJ2 j (by omega) h1) hJ3
    · try have g84 := q_nle h84 (by omega) (by omega)
      refine Zv.aload_n hC d_M_plan_87 rfl ?_
      refine Zv.getr (q := 60) hC d_M_plan_88 fl_M_20 rfl rfl (by decide) (hP _ _ (by decide) (by decide)) ?_
      refine Zv.bipush hC d_M_plan_91 bp_12 ?_
      refine Zv.iload_n hC d_M_plan_93 rfl ?_
      first | refine Zv.imulN hC d_M_plan_94 ?_ | refine Zv.imul hC d_M_plan_94 ?_
      refine Zv.iload_n hC d_M_plan_95 rfl ?_
      first | refine Zv.iaddN hC d_M_plan_96 ?_ | refine Zv.iadd hC d_M_plan_96 ?_
      refine Zv.iconst hC d_M_plan_97 ic_3 ?_
      refine Zv.isubN hC d_M_plan_98 (by omega) ?_
      refine Zv.aload_n hC d_M_plan_99 rfl ?_
      refine Zv.getr (q := 59) hC d_M_plan_100 fl_M_17 rfl rfl (by decide) (hP _ _ (by decide) (by decide)) ?_
      refine Zv.iload_n hC d_M_plan_103 rfl ?_
      refine Zv.iald hC d_M_plan_104 rfl (by decide) rfl (by omega) (by first | decide | omega) ((congrFun (hJ1 58 (by decide)) i).trans (h58 i g84)) ?_
      refine Zv.iast hC d_M_plan_105 rfl (by decide) rfl (by omega) (by first | decide | omega) ?_
      refine Zv.iinc hC d_M_plan_106 rfl (by decide) (q_inc _) rfl ?_
      refine Zv.goto (tgt := 79) hC d_M_plan_109 (by decide) ?_
      refine ih (i + 1) _ (by omega) (by omega) (by omega) (fun a h => by rw [f_u_ne h]; exact hJ1 a h) (fun j hj hj2 => ?_) (fun q hq => f_uc (by omega) (hJ3 q hq))
      by_cases e : j = i
      · subst e
        exact f_u_s
      · exact f_uc (by omega) (hJ2 j (by omega) hj2)
set_option maxRecDepth 100000 in
set_option maxHeartbeats 4000000 in
theorem lm_plan0 {G : Fx} {d : Nat} {tm od : Nat → Nat} {cd : Nat → List Nat} {L : List Nat} {ca : Nat} {I : Fm} {P : Fr} {K : Option Fs → Fm → Fr → Prop} (hC : Fc G m_M_plan d 0 0) (hP : x_ref P) (h : m_pln I tm od cd L [] ca) (hca : ca < 2 ^ 30) (hl6 : L.length < 6) (hgo : ∀ k, k < 6 → od k = 0 → Zv G (f_R G K 77 0 0) 77 0 0 22 [(0, rf 57), (1, .inr (nI k))] [] I P) : ∀ (f k : Nat), k + f = 6 ∧ k ≤ 5 → (∀ j, j < k → od j ≠ 0) → Zv G (f_R G K 77 0 0) 77 0 0 2 [(0, rf 57), (1, .inr (nI k))] [] I P := by
  intro f
  induction f with
  | zero => intro k h; omega
  | succ f ih =>
    intro k hk hno
    refine Zv.iload_n hC d_M_plan_2 rfl ?_
    refine Zv.iconst hC d_M_plan_3 ic_5 ?_
    refine Zv.icmp_ge (tgt := 22) hC d_M_plan_4 (by decide) (fun h4 => ?_) (fun h4 => ?_)
    · try have g4 := q_le h4 (by omega) (by omega)
      have ek : k = 5 := by omega
      subst ek
      exact hgo 5 (by decide) (pln_free h hl6 hno)
    · try have g4 := q_nle h4 (by omega) (by omega)
      have hb2 := sl_bd h (show k < 6 by omega)
      refine Zv.aload_n hC d_M_plan_7 rfl ?_
      refine Zv.getr (q := 63) hC d_M_plan_8 fl_M_29 rfl rfl (by decide) (hP _ _ (by decide) (by decide)) ?_
      refine Zv.iload_n hC d_M_plan_11 rfl ?_
      refine Zv.iald hC d_M_plan_12 rfl (by decide) rfl (by omega) (by first | decide | omega) (sl_od h (by omega)) ?_
      refine Zv.if_eq (tgt := 22) hC d_M_plan_13 (by decide) (fun h13 => ?_) (fun h13 => ?_)
      · try have g13 := q_e0 h13 (by omega)
        exact hgo k (by omega) g13
      · try have g13 := q_n0 h13
        refine Zv.iinc hC d_M_plan_16 rfl (by decide) (q_inc _) rfl ?_
        refine Zv.goto (tgt := 2) hC d_M_plan_19 (by decide) ?_
        refine ih (k + 1) (by omega) (fun j hj => ?_)
        by_cases e : j = k
        · subst e; exact g13
        · exact hno j (by omega)
set_option maxRecDepth 100000 in
set_option maxHeartbeats 4000000 in
theorem sm_plan {d : Nat} {tm od : Nat → Nat} {cd : Nat → List Nat} {L : List Nat} {ca : Nat} {c : List Nat} {I : Fm} {P : Fr} {K : Option Fs → Fm → Fr → Prop} (hP : x_ref P) (h : m_pln I tm od cd L [] ca) (hca : ca < 2 ^ 30) (hl6 : L.length < 6) (hc : m_w I c) (hl4 : 4 ≤ c.length) (hK : ∀ I' : Fm, MP I' (e_ins (L.map (fun k => (tm k, cd k))) (e_at c 1 * 256 + e_at c 2) (c.drop 3)) [] (ca + 1) → (∀ j, j ≠ 8 → I' 56 j = I 56 j) → (∀ a, a ≠ 56 → (a < 59 ∨ 62 < a) → I' a = I a) → K none I' P) : Fk d m_M_plan 77 77 0 0 [rf 57] I P K := by
  have hcl := hc.2.1
  have hb1 := e_at_lt hc.2.2.2 1
  have hb2 := e_at_lt hc.2.2.2 2
  refine Fk.intro (by decide +kernel) (Nat.le_of_ble_eq_true rfl) (fun G hC => ?_)
  refine Zv.iconst hC d_M_plan_0 ic_0 ?_
  refine Zv.istore_n hC d_M_plan_1 (by decide) rfl ?_
  refine lm_plan0 hC hP h hca hl6 (fun k hk hk0 => ?_) 6 0 (by omega) (fun j hj => absurd hj (Nat.not_lt_zero j))
  refine Zv.aload_n hC d_M_plan_22 rfl ?_
  refine Zv.dup hC d_M_plan_23 ?_
  refine Zv.geti hC d_M_plan_24 fl_M_113 rfl rfl (by decide) h.1 ?_
  refine Zv.iconst hC d_M_plan_27 ic_1 ?_
  first | refine Zv.iaddN hC d_M_plan_28 ?_ | refine Zv.iadd hC d_M_plan_28 ?_
  refine Zv.puti hC d_M_plan_29 fl_M_113 rfl ck_7 rfl rfl rfl rfl (by decide) ?_
  refine Zv.aload_n hC d_M_plan_32 rfl ?_
  refine Zv.getr (q := 63) hC d_M_plan_33 fl_M_29 rfl rfl (by decide) (hP _ _ (by decide) (by decide)) ?_
  refine Zv.iload_n hC d_M_plan_36 rfl ?_
  refine Zv.aload_n hC d_M_plan_37 rfl ?_
  refine Zv.geti hC d_M_plan_38 fl_M_113 rfl rfl (by decide) f_u_s ?_
  refine Zv.iast hC d_M_plan_41 rfl (by decide) rfl (by omega) (by first | decide | omega) ?_
  refine Zv.aload_n hC d_M_plan_42 rfl ?_
  refine Zv.getr (q := 62) hC d_M_plan_43 fl_M_26 rfl rfl (by decide) (hP _ _ (by decide) (by decide)) ?_
  refine Zv.iload_n hC d_M_plan_46 rfl ?_
  refine Zv.aload_n hC d_M_plan_47 rfl ?_
  refine Zv.getr (q := 59) hC d_M_plan_48 fl_M_17 rfl rfl (by decide) (hP _ _ (by decide) (by decide)) ?_
  refine Zv.iconst hC d_M_plan_51 ic_1 ?_
  refine Zv.iald hC d_M_plan_52 rfl (by decide) rfl (by omega) (by first | decide | omega) (f_ur (by decide) (f_ur (by decide) (hc.2.2.1 1 (by omega)))) ?_
  refine Zv.sipush hC d_M_plan_53 sp_256 ?_
  first | refine Zv.imulN hC d_M_plan_56 ?_ | refine Zv.imul hC d_M_plan_56 ?_
  refine Zv.aload_n hC d_M_plan_57 rfl ?_
  refine Zv.getr (q := 59) hC d_M_plan_58 fl_M_17 rfl rfl (by decide) (hP _ _ (by decide) (by decide)) ?_
  refine Zv.iconst hC d_M_plan_61 ic_2 ?_
  refine Zv.iald hC d_M_plan_62 rfl (by decide) rfl (by omega) (by first | decide | omega) (f_ur (by decide) (f_ur (by decide) (hc.2.2.1 2 (by omega)))) ?_
  first | refine Zv.iaddN hC d_M_plan_63 ?_ | refine Zv.iadd hC d_M_plan_63 ?_
  refine Zv.iast hC d_M_plan_64 rfl (by decide) rfl (by omega) (by first | decide | omega) ?_
  refine Zv.aload_n hC d_M_plan_65 rfl ?_
  refine Zv.getr (q := 61) hC d_M_plan_66 fl_M_23 rfl rfl (by decide) (hP _ _ (by decide) (by decide)) ?_
  refine Zv.iload_n hC d_M_plan_69 rfl ?_
  refine Zv.aload_n hC d_M_plan_70 rfl ?_
  refine Zv.geti hC d_M_plan_71 fl_M_91 rfl rfl (by decide) (f_ur (by decide) (f_ur (by decide) (f_uc (by decide) hc.1))) ?_
  refine Zv.iconst hC d_M_plan_74 ic_3 ?_
  refine Zv.isubN hC d_M_plan_75 (by omega) ?_
  refine Zv.iast hC d_M_plan_76 rfl (by decide) rfl (by omega) (by first | decide | omega) ?_
  refine Zv.iconst hC d_M_plan_77 ic_3 ?_
  refine Zv.istore_n hC d_M_plan_78 (by decide) rfl ?_
  refine lm_plan hC hP hk (by omega) (f_ur (by decide) (f_ur (by decide) (f_ur (by decide) (f_uc (by decide) hc.1)))) (fun i hi => f_ur (by decide) (f_ur (by decide) (f_ur (by decide) (f_ur (by decide) (hc.2.2.1 i hi))))) (fun J c1 c2 c3 => ?_) (c.length - 2) 3 _ (by omega) (by omega) (by omega) (fun _ _ => rfl) (fun j hj h3 => absurd hj (by omega)) (fun _ _ => rfl)
  have r60 := c1 60 (by decide)
  have r61 := c1 61 (by decide)
  have r62 := c1 62 (by decide)
  have r63 := c1 63 (by decide)
  have r56 := c1 56 (by decide)
  refine hK J ⟨_, _, _, _, _, _, pln_ins (c := c.drop 3) (t := e_at c 1 * 256 + e_at c 2) h hk hk0 (by omega) (by rw [List.length_drop]; omega) (fun x hx => hc.2.2.2 x (List.mem_of_mem_drop hx)) ?_ ?_ (fun j hj => ?_) ?_ (fun j hj => ?_) ?_ (fun j hj => ?_) ?_ (fun i hi => ?_) (fun q hq => ?_), Nat.le_refl _, (k_map L (fun z => absurd hk0 ((sl_ac h hk).mpr (Or.inl z)))).symm, rfl⟩ (fun j hj => ?_) (fun a h1 h2 => ?_)
  · rw [r56]; exact f_ur (by decide) (f_ur (by decide) (f_ur (by decide) f_u_s))
  · rw [r62]; exact f_ur (by decide) (f_ur (by decide) f_u_s)
  · rw [r62]; exact f_ur (by decide) (f_ur (by decide) (f_uc hj (f_ur (by decide) rfl)))
  · rw [r61]; exact f_ur (by decide) f_u_s
  · rw [r61]; exact f_ur (by decide) (f_uc hj (f_ur (by decide) (f_ur (by decide) rfl)))
  · rw [r60, List.length_drop]; exact f_u_s
  · rw [r60]; exact f_uc hj (f_ur (by decide) (f_ur (by decide) (f_ur (by decide) rfl)))
  · rw [r63, f_u_ne (by decide), f_u_ne (by decide), f_u_ne (by decide), f_u_ne (by decide)]
  · rw [List.length_drop] at hi
    have := c2 (i + 3) (by omega) (by omega)
    rw [show 12 * k + (i + 3) - 3 = 12 * k + i by omega] at this
    rw [this, e_at_drop, Nat.add_comm]
  · exact (c3 q hq).trans (f_ur (by decide) (f_ur (by decide) (f_ur (by decide) (f_ur (by decide) rfl))))
  · rw [r56]; exact f_ur (by decide) (f_ur (by decide) (f_ur (by decide) (f_uc hj rfl)))
  · rw [c1 a (by omega), f_u_ne (by omega), f_u_ne (by omega), f_u_ne (by omega), f_u_ne h1]
set_option maxRecDepth 100000 in
set_option maxHeartbeats 4000000 in
theorem lm_run {G : Fx} {d : Nat} {tm od : Nat → Nat} {cd : Nat → List Nat} {L D : List Nat} {ca : Nat} {I : Fm} {P : Fr} {K : Option Fs → Fm → Fr → Prop} (hC : Fc G m_M_run d 0 0) (hP : x_ref P) (h : m_pln I tm od cd L D ca) (hK : ∀ J : Fm, (∀ a, a ≠ 62 → J a = I a) → (∀ j, j < 6 → J 62 j = if j ∈ D then I 62 j else nI 0) → K none J P) : ∀ (f i : Nat) (J : Fm), i + f = 7 ∧ i ≤ 6 → (∀ a, a ≠ 62 → J a = I a) → (∀ j, J 62 j = if j < i ∧ ¬ j ∈ D then nI 0 else I 62 j) → Zv G (f_R G K 77 0 0) 77 0 0 20 [(0, rf 57), (1, .inr (nI 2)), (2, .inr (nI i))] [] J P := by
  intro f
  induction f with
  | zero => intro i J h; omega
  | succ f ih =>
    intro i J hi hJ1 hJ2
    refine Zv.iload_n hC d_M_run_20 rfl ?_
    refine Zv.bipush hC d_M_run_21 bp_6 ?_
    refine Zv.icmp_ge (tgt := 53) hC d_M_run_23 (by decide) (fun h23 => ?_) (fun h23 => ?_)
    · try have g23 := q_le h23 (by omega) (by omega)
      have ei : i = 6 := by omega
      subst ei
      refine Zv.vret hC rfl d_M_run_53 (Nat.le_refl _) (Nat.le_refl _) ?_
      exact hK J hJ1 (fun j hj => (hJ2 j).trans (by by_cases e : j ∈ D <;> simp [e, hj]))
    · try have g23 := q_nle h23 (by omega) (by omega)
      have hd2 := dq_2 D i
      refine Zv.iload_n hC d_M_run_26 rfl ?_
      refine Zv.iconst hC d_M_run_27 ic_2 ?_
      refine Zv.icmp_ne (tgt := 53) hC d_M_run_28 (by decide) (fun h28 => ?_) (fun h28 => ?_)
      · try have g28 := q_n h28
        exact absurd rfl g28
      · try have g28 := q_e h28 (by omega) (by omega)
        refine Zv.aload_n hC d_M_run_31 rfl ?_
        refine Zv.getr (q := 64) hC d_M_run_32 fl_M_32 rfl rfl (by decide) (hP _ _ (by decide) (by decide)) ?_
        refine Zv.iload_n hC d_M_run_35 rfl ?_
        refine Zv.zald hC d_M_run_36 rfl (by decide) rfl (by omega) (by first | decide | omega) ((congrFun (hJ1 63 (by decide)) i).trans (sl_du h g23)) ?_
        refine Zv.if_ne (tgt := 47) hC d_M_run_37 (by decide) (fun h37 => ?_) (fun h37 => ?_)
        · try have g37 := q_n0 h37
          refine Zv.iinc hC d_M_run_47 rfl (by decide) (q_inc _) rfl ?_
          refine Zv.goto (tgt := 20) hC d_M_run_50 (by decide) ?_
          refine ih (i + 1) J (by omega) hJ1 (fun j => ?_)
          by_cases e : j = i
          · subst e
            rw [hJ2 j, if_neg (by omega), if_neg (fun z => z.2 (Classical.byContradiction fun q => g37 (if_neg q)))]
          · rw [hJ2 j]
            by_cases e2 : j < i ∧ ¬ j ∈ D
            · rw [if_pos e2, if_pos ⟨by omega, e2.2⟩]
            · rw [if_neg e2, if_neg (fun z => e2 ⟨by omega, z.2⟩)]
        · try have g37 := q_e0 h37 (by omega)
          have e37 : ¬ i ∈ D := fun q => by
            have e1 : dq D i = 1 := if_pos q
            omega
          refine Zv.aload_n hC d_M_run_40 rfl ?_
          refine Zv.getr (q := 63) hC d_M_run_41 fl_M_29 rfl rfl (by decide) (hP _ _ (by decide) (by decide)) ?_
          refine Zv.iload_n hC d_M_run_44 rfl ?_
          refine Zv.iconst hC d_M_run_45 ic_0 ?_
          refine Zv.iast hC d_M_run_46 rfl (by decide) rfl (by omega) (by first | decide | omega) ?_
          refine Zv.iinc hC d_M_run_47 rfl (by decide) (q_inc _) rfl ?_
          refine Zv.goto (tgt := 20) hC d_M_run_50 (by decide) ?_
          refine ih (i + 1) _ (by omega) (fun a h => by rw [f_u_ne h]; exact hJ1 a h) (fun j => ?_)
          by_cases e : j = i
          · subst e
            rw [f_u_s, if_pos ⟨by omega, e37⟩]
          · rw [f_uc e (hJ2 j)]
            by_cases e2 : j < i ∧ ¬ j ∈ D
            · rw [if_pos e2, if_pos ⟨by omega, e2.2⟩]
            · rw [if_neg e2, if_neg (fun z => e2 ⟨by omega, z.2⟩)]
set_option maxRecDepth 100000 in
set_option maxHeartbeats 4000000 in
theorem sm_run {d k : Nat} {tm od : Nat → Nat} {cd : Nat → List Nat} {L D : List Nat} {ca : Nat} {I : Fm} {P : Fr} {K : Option Fs → Fm → Fr → Prop} (hP : x_ref P) (h : m_pln I tm od cd L D ca) (hk : k < 3) (hK0 : k = 0 → K none (f_u I 56 26 (nI 1)) P) (hK1 : k = 1 → K none (f_u I 56 26 (nI 0)) P) (hK2 : k = 2 → ∀ J : Fm, (∀ a, a ≠ 62 → J a = I a) → (∀ j, j < 6 → J 62 j = if j ∈ D then I 62 j else nI 0) → K none J P) : Fk d m_M_run 77 77 0 0 [rf 57, .inr (nI k)] I P K := by
  refine Fk.intro (by decide +kernel) (Nat.le_of_ble_eq_true rfl) (fun G hC => ?_)
  refine Zv.iload_n hC d_M_run_0 rfl ?_
  refine Zv.iconst hC d_M_run_1 ic_2 ?_
  refine Zv.icmp_ge (tgt := 18) hC d_M_run_2 (by decide) (fun h2 => ?_) (fun h2 => ?_)
  · try have g2 := q_le h2 (by omega) (by omega)
    have ek : k = 2 := by omega
    subst ek
    refine Zv.iconst hC d_M_run_18 ic_0 ?_
    refine Zv.istore_n hC d_M_run_19 (by decide) rfl ?_
    exact lm_run hC hP h (hK2 rfl) 7 0 I (by omega) (fun _ _ => rfl) (fun j => (if_neg (by omega)).symm)
  · try have g2 := q_nle h2 (by omega) (by omega)
    refine Zv.aload_n hC d_M_run_5 rfl ?_
    refine Zv.iload_n hC d_M_run_6 rfl ?_
    refine Zv.if_ne (tgt := 14) hC d_M_run_7 (by decide) (fun h7 => ?_) (fun h7 => ?_)
    · try have g7 := q_n0 h7
      refine Zv.iconst hC d_M_run_14 ic_0 ?_
      refine Zv.puti hC d_M_run_15 fl_M_116 rfl ck_7 rfl rfl rfl rfl (by decide) ?_
      refine Zv.iconst hC d_M_run_18 ic_0 ?_
      refine Zv.istore_n hC d_M_run_19 (by decide) rfl ?_
      refine Zv.iload_n hC d_M_run_20 rfl ?_
      refine Zv.bipush hC d_M_run_21 bp_6 ?_
      refine Zv.icmp_ge (tgt := 53) hC d_M_run_23 (by decide) (fun h23 => ?_) (fun h23 => ?_)
      · try have g23 := q_le h23 (by omega) (by omega)
        exact absurd g23 (by decide)
      · try have g23 := q_nle h23 (by omega) (by omega)
        refine Zv.iload_n hC d_M_run_26 rfl ?_
        refine Zv.iconst hC d_M_run_27 ic_2 ?_
        refine Zv.icmp_ne (tgt := 53) hC d_M_run_28 (by decide) (fun h28 => ?_) (fun h28 => ?_)
        · try have g28 := q_n h28
          refine Zv.vret hC rfl d_M_run_53 (Nat.le_refl _) (Nat.le_refl _) ?_
          have e1 : k = 1 := by omega
          subst e1
          exact hK1 rfl
        · try have g28 := q_e h28 (by omega) (by omega)
          exact absurd g28 (by omega)
    · try have g7 := q_e0 h7 (by omega)
      refine Zv.iconst hC d_M_run_10 ic_1 ?_
      refine Zv.goto (tgt := 15) hC d_M_run_11 (by decide) ?_
      refine Zv.puti hC d_M_run_15 fl_M_116 rfl ck_7 rfl rfl rfl rfl (by decide) ?_
      refine Zv.iconst hC d_M_run_18 ic_0 ?_
      refine Zv.istore_n hC d_M_run_19 (by decide) rfl ?_
      refine Zv.iload_n hC d_M_run_20 rfl ?_
      refine Zv.bipush hC d_M_run_21 bp_6 ?_
      refine Zv.icmp_ge (tgt := 53) hC d_M_run_23 (by decide) (fun h23 => ?_) (fun h23 => ?_)
      · try have g23 := q_le h23 (by omega) (by omega)
        exact absurd g23 (by decide)
      · try have g23 := q_nle h23 (by omega) (by omega)
        refine Zv.iload_n hC d_M_run_26 rfl ?_
        refine Zv.iconst hC d_M_run_27 ic_2 ?_
        refine Zv.icmp_ne (tgt := 53) hC d_M_run_28 (by decide) (fun h28 => ?_) (fun h28 => ?_)
        · try have g28 := q_n h28
          refine Zv.vret hC rfl d_M_run_53 (Nat.le_refl _) (Nat.le_refl _) ?_
          exact hK0 g7
        · try have g28 := q_e h28 (by omega) (by omega)
          exact absurd g28 (by omega)
