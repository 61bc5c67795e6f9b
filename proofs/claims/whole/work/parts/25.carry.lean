theorem ref_n1 {σ : Sg} {c : List Nat} (h : s_g σ 1 = 0 ∨ (e_at c 0 = 1 ∨ e_at c 0 = 2 ∨ e_at c 0 = 7 ∨ e_at c 0 = 11)) : ¬ (s_g σ 1 ≠ 0 ∧ ¬ (e_at c 0 = 1 ∨ e_at c 0 = 2 ∨ e_at c 0 = 7 ∨ e_at c 0 = 11)) := fun z => h.elim (fun h => z.1 h) (fun h => z.2 h)
theorem ref_n2 {σ : Sg} {c : List Nat} (h : e_at c 0 ≠ 3 ∨ ¬ 6 ≤ (s_pl σ).length) : ¬ (e_at c 0 = 3 ∧ 6 ≤ (s_pl σ).length) := fun z => h.elim (fun h => h z.1) (fun h => h z.2)
theorem ref_n3 {σ : Sg} {c : List Nat} (h : e_at c 0 ≠ 3 ∨ s_g σ 0 < e_at c 1 * 256 + e_at c 2) : ¬ (e_at c 0 = 3 ∧ e_at c 1 * 256 + e_at c 2 ≤ s_g σ 0) := fun z => h.elim (fun h => h z.1) (fun h => absurd z.2 (by omega))
theorem ref_n4 {σ : Sg} {c : List Nat} (h : e_at c 0 ≠ 5 ∨ ∀ e ∈ s_pl σ, (s_g σ 0 : Int) < e.1 + e_sgz (e_at c 1) ∧ (e.1 : Int) + e_sgz (e_at c 1) ≤ 65535) : ¬ (e_at c 0 = 5 ∧ ¬ ∀ e ∈ s_pl σ, (s_g σ 0 : Int) < e.1 + e_sgz (e_at c 1) ∧ (e.1 : Int) + e_sgz (e_at c 1) ≤ 65535) := fun z => h.elim (fun h => h z.1) (fun h => z.2 h)
theorem ref_add {σ : Sg} {c : List Nat} {k a b : Int32} : e_ref (e_add σ k a b) c = e_ref σ c := by
  unfold e_ref
  rw [add_pl, add_g _ _ _ _ (by decide), add_g _ _ _ _ (by decide)]
set_option maxRecDepth 100000 in
set_option maxHeartbeats 4000000 in
theorem sp_refusal {d k : Nat} {σ : Sg} {cm du : Nat → Nat} {c : List Nat} {I : Fm} {P : Fr} {K : Option Fs → Fm → Fr → Prop} (hX : XR σ cm du I P) (hcl : s_g σ 0 < 2 ^ 30) (hsf : s_g σ 1 < 2) (hk : isCm k) (hc : x_cmd I k c) (hK : K (some (.inr (nI (e_ref σ c)))) I P) : Fk (d + 2) m_D_refusalCode 77 77 0 0 [rf 1, rf (k + 1)] I P K := by
  have hb := e_at_lt hc.2.2.2
  have hb0 := hb 0
  have hpl6 := hX.2.2.2.1.2.1
  refine Fk.intro (by decide +kernel) (Nat.le_of_ble_eq_true rfl) (fun G hC => ?_)
  refine Zv.aload_n hC d_D_refusalCode_0 rfl ?_
  refine Zv.callV0 hC d_D_refusalCode_1 ml_D_134 mk_Cm_service rfl (Nat.le_of_ble_eq_true rfl) hk.1 (by have := hk.2.2.1; omega) ?_
  refine sp_service hk hX.1 hc ?_
  refine Zv.istore_n hC d_D_refusalCode_4 (by decide) rfl ?_
  refine Zv.aload_n hC d_D_refusalCode_5 rfl ?_
  refine Zv.geti hC d_D_refusalCode_6 fl_D_146 rfl rfl (by decide) hX.2.2.1.2.1 ?_
  refine Zv.if_eq (tgt := 21) hC d_D_refusalCode_9 (by decide) (fun h9 => ?_) (fun h9 => ?_)
  · try have g9 := q_e0 h9 (by omega)
    have n1 := ref_n1 (σ := σ) (c := c) (Or.inl g9)
    refine Zv.iload_n hC d_D_refusalCode_21 rfl ?_
    refine Zv.iconst hC d_D_refusalCode_22 ic_3 ?_
    refine Zv.icmp_ne (tgt := 38) hC d_D_refusalCode_23 (by decide) (fun h23 => ?_) (fun h23 => ?_)
    · try have g23 := q_n h23
      have n2 := ref_n2 (σ := σ) (c := c) (Or.inl g23)
      refine Zv.iload_n hC d_D_refusalCode_38 rfl ?_
      refine Zv.iconst hC d_D_refusalCode_39 ic_3 ?_
      refine Zv.icmp_ne (tgt := 57) hC d_D_refusalCode_40 (by decide) (fun h40 => ?_) (fun h40 => ?_)
      · try have g40 := q_n h40
        have n3 := ref_n3 (σ := σ) (c := c) (Or.inl g40)
        refine Zv.iload_n hC d_D_refusalCode_57 rfl ?_
        refine Zv.iconst hC d_D_refusalCode_58 ic_5 ?_
        refine Zv.icmp_ne (tgt := 87) hC d_D_refusalCode_59 (by decide) (fun h59 => ?_) (fun h59 => ?_)
        · try have g59 := q_n h59
          have n4 := ref_n4 (σ := σ) (c := c) (Or.inl g59)
          refine Zv.iconst hC d_D_refusalCode_87 ic_0 ?_
          refine Zv.iret hC rfl d_D_refusalCode_88 (Nat.le_refl _) (Nat.le_refl _) ?_
          rw [show e_ref σ c = 0 from by unfold e_ref; rw [if_neg n1, if_neg n2, if_neg n3, if_neg n4]] at hK
          exact hK
        · try have g59 := q_e h59 (by omega) (by omega)
          refine Zv.aload_n hC d_D_refusalCode_62 rfl ?_
          refine Zv.getr (q := 6) hC d_D_refusalCode_63 fl_D_26 rfl rfl (by decide) (hX.1 _ _ (by decide) (by decide)) ?_
          refine Zv.aload_n hC d_D_refusalCode_66 rfl ?_
          refine Zv.iconst hC d_D_refusalCode_67 ic_1 ?_
          refine Zv.callV1 hC d_D_refusalCode_68 ml_D_190 mk_Cm_part rfl (Nat.le_of_ble_eq_true rfl) hk.1 (by have := hk.2.2.1; omega) ?_
          refine sp_part hk hX.1 hc rfl (by decide) ?_
          refine Zv.callS1 hC d_D_refusalCode_71 ml_D_213 mk_D_signed (Nat.le_of_ble_eq_true rfl) ?_
          refine sp_signed rfl (hb 1) ?_
          refine Zv.aload_n hC d_D_refusalCode_74 rfl ?_
          refine Zv.geti hC d_D_refusalCode_75 fl_D_67 rfl rfl (by decide) hX.2.2.1.1 ?_
          refine Zv.callV2 hC d_D_refusalCode_78 ml_D_235 mk_Pl_canShift rfl (Nat.le_of_ble_eq_true rfl) rfl (by decide) ?_
          refine sp_canShift hX.1 hX.2.2.2.1 (hb 1) hcl (fun r78 hr78 he78 => ?_)
          refine Zv.if_ne (tgt := 87) hC d_D_refusalCode_81 (by decide) (fun h81 => ?_) (fun h81 => ?_)
          · try have g81 := q_n0 h81
            have n4 := ref_n4 (Or.inr (he78.mp g81))
            refine Zv.iconst hC d_D_refusalCode_87 ic_0 ?_
            refine Zv.iret hC rfl d_D_refusalCode_88 (Nat.le_refl _) (Nat.le_refl _) ?_
            rw [show e_ref σ c = 0 from by unfold e_ref; rw [if_neg n1, if_neg n2, if_neg n3, if_neg n4]] at hK
            exact hK
          · try have g81 := q_e0 h81 (by omega)
            refine Zv.bipush hC d_D_refusalCode_84 bp_6 ?_
            refine Zv.iret hC rfl d_D_refusalCode_86 (Nat.le_refl _) (Nat.le_refl _) ?_
            rw [show e_ref σ c = 6 from by unfold e_ref; rw [if_neg n1, if_neg n2, if_neg n3, if_pos ⟨g59, fun z => absurd (he78.mpr z) (by omega)⟩]] at hK
            exact hK
      · try have g40 := q_e h40 (by omega) (by omega)
        have hb1 := hb 1
        have hb2 := hb 2
        refine Zv.aload_n hC d_D_refusalCode_43 rfl ?_
        refine Zv.callS1 hC d_D_refusalCode_44 ml_D_232 mk_D_timeOf (Nat.le_of_ble_eq_true rfl) ?_
        refine sp_timeOf hk hX.1 hc ?_
        refine Zv.aload_n hC d_D_refusalCode_47 rfl ?_
        refine Zv.geti hC d_D_refusalCode_48 fl_D_67 rfl rfl (by decide) hX.2.2.1.1 ?_
        refine Zv.icmp_gt (tgt := 57) hC d_D_refusalCode_51 (by decide) (fun h51 => ?_) (fun h51 => ?_)
        · try have g51 := q_l h51 (by omega) (by omega)
          have n3 := ref_n3 (Or.inr g51)
          refine Zv.iload_n hC d_D_refusalCode_57 rfl ?_
          refine Zv.iconst hC d_D_refusalCode_58 ic_5 ?_
          refine Zv.icmp_ne (tgt := 87) hC d_D_refusalCode_59 (by decide) (fun h59 => ?_) (fun h59 => ?_)
          · try have g59 := q_n h59
            have n4 := ref_n4 (σ := σ) (c := c) (Or.inl g59)
            refine Zv.iconst hC d_D_refusalCode_87 ic_0 ?_
            refine Zv.iret hC rfl d_D_refusalCode_88 (Nat.le_refl _) (Nat.le_refl _) ?_
            rw [show e_ref σ c = 0 from by unfold e_ref; rw [if_neg n1, if_neg n2, if_neg n3, if_neg n4]] at hK
            exact hK
          · try have g59 := q_e h59 (by omega) (by omega)
            refine Zv.aload_n hC d_D_refusalCode_62 rfl ?_
            refine Zv.getr (q := 6) hC d_D_refusalCode_63 fl_D_26 rfl rfl (by decide) (hX.1 _ _ (by decide) (by decide)) ?_
            refine Zv.aload_n hC d_D_refusalCode_66 rfl ?_
            refine Zv.iconst hC d_D_refusalCode_67 ic_1 ?_
            refine Zv.callV1 hC d_D_refusalCode_68 ml_D_190 mk_Cm_part rfl (Nat.le_of_ble_eq_true rfl) hk.1 (by have := hk.2.2.1; omega) ?_
            refine sp_part hk hX.1 hc rfl (by decide) ?_
            refine Zv.callS1 hC d_D_refusalCode_71 ml_D_213 mk_D_signed (Nat.le_of_ble_eq_true rfl) ?_
            refine sp_signed rfl (hb 1) ?_
            refine Zv.aload_n hC d_D_refusalCode_74 rfl ?_
            refine Zv.geti hC d_D_refusalCode_75 fl_D_67 rfl rfl (by decide) hX.2.2.1.1 ?_
            refine Zv.callV2 hC d_D_refusalCode_78 ml_D_235 mk_Pl_canShift rfl (Nat.le_of_ble_eq_true rfl) rfl (by decide) ?_
            refine sp_canShift hX.1 hX.2.2.2.1 (hb 1) hcl (fun r78 hr78 he78 => ?_)
            refine Zv.if_ne (tgt := 87) hC d_D_refusalCode_81 (by decide) (fun h81 => ?_) (fun h81 => ?_)
            · try have g81 := q_n0 h81
              have n4 := ref_n4 (Or.inr (he78.mp g81))
              refine Zv.iconst hC d_D_refusalCode_87 ic_0 ?_
              refine Zv.iret hC rfl d_D_refusalCode_88 (Nat.le_refl _) (Nat.le_refl _) ?_
              rw [show e_ref σ c = 0 from by unfold e_ref; rw [if_neg n1, if_neg n2, if_neg n3, if_neg n4]] at hK
              exact hK
            · try have g81 := q_e0 h81 (by omega)
              refine Zv.bipush hC d_D_refusalCode_84 bp_6 ?_
              refine Zv.iret hC rfl d_D_refusalCode_86 (Nat.le_refl _) (Nat.le_refl _) ?_
              rw [show e_ref σ c = 6 from by unfold e_ref; rw [if_neg n1, if_neg n2, if_neg n3, if_pos ⟨g59, fun z => absurd (he78.mpr z) (by omega)⟩]] at hK
              exact hK
        · try have g51 := q_nl h51 (by omega) (by omega)
          refine Zv.bipush hC d_D_refusalCode_54 bp_6 ?_
          refine Zv.iret hC rfl d_D_refusalCode_56 (Nat.le_refl _) (Nat.le_refl _) ?_
          rw [show e_ref σ c = 6 from by unfold e_ref; rw [if_neg n1, if_neg n2, if_pos ⟨g40, g51⟩]] at hK
          exact hK
    · try have g23 := q_e h23 (by omega) (by omega)
      refine Zv.aload_n hC d_D_refusalCode_26 rfl ?_
      refine Zv.getr (q := 6) hC d_D_refusalCode_27 fl_D_26 rfl rfl (by decide) (hX.1 _ _ (by decide) (by decide)) ?_
      refine Zv.callV0 hC d_D_refusalCode_30 ml_D_229 mk_Pl_isFull rfl (Nat.le_of_ble_eq_true rfl) rfl (by decide) ?_
      refine sp_isFull hX.2.2.2.1 (fun r30 hr30 he30 => ?_)
      refine Zv.if_eq (tgt := 38) hC d_D_refusalCode_33 (by decide) (fun h33 => ?_) (fun h33 => ?_)
      · try have g33 := q_e0 h33 (by omega)
        have n2 := ref_n2 (σ := σ) (c := c) (Or.inr (fun z => absurd (he30.mpr z) (by omega)))
        refine Zv.iload_n hC d_D_refusalCode_38 rfl ?_
        refine Zv.iconst hC d_D_refusalCode_39 ic_3 ?_
        refine Zv.icmp_ne (tgt := 57) hC d_D_refusalCode_40 (by decide) (fun h40 => ?_) (fun h40 => ?_)
        · try have g40 := q_n h40
          have n3 := ref_n3 (σ := σ) (c := c) (Or.inl g40)
          refine Zv.iload_n hC d_D_refusalCode_57 rfl ?_
          refine Zv.iconst hC d_D_refusalCode_58 ic_5 ?_
          refine Zv.icmp_ne (tgt := 87) hC d_D_refusalCode_59 (by decide) (fun h59 => ?_) (fun h59 => ?_)
          · try have g59 := q_n h59
            have n4 := ref_n4 (σ := σ) (c := c) (Or.inl g59)
            refine Zv.iconst hC d_D_refusalCode_87 ic_0 ?_
            refine Zv.iret hC rfl d_D_refusalCode_88 (Nat.le_refl _) (Nat.le_refl _) ?_
            rw [show e_ref σ c = 0 from by unfold e_ref; rw [if_neg n1, if_neg n2, if_neg n3, if_neg n4]] at hK
            exact hK
          · try have g59 := q_e h59 (by omega) (by omega)
            refine Zv.aload_n hC d_D_refusalCode_62 rfl ?_
            refine Zv.getr (q := 6) hC d_D_refusalCode_63 fl_D_26 rfl rfl (by decide) (hX.1 _ _ (by decide) (by decide)) ?_
            refine Zv.aload_n hC d_D_refusalCode_66 rfl ?_
            refine Zv.iconst hC d_D_refusalCode_67 ic_1 ?_
            refine Zv.callV1 hC d_D_refusalCode_68 ml_D_190 mk_Cm_part rfl (Nat.le_of_ble_eq_true rfl) hk.1 (by have := hk.2.2.1; omega) ?_
            refine sp_part hk hX.1 hc rfl (by decide) ?_
            refine Zv.callS1 hC d_D_refusalCode_71 ml_D_213 mk_D_signed (Nat.le_of_ble_eq_true rfl) ?_
            refine sp_signed rfl (hb 1) ?_
            refine Zv.aload_n hC d_D_refusalCode_74 rfl ?_
            refine Zv.geti hC d_D_refusalCode_75 fl_D_67 rfl rfl (by decide) hX.2.2.1.1 ?_
            refine Zv.callV2 hC d_D_refusalCode_78 ml_D_235 mk_Pl_canShift rfl (Nat.le_of_ble_eq_true rfl) rfl (by decide) ?_
            refine sp_canShift hX.1 hX.2.2.2.1 (hb 1) hcl (fun r78 hr78 he78 => ?_)
            refine Zv.if_ne (tgt := 87) hC d_D_refusalCode_81 (by decide) (fun h81 => ?_) (fun h81 => ?_)
            · try have g81 := q_n0 h81
              have n4 := ref_n4 (Or.inr (he78.mp g81))
              refine Zv.iconst hC d_D_refusalCode_87 ic_0 ?_
              refine Zv.iret hC rfl d_D_refusalCode_88 (Nat.le_refl _) (Nat.le_refl _) ?_
              rw [show e_ref σ c = 0 from by unfold e_ref; rw [if_neg n1, if_neg n2, if_neg n3, if_neg n4]] at hK
              exact hK
            · try have g81 := q_e0 h81 (by omega)
              refine Zv.bipush hC d_D_refusalCode_84 bp_6 ?_
              refine Zv.iret hC rfl d_D_refusalCode_86 (Nat.le_refl _) (Nat.le_refl _) ?_
              rw [show e_ref σ c = 6 from by unfold e_ref; rw [if_neg n1, if_neg n2, if_neg n3, if_pos ⟨g59, fun z => absurd (he78.mpr z) (by omega)⟩]] at hK
              exact hK
        · try have g40 := q_e h40 (by omega) (by omega)
          have hb1 := hb 1
          have hb2 := hb 2
          refine Zv.aload_n hC d_D_refusalCode_43 rfl ?_
          refine Zv.callS1 hC d_D_refusalCode_44 ml_D_232 mk_D_timeOf (Nat.le_of_ble_eq_true rfl) ?_
          refine sp_timeOf hk hX.1 hc ?_
          refine Zv.aload_n hC d_D_refusalCode_47 rfl ?_
          refine Zv.geti hC d_D_refusalCode_48 fl_D_67 rfl rfl (by decide) hX.2.2.1.1 ?_
          refine Zv.icmp_gt (tgt := 57) hC d_D_refusalCode_51 (by decide) (fun h51 => ?_) (fun h51 => ?_)
          · try have g51 := q_l h51 (by omega) (by omega)
            have n3 := ref_n3 (Or.inr g51)
            refine Zv.iload_n hC d_D_refusalCode_57 rfl ?_
            refine Zv.iconst hC d_D_refusalCode_58 ic_5 ?_
            refine Zv.icmp_ne (tgt := 87) hC d_D_refusalCode_59 (by decide) (fun h59 => ?_) (fun h59 => ?_)
            · try have g59 := q_n h59
              have n4 := ref_n4 (σ := σ) (c := c) (Or.inl g59)
              refine Zv.iconst hC d_D_refusalCode_87 ic_0 ?_
              refine Zv.iret hC rfl d_D_refusalCode_88 (Nat.le_refl _) (Nat.le_refl _) ?_
              rw [show e_ref σ c = 0 from by unfold e_ref; rw [if_neg n1, if_neg n2, if_neg n3, if_neg n4]] at hK
              exact hK
            · try have g59 := q_e h59 (by omega) (by omega)
              refine Zv.aload_n hC d_D_refusalCode_62 rfl ?_
              refine Zv.getr (q := 6) hC d_D_refusalCode_63 fl_D_26 rfl rfl (by decide) (hX.1 _ _ (by decide) (by decide)) ?_
              refine Zv.aload_n hC d_D_refusalCode_66 rfl ?_
              refine Zv.iconst hC d_D_refusalCode_67 ic_1 ?_
              refine Zv.callV1 hC d_D_refusalCode_68 ml_D_190 mk_Cm_part rfl (Nat.le_of_ble_eq_true rfl) hk.1 (by have := hk.2.2.1; omega) ?_
              refine sp_part hk hX.1 hc rfl (by decide) ?_
              refine Zv.callS1 hC d_D_refusalCode_71 ml_D_213 mk_D_signed (Nat.le_of_ble_eq_true rfl) ?_
              refine sp_signed rfl (hb 1) ?_
              refine Zv.aload_n hC d_D_refusalCode_74 rfl ?_
              refine Zv.geti hC d_D_refusalCode_75 fl_D_67 rfl rfl (by decide) hX.2.2.1.1 ?_
              refine Zv.callV2 hC d_D_refusalCode_78 ml_D_235 mk_Pl_canShift rfl (Nat.le_of_ble_eq_true rfl) rfl (by decide) ?_
              refine sp_canShift hX.1 hX.2.2.2.1 (hb 1) hcl (fun r78 hr78 he78 => ?_)
              refine Zv.if_ne (tgt := 87) hC d_D_refusalCode_81 (by decide) (fun h81 => ?_) (fun h81 => ?_)
              · try have g81 := q_n0 h81
                have n4 := ref_n4 (Or.inr (he78.mp g81))
                refine Zv.iconst hC d_D_refusalCode_87 ic_0 ?_
                refine Zv.iret hC rfl d_D_refusalCode_88 (Nat.le_refl _) (Nat.le_refl _) ?_
                rw [show e_ref σ c = 0 from by unfold e_ref; rw [if_neg n1, if_neg n2, if_neg n3, if_neg n4]] at hK
                exact hK
              · try have g81 := q_e0 h81 (by omega)
                refine Zv.bipush hC d_D_refusalCode_84 bp_6 ?_
                refine Zv.iret hC rfl d_D_refusalCode_86 (Nat.le_refl _) (Nat.le_refl _) ?_
                rw [show e_ref σ c = 6 from by unfold e_ref; rw [if_neg n1, if_neg n2, if_neg n3, if_pos ⟨g59, fun z => absurd (he78.mpr z) (by omega)⟩]] at hK
                exact hK
          · try have g51 := q_nl h51 (by omega) (by omega)
            refine Zv.bipush hC d_D_refusalCode_54 bp_6 ?_
            refine Zv.iret hC rfl d_D_refusalCode_56 (Nat.le_refl _) (Nat.le_refl _) ?_
            rw [show e_ref σ c = 6 from by unfold e_ref; rw [if_neg n1, if_neg n2, if_pos ⟨g40, g51⟩]] at hK
            exact hK
      · try have g33 := q_n0 h33
        refine Zv.iconst hC d_D_refusalCode_36 ic_5 ?_
        refine Zv.iret hC rfl d_D_refusalCode_37 (Nat.le_refl _) (Nat.le_refl _) ?_
        rw [show e_ref σ c = 5 from by unfold e_ref; rw [if_neg n1, if_pos ⟨g23, he30.mp g33⟩]] at hK
        exact hK
  · try have g9 := q_n0 h9
    refine Zv.iload_n hC d_D_refusalCode_12 rfl ?_
    refine Zv.callS1 hC d_D_refusalCode_13 ml_D_226 mk_D_isAllowedWhenSafe (Nat.le_of_ble_eq_true rfl) ?_
    refine sp_allowedN rfl (hb 0) (fun r13 hr13 he13 => ?_)
    refine Zv.if_ne (tgt := 21) hC d_D_refusalCode_16 (by decide) (fun h16 => ?_) (fun h16 => ?_)
    · try have g16 := q_n0 h16
      have n1 := ref_n1 (σ := σ) (c := c) (Or.inr (he13.mp g16))
      refine Zv.iload_n hC d_D_refusalCode_21 rfl ?_
      refine Zv.iconst hC d_D_refusalCode_22 ic_3 ?_
      refine Zv.icmp_ne (tgt := 38) hC d_D_refusalCode_23 (by decide) (fun h23 => ?_) (fun h23 => ?_)
      · try have g23 := q_n h23
        have n2 := ref_n2 (σ := σ) (c := c) (Or.inl g23)
        refine Zv.iload_n hC d_D_refusalCode_38 rfl ?_
        refine Zv.iconst hC d_D_refusalCode_39 ic_3 ?_
        refine Zv.icmp_ne (tgt := 57) hC d_D_refusalCode_40 (by decide) (fun h40 => ?_) (fun h40 => ?_)
        · try have g40 := q_n h40
          have n3 := ref_n3 (σ := σ) (c := c) (Or.inl g40)
          refine Zv.iload_n hC d_D_refusalCode_57 rfl ?_
          refine Zv.iconst hC d_D_refusalCode_58 ic_5 ?_
          refine Zv.icmp_ne (tgt := 87) hC d_D_refusalCode_59 (by decide) (fun h59 => ?_) (fun h59 => ?_)
          · try have g59 := q_n h59
            have n4 := ref_n4 (σ := σ) (c := c) (Or.inl g59)
            refine Zv.iconst hC d_D_refusalCode_87 ic_0 ?_
            refine Zv.iret hC rfl d_D_refusalCode_88 (Nat.le_refl _) (Nat.le_refl _) ?_
            rw [show e_ref σ c = 0 from by unfold e_ref; rw [if_neg n1, if_neg n2, if_neg n3, if_neg n4]] at hK
            exact hK
          · try have g59 := q_e h59 (by omega) (by omega)
            refine Zv.aload_n hC d_D_refusalCode_62 rfl ?_
            refine Zv.getr (q := 6) hC d_D_refusalCode_63 fl_D_26 rfl rfl (by decide) (hX.1 _ _ (by decide) (by decide)) ?_
            refine Zv.aload_n hC d_D_refusalCode_66 rfl ?_
            refine Zv.iconst hC d_D_refusalCode_67 ic_1 ?_
            refine Zv.callV1 hC d_D_refusalCode_68 ml_D_190 mk_Cm_part rfl (Nat.le_of_ble_eq_true rfl) hk.1 (by have := hk.2.2.1; omega) ?_
            refine sp_part hk hX.1 hc rfl (by decide) ?_
            refine Zv.callS1 hC d_D_refusalCode_71 ml_D_213 mk_D_signed (Nat.le_of_ble_eq_true rfl) ?_
            refine sp_signed rfl (hb 1) ?_
            refine Zv.aload_n hC d_D_refusalCode_74 rfl ?_
            refine Zv.geti hC d_D_refusalCode_75 fl_D_67 rfl rfl (by decide) hX.2.2.1.1 ?_
            refine Zv.callV2 hC d_D_refusalCode_78 ml_D_235 mk_Pl_canShift rfl (Nat.le_of_ble_eq_true rfl) rfl (by decide) ?_
            refine sp_canShift hX.1 hX.2.2.2.1 (hb 1) hcl (fun r78 hr78 he78 => ?_)
            refine Zv.if_ne (tgt := 87) hC d_D_refusalCode_81 (by decide) (fun h81 => ?_) (fun h81 => ?_)
            · try have g81 := q_n0 h81
              have n4 := ref_n4 (Or.inr (he78.mp g81))
              refine Zv.iconst hC d_D_refusalCode_87 ic_0 ?_
              refine Zv.iret hC rfl d_D_refusalCode_88 (Nat.le_refl _) (Nat.le_refl _) ?_
              rw [show e_ref σ c = 0 from by unfold e_ref; rw [if_neg n1, if_neg n2, if_neg n3, if_neg n4]] at hK
              exact hK
            · try have g81 := q_e0 h81 (by omega)
              refine Zv.bipush hC d_D_refusalCode_84 bp_6 ?_
              refine Zv.iret hC rfl d_D_refusalCode_86 (Nat.le_refl _) (Nat.le_refl _) ?_
              rw [show e_ref σ c = 6 from by unfold e_ref; rw [if_neg n1, if_neg n2, if_neg n3, if_pos ⟨g59, fun z => absurd (he78.mpr z) (by omega)⟩]] at hK
              exact hK
        · try have g40 := q_e h40 (by omega) (by omega)
          have hb1 := hb 1
          have hb2 := hb 2
          refine Zv.aload_n hC d_D_refusalCode_43 rfl ?_
          refine Zv.callS1 hC d_D_refusalCode_44 ml_D_232 mk_D_timeOf (Nat.le_of_ble_eq_true rfl) ?_
          refine sp_timeOf hk hX.1 hc ?_
          refine Zv.aload_n hC d_D_refusalCode_47 rfl ?_
          refine Zv.geti hC d_D_refusalCode_48 fl_D_67 rfl rfl (by decide) hX.2.2.1.1 ?_
          refine Zv.icmp_gt (tgt := 57) hC d_D_refusalCode_51 (by decide) (fun h51 => ?_) (fun h51 => ?_)
          · try have g51 := q_l h51 (by omega) (by omega)
            have n3 := ref_n3 (Or.inr g51)
            refine Zv.iload_n hC d_D_refusalCode_57 rfl ?_
            refine Zv.iconst hC d_D_refusalCode_58 ic_5 ?_
            refine Zv.icmp_ne (tgt := 87) hC d_D_refusalCode_59 (by decide) (fun h59 => ?_) (fun h59 => ?_)
            · try have g59 := q_n h59
              have n4 := ref_n4 (σ := σ) (c := c) (Or.inl g59)
              refine Zv.iconst hC d_D_refusalCode_87 ic_0 ?_
              refine Zv.iret hC rfl d_D_refusalCode_88 (Nat.le_refl _) (Nat.le_refl _) ?_
              rw [show e_ref σ c = 0 from by unfold e_ref; rw [if_neg n1, if_neg n2, if_neg n3, if_neg n4]] at hK
              exact hK
            · try have g59 := q_e h59 (by omega) (by omega)
              refine Zv.aload_n hC d_D_refusalCode_62 rfl ?_
              refine Zv.getr (q := 6) hC d_D_refusalCode_63 fl_D_26 rfl rfl (by decide) (hX.1 _ _ (by decide) (by decide)) ?_
              refine Zv.aload_n hC d_D_refusalCode_66 rfl ?_
              refine Zv.iconst hC d_D_refusalCode_67 ic_1 ?_
              refine Zv.callV1 hC d_D_refusalCode_68 ml_D_190 mk_Cm_part rfl (Nat.le_of_ble_eq_true rfl) hk.1 (by have := hk.2.2.1; omega) ?_
              refine sp_part hk hX.1 hc rfl (by decide) ?_
              refine Zv.callS1 hC d_D_refusalCode_71 ml_D_213 mk_D_signed (Nat.le_of_ble_eq_true rfl) ?_
              refine sp_signed rfl (hb 1) ?_
              refine Zv.aload_n hC d_D_refusalCode_74 rfl ?_
              refine Zv.geti hC d_D_refusalCode_75 fl_D_67 rfl rfl (by decide) hX.2.2.1.1 ?_
              refine Zv.callV2 hC d_D_refusalCode_78 ml_D_235 mk_Pl_canShift rfl (Nat.le_of_ble_eq_true rfl) rfl (by decide) ?_
              refine sp_canShift hX.1 hX.2.2.2.1 (hb 1) hcl (fun r78 hr78 he78 => ?_)
              refine Zv.if_ne (tgt := 87) hC d_D_refusalCode_81 (by decide) (fun h81 => ?_) (fun h81 => ?_)
              · try have g81 := q_n0 h81
                have n4 := ref_n4 (Or.inr (he78.mp g81))
                refine Zv.iconst hC d_D_refusalCode_87 ic_0 ?_
                refine Zv.iret hC rfl d_D_refusalCode_88 (Nat.le_refl _) (Nat.le_refl _) ?_
                rw [show e_ref σ c = 0 from by unfold e_ref; rw [if_neg n1, if_neg n2, if_neg n3, if_neg n4]] at hK
                exact hK
              · try have g81 := q_e0 h81 (by omega)
                refine Zv.bipush hC d_D_refusalCode_84 bp_6 ?_
                refine Zv.iret hC rfl d_D_refusalCode_86 (Nat.le_refl _) (Nat.le_refl _) ?_
                rw [show e_ref σ c = 6 from by unfold e_ref; rw [if_neg n1, if_neg n2, if_neg n3, if_pos ⟨g59, fun z => absurd (he78.mpr z) (by omega)⟩]] at hK
                exact hK
          · try have g51 := q_nl h51 (by omega) (by omega)
            refine Zv.bipush hC d_D_refusalCode_54 bp_6 ?_
            refine Zv.iret hC rfl d_D_refusalCode_56 (Nat.le_refl _) (Nat.le_refl _) ?_
            rw [show e_ref σ c = 6 from by unfold e_ref; rw [if_neg n1, if_neg n2, if_pos ⟨g40, g51⟩]] at hK
            exact hK
      · try have g23 := q_e h23 (by omega) (by omega)
        refine Zv.aload_n hC d_D_refusalCode_26 rfl ?_
        refine Zv.getr (q := 6) hC d_D_refusalCode_27 fl_D_26 rfl rfl (by decide) (hX.1 _ _ (by decide) (by decide)) ?_
        refine Zv.callV0 hC d_D_refusalCode_30 ml_D_229 mk_Pl_isFull rfl (Nat.le_of_ble_eq_true rfl) rfl (by decide) ?_
        refine sp_isFull hX.2.2.2.1 (fun r30 hr30 he30 => ?_)
        refine Zv.if_eq (tgt := 38) hC d_D_refusalCode_33 (by decide) (fun h33 => ?_) (fun h33 => ?_)
        · try have g33 := q_e0 h33 (by omega)
          have n2 := ref_n2 (σ := σ) (c := c) (Or.inr (fun z => absurd (he30.mpr z) (by omega)))
          refine Zv.iload_n hC d_D_refusalCode_38 rfl ?_
          refine Zv.iconst hC d_D_refusalCode_39 ic_3 ?_
          refine Zv.icmp_ne (tgt := 57) hC d_D_refusalCode_40 (by decide) (fun h40 => ?_) (fun h40 => ?_)
          · try have g40 := q_n h40
            have n3 := ref_n3 (σ := σ) (c := c) (Or.inl g40)
            refine Zv.iload_n hC d_D_refusalCode_57 rfl ?_
            refine Zv.iconst hC d_D_refusalCode_58 ic_5 ?_
            refine Zv.icmp_ne (tgt := 87) hC d_D_refusalCode_59 (by decide) (fun h59 => ?_) (fun h59 => ?_)
            · try have g59 := q_n h59
              have n4 := ref_n4 (σ := σ) (c := c) (Or.inl g59)
              refine Zv.iconst hC d_D_refusalCode_87 ic_0 ?_
              refine Zv.iret hC rfl d_D_refusalCode_88 (Nat.le_refl _) (Nat.le_refl _) ?_
              rw [show e_ref σ c = 0 from by unfold e_ref; rw [if_neg n1, if_neg n2, if_neg n3, if_neg n4]] at hK
              exact hK
            · try have g59 := q_e h59 (by omega) (by omega)
              refine Zv.aload_n hC d_D_refusalCode_62 rfl ?_
              refine Zv.getr (q := 6) hC d_D_refusalCode_63 fl_D_26 rfl rfl (by decide) (hX.1 _ _ (by decide) (by decide)) ?_
              refine Zv.aload_n hC d_D_refusalCode_66 rfl ?_
              refine Zv.iconst hC d_D_refusalCode_67 ic_1 ?_
              refine Zv.callV1 hC d_D_refusalCode_68 ml_D_190 mk_Cm_part rfl (Nat.le_of_ble_eq_true rfl) hk.1 (by have := hk.2.2.1; omega) ?_
              refine sp_part hk hX.1 hc rfl (by decide) ?_
              refine Zv.callS1 hC d_D_refusalCode_71 ml_D_213 mk_D_signed (Nat.le_of_ble_eq_true rfl) ?_
              refine sp_signed rfl (hb 1) ?_
              refine Zv.aload_n hC d_D_refusalCode_74 rfl ?_
              refine Zv.geti hC d_D_refusalCode_75 fl_D_67 rfl rfl (by decide) hX.2.2.1.1 ?_
              refine Zv.callV2 hC d_D_refusalCode_78 ml_D_235 mk_Pl_canShift rfl (Nat.le_of_ble_eq_true rfl) rfl (by decide) ?_
              refine sp_canShift hX.1 hX.2.2.2.1 (hb 1) hcl (fun r78 hr78 he78 => ?_)
              refine Zv.if_ne (tgt := 87) hC d_D_refusalCode_81 (by decide) (fun h81 => ?_) (fun h81 => ?_)
              · try have g81 := q_n0 h81
                have n4 := ref_n4 (Or.inr (he78.mp g81))
                refine Zv.iconst hC d_D_refusalCode_87 ic_0 ?_
                refine Zv.iret hC rfl d_D_refusalCode_88 (Nat.le_refl _) (Nat.le_refl _) ?_
                rw [show e_ref σ c = 0 from by unfold e_ref; rw [if_neg n1, if_neg n2, if_neg n3, if_neg n4]] at hK
                exact hK
              · try have g81 := q_e0 h81 (by omega)
                refine Zv.bipush hC d_D_refusalCode_84 bp_6 ?_
                refine Zv.iret hC rfl d_D_refusalCode_86 (Nat.le_refl _) (Nat.le_refl _) ?_
                rw [show e_ref σ c = 6 from by unfold e_ref; rw [if_neg n1, if_neg n2, if_neg n3, if_pos ⟨g59, fun z => absurd (he78.mpr z) (by omega)⟩]] at hK
                exact hK
          · try have g40 := q_e h40 (by omega) (by omega)
            have hb1 := hb 1
            have hb2 := hb 2
            refine Zv.aload_n hC d_D_refusalCode_43 rfl ?_
            refine Zv.callS1 hC d_D_refusalCode_44 ml_D_232 mk_D_timeOf (Nat.le_of_ble_eq_true rfl) ?_
            refine sp_timeOf hk hX.1 hc ?_
            refine Zv.aload_n hC d_D_refusalCode_47 rfl ?_
            refine Zv.geti hC d_D_refusalCode_48 fl_D_67 rfl rfl (by decide) hX.2.2.1.1 ?_
            refine Zv.icmp_gt (tgt := 57) hC d_D_refusalCode_51 (by decide) (fun h51 => ?_) (fun h51 => ?_)
            · try have g51 := q_l h51 (by omega) (by omega)
              have n3 := ref_n3 (Or.inr g51)
              refine Zv.iload_n hC d_D_refusalCode_57 rfl ?_
              refine Zv.iconst hC d_D_refusalCode_58 ic_5 ?_
              refine Zv.icmp_ne (tgt := 87) hC d_D_refusalCode_59 (by decide) (fun h59 => ?_) (fun h59 => ?_)
              · try have g59 := q_n h59
                have n4 := ref_n4 (σ := σ) (c := c) (Or.inl g59)
                refine Zv.iconst hC d_D_refusalCode_87 ic_0 ?_
                refine Zv.iret hC rfl d_D_refusalCode_88 (Nat.le_refl _) (Nat.le_refl _) ?_
                rw [show e_ref σ c = 0 from by unfold e_ref; rw [if_neg n1, if_neg n2, if_neg n3, if_neg n4]] at hK
                exact hK
              · try have g59 := q_e h59 (by omega) (by omega)
                refine Zv.aload_n hC d_D_refusalCode_62 rfl ?_
                refine Zv.getr (q := 6) hC d_D_refusalCode_63 fl_D_26 rfl rfl (by decide) (hX.1 _ _ (by decide) (by decide)) ?_
                refine Zv.aload_n hC d_D_refusalCode_66 rfl ?_
                refine Zv.iconst hC d_D_refusalCode_67 ic_1 ?_
                refine Zv.callV1 hC d_D_refusalCode_68 ml_D_190 mk_Cm_part rfl (Nat.le_of_ble_eq_true rfl) hk.1 (by have := hk.2.2.1; omega) ?_
                refine sp_part hk hX.1 hc rfl (by decide) ?_
                refine Zv.callS1 hC d_D_refusalCode_71 ml_D_213 mk_D_signed (Nat.le_of_ble_eq_true rfl) ?_
                refine sp_signed rfl (hb 1) ?_
                refine Zv.aload_n hC d_D_refusalCode_74 rfl ?_
                refine Zv.geti hC d_D_refusalCode_75 fl_D_67 rfl rfl (by decide) hX.2.2.1.1 ?_
                refine Zv.callV2 hC d_D_refusalCode_78 ml_D_235 mk_Pl_canShift rfl (Nat.le_of_ble_eq_true rfl) rfl (by decide) ?_
                refine sp_canShift hX.1 hX.2.2.2.1 (hb 1) hcl (fun r78 hr78 he78 => ?_)
                refine Zv.if_ne (tgt := 87) hC d_D_refusalCode_81 (by decide) (fun h81 => ?_) (fun h81 => ?_)
                · try have g81 := q_n0 h81
                  have n4 := ref_n4 (Or.inr (he78.mp g81))
                  refine Zv.iconst hC d_D_refusalCode_87 ic_0 ?_
                  refine Zv.iret hC rfl d_D_refusalCode_88 (Nat.le_refl _) (Nat.le_refl _) ?_
                  rw [show e_ref σ c = 0 from by unfold e_ref; rw [if_neg n1, if_neg n2, if_neg n3, if_neg n4]] at hK
                  exact hK
                · try have g81 := q_e0 h81 (by omega)
                  refine Zv.bipush hC d_D_refusalCode_84 bp_6 ?_
                  refine Zv.iret hC rfl d_D_refusalCode_86 (Nat.le_refl _) (Nat.le_refl _) ?_
                  rw [show e_ref σ c = 6 from by unfold e_ref; rw [if_neg n1, if_neg n2, if_neg n3, if_pos ⟨g59, fun z => absurd (he78.mpr z) (by omega)⟩]] at hK
                  exact hK
            · try have g51 := q_nl h51 (by omega) (by omega)
              refine Zv.bipush hC d_D_refusalCode_54 bp_6 ?_
              refine Zv.iret hC rfl d_D_refusalCode_56 (Nat.le_refl _) (Nat.le_refl _) ?_
              rw [show e_ref σ c = 6 from by unfold e_ref; rw [if_neg n1, if_neg n2, if_pos ⟨g40, g51⟩]] at hK
              exact hK
        · try have g33 := q_n0 h33
          refine Zv.iconst hC d_D_refusalCode_36 ic_5 ?_
          refine Zv.iret hC rfl d_D_refusalCode_37 (Nat.le_refl _) (Nat.le_refl _) ?_
          rw [show e_ref σ c = 5 from by unfold e_ref; rw [if_neg n1, if_pos ⟨g23, he30.mp g33⟩]] at hK
          exact hK
    · try have g16 := q_e0 h16 (by omega)
      refine Zv.iconst hC d_D_refusalCode_19 ic_4 ?_
      refine Zv.iret hC rfl d_D_refusalCode_20 (Nat.le_refl _) (Nat.le_refl _) ?_
      rw [show e_ref σ c = 4 from if_pos ⟨g9, fun z => absurd (he13.mpr z) (by omega)⟩] at hK
      exact hK
theorem nz_le (pa : Nat → Int32) : ∀ n, e_nz pa n ≤ n
  | 0 => Nat.le_refl _
  | n + 1 => by have := nz_le pa n; rw [e_nz]; split <;> omega
set_option maxRecDepth 100000 in
set_option maxHeartbeats 4000000 in
theorem lp_nz {G : Fx} {d : Nat} {pa : Nat → Int32} {I : Fm} {P : Fr} {K : Option Fs → Fm → Fr → Prop} (hC : Fc G m_D_parametersNotZero d 0 0) (hP : x_ref P) (hp : ∀ p, p < 8 → I 38 p = pa p) (hK : K (some (.inr (nI (e_nz pa 8)))) I P) : ∀ (f i : Nat), i + f = 8 + 1 ∧ i ≤ 8 → Zv G (f_R G K 77 0 0) 77 0 0 4 [(0, rf 1), (1, .inr (nI (e_nz pa i))), (2, .inr (nI i))] [] I P := by
  intro f
  induction f with
  | zero =>
    intro i hi
    omega
  | succ f ih =>
    intro i hi
    refine Zv.iload_n hC d_D_parametersNotZero_4 rfl ?_
    refine Zv.bipush hC d_D_parametersNotZero_5 bp_8 ?_
    refine Zv.icmp_ge (tgt := 28) hC d_D_parametersNotZero_7 (by decide) (fun h7 => ?_) (fun h7 => ?_)
    · try have g7 := q_le h7 (by omega) (by omega)
      have ei : i = 8 := by omega
      subst ei
      refine Zv.iload_n hC d_D_parametersNotZero_28 rfl ?_
      refine Zv.iret hC rfl d_D_parametersNotZero_29 (Nat.le_refl _) (Nat.le_refl _) ?_
      exact hK
    · try have g7 := q_nle h7 (by omega) (by omega)
      refine Zv.aload_n hC d_D_parametersNotZero_10 rfl ?_
      refine Zv.getr (q := 39) hC d_D_parametersNotZero_11 fl_D_37 rfl rfl (by decide) (hP _ _ (by decide) (by decide)) ?_
      refine Zv.iload_n hC d_D_parametersNotZero_14 rfl ?_
      refine Zv.iald hC d_D_parametersNotZero_15 rfl (by decide) rfl (by omega) (by first | decide | omega) (hp i g7) ?_
      refine Zv.if_eq (tgt := 22) hC d_D_parametersNotZero_16 (by decide) (fun h16 => ?_) (fun h16 => ?_)
      · skip
        have e1 : e_nz pa (i + 1) = e_nz pa i := by rw [e_nz, if_pos h16, Nat.add_zero]
        refine Zv.iinc hC d_D_parametersNotZero_22 rfl (by decide) (q_inc _) rfl ?_
        refine Zv.goto (tgt := 4) hC d_D_parametersNotZero_25 (by decide) ?_
        have := ih (i + 1) (by omega)
        rw [e1] at this
        exact this
      · skip
        have e1 : e_nz pa (i + 1) = e_nz pa i + 1 := by rw [e_nz, if_neg h16]
        refine Zv.iinc hC d_D_parametersNotZero_19 rfl (by decide) (q_inc _) rfl ?_
        refine Zv.iinc hC d_D_parametersNotZero_22 rfl (by decide) (q_inc _) rfl ?_
        refine Zv.goto (tgt := 4) hC d_D_parametersNotZero_25 (by decide) ?_
        have := ih (i + 1) (by omega)
        rw [e1] at this
        exact this
set_option maxRecDepth 100000 in
set_option maxHeartbeats 4000000 in
theorem sp_nz {d : Nat} {pa : Nat → Int32} {I : Fm} {P : Fr} {K : Option Fs → Fm → Fr → Prop} (hP : x_ref P) (hp : ∀ p, p < 8 → I 38 p = pa p) (hK : K (some (.inr (nI (e_nz pa 8)))) I P) : Fk d m_D_parametersNotZero 77 77 0 0 [rf 1] I P K := by
  refine Fk.intro (by decide +kernel) (Nat.le_of_ble_eq_true rfl) (fun G hC => ?_)
  refine Zv.iconst hC d_D_parametersNotZero_0 ic_0 ?_
  refine Zv.istore_n hC d_D_parametersNotZero_1 (by decide) rfl ?_
  refine Zv.iconst hC d_D_parametersNotZero_2 ic_0 ?_
  refine Zv.istore_n hC d_D_parametersNotZero_3 (by decide) rfl ?_
  exact lp_nz hC hP hp hK 9 0 (by omega)
theorem q_sh8 : ∀ i, i < 8 → ((nI i &&& 31).toBitVec.smod 32).toNat = i := by decide +kernel
theorem q_bit {m i : Nat} (hm : m < 256) (hi : i < 8) : (nI m >>> (nI i &&& 31)) &&& nI 1 = nI (m / 2 ^ i % 2) := by
  rw [pk_shrN (by omega) _ i (q_sh8 i hi)]
  exact pk_andN (by have := Nat.div_le_self m (2 ^ i); omega) 1 (by decide)
theorem q_tb {m i : Nat} : (m / 2 ^ i % 2 = 1) ↔ m.testBit i = true := by
  rw [Nat.testBit_eq_decide_div_mod_eq, decide_eq_true_eq]
set_option maxRecDepth 100000 in
set_option maxHeartbeats 4000000 in
theorem lp_sum {G : Fx} {d m : Nat} {pa : Nat → Int32} {I : Fm} {P : Fr} {K : Option Fs → Fm → Fr → Prop} (hC : Fc G m_D_sumOf d 0 0) (hP : x_ref P) (hm : m < 256) (hp : ∀ p, p < 8 → I 38 p = pa p) (hK : K (some (.inr (e_sum pa m 8))) I P) : ∀ (f i : Nat), i + f = 8 + 1 ∧ i ≤ 8 → Zv G (f_R G K 77 0 0) 77 0 0 4 [(0, rf 1), (1, .inr (nI m)), (2, .inr (e_sum pa m i)), (3, .inr (nI i))] [] I P := by
  intro f
  induction f with
  | zero =>
    intro i hi
    omega
  | succ f ih =>
    intro i hi
    refine Zv.iload_n hC d_D_sumOf_4 rfl ?_
    refine Zv.bipush hC d_D_sumOf_5 bp_8 ?_
    refine Zv.icmp_ge (tgt := 34) hC d_D_sumOf_7 (by decide) (fun h7 => ?_) (fun h7 => ?_)
    · try have g7 := q_le h7 (by omega) (by omega)
      have ei : i = 8 := by omega
      subst ei
      refine Zv.iload_n hC d_D_sumOf_34 rfl ?_
      refine Zv.iret hC rfl d_D_sumOf_35 (Nat.le_refl _) (Nat.le_refl _) ?_
      exact hK
    · try have g7 := q_nle h7 (by omega) (by omega)
      refine Zv.iload_n hC d_D_sumOf_10 rfl ?_
      refine Zv.iload_n hC d_D_sumOf_11 rfl ?_
      refine Zv.ishr hC d_D_sumOf_12 ?_
      refine Zv.iconst hC d_D_sumOf_13 ic_1 ?_
      refine Zv.iand hC d_D_sumOf_14 ?_
      refine Zv.top (q_bit hm g7) ?_
      have hm2 := Nat.mod_lt (m / 2 ^ i) (show 2 > 0 by decide)
      refine Zv.iconst hC d_D_sumOf_15 ic_1 ?_
      refine Zv.icmp_ne (tgt := 28) hC d_D_sumOf_16 (by decide) (fun h16 => ?_) (fun h16 => ?_)
      · try have g16 := q_n h16
        have e1 : e_sum pa m (i + 1) = e_sum pa m i := by rw [e_sum, if_neg (fun z => g16 (q_tb.mpr z)), Int32.add_zero]
        refine Zv.iinc hC d_D_sumOf_28 rfl (by decide) (q_inc _) rfl ?_
        refine Zv.goto (tgt := 4) hC d_D_sumOf_31 (by decide) ?_
        have := ih (i + 1) (by omega)
        rw [e1] at this
        exact this
      · try have g16 := q_e h16 (by omega) (by omega)
        have e1 : e_sum pa m (i + 1) = e_sum pa m i + pa i := by rw [e_sum, if_pos (q_tb.mp g16)]
        refine Zv.iload_n hC d_D_sumOf_19 rfl ?_
        refine Zv.aload_n hC d_D_sumOf_20 rfl ?_
        refine Zv.getr (q := 39) hC d_D_sumOf_21 fl_D_37 rfl rfl (by decide) (hP _ _ (by decide) (by decide)) ?_
        refine Zv.iload_n hC d_D_sumOf_24 rfl ?_
        refine Zv.iald hC d_D_sumOf_25 rfl (by decide) rfl (by omega) (by first | decide | omega) (hp i g7) ?_
        refine Zv.iadd hC d_D_sumOf_26 ?_
        refine Zv.istore_n hC d_D_sumOf_27 (by decide) rfl ?_
        refine Zv.iinc hC d_D_sumOf_28 rfl (by decide) (q_inc _) rfl ?_
        refine Zv.goto (tgt := 4) hC d_D_sumOf_31 (by decide) ?_
        have := ih (i + 1) (by omega)
        rw [e1] at this
        exact this
set_option maxRecDepth 100000 in
set_option maxHeartbeats 4000000 in
theorem sp_sumOf {d m : Nat} {pa : Nat → Int32} {I : Fm} {P : Fr} {K : Option Fs → Fm → Fr → Prop} (hP : x_ref P) (hm : m < 256) (hp : ∀ p, p < 8 → I 38 p = pa p) (hK : K (some (.inr (e_sum pa m 8))) I P) : Fk d m_D_sumOf 77 77 0 0 [rf 1, .inr (nI m)] I P K := by
  refine Fk.intro (by decide +kernel) (Nat.le_of_ble_eq_true rfl) (fun G hC => ?_)
  refine Zv.iconst hC d_D_sumOf_0 ic_0 ?_
  refine Zv.istore_n hC d_D_sumOf_1 (by decide) rfl ?_
  refine Zv.iconst hC d_D_sumOf_2 ic_0 ?_
  refine Zv.istore_n hC d_D_sumOf_3 (by decide) rfl ?_
  exact lp_sum hC hP hm hp hK 9 0 (by omega)
set_option maxRecDepth 100000 in
set_option maxHeartbeats 4000000 in
theorem lp_carry {G : Fx} {d k num : Nat} {σ : Sg} {cm du : Nat → Nat} {c : List Nat} {x4 : Int32} {I : Fm} {P : Fr} {K : Option Fs → Fm → Fr → Prop} (hC : Fc G m_D_carryOut (d + 4) 0 0) (hX : XR σ cm du I P) (hr : e_ref σ c = 0) (hk : isCm k) (hc : x_cmd I k c) (hv : e_one c = 0) (hso : p_so (s_pl σ)) (hk3 : e_at c 0 = 3 → k = 3) (hk8 : e_at c 0 = 8 → k + 1 < 45) (hk40 : k + 1 < 33 ∨ 43 < k) (hK : ∀ (cm' : Nat → Nat) (I' : Fm) (P' : Fr), XR (e_add (w_g (e_perf σ c) 9 (s_g (e_perf σ c) 9 + 1)) 1 (nI num) (nI (e_at c 0))) cm' du I' P' → x_fr du I I' → K (some (.inr (nI 1))) I' P') : Zv G (f_R G K 77 0 0) 77 0 0 56 [(0, rf 1), (1, rf (k + 1)), (2, .inr (nI num)), (3, .inr (nI (e_at c 0))), (4, .inr x4)] [] I P := by
  refine Zv.aload_n hC d_D_carryOut_56 rfl ?_
  refine Zv.aload_n hC d_D_carryOut_57 rfl ?_
  refine Zv.callV1 hC d_D_carryOut_58 ml_D_222 mk_D_perform rfl (Nat.le_of_ble_eq_true rfl) rfl (by decide) ?_
  refine sp_perform hX hk hc hv hr hso hk3 hk8 (by omega) (fun cm1 I1 P1 q1 q2 => ?_)
  have q3 := XR_g (v := s_g (e_perf σ c) 9 + 1) q1 (Or.inr (Or.inr ⟨rfl, rfl⟩))
  refine Zv.aload_n hC d_D_carryOut_61 rfl ?_
  refine Zv.dup hC d_D_carryOut_62 ?_
  refine Zv.geti hC d_D_carryOut_63 fl_D_162 rfl rfl (by decide) q1.2.2.1.2.2 ?_
  refine Zv.iconst hC d_D_carryOut_66 ic_1 ?_
  first | refine Zv.iaddN hC d_D_carryOut_67 ?_ | refine Zv.iadd hC d_D_carryOut_67 ?_
  refine Zv.puti hC d_D_carryOut_68 fl_D_162 rfl ck_6 rfl rfl rfl rfl (by decide) ?_
  refine Zv.aload_n hC d_D_carryOut_71 rfl ?_
  refine Zv.getr (q := 34) hC d_D_carryOut_72 fl_D_33 rfl rfl (by decide) (q1.1 _ _ (by decide) (by decide)) ?_
  refine Zv.iconst hC d_D_carryOut_75 ic_1 ?_
  refine Zv.aload_n hC d_D_carryOut_76 rfl ?_
  refine Zv.geti hC d_D_carryOut_77 fl_D_67 rfl rfl (by decide) (f_uc (by decide) q1.2.2.1.1) ?_
  refine Zv.iload_n hC d_D_carryOut_80 rfl ?_
  refine Zv.iload_n hC d_D_carryOut_81 rfl ?_
  refine Zv.callV4 hC d_D_carryOut_82 ml_D_96 mk_St_add rfl (Nat.le_of_ble_eq_true rfl) rfl (by decide) ?_
  refine sp_sadd q1.1 q3.1.2.2.2.2.2.1 (fun I2 q4 q5 => ?_)
  have q6 := XR_add q3.1 q4 q5
  refine Zv.iconst hC d_D_carryOut_85 ic_1 ?_
  refine Zv.zret hC rfl d_D_carryOut_86 rfl (Nat.le_refl _) (Nat.le_refl _) ?_
  exact hK _ _ _ q6.1 (x_fr_tr q2 (x_fr_tr q3.2 q6.2))
theorem ref_le (σ : Sg) (c : List Nat) : e_ref σ c ≤ 6 := by
  unfold e_ref
  repeat' split
  all_goals omega
set_option maxRecDepth 100000 in
set_option maxHeartbeats 4000000 in
theorem sp_carryOut {d k num : Nat} {σ : Sg} {cm du : Nat → Nat} {c : List Nat} {I : Fm} {P : Fr} {K : Option Fs → Fm → Fr → Prop} (hX : XR σ cm du I P) (hcl : s_g σ 0 < 2 ^ 30) (hsf : s_g σ 1 < 2) (hk : isCm k) (hc : x_cmd I k c) (hv : e_one c = 0) (hso : p_so (s_pl σ)) (hk3 : e_at c 0 = 3 → k = 3) (hk8 : e_at c 0 = 8 → k + 1 < 45) (hk40 : k + 1 < 33 ∨ 43 < k) (hK : ∀ (cm' : Nat → Nat) (I' : Fm) (P' : Fr), XR (e_carry σ c num).1 cm' du I' P' → x_fr du I I' → K (some (.inr (nI (e_carry σ c num).2))) I' P') : Fk (d + 4) m_D_carryOut 77 77 0 0 [rf 1, rf (k + 1), .inr (nI num)] I P K := by
  refine Fk.intro (by decide +kernel) (Nat.le_of_ble_eq_true rfl) (fun G hC => ?_)
  refine Zv.aload_n hC d_D_carryOut_0 rfl ?_
  refine Zv.callV0 hC d_D_carryOut_1 ml_D_134 mk_Cm_service rfl (Nat.le_of_ble_eq_true rfl) hk.1 (by have := hk.2.2.1; omega) ?_
  refine sp_service hk hX.1 hc ?_
  refine Zv.istore_n hC d_D_carryOut_4 (by decide) rfl ?_
  refine Zv.aload_n hC d_D_carryOut_5 rfl ?_
  refine Zv.aload_n hC d_D_carryOut_6 rfl ?_
  refine Zv.callV1 hC d_D_carryOut_7 ml_D_216 mk_D_refusalCode rfl (Nat.le_of_ble_eq_true rfl) rfl (by decide) ?_
  refine sp_refusal hX hcl hsf hk hc ?_
  refine Zv.istore hC d_D_carryOut_10 (by decide) rfl ?_
  have hrl := ref_le σ c
  refine Zv.iload hC d_D_carryOut_12 rfl ?_
  refine Zv.if_eq (tgt := 34) hC d_D_carryOut_14 (by decide) (fun h14 => ?_) (fun h14 => ?_)
  · try have g14 := q_e0 h14 (by omega)
    have ec : e_carry σ c num = (e_add (w_g (e_perf (if e_at c 0 = 1 then e_add σ 3 (nI num) (nI (e_nz (s_pa σ) 8)) else σ) c) 9 (s_g (e_perf (if e_at c 0 = 1 then e_add σ 3 (nI num) (nI (e_nz (s_pa σ) 8)) else σ) c) 9 + 1)) 1 (nI num) (nI (e_at c 0)), 1) := if_neg (fun z => z g14)
    rw [ec] at hK
    have hb0 := e_at_lt hc.2.2.2 0
    refine Zv.iload_n hC d_D_carryOut_34 rfl ?_
    refine Zv.iconst hC d_D_carryOut_35 ic_1 ?_
    refine Zv.icmp_ne (tgt := 56) hC d_D_carryOut_36 (by decide) (fun h36 => ?_) (fun h36 => ?_)
    · try have g36 := q_n h36
      exact lp_carry hC hX g14 hk hc hv hso hk3 hk8 hk40 (fun cm' I' P' r1 r2 => hK cm' I' P' (by rw [if_neg g36]; exact r1) r2)
    · try have g36 := q_e h36 (by omega) (by omega)
      refine Zv.aload_n hC d_D_carryOut_39 rfl ?_
      refine Zv.getr (q := 34) hC d_D_carryOut_40 fl_D_33 rfl rfl (by decide) (hX.1 _ _ (by decide) (by decide)) ?_
      refine Zv.iconst hC d_D_carryOut_43 ic_3 ?_
      refine Zv.aload_n hC d_D_carryOut_44 rfl ?_
      refine Zv.geti hC d_D_carryOut_45 fl_D_67 rfl rfl (by decide) hX.2.2.1.1 ?_
      refine Zv.iload_n hC d_D_carryOut_48 rfl ?_
      refine Zv.aload_n hC d_D_carryOut_49 rfl ?_
      refine Zv.callV0 hC d_D_carryOut_50 ml_D_219 mk_D_parametersNotZero rfl (Nat.le_of_ble_eq_true rfl) rfl (by decide) ?_
      refine sp_nz hX.1 hX.2.2.2.2.2.2.1 ?_
      refine Zv.callV4 hC d_D_carryOut_53 ml_D_96 mk_St_add rfl (Nat.le_of_ble_eq_true rfl) rfl (by decide) ?_
      refine sp_sadd hX.1 hX.2.2.2.2.2.1 (fun I2 q4 q5 => ?_)
      have q6 := XR_add hX q4 q5
      exact lp_carry hC q6.1 (ref_add.trans g14) hk (x_cmd_kept hc (q5 _ (by omega)) (q5 _ (by omega))) hv (by rw [add_pl]; exact hso) hk3 hk8 hk40 (fun cm' I' P' r1 r2 => hK cm' I' P' (by rw [if_pos g36]; exact r1) (x_fr_tr q6.2 r2))
  · try have g14 := q_n0 h14
    have ec : e_carry σ c num = (e_add σ 2 (nI num) (nI (e_ref σ c)), 0) := if_pos g14
    rw [ec] at hK
    refine Zv.aload_n hC d_D_carryOut_17 rfl ?_
    refine Zv.getr (q := 34) hC d_D_carryOut_18 fl_D_33 rfl rfl (by decide) (hX.1 _ _ (by decide) (by decide)) ?_
    refine Zv.iconst hC d_D_carryOut_21 ic_2 ?_
    refine Zv.aload_n hC d_D_carryOut_22 rfl ?_
    refine Zv.geti hC d_D_carryOut_23 fl_D_67 rfl rfl (by decide) hX.2.2.1.1 ?_
    refine Zv.iload_n hC d_D_carryOut_26 rfl ?_
    refine Zv.iload hC d_D_carryOut_27 rfl ?_
    refine Zv.callV4 hC d_D_carryOut_29 ml_D_96 mk_St_add rfl (Nat.le_of_ble_eq_true rfl) rfl (by decide) ?_
    refine sp_sadd hX.1 hX.2.2.2.2.2.1 (fun I2 q4 q5 => ?_)
    have q6 := XR_add hX q4 q5
    refine Zv.iconst hC d_D_carryOut_32 ic_0 ?_
    refine Zv.zret hC rfl d_D_carryOut_33 rfl (Nat.le_refl _) (Nat.le_refl _) ?_
    exact hK _ _ _ q6.1 q6.2
