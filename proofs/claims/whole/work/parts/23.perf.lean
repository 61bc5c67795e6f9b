set_option maxRecDepth 100000 in
set_option maxHeartbeats 4000000 in
theorem sp_setParameter {d p : Nat} {v : Int32} {I : Fm} {P : Fr} {K : Option Fs → Fm → Fr → Prop} (hP : x_ref P) (hp : p < 8) (hK : K none (f_u I 38 p v) P) : Fk (d + 1) m_D_setParameter 77 77 0 0 [rf 1, .inr (nI p), .inr v] I P K := by
  refine Fk.intro (by decide +kernel) (Nat.le_of_ble_eq_true rfl) (fun G hC => ?_)
  refine Zv.iload_n hC d_D_setParameter_0 rfl ?_
  refine Zv.callS1 hC d_D_setParameter_1 ml_D_122 mk_D_isParameter (Nat.le_of_ble_eq_true rfl) ?_
  refine sp_isParameterN rfl (by omega) (fun r1 hr1 he1 => ?_)
  refine Zv.if_eq (tgt := 14) hC d_D_setParameter_4 (by decide) (fun h4 => ?_) (fun h4 => ?_)
  · try have g4 := q_e0 h4 (by omega)
    exact absurd (he1.mpr hp) (by omega)
  · try have g4 := q_n0 h4
    refine Zv.aload_n hC d_D_setParameter_7 rfl ?_
    refine Zv.getr (q := 39) hC d_D_setParameter_8 fl_D_37 rfl rfl (by decide) (hP _ _ (by decide) (by decide)) ?_
    refine Zv.iload_n hC d_D_setParameter_11 rfl ?_
    refine Zv.iload_n hC d_D_setParameter_12 rfl ?_
    refine Zv.iast hC d_D_setParameter_13 rfl (by decide) rfl (by omega) (by first | decide | omega) ?_
    refine Zv.vret hC rfl d_D_setParameter_14 (Nat.le_refl _) (Nat.le_refl _) ?_
    exact hK
set_option maxRecDepth 100000 in
set_option maxHeartbeats 4000000 in
theorem sp_steerPlan {d k : Nat} {I : Fm} {P : Fr} {K : Option Fs → Fm → Fr → Prop} (hP : x_ref P) (hk : k < 256) (hK2 : k = 2 → K none (f_u I 5 3 (nI 0)) P) (hK : k ≠ 2 → K none (f_u I 5 4 (nI (if k = 1 then 1 else 0))) P) : Fk (d + 1) m_D_steerPlan 77 77 0 0 [rf 1, .inr (nI k)] I P K := by
  refine Fk.intro (by decide +kernel) (Nat.le_of_ble_eq_true rfl) (fun G hC => ?_)
  refine Zv.iload_n hC d_D_steerPlan_0 rfl ?_
  refine Zv.iconst hC d_D_steerPlan_1 ic_2 ?_
  refine Zv.icmp_ne (tgt := 15) hC d_D_steerPlan_2 (by decide) (fun h2 => ?_) (fun h2 => ?_)
  · try have g2 := q_n h2
    have hK := hK g2
    refine Zv.aload_n hC d_D_steerPlan_15 rfl ?_
    refine Zv.getr (q := 6) hC d_D_steerPlan_16 fl_D_26 rfl rfl (by decide) (hP _ _ (by decide) (by decide)) ?_
    refine Zv.iload_n hC d_D_steerPlan_19 rfl ?_
    refine Zv.iconst hC d_D_steerPlan_20 ic_1 ?_
    refine Zv.icmp_ne (tgt := 28) hC d_D_steerPlan_21 (by decide) (fun h21 => ?_) (fun h21 => ?_)
    · try have g21 := q_n h21
      refine Zv.iconst hC d_D_steerPlan_28 ic_0 ?_
      refine Zv.puti hC d_D_steerPlan_29 fl_D_72 rfl ck_2 rfl rfl rfl rfl (by decide) ?_
      refine Zv.vret hC rfl d_D_steerPlan_32 (Nat.le_refl _) (Nat.le_refl _) ?_
      rw [if_neg g21] at hK
      exact hK
    · try have g21 := q_e h21 (by omega) (by omega)
      refine Zv.iconst hC d_D_steerPlan_24 ic_1 ?_
      refine Zv.goto (tgt := 29) hC d_D_steerPlan_25 (by decide) ?_
      refine Zv.puti hC d_D_steerPlan_29 fl_D_72 rfl ck_2 rfl rfl rfl rfl (by decide) ?_
      refine Zv.vret hC rfl d_D_steerPlan_32 (Nat.le_refl _) (Nat.le_refl _) ?_
      rw [if_pos g21] at hK
      exact hK
  · try have g2 := q_e h2 (by omega) (by omega)
    refine Zv.aload_n hC d_D_steerPlan_5 rfl ?_
    refine Zv.getr (q := 6) hC d_D_steerPlan_6 fl_D_26 rfl rfl (by decide) (hP _ _ (by decide) (by decide)) ?_
    refine Zv.callV0 hC d_D_steerPlan_9 ml_D_272 mk_Pl_clear rfl (Nat.le_of_ble_eq_true rfl) rfl (by decide) ?_
    refine sp_pclear ?_
    refine Zv.goto (tgt := 32) hC d_D_steerPlan_12 (by decide) ?_
    refine Zv.vret hC rfl d_D_steerPlan_32 (Nat.le_refl _) (Nat.le_refl _) ?_
    exact hK2 g2
theorem wa_row {P : Fr} (hP : x_ref P) {m : Nat} (hm : m < 4) : f_shp (40 + m) = .inr 5 ∧ 40 + m < 77 ∧ P 39 m = 40 + m + 1 := by
  refine ⟨?_, by omega, (hP 39 m (by decide) (by decide)).trans ?_⟩
  · rcases (show m = 0 ∨ m = 1 ∨ m = 2 ∨ m = 3 by omega) with rfl | rfl | rfl | rfl <;> rfl
  · rcases (show m = 0 ∨ m = 1 ∨ m = 2 ∨ m = 3 by omega) with rfl | rfl | rfl | rfl <;> rfl
theorem ac_row {P : Fr} (hP : x_ref P) {m : Nat} (hm : m < 4) : isCm (45 + 2 * m) ∧ P 44 m = 45 + 2 * m + 1 := by
  refine ⟨?_, (hP 44 m (by decide) (by decide)).trans ?_⟩
  · unfold isCm
    rcases (show m = 0 ∨ m = 1 ∨ m = 2 ∨ m = 3 by omega) with rfl | rfl | rfl | rfl <;> decide
  · rcases (show m = 0 ∨ m = 1 ∨ m = 2 ∨ m = 3 by omega) with rfl | rfl | rfl | rfl <;> rfl
theorem li_row {P : Fr} (hP : x_ref P) {m : Nat} (hm : m < 2) : f_shp (54 + m) = .inr 1 ∧ 54 + m < 77 ∧ P 53 m = 54 + m + 1 := by
  refine ⟨?_, by omega, (hP 53 m (by decide) (by decide)).trans ?_⟩
  · rcases (show m = 0 ∨ m = 1 by omega) with rfl | rfl <;> rfl
  · rcases (show m = 0 ∨ m = 1 by omega) with rfl | rfl <;> rfl
set_option maxRecDepth 100000 in
set_option maxHeartbeats 4000000 in
theorem sp_startWatch {d k m : Nat} {c : List Nat} {I : Fm} {P : Fr} {K : Option Fs → Fm → Fr → Prop} (hP : x_ref P) (hk : isCm k) (hkw : k + 1 < 40 ∨ 43 < k) (hc : x_cmd I k c) (hm1 : e_at c 1 = m) (hm : m < 4) (hK : ∀ I' : Fm, x_wa I' (40 + m) (fun j => match j with | 0 => 1 | 1 => e_at c 2 | 2 => e_at c 5 | 3 => e_at c 6 | _ => 0) (fun j => match j with | 0 => e_sgn (e_at c 3) | _ => e_sgn (e_at c 4)) → (∀ x, x ≠ 40 + m → I' x = I x) → K none I' P) : Fk (d + 2) m_D_startWatch 77 77 0 0 [rf 1, rf (k + 1)] I P K := by
  have hw := wa_row hP hm
  refine Fk.intro (by decide +kernel) (Nat.le_of_ble_eq_true rfl) (fun G hC => ?_)
  refine Zv.aload_n hC d_D_startWatch_0 rfl ?_
  refine Zv.iconst hC d_D_startWatch_1 ic_1 ?_
  refine Zv.callV1 hC d_D_startWatch_2 ml_D_190 mk_Cm_part rfl (Nat.le_of_ble_eq_true rfl) hk.1 (by have := hk.2.2.1; omega) ?_
  refine sp_part hk hP hc rfl (by decide) ?_
  rw [hm1]
  refine Zv.istore_n hC d_D_startWatch_5 (by decide) rfl ?_
  refine Zv.iload_n hC d_D_startWatch_6 rfl ?_
  refine Zv.callS1 hC d_D_startWatch_7 ml_D_137 mk_D_isWatch (Nat.le_of_ble_eq_true rfl) ?_
  refine sp_isWatchN rfl (by omega) (fun r7 hr7 he7 => ?_)
  refine Zv.if_eq (tgt := 23) hC d_D_startWatch_10 (by decide) (fun h10 => ?_) (fun h10 => ?_)
  · try have g10 := q_e0 h10 (by omega)
    exact absurd (he7.mpr hm) (by omega)
  · try have g10 := q_n0 h10
    refine Zv.aload_n hC d_D_startWatch_13 rfl ?_
    refine Zv.getr (q := 40) hC d_D_startWatch_14 fl_D_43 rfl rfl (by decide) (hP _ _ (by decide) (by decide)) ?_
    refine Zv.iload_n hC d_D_startWatch_17 rfl ?_
    refine Zv.aald (q := ((40 + m)) + 1) hC d_D_startWatch_18 rfl (fun _ => rfl) (by decide) (by decide) rfl (by omega) (by decide) hw.2.2 ?_
    refine Zv.aload_n hC d_D_startWatch_19 rfl ?_
    refine Zv.callV1 hC d_D_startWatch_20 ml_D_275 mk_Wa_start rfl (Nat.le_of_ble_eq_true rfl) hw.1 hw.2.1 ?_
    refine sp_wstart hk hP hc hw.1 hw.2.1 (by omega) (by omega) (fun I' h1 h2 => ?_)
    refine Zv.vret hC rfl d_D_startWatch_23 (Nat.le_refl _) (Nat.le_refl _) ?_
    exact hK I' h1 h2
set_option maxRecDepth 100000 in
set_option maxHeartbeats 4000000 in
theorem sp_stopWatch {d m : Nat} {I : Fm} {P : Fr} {K : Option Fs → Fm → Fr → Prop} (hP : x_ref P) (hm : m < 4) (hK : K none (f_u I (40 + m) 0 (nI 0)) P) : Fk (d + 1) m_D_stopWatch 77 77 0 0 [rf 1, .inr (nI m)] I P K := by
  have hw := wa_row hP hm
  refine Fk.intro (by decide +kernel) (Nat.le_of_ble_eq_true rfl) (fun G hC => ?_)
  refine Zv.iload_n hC d_D_stopWatch_0 rfl ?_
  refine Zv.callS1 hC d_D_stopWatch_1 ml_D_137 mk_D_isWatch (Nat.le_of_ble_eq_true rfl) ?_
  refine sp_isWatchN rfl (by omega) (fun r7 hr7 he7 => ?_)
  refine Zv.if_eq (tgt := 17) hC d_D_stopWatch_4 (by decide) (fun h4 => ?_) (fun h4 => ?_)
  · try have g4 := q_e0 h4 (by omega)
    exact absurd (he7.mpr hm) (by omega)
  · try have g4 := q_n0 h4
    refine Zv.aload_n hC d_D_stopWatch_7 rfl ?_
    refine Zv.getr (q := 40) hC d_D_stopWatch_8 fl_D_43 rfl rfl (by decide) (hP _ _ (by decide) (by decide)) ?_
    refine Zv.iload_n hC d_D_stopWatch_11 rfl ?_
    refine Zv.aald (q := ((40 + m)) + 1) hC d_D_stopWatch_12 rfl (fun _ => rfl) (by decide) (by decide) rfl (by omega) (by decide) hw.2.2 ?_
    refine Zv.iconst hC d_D_stopWatch_13 ic_0 ?_
    refine Zv.puti hC d_D_stopWatch_14 fl_D_79 rfl ck_5 rfl rfl rfl hw.1 hw.2.1 ?_
    refine Zv.vret hC rfl d_D_stopWatch_17 (Nat.le_refl _) (Nat.le_refl _) ?_
    exact hK
set_option maxRecDepth 100000 in
set_option maxHeartbeats 4000000 in
theorem sp_setAction {d k m : Nat} {c : List Nat} {I : Fm} {P : Fr} {K : Option Fs → Fm → Fr → Prop} (hP : x_ref P) (hk : isCm k) (hkw : k + 1 < 45) (hc : x_cmd I k c) (hc2 : 2 ≤ c.length) (hm1 : e_at c 1 = m) (hm : m < 4) (hK : ∀ I' : Fm, x_cmd I' (45 + 2 * m) (c.drop 2) → (∀ x, x ≠ 45 + 2 * m → x ≠ 45 + 2 * m + 1 → I' x = I x) → K none I' P) : Fk (d + 1) m_D_setAction 77 77 0 0 [rf 1, rf (k + 1)] I P K := by
  have hw := ac_row hP hm
  refine Fk.intro (by decide +kernel) (Nat.le_of_ble_eq_true rfl) (fun G hC => ?_)
  refine Zv.aload_n hC d_D_setAction_0 rfl ?_
  refine Zv.iconst hC d_D_setAction_1 ic_1 ?_
  refine Zv.callV1 hC d_D_setAction_2 ml_D_190 mk_Cm_part rfl (Nat.le_of_ble_eq_true rfl) hk.1 (by have := hk.2.2.1; omega) ?_
  refine sp_part hk hP hc rfl (by decide) ?_
  rw [hm1]
  refine Zv.istore_n hC d_D_setAction_5 (by decide) rfl ?_
  refine Zv.iload_n hC d_D_setAction_6 rfl ?_
  refine Zv.callS1 hC d_D_setAction_7 ml_D_143 mk_D_isEvent (Nat.le_of_ble_eq_true rfl) ?_
  refine sp_isEventN rfl (by omega) (fun r7 hr7 he7 => ?_)
  refine Zv.if_eq (tgt := 35) hC d_D_setAction_10 (by decide) (fun h10 => ?_) (fun h10 => ?_)
  · try have g10 := q_e0 h10 (by omega)
    exact absurd (he7.mpr hm) (by omega)
  · try have g10 := q_n0 h10
    refine Zv.aload_n hC d_D_setAction_13 rfl ?_
    refine Zv.getr (q := 45) hC d_D_setAction_14 fl_D_48 rfl rfl (by decide) (hP _ _ (by decide) (by decide)) ?_
    refine Zv.iload_n hC d_D_setAction_17 rfl ?_
    refine Zv.aald (q := ((45 + 2 * m)) + 1) hC d_D_setAction_18 rfl (fun _ => rfl) (by decide) (by decide) rfl (by omega) (by decide) hw.2 ?_
    refine Zv.aload_n hC d_D_setAction_19 rfl ?_
    refine Zv.getr (q := ((k + 1)) + 1) hC d_D_setAction_20 fl_D_278 rfl hk.1 (by have := hk.2.2.1; omega) (x_ref_cm hP hk) ?_
    refine Zv.bipush hC d_D_setAction_23 bp_8 ?_
    refine Zv.callS1 hC d_D_setAction_25 ml_D_196 mk_D_insideOf (Nat.le_of_ble_eq_true rfl) ?_
    refine sp_insideOf rfl (by decide) ?_
    refine Zv.aload_n hC d_D_setAction_28 rfl ?_
    refine Zv.geti hC d_D_setAction_29 fl_D_199 rfl hk.1 (by have := hk.2.2.1; omega) hc.1 ?_
    refine Zv.callV3 hC d_D_setAction_32 ml_D_174 mk_Cm_load rfl (Nat.le_of_ble_eq_true rfl) hw.1.1 (by have := hw.1.2.2.1; omega) ?_
    refine sp_load (La := 11) (src := c) (f := 2) hw.1 hP hk.2.1 hk.2.2.1 (by omega) (by decide) hc.2.2.1 hc.2.2.2 hc.2.1 hc2 (by have := hc.2.1; omega) rfl rfl (fun I' h1 h2 => ?_)
    refine Zv.vret hC rfl d_D_setAction_35 (Nat.le_refl _) (Nat.le_refl _) ?_
    exact hK I' h1 h2
set_option maxRecDepth 100000 in
set_option maxHeartbeats 4000000 in
theorem sp_dropAction {d m : Nat} {I : Fm} {P : Fr} {K : Option Fs → Fm → Fr → Prop} (hP : x_ref P) (hm : m < 4) (hK : K none (f_u I (45 + 2 * m) 1 (nI 0)) P) : Fk (d + 1) m_D_dropAction 77 77 0 0 [rf 1, .inr (nI m)] I P K := by
  have hw := ac_row hP hm
  refine Fk.intro (by decide +kernel) (Nat.le_of_ble_eq_true rfl) (fun G hC => ?_)
  refine Zv.iload_n hC d_D_dropAction_0 rfl ?_
  refine Zv.callS1 hC d_D_dropAction_1 ml_D_143 mk_D_isEvent (Nat.le_of_ble_eq_true rfl) ?_
  refine sp_isEventN rfl (by omega) (fun r7 hr7 he7 => ?_)
  refine Zv.if_eq (tgt := 16) hC d_D_dropAction_4 (by decide) (fun h4 => ?_) (fun h4 => ?_)
  · try have g4 := q_e0 h4 (by omega)
    exact absurd (he7.mpr hm) (by omega)
  · try have g4 := q_n0 h4
    refine Zv.aload_n hC d_D_dropAction_7 rfl ?_
    refine Zv.getr (q := 45) hC d_D_dropAction_8 fl_D_48 rfl rfl (by decide) (hP _ _ (by decide) (by decide)) ?_
    refine Zv.iload_n hC d_D_dropAction_11 rfl ?_
    refine Zv.aald (q := ((45 + 2 * m)) + 1) hC d_D_dropAction_12 rfl (fun _ => rfl) (by decide) (by decide) rfl (by omega) (by decide) hw.2 ?_
    refine Zv.callV0 hC d_D_dropAction_13 ml_D_281 mk_Cm_clear rfl (Nat.le_of_ble_eq_true rfl) hw.1.1 (by have := hw.1.2.2.1; omega) ?_
    refine sp_clear hw.1 ?_
    refine Zv.vret hC rfl d_D_dropAction_16 (Nat.le_refl _) (Nat.le_refl _) ?_
    exact hK
set_option maxRecDepth 100000 in
set_option maxHeartbeats 4000000 in
theorem sp_setList {d m : Nat} {x y : Int32} {I : Fm} {P : Fr} {K : Option Fs → Fm → Fr → Prop} (hP : x_ref P) (hm : m < 2) (hK : K none (f_u (f_u I (54 + m) 0 x) (54 + m) 1 y) P) : Fk (d + 1) m_D_setList 77 77 0 0 [rf 1, .inr (nI m), .inr x, .inr y] I P K := by
  have hw := li_row hP hm
  refine Fk.intro (by decide +kernel) (Nat.le_of_ble_eq_true rfl) (fun G hC => ?_)
  refine Zv.iload_n hC d_D_setList_0 rfl ?_
  refine Zv.callS1 hC d_D_setList_1 ml_D_210 mk_D_isList (Nat.le_of_ble_eq_true rfl) ?_
  refine sp_isListN rfl (by omega) (fun r7 hr7 he7 => ?_)
  refine Zv.if_eq (tgt := 27) hC d_D_setList_4 (by decide) (fun h4 => ?_) (fun h4 => ?_)
  · try have g4 := q_e0 h4 (by omega)
    exact absurd (he7.mpr hm) (by omega)
  · try have g4 := q_n0 h4
    refine Zv.aload_n hC d_D_setList_7 rfl ?_
    refine Zv.getr (q := 54) hC d_D_setList_8 fl_D_54 rfl rfl (by decide) (hP _ _ (by decide) (by decide)) ?_
    refine Zv.iload_n hC d_D_setList_11 rfl ?_
    refine Zv.aald (q := ((54 + m)) + 1) hC d_D_setList_12 rfl (fun _ => rfl) (by decide) (by decide) rfl (by omega) (by decide) hw.2.2 ?_
    refine Zv.iload_n hC d_D_setList_13 rfl ?_
    refine Zv.puti hC d_D_setList_14 fl_D_282 rfl ck_1 rfl rfl rfl hw.1 hw.2.1 ?_
    refine Zv.aload_n hC d_D_setList_17 rfl ?_
    refine Zv.getr (q := 54) hC d_D_setList_18 fl_D_54 rfl rfl (by decide) (hP _ _ (by decide) (by decide)) ?_
    refine Zv.iload_n hC d_D_setList_21 rfl ?_
    refine Zv.aald (q := ((54 + m)) + 1) hC d_D_setList_22 rfl (fun _ => rfl) (by decide) (by decide) rfl (by omega) (by decide) hw.2.2 ?_
    refine Zv.iload_n hC d_D_setList_23 rfl ?_
    refine Zv.puti hC d_D_setList_24 fl_D_90 rfl ck_1 rfl rfl rfl hw.1 hw.2.1 ?_
    refine Zv.vret hC rfl d_D_setList_27 (Nat.le_refl _) (Nat.le_refl _) ?_
    exact hK
set_option maxRecDepth 100000 in
set_option maxHeartbeats 4000000 in
theorem sp_setMode {d k : Nat} {I : Fm} {P : Fr} {K : Option Fs → Fm → Fr → Prop} (hP : x_ref P) (hk : k < 256) (hK1 : k = 1 → K none (f_u (f_u I 0 9 (nI 1)) 5 4 (nI 0)) P) (hK0 : k ≠ 1 → K none (f_u I 0 9 (nI 0)) P) : Fk d m_D_setMode 77 77 0 0 [rf 1, .inr (nI k)] I P K := by
  refine Fk.intro (by decide +kernel) (Nat.le_of_ble_eq_true rfl) (fun G hC => ?_)
  refine Zv.aload_n hC d_D_setMode_0 rfl ?_
  refine Zv.iload_n hC d_D_setMode_1 rfl ?_
  refine Zv.iconst hC d_D_setMode_2 ic_1 ?_
  refine Zv.icmp_ne (tgt := 10) hC d_D_setMode_3 (by decide) (fun h3 => ?_) (fun h3 => ?_)
  · try have g3 := q_n h3
    have e1 : ¬ k = 1 := g3
    refine Zv.iconst hC d_D_setMode_10 ic_0 ?_
    refine Zv.puti hC d_D_setMode_11 fl_D_146 rfl ck_6 rfl rfl rfl rfl (by decide) ?_
    refine Zv.aload_n hC d_D_setMode_14 rfl ?_
    refine Zv.geti hC d_D_setMode_15 fl_D_146 rfl rfl (by decide) f_u_s ?_
    refine Zv.if_eq (tgt := 29) hC d_D_setMode_18 (by decide) (fun h18 => ?_) (fun h18 => ?_)
    · try have g18 := q_e0 h18 (by omega)
      refine Zv.vret hC rfl d_D_setMode_29 (Nat.le_refl _) (Nat.le_refl _) ?_
      exact hK0 e1
    · try have g18 := q_n0 h18
      exact absurd rfl g18
  · try have g3 := q_e h3 (by omega) (by omega)
    have e1 : k = 1 := g3
    refine Zv.iconst hC d_D_setMode_6 ic_1 ?_
    refine Zv.goto (tgt := 11) hC d_D_setMode_7 (by decide) ?_
    refine Zv.puti hC d_D_setMode_11 fl_D_146 rfl ck_6 rfl rfl rfl rfl (by decide) ?_
    refine Zv.aload_n hC d_D_setMode_14 rfl ?_
    refine Zv.geti hC d_D_setMode_15 fl_D_146 rfl rfl (by decide) f_u_s ?_
    refine Zv.if_eq (tgt := 29) hC d_D_setMode_18 (by decide) (fun h18 => ?_) (fun h18 => ?_)
    · try have g18 := q_e0 h18 (by omega)
      exact absurd g18 (by decide)
    · try have g18 := q_n0 h18
      refine Zv.aload_n hC d_D_setMode_21 rfl ?_
      refine Zv.getr (q := 6) hC d_D_setMode_22 fl_D_26 rfl rfl (by decide) (hP _ _ (by decide) (by decide)) ?_
      refine Zv.iconst hC d_D_setMode_25 ic_0 ?_
      refine Zv.puti hC d_D_setMode_26 fl_D_72 rfl ck_2 rfl rfl rfl rfl (by decide) ?_
      refine Zv.vret hC rfl d_D_setMode_29 (Nat.le_refl _) (Nat.le_refl _) ?_
      exact hK1 e1
