theorem one_sv {c : List Nat} (h : e_one c = 0) : e_sv c 0 ∧ ¬ e_nw c ∧ e_rng c = true := by
  by_cases h1 : (e_at c 0 < 1 ∨ 11 < e_at c 0)
  · rw [e_one_unk h1] at h; cases h
  · by_cases h2 : e_nw c
    · rw [e_one_num h1 h2] at h; cases h
    · exact ⟨by unfold e_sv; omega, h2, e_one_rng0 h⟩
theorem val_one {c : List Nat} (h : e_brk 3 c = 0) : e_one c = 0 := by
  unfold e_brk at h
  by_cases h1 : e_one c = 0
  · exact h1
  · rw [if_pos h1] at h; exact h
theorem one_rng {c : List Nat} (h : e_one c = 0) : e_ar c 0 := by
  obtain ⟨h1, h2, h3⟩ := one_sv h
  exact ((e_rng_iff (c := c) (s := 0) h1).mp h3).1
theorem one_pos {c : List Nat} (h : e_one c = 0) : 0 < c.length := Nat.pos_of_ne_zero fun z => by
  have h1 := (one_sv h).1
  unfold e_sv at h1
  rw [e_at_ge (by omega)] at h1
  omega
theorem one_len3 {c : List Nat} (h : e_one c = 0) (e : e_at c 0 = 3) : 4 ≤ c.length := by
  have h2 := (one_sv h).2.1
  unfold e_nw at h2
  rw [e, if_pos (by decide)] at h2
  have : e_want 3 = 2 := rfl
  omega
theorem one_len8 {c : List Nat} (h : e_one c = 0) (e : e_at c 0 = 8) : 3 ≤ c.length := by
  have h2 := (one_sv h).2.1
  unfold e_nw at h2
  rw [e, if_pos (by decide)] at h2
  have : e_want 8 = 1 := rfl
  omega
def e_arv (c : List Nat) (v : Nat) : Prop := match v with
  | 2 => e_at c 1 < 8
  | 4 => e_at c 1 < 3
  | 6 => e_wr c 0
  | 7 => e_at c 1 < 4
  | 8 => e_at c 1 < 4
  | 9 => e_at c 1 < 4
  | 10 => e_at c 1 < 2
  | 11 => e_at c 1 < 2
  | _ => True
theorem ar_at {c : List Nat} {v : Nat} (h : e_ar c 0) (e : e_at c 0 = v) : e_arv c v := by
  unfold e_ar at h
  rw [e] at h
  exact h
theorem ref_full {σ : Sg} {c : List Nat} (h : e_ref σ c = 0) (e : e_at c 0 = 3) : (s_pl σ).length < 6 ∧ s_g σ 0 < e_at c 1 * 256 + e_at c 2 := by
  unfold e_ref at h
  split at h
  · cases h
  · split at h
    · cases h
    · split at h
      · cases h
      · rename_i h1 h2 h3
        exact ⟨Nat.lt_of_not_le fun z => h2 ⟨e, z⟩, Nat.lt_of_not_le fun z => h3 ⟨e, z⟩⟩
theorem ref_shift {σ : Sg} {c : List Nat} (h : e_ref σ c = 0) (e : e_at c 0 = 5) : ∀ x ∈ s_pl σ, (s_g σ 0 : Int) < x.1 + e_sgz (e_at c 1) ∧ (x.1 : Int) + e_sgz (e_at c 1) ≤ 65535 := by
  unfold e_ref at h
  split at h
  · cases h
  · split at h
    · cases h
    · split at h
      · cases h
      · split at h
        · cases h
        · rename_i h1 h2 h3 h4
          exact Classical.byContradiction fun z => h4 ⟨e, z⟩
theorem sp_steerN {d k : Nat} {I : Fm} {P : Fr} {K : Option Fs → Fm → Fr → Prop} (hP : x_ref P) (hk : k < 256) (hK : ∀ I' : Fm, (k = 2 → I' = f_u I 5 3 (nI 0)) → (k ≠ 2 → I' = f_u I 5 4 (nI (if k = 1 then 1 else 0))) → K none I' P) : Fk (d + 1) m_D_steerPlan 77 77 0 0 [rf 1, .inr (nI k)] I P K :=
  sp_steerPlan hP hk (fun e => hK _ (fun _ => rfl) (fun z => absurd e z)) (fun e => hK _ (fun z => absurd z e) (fun _ => rfl))
theorem sp_modeN {d k : Nat} {I : Fm} {P : Fr} {K : Option Fs → Fm → Fr → Prop} (hP : x_ref P) (hk : k < 256) (hK : ∀ I' : Fm, (k = 1 → I' = f_u (f_u I 0 9 (nI 1)) 5 4 (nI 0)) → (k ≠ 1 → I' = f_u I 0 9 (nI 0)) → K none I' P) : Fk d m_D_setMode 77 77 0 0 [rf 1, .inr (nI k)] I P K :=
  sp_setMode hP hk (fun e => hK _ (fun _ => rfl) (fun z => absurd e z)) (fun e => hK _ (fun z => absurd z e) (fun _ => rfl))
theorem XR_clear {σ : Sg} {cm du : Nat → Nat} {I : Fm} {P : Fr} (h : XR σ cm du I P) : XR (w_pl σ []) cm du (f_u I 5 3 (nI 0)) P ∧ x_fr du I (f_u I 5 3 (nI 0)) := by
  refine ⟨XR_plan h h.1 h.2.1 ⟨f_u_s, by decide, fun i hi => absurd hi (Nat.not_lt_zero i)⟩ (f_uc (by decide) rfl) (fun a ha => f_u_ne (by omega)), fr_of h.2.1 (fun a ha => f_u_ne (by omega))⟩
set_option maxRecDepth 100000 in
set_option maxHeartbeats 4000000 in
theorem sp_perform {d k : Nat} {σ : Sg} {cm du : Nat → Nat} {c : List Nat} {I : Fm} {P : Fr} {K : Option Fs → Fm → Fr → Prop} (hX : XR σ cm du I P) (hk : isCm k) (hc : x_cmd I k c) (hv : e_one c = 0) (hr : e_ref σ c = 0) (hso : p_so (s_pl σ)) (hk3 : e_at c 0 = 3 → k = 3) (hk8 : e_at c 0 = 8 → k + 1 < 45) (hk40 : k + 1 < 40 ∨ 43 < k) (hK : ∀ (cm' : Nat → Nat) (I' : Fm) (P' : Fr), XR (e_perf σ c) cm' du I' P' → x_fr du I I' → K none I' P') : Fk (d + 3) m_D_perform 77 77 0 0 [rf 1, rf (k + 1)] I P K := by
  have hb := e_at_lt hc.2.2.2
  refine Fk.intro (by decide +kernel) (Nat.le_of_ble_eq_true rfl) (fun G hC => ?_)
  refine Zv.aload_n hC d_D_perform_0 rfl ?_
  refine Zv.callV0 hC d_D_perform_1 ml_D_134 mk_Cm_service rfl (Nat.le_of_ble_eq_true rfl) hk.1 (by have := hk.2.2.1; omega) ?_
  refine sp_service hk hX.1 hc ?_
  rcases (one_sv hv).1 with e | e | e | e | e | e | e | e | e | e | e
  · refine Zv.top (show _ = nI 1 by rw [e]) ?_
    refine Zv.tabOut (tgt := 199) hC d_D_perform_4 (by decide) (by decide) ?_
    have ha := ar_at (one_rng hv) e
    have ep : e_perf σ c = σ := by unfold e_perf; rw [e]; rfl
    rw [ep] at hK
    refine Zv.vret hC rfl d_D_perform_199 (Nat.le_refl _) (Nat.le_refl _) ?_
    exact hK cm I P hX x_fr_rf
  · refine Zv.top (show _ = nI 2 by rw [e]) ?_
    refine Zv.tabIn (tgt := 60) hC d_D_perform_4 (by decide) (by decide) rfl (by decide) ?_
    have ha := ar_at (one_rng hv) e
    have ep : e_perf σ c = w_pa σ (e_at c 1) (e_sgn (e_at c 2)) := by unfold e_perf; rw [e]; rfl
    rw [ep] at hK
    refine Zv.aload_n hC d_D_perform_60 rfl ?_
    refine Zv.aload_n hC d_D_perform_61 rfl ?_
    refine Zv.iconst hC d_D_perform_62 ic_1 ?_
    refine Zv.callV1 hC d_D_perform_63 ml_D_190 mk_Cm_part rfl (Nat.le_of_ble_eq_true rfl) hk.1 (by have := hk.2.2.1; omega) ?_
    refine sp_part hk hX.1 hc rfl (by decide) ?_
    refine Zv.aload_n hC d_D_perform_66 rfl ?_
    refine Zv.iconst hC d_D_perform_67 ic_2 ?_
    refine Zv.callV1 hC d_D_perform_68 ml_D_190 mk_Cm_part rfl (Nat.le_of_ble_eq_true rfl) hk.1 (by have := hk.2.2.1; omega) ?_
    refine sp_part hk hX.1 hc rfl (by decide) ?_
    refine Zv.callS1 hC d_D_perform_71 ml_D_213 mk_D_signed (Nat.le_of_ble_eq_true rfl) ?_
    refine sp_signed rfl (hb _) ?_
    refine Zv.callV2 hC d_D_perform_74 ml_D_238 mk_D_setParameter rfl (Nat.le_of_ble_eq_true rfl) rfl (by decide) ?_
    refine sp_setParameter hX.1 ha ?_
    refine Zv.goto (tgt := 199) hC d_D_perform_77 (by decide) ?_
    refine Zv.vret hC rfl d_D_perform_199 (Nat.le_refl _) (Nat.le_refl _) ?_
    exact hK _ _ _ (XR_par hX _).1 (XR_par hX _).2
  · refine Zv.top (show _ = nI 3 by rw [e]) ?_
    refine Zv.tabIn (tgt := 80) hC d_D_perform_4 (by decide) (by decide) rfl (by decide) ?_
    have ha := ar_at (one_rng hv) e
    have ep : e_perf σ c = w_pl σ (e_ins (s_pl σ) (e_at c 1 * 256 + e_at c 2) (c.drop 3)) := by unfold e_perf; rw [e]; rfl
    rw [ep] at hK
    refine Zv.aload_n hC d_D_perform_80 rfl ?_
    refine Zv.getr (q := 6) hC d_D_perform_81 fl_D_26 rfl rfl (by decide) (hX.1 _ _ (by decide) (by decide)) ?_
    refine Zv.aload_n hC d_D_perform_84 rfl ?_
    refine Zv.callS1 hC d_D_perform_85 ml_D_232 mk_D_timeOf (Nat.le_of_ble_eq_true rfl) ?_
    refine sp_timeOf hk hX.1 hc ?_
    refine Zv.aload_n hC d_D_perform_88 rfl ?_
    refine Zv.callV2 hC d_D_perform_89 ml_D_242 mk_Pl_put rfl (Nat.le_of_ble_eq_true rfl) rfl (by decide) ?_
    refine sp_put hX.1 hX.2.1 hX.2.2.2.1 hso (ref_full hr e).1 (by have := hb 1; have := hb 2; omega) hk (by have := hk3 e; omega) hc (by have := one_len3 hv e; omega) (fun I' P' cm' q1 q2 q3 q4 q5 q6 => ?_)
    have hfr : x_fr du I I' := by
      intro a hq
      rcases hq with hq | hq | hq | hq | hq | ⟨i, hi, hq⟩
      iterate 5 exact q4 a (by omega) (by omega) (fun j hj => by have := pc_bd hX.2.1 hj; omega)
      have b1 := (hX.2.1.1 i hi).2.2.2
      unfold isPC at b1
      refine q4 a (by omega) (by omega) (fun j hj => ?_)
      have b2 := (hX.2.1.1 j hj).2.2.1
      have b3 := hX.2.1.2.2.2 j i hj hi
      unfold isPC at b2
      omega
    refine Zv.goto (tgt := 199) hC d_D_perform_92 (by decide) ?_
    refine Zv.vret hC rfl d_D_perform_199 (Nat.le_refl _) (Nat.le_refl _) ?_
    exact hK cm' I' P' (XR_plan hX q1 q2 q3 q5 (fun a ha => q4 a (by omega) (by omega) (fun i hi => by have := pc_bd hX.2.1 hi; omega))) hfr
  · refine Zv.top (show _ = nI 4 by rw [e]) ?_
    refine Zv.tabIn (tgt := 95) hC d_D_perform_4 (by decide) (by decide) rfl (by decide) ?_
    have ha := ar_at (one_rng hv) e
    have ep : e_perf σ c = if e_at c 1 = 2 then w_pl σ [] else w_g σ 2 (if e_at c 1 = 1 then 1 else 0) := by unfold e_perf; rw [e]; rfl
    rw [ep] at hK
    refine Zv.aload_n hC d_D_perform_95 rfl ?_
    refine Zv.aload_n hC d_D_perform_96 rfl ?_
    refine Zv.iconst hC d_D_perform_97 ic_1 ?_
    refine Zv.callV1 hC d_D_perform_98 ml_D_190 mk_Cm_part rfl (Nat.le_of_ble_eq_true rfl) hk.1 (by have := hk.2.2.1; omega) ?_
    refine sp_part hk hX.1 hc rfl (by decide) ?_
    refine Zv.callV1 hC d_D_perform_101 ml_D_246 mk_D_steerPlan rfl (Nat.le_of_ble_eq_true rfl) rfl (by decide) ?_
    refine sp_steerN hX.1 (hb 1) (fun I' q1 q2 => ?_)
    refine Zv.goto (tgt := 199) hC d_D_perform_104 (by decide) ?_
    refine Zv.vret hC rfl d_D_perform_199 (Nat.le_refl _) (Nat.le_refl _) ?_
    by_cases e2 : e_at c 1 = 2
    · rw [if_pos e2] at hK
      rw [q1 e2]
      exact hK _ _ _ (XR_clear hX).1 (XR_clear hX).2
    · rw [if_neg e2] at hK
      rw [q2 e2]
      exact hK _ _ _ (XR_runs hX _).1 (XR_runs hX _).2
  · refine Zv.top (show _ = nI 5 by rw [e]) ?_
    refine Zv.tabIn (tgt := 107) hC d_D_perform_4 (by decide) (by decide) rfl (by decide) ?_
    have ha := ar_at (one_rng hv) e
    have ep : e_perf σ c = w_pl σ (e_shift (s_pl σ) (e_sgz (e_at c 1))) := by unfold e_perf; rw [e]; rfl
    rw [ep] at hK
    refine Zv.aload_n hC d_D_perform_107 rfl ?_
    refine Zv.getr (q := 6) hC d_D_perform_108 fl_D_26 rfl rfl (by decide) (hX.1 _ _ (by decide) (by decide)) ?_
    refine Zv.aload_n hC d_D_perform_111 rfl ?_
    refine Zv.iconst hC d_D_perform_112 ic_1 ?_
    refine Zv.callV1 hC d_D_perform_113 ml_D_190 mk_Cm_part rfl (Nat.le_of_ble_eq_true rfl) hk.1 (by have := hk.2.2.1; omega) ?_
    refine sp_part hk hX.1 hc rfl (by decide) ?_
    refine Zv.callS1 hC d_D_perform_116 ml_D_213 mk_D_signed (Nat.le_of_ble_eq_true rfl) ?_
    refine sp_signed rfl (hb _) ?_
    refine Zv.callV1 hC d_D_perform_119 ml_D_250 mk_Pl_shift rfl (Nat.le_of_ble_eq_true rfl) rfl (by decide) ?_
    refine sp_shift hX.1 hX.2.1 hX.2.2.2.1 (hb 1) (ref_shift hr e) (fun I' q1 q2 => ?_)
    refine Zv.goto (tgt := 199) hC d_D_perform_122 (by decide) ?_
    refine Zv.vret hC rfl d_D_perform_199 (Nat.le_refl _) (Nat.le_refl _) ?_
    exact hK cm I' P (XR_plan hX hX.1 hX.2.1 q1 (by rw [q2 5 (by decide)]) (fun a ha => q2 a (by omega))) (fr_of hX.2.1 (fun a ha => q2 a (by omega)))
  · refine Zv.top (show _ = nI 6 by rw [e]) ?_
    refine Zv.tabIn (tgt := 125) hC d_D_perform_4 (by decide) (by decide) rfl (by decide) ?_
    have ha := ar_at (one_rng hv) e
    have ep : e_perf σ c = w_wb (w_wn σ (s_u (s_wn σ) (e_at c 1) (fun j => match j with | 0 => 1 | 1 => e_at c 2 | 2 => e_at c 5 | 3 => e_at c 6 | _ => 0))) (s_u (s_wb σ) (e_at c 1) (fun j => match j with | 0 => e_sgn (e_at c 3) | _ => e_sgn (e_at c 4))) := by unfold e_perf; rw [e]; rfl
    rw [ep] at hK
    refine Zv.aload_n hC d_D_perform_125 rfl ?_
    refine Zv.aload_n hC d_D_perform_126 rfl ?_
    refine Zv.callV1 hC d_D_perform_127 ml_D_253 mk_D_startWatch rfl (Nat.le_of_ble_eq_true rfl) rfl (by decide) ?_
    refine sp_startWatch hX.1 hk hk40 hc rfl ha.1 (fun I' q1 q2 => ?_)
    refine Zv.goto (tgt := 199) hC d_D_perform_130 (by decide) ?_
    refine Zv.vret hC rfl d_D_perform_199 (Nat.le_refl _) (Nat.le_refl _) ?_
    exact hK cm I' P (XR_wat hX ha.1 q1 q2).1 (XR_wat hX ha.1 q1 q2).2
  · refine Zv.top (show _ = nI 7 by rw [e]) ?_
    refine Zv.tabIn (tgt := 133) hC d_D_perform_4 (by decide) (by decide) rfl (by decide) ?_
    have ha := ar_at (one_rng hv) e
    have ep : e_perf σ c = w_wn σ (s_u (s_wn σ) (e_at c 1) (s_u (s_wn σ (e_at c 1)) 0 0)) := by unfold e_perf; rw [e]; rfl
    rw [ep] at hK
    refine Zv.aload_n hC d_D_perform_133 rfl ?_
    refine Zv.aload_n hC d_D_perform_134 rfl ?_
    refine Zv.iconst hC d_D_perform_135 ic_1 ?_
    refine Zv.callV1 hC d_D_perform_136 ml_D_190 mk_Cm_part rfl (Nat.le_of_ble_eq_true rfl) hk.1 (by have := hk.2.2.1; omega) ?_
    refine sp_part hk hX.1 hc rfl (by decide) ?_
    refine Zv.callV1 hC d_D_perform_139 ml_D_256 mk_D_stopWatch rfl (Nat.le_of_ble_eq_true rfl) rfl (by decide) ?_
    refine sp_stopWatch hX.1 ha ?_
    refine Zv.goto (tgt := 199) hC d_D_perform_142 (by decide) ?_
    refine Zv.vret hC rfl d_D_perform_199 (Nat.le_refl _) (Nat.le_refl _) ?_
    have q := XR_wat (m := e_at c 1) hX ha (n := s_u (s_wn σ (e_at c 1)) 0 0) (b := s_wb σ (e_at c 1)) (I' := f_u I (40 + e_at c 1) 0 (nI 0)) ⟨f_u_s, f_uc (by decide) (hX.2.2.2.2.2.2.2.1 _ ha).2.1, f_uc (by decide) (hX.2.2.2.2.2.2.2.1 _ ha).2.2.1, f_uc (by decide) (hX.2.2.2.2.2.2.2.1 _ ha).2.2.2.1, f_uc (by decide) (hX.2.2.2.2.2.2.2.1 _ ha).2.2.2.2.1, f_uc (by decide) (hX.2.2.2.2.2.2.2.1 _ ha).2.2.2.2.2.1, f_uc (by decide) (hX.2.2.2.2.2.2.2.1 _ ha).2.2.2.2.2.2⟩ (fun a h => f_u_ne h)
    rw [show s_u (s_wb σ) (e_at c 1) (s_wb σ (e_at c 1)) = s_wb σ from funext fun j => by unfold s_u; split; subst_vars; rfl; rfl] at q
    exact hK cm _ P q.1 q.2
  · refine Zv.top (show _ = nI 8 by rw [e]) ?_
    refine Zv.tabIn (tgt := 145) hC d_D_perform_4 (by decide) (by decide) rfl (by decide) ?_
    have ha := ar_at (one_rng hv) e
    have ep : e_perf σ c = w_ac σ (e_at c 1) (c.drop 2) := by unfold e_perf; rw [e]; rfl
    rw [ep] at hK
    refine Zv.aload_n hC d_D_perform_145 rfl ?_
    refine Zv.aload_n hC d_D_perform_146 rfl ?_
    refine Zv.callV1 hC d_D_perform_147 ml_D_259 mk_D_setAction rfl (Nat.le_of_ble_eq_true rfl) rfl (by decide) ?_
    refine sp_setAction hX.1 hk (hk8 e) hc (by have := one_len8 hv e; omega) rfl ha (fun I' q1 q2 => ?_)
    refine Zv.goto (tgt := 199) hC d_D_perform_150 (by decide) ?_
    refine Zv.vret hC rfl d_D_perform_199 (Nat.le_refl _) (Nat.le_refl _) ?_
    exact hK cm I' P (XR_act hX ha q1 q2).1 (XR_act hX ha q1 q2).2
  · refine Zv.top (show _ = nI 9 by rw [e]) ?_
    refine Zv.tabIn (tgt := 153) hC d_D_perform_4 (by decide) (by decide) rfl (by decide) ?_
    have ha := ar_at (one_rng hv) e
    have ep : e_perf σ c = w_ac σ (e_at c 1) [] := by unfold e_perf; rw [e]; rfl
    rw [ep] at hK
    refine Zv.aload_n hC d_D_perform_153 rfl ?_
    refine Zv.aload_n hC d_D_perform_154 rfl ?_
    refine Zv.iconst hC d_D_perform_155 ic_1 ?_
    refine Zv.callV1 hC d_D_perform_156 ml_D_190 mk_Cm_part rfl (Nat.le_of_ble_eq_true rfl) hk.1 (by have := hk.2.2.1; omega) ?_
    refine sp_part hk hX.1 hc rfl (by decide) ?_
    refine Zv.callV1 hC d_D_perform_159 ml_D_262 mk_D_dropAction rfl (Nat.le_of_ble_eq_true rfl) rfl (by decide) ?_
    refine sp_dropAction hX.1 ha ?_
    refine Zv.goto (tgt := 199) hC d_D_perform_162 (by decide) ?_
    refine Zv.vret hC rfl d_D_perform_199 (Nat.le_refl _) (Nat.le_refl _) ?_
    have q := XR_act (e := e_at c 1) (c := []) hX ha (I' := f_u I (45 + 2 * e_at c 1) 1 (nI 0)) ⟨f_u_s, by decide, fun i hi => absurd hi (Nat.not_lt_zero i), fun x hx => absurd hx List.not_mem_nil⟩ (fun a h _ => f_u_ne h)
    exact hK cm _ P q.1 q.2
  · refine Zv.top (show _ = nI 10 by rw [e]) ?_
    refine Zv.tabIn (tgt := 165) hC d_D_perform_4 (by decide) (by decide) rfl (by decide) ?_
    have ha := ar_at (one_rng hv) e
    have ep : e_perf σ c = w_ho σ (s_u (s_ho σ) (e_at c 1) (fun j => match j with | 0 => e_at c 2 | _ => e_at c 3)) := by unfold e_perf; rw [e]; rfl
    rw [ep] at hK
    refine Zv.aload_n hC d_D_perform_165 rfl ?_
    refine Zv.aload_n hC d_D_perform_166 rfl ?_
    refine Zv.iconst hC d_D_perform_167 ic_1 ?_
    refine Zv.callV1 hC d_D_perform_168 ml_D_190 mk_Cm_part rfl (Nat.le_of_ble_eq_true rfl) hk.1 (by have := hk.2.2.1; omega) ?_
    refine sp_part hk hX.1 hc rfl (by decide) ?_
    refine Zv.aload_n hC d_D_perform_171 rfl ?_
    refine Zv.iconst hC d_D_perform_172 ic_2 ?_
    refine Zv.callV1 hC d_D_perform_173 ml_D_190 mk_Cm_part rfl (Nat.le_of_ble_eq_true rfl) hk.1 (by have := hk.2.2.1; omega) ?_
    refine sp_part hk hX.1 hc rfl (by decide) ?_
    refine Zv.aload_n hC d_D_perform_176 rfl ?_
    refine Zv.iconst hC d_D_perform_177 ic_3 ?_
    refine Zv.callV1 hC d_D_perform_178 ml_D_190 mk_Cm_part rfl (Nat.le_of_ble_eq_true rfl) hk.1 (by have := hk.2.2.1; omega) ?_
    refine sp_part hk hX.1 hc rfl (by decide) ?_
    refine Zv.callV3 hC d_D_perform_181 ml_D_265 mk_D_setList rfl (Nat.le_of_ble_eq_true rfl) rfl (by decide) ?_
    refine sp_setList hX.1 ha ?_
    refine Zv.goto (tgt := 199) hC d_D_perform_184 (by decide) ?_
    refine Zv.vret hC rfl d_D_perform_199 (Nat.le_refl _) (Nat.le_refl _) ?_
    exact hK cm _ P (XR_lis hX ha).1 (XR_lis hX ha).2
  · refine Zv.top (show _ = nI 11 by rw [e]) ?_
    refine Zv.tabIn (tgt := 187) hC d_D_perform_4 (by decide) (by decide) rfl (by decide) ?_
    have ha := ar_at (one_rng hv) e
    have ep : e_perf σ c = if e_at c 1 = 1 then w_g (w_g σ 1 1) 2 0 else w_g σ 1 0 := by unfold e_perf; rw [e]; rfl
    rw [ep] at hK
    refine Zv.aload_n hC d_D_perform_187 rfl ?_
    refine Zv.aload_n hC d_D_perform_188 rfl ?_
    refine Zv.iconst hC d_D_perform_189 ic_1 ?_
    refine Zv.callV1 hC d_D_perform_190 ml_D_190 mk_Cm_part rfl (Nat.le_of_ble_eq_true rfl) hk.1 (by have := hk.2.2.1; omega) ?_
    refine sp_part hk hX.1 hc rfl (by decide) ?_
    refine Zv.callV1 hC d_D_perform_193 ml_D_269 mk_D_setMode rfl (Nat.le_of_ble_eq_true rfl) rfl (by decide) ?_
    refine sp_modeN hX.1 (hb 1) (fun I' q1 q2 => ?_)
    refine Zv.goto (tgt := 199) hC d_D_perform_196 (by decide) ?_
    refine Zv.vret hC rfl d_D_perform_199 (Nat.le_refl _) (Nat.le_refl _) ?_
    by_cases e2 : e_at c 1 = 1
    · rw [if_pos e2] at hK
      rw [q1 e2]
      have a1 := XR_g (v := 1) hX (Or.inr (Or.inl ⟨rfl, rfl⟩))
      have a2 := XR_runs a1.1 0
      exact hK _ _ _ a2.1 (x_fr_tr a1.2 a2.2)
    · rw [if_neg e2] at hK
      rw [q2 e2]
      have a1 := XR_g (v := 0) hX (Or.inr (Or.inl ⟨rfl, rfl⟩))
      exact hK _ _ _ a1.1 a1.2
