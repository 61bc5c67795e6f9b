/-- an answer by an index of n: f of it, or REFUSED -/
def A_ix (n : Nat) (f : Nat → Int32) (x r : Int32) : Prop := (∀ j, j < n → x = nI j → r = f j) ∧ ((¬ ∃ j, j < n ∧ x = nI j) → r = -1000)
theorem A_ix_fun {n : Nat} {f g : Nat → Int32} {x r r' : Int32} (h : A_ix n f x r) (h' : A_ix n g x r') (hfg : ∀ j, j < n → f j = g j) : r = r' := by
  by_cases e : ∃ j, j < n ∧ x = nI j
  · obtain ⟨j, hj, ex⟩ := e
    rw [h.1 j hj ex, h'.1 j hj ex, hfg j hj]
  · rw [h.2 e, h'.2 e]
theorem A_in {n : Nat} {f : Nat → Int32} {j : Nat} (hj : j < n) (hn : n < 2 ^ 31) : A_ix n f (nI j) (f j) := ⟨fun i hi e => by rw [q_e e (by omega) (by omega)], fun z => absurd ⟨j, hj, rfl⟩ z⟩
theorem A_out {n : Nat} {f : Nat → Int32} {x : Int32} (h : ¬ ∃ j, j < n ∧ x = nI j) : A_ix n f x (-1000) := ⟨fun j hj e => absurd ⟨j, hj, e⟩ h, fun _ => rfl⟩
theorem q_outT {x : Int32} {n : Nat} (h : ¬ ∃ j, j < n ∧ x = nI j) (hn : n < 2 ^ 31) : x.toInt < 0 ∨ (n : Int) - 1 < x.toInt := by
  apply Classical.byContradiction
  intro z
  apply h
  refine ⟨x.toInt.toNat, by omega, ?_⟩
  apply Int32.toInt_inj.mp
  rw [nI_toInt (by omega)]
  omega
theorem sp_isParameterR {d : Nat} {x : Int32} {I : Fm} {P : Fr} {K : Option Fs → Fm → Fr → Prop} (hK : ∀ r : Nat, r < 2 → (r ≠ 0 ↔ ∃ j, j < 8 ∧ x = nI j) → K (some (.inr (nI r))) I P) : Fk d m_D_isParameter 77 77 0 0 [.inr x] I P K :=
  sp_isParameter (fun j hj e => hK 1 (by decide) ⟨fun _ => ⟨j, hj, e⟩, fun _ => by decide⟩) (fun hn => hK 0 (by decide) ⟨fun z => absurd rfl z, fun z => absurd z hn⟩)
theorem sp_isWatchR {d : Nat} {x : Int32} {I : Fm} {P : Fr} {K : Option Fs → Fm → Fr → Prop} (hK : ∀ r : Nat, r < 2 → (r ≠ 0 ↔ ∃ j, j < 4 ∧ x = nI j) → K (some (.inr (nI r))) I P) : Fk d m_D_isWatch 77 77 0 0 [.inr x] I P K :=
  sp_isWatch (fun j hj e => hK 1 (by decide) ⟨fun _ => ⟨j, hj, e⟩, fun _ => by decide⟩) (fun hn => hK 0 (by decide) ⟨fun z => absurd rfl z, fun z => absurd z hn⟩)
theorem sp_isEventR {d : Nat} {x : Int32} {I : Fm} {P : Fr} {K : Option Fs → Fm → Fr → Prop} (hK : ∀ r : Nat, r < 2 → (r ≠ 0 ↔ ∃ j, j < 4 ∧ x = nI j) → K (some (.inr (nI r))) I P) : Fk d m_D_isEvent 77 77 0 0 [.inr x] I P K :=
  sp_isEvent (fun j hj e => hK 1 (by decide) ⟨fun _ => ⟨j, hj, e⟩, fun _ => by decide⟩) (fun hn => hK 0 (by decide) ⟨fun z => absurd rfl z, fun z => absurd z hn⟩)
theorem sp_hasR {d : Nat} {x : Int32} {cm : Nat → Nat} {pl : List (Nat × List Nat)} {I : Fm} {P : Fr} {K : Option Fs → Fm → Fr → Prop} (h : x_pl I cm pl) (hK : ∀ r : Nat, r < 2 → (r ≠ 0 ↔ ∃ j, j < pl.length ∧ x = nI j) → K (some (.inr (nI r))) I P) : Fk d m_Pl_has 77 77 0 0 [rf 6, .inr x] I P K :=
  sp_has h (fun j hj e => hK 1 (by decide) ⟨fun _ => ⟨j, hj, e⟩, fun _ => by decide⟩) (fun hn => hK 0 (by decide) ⟨fun z => absurd rfl z, fun z => absurd z hn⟩)
theorem sp_sEmptyN {d o lost : Nat} {sr : List Q4} {I : Fm} {P : Fr} {K : Option Fs → Fm → Fr → Prop} (h : x_so I o sr lost) (hK : ∀ r : Nat, r < 2 → (r ≠ 0 ↔ sr = []) → K (some (.inr (nI r))) I P) : Fk d m_St_isEmpty 77 77 0 0 [rf 34] I P K :=
  sp_sEmpty h (by
    by_cases e : sr = []
    · rw [if_pos e]; exact hK 1 (by decide) ⟨fun _ => e, fun _ => by decide⟩
    · rw [if_neg e]; exact hK 0 (by decide) ⟨fun z => absurd rfl z, fun z => absurd z e⟩)
set_option maxRecDepth 100000 in
set_option maxHeartbeats 4000000 in
theorem sp_parameter {d : Nat} {σ : Sg} {cm du : Nat → Nat} {x : Int32} {I : Fm} {P : Fr} {K : Option Fs → Fm → Fr → Prop} (hX : XR σ cm du I P) (hK : ∀ r : Int32, A_ix 8 (s_pa σ) x r → K (some (.inr r)) I P) : Fk (d + 1) m_D_parameter 77 77 0 0 [rf 1, .inr x] I P K := by
  refine Fk.intro (by decide +kernel) (Nat.le_of_ble_eq_true rfl) (fun G hC => ?_)
  refine Zv.iload_n hC d_D_parameter_0 rfl ?_
  refine Zv.callS1 hC d_D_parameter_1 ml_D_122 mk_D_isParameter (Nat.le_of_ble_eq_true rfl) ?_
  refine sp_isParameterR (fun r hr he => ?_)
  refine Zv.if_eq (tgt := 16) hC d_D_parameter_4 (by decide) (fun h4 => ?_) (fun h4 => ?_)
  · try have g4 := q_e0 h4 (by omega)
    have hn : ¬ ∃ j, j < 8 ∧ x = nI j := fun z => absurd (he.mpr z) (by omega)
    refine Zv.sipush hC d_D_parameter_16 sp_m1000 ?_
    refine Zv.iret hC rfl d_D_parameter_19 (Nat.le_refl _) (Nat.le_refl _) ?_
    exact hK _ (A_out hn)
  · try have g4 := q_n0 h4
    obtain ⟨j, hj, e⟩ := he.mp g4
    subst e
    refine Zv.aload_n hC d_D_parameter_7 rfl ?_
    refine Zv.getr (q := 39) hC d_D_parameter_8 fl_D_37 rfl rfl (by decide) (hX.1 _ _ (by decide) (by decide)) ?_
    refine Zv.iload_n hC d_D_parameter_11 rfl ?_
    refine Zv.iald hC d_D_parameter_12 rfl (by decide) rfl (by omega) (by first | decide | omega) (hX.2.2.2.2.2.2.1 j hj) ?_
    refine Zv.goto (tgt := 19) hC d_D_parameter_13 (by decide) ?_
    refine Zv.iret hC rfl d_D_parameter_19 (Nat.le_refl _) (Nat.le_refl _) ?_
    exact hK _ (A_in hj (by decide))
set_option maxRecDepth 100000 in
set_option maxHeartbeats 4000000 in
theorem sp_sense {y : Int32} {d : Nat} {σ : Sg} {cm du : Nat → Nat} {x : Int32} {I : Fm} {P : Fr} {K : Option Fs → Fm → Fr → Prop} (hX : XR σ cm du I P) (hK1 : ∀ j, j < 8 → x = nI j → (¬ y < -128 ∧ y ≤ nI 127) → K (some (.inr (s_pa σ j))) (f_u I 38 j y) P) (hK0 : ((¬ ∃ j, j < 8 ∧ x = nI j) ∨ ¬ (¬ y < -128 ∧ y ≤ nI 127)) → K (some (.inr (-1000))) I P) : Fk (d + 1) m_D_sense 77 77 0 0 [rf 1, .inr x, .inr y] I P K := by
  refine Fk.intro (by decide +kernel) (Nat.le_of_ble_eq_true rfl) (fun G hC => ?_)
  refine Zv.iload_n hC d_D_sense_0 rfl ?_
  refine Zv.callS1 hC d_D_sense_1 ml_D_122 mk_D_isParameter (Nat.le_of_ble_eq_true rfl) ?_
  refine sp_isParameterR (fun r hr he => ?_)
  refine Zv.if_eq (tgt := 19) hC d_D_sense_4 (by decide) (fun h4 => ?_) (fun h4 => ?_)
  · try have g4 := q_e0 h4 (by omega)
    have hn : ¬ ∃ j, j < 8 ∧ x = nI j := fun z => absurd (he.mpr z) (by omega)
    refine Zv.sipush hC d_D_sense_19 sp_m1000 ?_
    refine Zv.iret hC rfl d_D_sense_22 (Nat.le_refl _) (Nat.le_refl _) ?_
    exact hK0 (Or.inl hn)
  · try have g4 := q_n0 h4
    refine Zv.iload_n hC d_D_sense_7 rfl ?_
    refine Zv.bipush hC d_D_sense_8 bp_m128 ?_
    refine Zv.icmp_lt (tgt := 19) hC d_D_sense_10 (by decide) (fun h10 => ?_) (fun h10 => ?_)
    · skip
      refine Zv.sipush hC d_D_sense_19 sp_m1000 ?_
      refine Zv.iret hC rfl d_D_sense_22 (Nat.le_refl _) (Nat.le_refl _) ?_
      exact hK0 (Or.inr (fun z => z.1 h10))
    · skip
      refine Zv.iload_n hC d_D_sense_13 rfl ?_
      refine Zv.bipush hC d_D_sense_14 bp_127 ?_
      refine Zv.icmp_le (tgt := 23) hC d_D_sense_16 (by decide) (fun h16 => ?_) (fun h16 => ?_)
      · skip
        obtain ⟨j, hj, e⟩ := he.mp g4
        subst e
        refine Zv.aload_n hC d_D_sense_23 rfl ?_
        refine Zv.getr (q := 39) hC d_D_sense_24 fl_D_37 rfl rfl (by decide) (hX.1 _ _ (by decide) (by decide)) ?_
        refine Zv.iload_n hC d_D_sense_27 rfl ?_
        refine Zv.iald hC d_D_sense_28 rfl (by decide) rfl (by omega) (by first | decide | omega) (hX.2.2.2.2.2.2.1 j hj) ?_
        refine Zv.istore_n hC d_D_sense_29 (by decide) rfl ?_
        refine Zv.aload_n hC d_D_sense_30 rfl ?_
        refine Zv.getr (q := 39) hC d_D_sense_31 fl_D_37 rfl rfl (by decide) (hX.1 _ _ (by decide) (by decide)) ?_
        refine Zv.iload_n hC d_D_sense_34 rfl ?_
        refine Zv.iload_n hC d_D_sense_35 rfl ?_
        refine Zv.iast hC d_D_sense_36 rfl (by decide) rfl (by omega) (by first | decide | omega) ?_
        refine Zv.iload_n hC d_D_sense_37 rfl ?_
        refine Zv.iret hC rfl d_D_sense_38 (Nat.le_refl _) (Nat.le_refl _) ?_
        exact hK1 j hj rfl ⟨h10, h16⟩
      · skip
        refine Zv.sipush hC d_D_sense_19 sp_m1000 ?_
        refine Zv.iret hC rfl d_D_sense_22 (Nat.le_refl _) (Nat.le_refl _) ?_
        exact hK0 (Or.inr (fun z => h16 z.2))
set_option maxRecDepth 100000 in
set_option maxHeartbeats 4000000 in
theorem sp_planned {d : Nat} {σ : Sg} {cm du : Nat → Nat} {x : Int32} {I : Fm} {P : Fr} {K : Option Fs → Fm → Fr → Prop} (hX : XR σ cm du I P) (hK : ∀ r : Int32, A_ix (s_pl σ).length (fun j => nI (p_t (s_pl σ) j)) x r → K (some (.inr r)) I P) : Fk (d + 1) m_D_planned 77 77 0 0 [rf 1, .inr x] I P K := by
  have hl := hX.2.2.2.1.2.1
  refine Fk.intro (by decide +kernel) (Nat.le_of_ble_eq_true rfl) (fun G hC => ?_)
  refine Zv.aload_n hC d_D_planned_0 rfl ?_
  refine Zv.getr (q := 6) hC d_D_planned_1 fl_D_26 rfl rfl (by decide) (hX.1 _ _ (by decide) (by decide)) ?_
  refine Zv.iload_n hC d_D_planned_4 rfl ?_
  refine Zv.callV1 hC d_D_planned_5 ml_D_125 mk_Pl_has rfl (Nat.le_of_ble_eq_true rfl) rfl (by decide) ?_
  refine sp_hasR hX.2.2.2.1 (fun r hr he => ?_)
  refine Zv.if_eq (tgt := 23) hC d_D_planned_8 (by decide) (fun h8 => ?_) (fun h8 => ?_)
  · try have g8 := q_e0 h8 (by omega)
    have hn : ¬ ∃ j, j < (s_pl σ).length ∧ x = nI j := fun z => absurd (he.mpr z) (by omega)
    refine Zv.sipush hC d_D_planned_23 sp_m1000 ?_
    refine Zv.iret hC rfl d_D_planned_26 (Nat.le_refl _) (Nat.le_refl _) ?_
    exact hK _ (A_out hn)
  · try have g8 := q_n0 h8
    obtain ⟨j, hj, e⟩ := he.mp g8
    subst e
    refine Zv.aload_n hC d_D_planned_11 rfl ?_
    refine Zv.getr (q := 6) hC d_D_planned_12 fl_D_26 rfl rfl (by decide) (hX.1 _ _ (by decide) (by decide)) ?_
    refine Zv.getr (q := 7) hC d_D_planned_15 fl_D_128 rfl rfl (by decide) (hX.1 _ _ (by decide) (by decide)) ?_
    refine Zv.iload_n hC d_D_planned_18 rfl ?_
    refine Zv.iald hC d_D_planned_19 rfl (by decide) rfl (by omega) (by first | decide | omega) ((hX.2.2.2.1.2.2 j hj).1) ?_
    refine Zv.goto (tgt := 26) hC d_D_planned_20 (by decide) ?_
    refine Zv.iret hC rfl d_D_planned_26 (Nat.le_refl _) (Nat.le_refl _) ?_
    exact hK _ (A_in (f := fun j => nI (p_t (s_pl σ) j)) hj (by omega))
set_option maxRecDepth 100000 in
set_option maxHeartbeats 4000000 in
theorem sp_plannedService {d : Nat} {σ : Sg} {cm du : Nat → Nat} {x : Int32} {I : Fm} {P : Fr} {K : Option Fs → Fm → Fr → Prop} (hX : XR σ cm du I P) (hK : ∀ r : Int32, A_ix (s_pl σ).length (fun j => nI (e_at (p_c (s_pl σ) j) 0)) x r → K (some (.inr r)) I P) : Fk (d + 2) m_D_plannedService 77 77 0 0 [rf 1, .inr x] I P K := by
  have hl := hX.2.2.2.1.2.1
  refine Fk.intro (by decide +kernel) (Nat.le_of_ble_eq_true rfl) (fun G hC => ?_)
  refine Zv.aload_n hC d_D_plannedService_0 rfl ?_
  refine Zv.getr (q := 6) hC d_D_plannedService_1 fl_D_26 rfl rfl (by decide) (hX.1 _ _ (by decide) (by decide)) ?_
  refine Zv.iload_n hC d_D_plannedService_4 rfl ?_
  refine Zv.callV1 hC d_D_plannedService_5 ml_D_125 mk_Pl_has rfl (Nat.le_of_ble_eq_true rfl) rfl (by decide) ?_
  refine sp_hasR hX.2.2.2.1 (fun r hr he => ?_)
  refine Zv.if_eq (tgt := 26) hC d_D_plannedService_8 (by decide) (fun h8 => ?_) (fun h8 => ?_)
  · try have g8 := q_e0 h8 (by omega)
    have hn : ¬ ∃ j, j < (s_pl σ).length ∧ x = nI j := fun z => absurd (he.mpr z) (by omega)
    refine Zv.sipush hC d_D_plannedService_26 sp_m1000 ?_
    refine Zv.iret hC rfl d_D_plannedService_29 (Nat.le_refl _) (Nat.le_refl _) ?_
    exact hK _ (A_out hn)
  · try have g8 := q_n0 h8
    obtain ⟨j, hj, e⟩ := he.mp g8
    subst e
    have hcj := isPC_cm (hX.2.1.1 j (by omega)).2.2.1
    refine Zv.aload_n hC d_D_plannedService_11 rfl ?_
    refine Zv.getr (q := 6) hC d_D_plannedService_12 fl_D_26 rfl rfl (by decide) (hX.1 _ _ (by decide) (by decide)) ?_
    refine Zv.getr (q := 8) hC d_D_plannedService_15 fl_D_131 rfl rfl (by decide) (hX.1 _ _ (by decide) (by decide)) ?_
    refine Zv.iload_n hC d_D_plannedService_18 rfl ?_
    refine Zv.aald (q := ((cm j)) + 1) hC d_D_plannedService_19 rfl (fun _ => rfl) (by decide) (by decide) rfl (by omega) (by decide) ((hX.2.1.1 j (by omega)).1) ?_
    refine Zv.callV0 hC d_D_plannedService_20 ml_D_134 mk_Cm_service rfl (Nat.le_of_ble_eq_true rfl) hcj.1 (by have := hcj.2.2.1; omega) ?_
    refine sp_service hcj hX.1 (hX.2.2.2.1.2.2 j hj).2.1 ?_
    refine Zv.goto (tgt := 29) hC d_D_plannedService_23 (by decide) ?_
    refine Zv.iret hC rfl d_D_plannedService_29 (Nat.le_refl _) (Nat.le_refl _) ?_
    exact hK _ (A_in (f := fun j => nI (e_at (p_c (s_pl σ) j) 0)) hj (by omega))
set_option maxRecDepth 100000 in
set_option maxHeartbeats 4000000 in
theorem sp_watch {d : Nat} {σ : Sg} {cm du : Nat → Nat} {x : Int32} {I : Fm} {P : Fr} {K : Option Fs → Fm → Fr → Prop} (hX : XR σ cm du I P) (hwb : ∀ m, m < 4 → s_wn σ m 0 < 2) (hK : ∀ r : Int32, A_ix 4 (fun m => if s_wn σ m 0 = 0 then -1 else nI (s_wn σ m 4)) x r → K (some (.inr r)) I P) : Fk (d + 1) m_D_watch 77 77 0 0 [rf 1, .inr x] I P K := by
  refine Fk.intro (by decide +kernel) (Nat.le_of_ble_eq_true rfl) (fun G hC => ?_)
  refine Zv.iload_n hC d_D_watch_0 rfl ?_
  refine Zv.callS1 hC d_D_watch_1 ml_D_137 mk_D_isWatch (Nat.le_of_ble_eq_true rfl) ?_
  refine sp_isWatchR (fun r hr he => ?_)
  refine Zv.if_ne (tgt := 11) hC d_D_watch_4 (by decide) (fun h4 => ?_) (fun h4 => ?_)
  · try have g4 := q_n0 h4
    obtain ⟨j, hj, e⟩ := he.mp g4
    subst e
    have hw := wa_row hX.1 hj
    have hwa := hX.2.2.2.2.2.2.2.1 j hj
    have hw2 := hwb j hj
    refine Zv.aload_n hC d_D_watch_11 rfl ?_
    refine Zv.getr (q := 40) hC d_D_watch_12 fl_D_43 rfl rfl (by decide) (hX.1 _ _ (by decide) (by decide)) ?_
    refine Zv.iload_n hC d_D_watch_15 rfl ?_
    refine Zv.aald (q := ((40 + j)) + 1) hC d_D_watch_16 rfl (fun _ => rfl) (by decide) (by decide) rfl (by omega) (by decide) hw.2.2 ?_
    refine Zv.geti hC d_D_watch_17 fl_D_79 rfl hw.1 hw.2.1 hwa.1 ?_
    refine Zv.if_eq (tgt := 35) hC d_D_watch_20 (by decide) (fun h20 => ?_) (fun h20 => ?_)
    · try have g20 := q_e0 h20 (by omega)
      refine Zv.iconst hC d_D_watch_35 ic_m1 ?_
      refine Zv.iret hC rfl d_D_watch_36 (Nat.le_refl _) (Nat.le_refl _) ?_
      have q := A_in (f := fun m => if s_wn σ m 0 = 0 then -1 else nI (s_wn σ m 4)) hj (by decide)
      rw [if_pos g20] at q
      exact hK _ q
    · try have g20 := q_n0 h20
      refine Zv.aload_n hC d_D_watch_23 rfl ?_
      refine Zv.getr (q := 40) hC d_D_watch_24 fl_D_43 rfl rfl (by decide) (hX.1 _ _ (by decide) (by decide)) ?_
      refine Zv.iload_n hC d_D_watch_27 rfl ?_
      refine Zv.aald (q := ((40 + j)) + 1) hC d_D_watch_28 rfl (fun _ => rfl) (by decide) (by decide) rfl (by omega) (by decide) hw.2.2 ?_
      refine Zv.geti hC d_D_watch_29 fl_D_140 rfl hw.1 hw.2.1 hwa.2.2.2.2.2.2 ?_
      refine Zv.goto (tgt := 36) hC d_D_watch_32 (by decide) ?_
      refine Zv.iret hC rfl d_D_watch_36 (Nat.le_refl _) (Nat.le_refl _) ?_
      have q := A_in (f := fun m => if s_wn σ m 0 = 0 then -1 else nI (s_wn σ m 4)) hj (by decide)
      rw [if_neg g20] at q
      exact hK _ q
  · try have g4 := q_e0 h4 (by omega)
    refine Zv.sipush hC d_D_watch_7 sp_m1000 ?_
    refine Zv.iret hC rfl d_D_watch_10 (Nat.le_refl _) (Nat.le_refl _) ?_
    exact hK _ (A_out (fun z => absurd (he.mpr z) (by omega)))
set_option maxRecDepth 100000 in
set_option maxHeartbeats 4000000 in
theorem sp_action {d : Nat} {σ : Sg} {cm du : Nat → Nat} {x : Int32} {I : Fm} {P : Fr} {K : Option Fs → Fm → Fr → Prop} (hX : XR σ cm du I P) (hK : ∀ r : Int32, A_ix 4 (fun e => nI (e_at (s_ac σ e) 0)) x r → K (some (.inr r)) I P) : Fk (d + 2) m_D_action 77 77 0 0 [rf 1, .inr x] I P K := by
  refine Fk.intro (by decide +kernel) (Nat.le_of_ble_eq_true rfl) (fun G hC => ?_)
  refine Zv.iload_n hC d_D_action_0 rfl ?_
  refine Zv.callS1 hC d_D_action_1 ml_D_143 mk_D_isEvent (Nat.le_of_ble_eq_true rfl) ?_
  refine sp_isEventR (fun r hr he => ?_)
  refine Zv.if_eq (tgt := 19) hC d_D_action_4 (by decide) (fun h4 => ?_) (fun h4 => ?_)
  · try have g4 := q_e0 h4 (by omega)
    refine Zv.sipush hC d_D_action_19 sp_m1000 ?_
    refine Zv.iret hC rfl d_D_action_22 (Nat.le_refl _) (Nat.le_refl _) ?_
    exact hK _ (A_out (fun z => absurd (he.mpr z) (by omega)))
  · try have g4 := q_n0 h4
    obtain ⟨j, hj, e⟩ := he.mp g4
    subst e
    have hw := ac_row hX.1 hj
    refine Zv.aload_n hC d_D_action_7 rfl ?_
    refine Zv.getr (q := 45) hC d_D_action_8 fl_D_48 rfl rfl (by decide) (hX.1 _ _ (by decide) (by decide)) ?_
    refine Zv.iload_n hC d_D_action_11 rfl ?_
    refine Zv.aald (q := ((45 + 2 * j)) + 1) hC d_D_action_12 rfl (fun _ => rfl) (by decide) (by decide) rfl (by omega) (by decide) hw.2 ?_
    refine Zv.callV0 hC d_D_action_13 ml_D_134 mk_Cm_service rfl (Nat.le_of_ble_eq_true rfl) hw.1.1 (by have := hw.1.2.2.1; omega) ?_
    refine sp_service hw.1 hX.1 (hX.2.2.2.2.2.2.2.2.1 j hj) ?_
    refine Zv.goto (tgt := 22) hC d_D_action_16 (by decide) ?_
    refine Zv.iret hC rfl d_D_action_22 (Nat.le_refl _) (Nat.le_refl _) ?_
    exact hK _ (A_in (f := fun e => nI (e_at (s_ac σ e) 0)) hj (by decide))
theorem XR_take {σ : Sg} {cm du : Nat → Nat} {I I' : Fm} {P : Fr} (h : XR σ cm du I P) {l : List Q4} (hs : x_sto I' l (s_g σ 5)) (hf : ∀ x, x ≠ 33 → I' x = I x) : XR (w_sr σ l) cm du I' P := by
  obtain ⟨h1, h2, h3, h4, h5, h6, h7, h8, h9, h10⟩ := h
  exact ⟨h1, h2, x_d_kept h3 (hf 0 (by decide)), x_pl_kept2 h2 h4 (fun a _ _ => hf a (by omega)), by rw [hf 5 (by decide)]; exact h5, hs, x_pa_kept h7 (hf 38 (by decide)), x_ws_kept h8 (fun m _ => hf _ (by omega)), x_ac_kept h9 (fun m _ => hf _ (by omega)), x_li_kept h10 (fun m _ => hf _ (by omega))⟩
set_option maxRecDepth 100000 in
set_option maxHeartbeats 4000000 in
theorem sp_take {d : Nat} {σ : Sg} {cm du : Nat → Nat} {I : Fm} {P : Fr} {K : Option Fs → Fm → Fr → Prop} (hX : XR σ cm du I P) (hK1 : s_sr σ ≠ [] → ∀ I' : Fm, XR (w_sr σ (s_sr σ).tail) cm du I' P → (∀ x, x ≠ 33 → I' x = I x) → K (some (.inr (nI ((s_sr σ).length - 1)))) I' P) (hK0 : s_sr σ = [] → K (some (.inr (-1000))) I P) : Fk (d + 1) m_D_take 77 77 0 0 [rf 1] I P K := by
  obtain ⟨o, hso⟩ := hX.2.2.2.2.2.1
  refine Fk.intro (by decide +kernel) (Nat.le_of_ble_eq_true rfl) (fun G hC => ?_)
  refine Zv.aload_n hC d_D_take_0 rfl ?_
  refine Zv.getr (q := 34) hC d_D_take_1 fl_D_33 rfl rfl (by decide) (hX.1 _ _ (by decide) (by decide)) ?_
  refine Zv.callV0 hC d_D_take_4 ml_D_100 mk_St_isEmpty rfl (Nat.le_of_ble_eq_true rfl) rfl (by decide) ?_
  refine sp_sEmptyN hso (fun r hr he => ?_)
  refine Zv.if_eq (tgt := 14) hC d_D_take_7 (by decide) (fun h7 => ?_) (fun h7 => ?_)
  · try have g7 := q_e0 h7 (by omega)
    have hne : s_sr σ ≠ [] := fun z => absurd (he.mpr z) (by omega)
    refine Zv.aload_n hC d_D_take_14 rfl ?_
    refine Zv.getr (q := 34) hC d_D_take_15 fl_D_33 rfl rfl (by decide) (hX.1 _ _ (by decide) (by decide)) ?_
    refine Zv.callV0 hC d_D_take_18 ml_D_116 mk_St_removeOldest rfl (Nat.le_of_ble_eq_true rfl) rfl (by decide) ?_
    refine sp_removeOldest hX.1 hso (List.length_pos_iff.mpr hne) ?_
    refine Zv.aload_n hC d_D_take_21 rfl ?_
    refine Zv.getr (q := 34) hC d_D_take_22 fl_D_33 rfl rfl (by decide) (hX.1 _ _ (by decide) (by decide)) ?_
    refine Zv.geti hC d_D_take_25 fl_D_119 rfl rfl (by decide) f_u_s ?_
    refine Zv.iret hC rfl d_D_take_28 (Nat.le_refl _) (Nat.le_refl _) ?_
    exact hK1 hne _ (XR_take hX ⟨_, so_pop hso (List.length_pos_iff.mpr hne)⟩ (fun x hx => by rw [f_u_ne hx, f_u_ne hx])) (fun x hx => by rw [f_u_ne hx, f_u_ne hx])
  · try have g7 := q_n0 h7
    refine Zv.sipush hC d_D_take_10 sp_m1000 ?_
    refine Zv.iret hC rfl d_D_take_13 (Nat.le_refl _) (Nat.le_refl _) ?_
    exact hK0 (he.mp g7)
set_option maxRecDepth 100000 in
set_option maxHeartbeats 4000000 in
theorem sp_report {d : Nat} {σ : Sg} {cm du : Nat → Nat} {x : Int32} {I : Fm} {P : Fr} {K : Option Fs → Fm → Fr → Prop} (hX : XR σ cm du I P) (hK : ∀ q sr, s_sr σ = q :: sr → ∀ r : Int32, A_ix 4 (fun j => match j with | 0 => q.1 | 1 => q.2.1 | 2 => q.2.2.1 | _ => q.2.2.2) x r → K (some (.inr r)) I P) (hK0 : s_sr σ = [] → K (some (.inr (-1000))) I P) : Fk (d + 1) m_D_report 77 77 0 0 [rf 1, .inr x] I P K := by
  obtain ⟨o, hso⟩ := hX.2.2.2.2.2.1
  refine Fk.intro (by decide +kernel) (Nat.le_of_ble_eq_true rfl) (fun G hC => ?_)
  refine Zv.aload_n hC d_D_report_0 rfl ?_
  refine Zv.getr (q := 34) hC d_D_report_1 fl_D_33 rfl rfl (by decide) (hX.1 _ _ (by decide) (by decide)) ?_
  refine Zv.callV0 hC d_D_report_4 ml_D_100 mk_St_isEmpty rfl (Nat.le_of_ble_eq_true rfl) rfl (by decide) ?_
  refine sp_sEmptyN hso (fun r hr he => ?_)
  refine Zv.if_eq (tgt := 14) hC d_D_report_7 (by decide) (fun h7 => ?_) (fun h7 => ?_)
  · try have g7 := q_e0 h7 (by omega)
    obtain ⟨q, sr, hq⟩ : ∃ q sr, s_sr σ = q :: sr := by
      cases h : s_sr σ with
      | nil => exact absurd (he.mpr h) (by omega)
      | cons q sr => exact ⟨q, sr, rfl⟩
    rw [hq] at hso
    have hK := hK q sr hq
    refine Zv.iload_n hC d_D_report_14 rfl ?_
    by_cases hx : ∃ j, j < 4 ∧ x = nI j
    · obtain ⟨j, hj, e⟩ := hx
      subst e
      rcases (show j = 0 ∨ j = 1 ∨ j = 2 ∨ j = 3 by omega) with rfl | rfl | rfl | rfl
      · refine Zv.tabIn (tgt := 44) hC d_D_report_15 (by decide) (by decide) rfl (by decide) ?_
        refine Zv.aload_n hC d_D_report_44 rfl ?_
        refine Zv.getr (q := 34) hC d_D_report_45 fl_D_33 rfl rfl (by decide) (hX.1 _ _ (by decide) (by decide)) ?_
        refine Zv.callV0 hC d_D_report_48 ml_D_103 mk_St_oldestKind rfl (Nat.le_of_ble_eq_true rfl) rfl (by decide) ?_
        refine sp_oldestKind hX.1 hso ?_
        refine Zv.iret hC rfl d_D_report_51 (Nat.le_refl _) (Nat.le_refl _) ?_
        exact hK _ (A_in (f := fun j => match j with | 0 => q.1 | 1 => q.2.1 | 2 => q.2.2.1 | _ => q.2.2.2) hj (by decide))
      · refine Zv.tabIn (tgt := 52) hC d_D_report_15 (by decide) (by decide) rfl (by decide) ?_
        refine Zv.aload_n hC d_D_report_52 rfl ?_
        refine Zv.getr (q := 34) hC d_D_report_53 fl_D_33 rfl rfl (by decide) (hX.1 _ _ (by decide) (by decide)) ?_
        refine Zv.callV0 hC d_D_report_56 ml_D_107 mk_St_oldestClock rfl (Nat.le_of_ble_eq_true rfl) rfl (by decide) ?_
        refine sp_oldestClock hX.1 hso ?_
        refine Zv.iret hC rfl d_D_report_59 (Nat.le_refl _) (Nat.le_refl _) ?_
        exact hK _ (A_in (f := fun j => match j with | 0 => q.1 | 1 => q.2.1 | 2 => q.2.2.1 | _ => q.2.2.2) hj (by decide))
      · refine Zv.tabIn (tgt := 60) hC d_D_report_15 (by decide) (by decide) rfl (by decide) ?_
        refine Zv.aload_n hC d_D_report_60 rfl ?_
        refine Zv.getr (q := 34) hC d_D_report_61 fl_D_33 rfl rfl (by decide) (hX.1 _ _ (by decide) (by decide)) ?_
        refine Zv.callV0 hC d_D_report_64 ml_D_110 mk_St_oldestFirst rfl (Nat.le_of_ble_eq_true rfl) rfl (by decide) ?_
        refine sp_oldestFirst hX.1 hso ?_
        refine Zv.iret hC rfl d_D_report_67 (Nat.le_refl _) (Nat.le_refl _) ?_
        exact hK _ (A_in (f := fun j => match j with | 0 => q.1 | 1 => q.2.1 | 2 => q.2.2.1 | _ => q.2.2.2) hj (by decide))
      · refine Zv.tabIn (tgt := 68) hC d_D_report_15 (by decide) (by decide) rfl (by decide) ?_
        refine Zv.aload_n hC d_D_report_68 rfl ?_
        refine Zv.getr (q := 34) hC d_D_report_69 fl_D_33 rfl rfl (by decide) (hX.1 _ _ (by decide) (by decide)) ?_
        refine Zv.callV0 hC d_D_report_72 ml_D_113 mk_St_oldestSecond rfl (Nat.le_of_ble_eq_true rfl) rfl (by decide) ?_
        refine sp_oldestSecond hX.1 hso ?_
        refine Zv.iret hC rfl d_D_report_75 (Nat.le_refl _) (Nat.le_refl _) ?_
        exact hK _ (A_in (f := fun j => match j with | 0 => q.1 | 1 => q.2.1 | 2 => q.2.2.1 | _ => q.2.2.2) hj (by decide))
    · refine Zv.tabOut (tgt := 76) hC d_D_report_15 (q_outT hx (by decide)) (by decide) ?_
      refine Zv.sipush hC d_D_report_76 sp_m1000 ?_
      refine Zv.iret hC rfl d_D_report_79 (Nat.le_refl _) (Nat.le_refl _) ?_
      exact hK _ (A_out hx)
  · try have g7 := q_n0 h7
    refine Zv.sipush hC d_D_report_10 sp_m1000 ?_
    refine Zv.iret hC rfl d_D_report_13 (Nat.le_refl _) (Nat.le_refl _) ?_
    exact hK0 (he.mp g7)
set_option maxRecDepth 100000 in
set_option maxHeartbeats 4000000 in
theorem sp_count {rx : Rx} {d : Nat} {σ : Sg} {cm du : Nat → Nat} {x : Int32} {I : Fm} {P : Fr} {K : Option Fs → Fm → Fr → Prop} (hX : XR σ cm du I P) (hR : x_rcv I rx (s_g σ 6) (s_g σ 7) (s_g σ 8)) (h1 : s_g σ 1 < 2) (h2 : s_g σ 2 < 2) (hK : ∀ r : Int32, A_ix 10 (fun j => match j with | 3 => nI (s_pl σ).length | 4 => nI (s_sr σ).length | j => nI (s_g σ j)) x r → K (some (.inr r)) I P) : Fk d m_D_count 77 77 0 0 [rf 1, .inr x] I P K := by
  obtain ⟨o, hso⟩ := hX.2.2.2.2.2.1
  refine Fk.intro (by decide +kernel) (Nat.le_of_ble_eq_true rfl) (fun G hC => ?_)
  refine Zv.iload_n hC d_D_count_0 rfl ?_
  by_cases hx : ∃ j, j < 10 ∧ x = nI j
  · obtain ⟨j, hj, e⟩ := hx
    subst e
    have hA := A_in (f := fun j => match j with | 3 => nI (s_pl σ).length | 4 => nI (s_sr σ).length | j => nI (s_g σ j)) hj (by decide)
    rcases (show j = 0 ∨ j = 1 ∨ j = 2 ∨ j = 3 ∨ j = 4 ∨ j = 5 ∨ j = 6 ∨ j = 7 ∨ j = 8 ∨ j = 9 by omega) with rfl | rfl | rfl | rfl | rfl | rfl | rfl | rfl | rfl | rfl
    · refine Zv.tabIn (tgt := 56) hC d_D_count_1 (by decide) (by decide) rfl (by decide) ?_
      refine Zv.aload_n hC d_D_count_56 rfl ?_
      refine Zv.geti hC d_D_count_57 fl_D_67 rfl rfl (by decide) hX.2.2.1.1 ?_
      refine Zv.iret hC rfl d_D_count_60 (Nat.le_refl _) (Nat.le_refl _) ?_
      exact hK _ hA
    · refine Zv.tabIn (tgt := 61) hC d_D_count_1 (by decide) (by decide) rfl (by decide) ?_
      refine Zv.aload_n hC d_D_count_61 rfl ?_
      refine Zv.geti hC d_D_count_62 fl_D_146 rfl rfl (by decide) hX.2.2.1.2.1 ?_
      refine Zv.if_eq (tgt := 72) hC d_D_count_65 (by decide) (fun h65 => ?_) (fun h65 => ?_)
      · try have g65 := q_e0 h65 (by omega)
        refine Zv.iconst hC d_D_count_72 ic_0 ?_
        refine Zv.iret hC rfl d_D_count_73 (Nat.le_refl _) (Nat.le_refl _) ?_
        have hA : A_ix 10 (fun j => match j with | 3 => nI (s_pl σ).length | 4 => nI (s_sr σ).length | j => nI (s_g σ j)) (nI 1) (nI (s_g σ 1)) := hA
        rw [g65] at hA
        exact hK _ hA
      · try have g65 := q_n0 h65
        refine Zv.iconst hC d_D_count_68 ic_1 ?_
        refine Zv.goto (tgt := 73) hC d_D_count_69 (by decide) ?_
        refine Zv.iret hC rfl d_D_count_73 (Nat.le_refl _) (Nat.le_refl _) ?_
        have hA : A_ix 10 (fun j => match j with | 3 => nI (s_pl σ).length | 4 => nI (s_sr σ).length | j => nI (s_g σ j)) (nI 1) (nI (s_g σ 1)) := hA
        rw [show s_g σ 1 = 1 by omega] at hA
        exact hK _ hA
    · refine Zv.tabIn (tgt := 74) hC d_D_count_1 (by decide) (by decide) rfl (by decide) ?_
      refine Zv.aload_n hC d_D_count_74 rfl ?_
      refine Zv.getr (q := 6) hC d_D_count_75 fl_D_26 rfl rfl (by decide) (hX.1 _ _ (by decide) (by decide)) ?_
      refine Zv.geti hC d_D_count_78 fl_D_72 rfl rfl (by decide) hX.2.2.2.2.1 ?_
      refine Zv.if_eq (tgt := 88) hC d_D_count_81 (by decide) (fun h81 => ?_) (fun h81 => ?_)
      · try have g81 := q_e0 h81 (by omega)
        refine Zv.iconst hC d_D_count_88 ic_0 ?_
        refine Zv.iret hC rfl d_D_count_89 (Nat.le_refl _) (Nat.le_refl _) ?_
        have hA : A_ix 10 (fun j => match j with | 3 => nI (s_pl σ).length | 4 => nI (s_sr σ).length | j => nI (s_g σ j)) (nI 2) (nI (s_g σ 2)) := hA
        rw [g81] at hA
        exact hK _ hA
      · try have g81 := q_n0 h81
        refine Zv.iconst hC d_D_count_84 ic_1 ?_
        refine Zv.goto (tgt := 89) hC d_D_count_85 (by decide) ?_
        refine Zv.iret hC rfl d_D_count_89 (Nat.le_refl _) (Nat.le_refl _) ?_
        have hA : A_ix 10 (fun j => match j with | 3 => nI (s_pl σ).length | 4 => nI (s_sr σ).length | j => nI (s_g σ j)) (nI 2) (nI (s_g σ 2)) := hA
        rw [show s_g σ 2 = 1 by omega] at hA
        exact hK _ hA
    · refine Zv.tabIn (tgt := 90) hC d_D_count_1 (by decide) (by decide) rfl (by decide) ?_
      refine Zv.aload_n hC d_D_count_90 rfl ?_
      refine Zv.getr (q := 6) hC d_D_count_91 fl_D_26 rfl rfl (by decide) (hX.1 _ _ (by decide) (by decide)) ?_
      refine Zv.geti hC d_D_count_94 fl_D_149 rfl rfl (by decide) hX.2.2.2.1.1 ?_
      refine Zv.iret hC rfl d_D_count_97 (Nat.le_refl _) (Nat.le_refl _) ?_
      exact hK _ hA
    · refine Zv.tabIn (tgt := 98) hC d_D_count_1 (by decide) (by decide) rfl (by decide) ?_
      refine Zv.aload_n hC d_D_count_98 rfl ?_
      refine Zv.getr (q := 34) hC d_D_count_99 fl_D_33 rfl rfl (by decide) (hX.1 _ _ (by decide) (by decide)) ?_
      refine Zv.geti hC d_D_count_102 fl_D_119 rfl rfl (by decide) hso.2.2.1 ?_
      refine Zv.iret hC rfl d_D_count_105 (Nat.le_refl _) (Nat.le_refl _) ?_
      exact hK _ hA
    · refine Zv.tabIn (tgt := 106) hC d_D_count_1 (by decide) (by decide) rfl (by decide) ?_
      refine Zv.aload_n hC d_D_count_106 rfl ?_
      refine Zv.getr (q := 34) hC d_D_count_107 fl_D_33 rfl rfl (by decide) (hX.1 _ _ (by decide) (by decide)) ?_
      refine Zv.geti hC d_D_count_110 fl_D_150 rfl rfl (by decide) hso.2.2.2.1 ?_
      refine Zv.iret hC rfl d_D_count_113 (Nat.le_refl _) (Nat.le_refl _) ?_
      exact hK _ hA
    · refine Zv.tabIn (tgt := 114) hC d_D_count_1 (by decide) (by decide) rfl (by decide) ?_
      refine Zv.aload_n hC d_D_count_114 rfl ?_
      refine Zv.getr (q := 2) hC d_D_count_115 fl_D_10 rfl rfl (by decide) (hX.1 _ _ (by decide) (by decide)) ?_
      refine Zv.geti hC d_D_count_118 fl_D_153 rfl rfl (by decide) hR.1 ?_
      refine Zv.iret hC rfl d_D_count_121 (Nat.le_refl _) (Nat.le_refl _) ?_
      exact hK _ hA
    · refine Zv.tabIn (tgt := 122) hC d_D_count_1 (by decide) (by decide) rfl (by decide) ?_
      refine Zv.aload_n hC d_D_count_122 rfl ?_
      refine Zv.getr (q := 2) hC d_D_count_123 fl_D_10 rfl rfl (by decide) (hX.1 _ _ (by decide) (by decide)) ?_
      refine Zv.geti hC d_D_count_126 fl_D_156 rfl rfl (by decide) hR.2.1 ?_
      refine Zv.iret hC rfl d_D_count_129 (Nat.le_refl _) (Nat.le_refl _) ?_
      exact hK _ hA
    · refine Zv.tabIn (tgt := 130) hC d_D_count_1 (by decide) (by decide) rfl (by decide) ?_
      refine Zv.aload_n hC d_D_count_130 rfl ?_
      refine Zv.getr (q := 2) hC d_D_count_131 fl_D_10 rfl rfl (by decide) (hX.1 _ _ (by decide) (by decide)) ?_
      refine Zv.geti hC d_D_count_134 fl_D_159 rfl rfl (by decide) hR.2.2.1 ?_
      refine Zv.iret hC rfl d_D_count_137 (Nat.le_refl _) (Nat.le_refl _) ?_
      exact hK _ hA
    · refine Zv.tabIn (tgt := 138) hC d_D_count_1 (by decide) (by decide) rfl (by decide) ?_
      refine Zv.aload_n hC d_D_count_138 rfl ?_
      refine Zv.geti hC d_D_count_139 fl_D_162 rfl rfl (by decide) hX.2.2.1.2.2 ?_
      refine Zv.iret hC rfl d_D_count_142 (Nat.le_refl _) (Nat.le_refl _) ?_
      exact hK _ hA
  · refine Zv.tabOut (tgt := 143) hC d_D_count_1 (q_outT hx (by decide)) (by decide) ?_
    refine Zv.sipush hC d_D_count_143 sp_m1000 ?_
    refine Zv.iret hC rfl d_D_count_146 (Nat.le_refl _) (Nat.le_refl _) ?_
    exact hK _ (A_out hx)
