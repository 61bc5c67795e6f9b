theorem q_inl {x : Int32} {n : Nat} (h0 : ¬ x < 0) (h : x ≤ nI n) (hn : n + 1 < 2 ^ 31) : ∃ j, j < n + 1 ∧ x = nI j := by
  refine q_in h0 (fun z => ?_) hn
  have a := Int32.le_iff_toInt_le.mp h
  have b := Int32.le_iff_toInt_le.mp z
  rw [nI_toInt (by omega)] at a
  rw [nI_toInt (by omega)] at b
  omega
theorem q_outl {x : Int32} {n : Nat} (h : ¬ x ≤ nI n) (hn : n < 2 ^ 31) : ¬ ∃ j, j < n + 1 ∧ x = nI j := fun ⟨j, hj, e⟩ => h (e ▸ nI_le (by omega) hn)
theorem sm_entryL {d : Nat} {x : Int32} {tm od : Nat → Nat} {cd : Nat → List Nat} {L D : List Nat} {ca : Nat} {I : Fm} {P : Fr} {K : Option Fs → Fm → Fr → Prop} (hP : x_ref P) (h : m_pln I tm od cd L D ca) (hca : ca < 2 ^ 30) (hK : ∀ e : Nat, e ≤ 6 → (e ≠ 6 → ∃ j, j < L.length ∧ x = nI j ∧ e = L.getD j 0) → (e = 6 → ¬ ∃ j, j < L.length ∧ x = nI j) → K (some (.inr (nI e))) I P) : Fk (d + 1) m_M_entry 77 77 0 0 [rf 57, .inr (nI 0), .inr x] I P K := by
  refine sm_entry hP h hca (fun i hi => sl_inL h hi) (by decide) (sl_L h).1 (sl_L h).2.1 (sl_L h).2.2.1 (fun j hj e => ?_) (fun hn => ?_)
  · have h6 : L.getD j 0 < 6 := by
      rw [List.getD_eq_getElem?_getD, List.getElem?_eq_getElem hj]
      exact (sl_L h).2.1 _ (List.getElem_mem hj)
    exact hK _ (by omega) (fun _ => ⟨j, hj, e, rfl⟩) (fun z => absurd z (by omega))
  · exact hK 6 (Nat.le_refl _) (fun z => absurd rfl z) (fun _ => hn)
theorem pl_at {tm : Nat → Nat} {cd : Nat → List Nat} {L : List Nat} {j : Nat} (hj : j < L.length) : p_t (L.map (fun k => (tm k, cd k))) j = tm (L.getD j 0) ∧ p_c (L.map (fun k => (tm k, cd k))) j = cd (L.getD j 0) := by
  unfold p_t p_c
  rw [List.getD_eq_getElem?_getD, List.getElem?_map, List.getElem?_eq_getElem hj, List.getD_eq_getElem?_getD, List.getElem?_eq_getElem hj]
  exact ⟨rfl, rfl⟩
set_option maxRecDepth 100000 in
set_option maxHeartbeats 4000000 in
theorem sm_parameter {d : Nat} {σ : Sg} {B : Nat} {x : Int32} {I : Fm} {P : Fr} {K : Option Fs → Fm → Fr → Prop} (hP : x_ref P) (h : MR σ [] B I) (hK : ∀ r : Int32, A_ix 8 (s_pa σ) x r → K (some (.inr r)) I P) : Fk d m_M_parameter 77 77 0 0 [rf 57, .inr x] I P K := by
  refine Fk.intro (by decide +kernel) (Nat.le_of_ble_eq_true rfl) (fun G hC => ?_)
  refine Zv.iload_n hC d_M_parameter_0 rfl ?_
  refine Zv.if_lt (tgt := 10) hC d_M_parameter_1 (by decide) (fun h1 => ?_) (fun h1 => ?_)
  · skip
    refine Zv.sipush hC d_M_parameter_10 sp_m1000 ?_
    refine Zv.goto (tgt := 22) hC d_M_parameter_13 (by decide) ?_
    refine Zv.iret hC rfl d_M_parameter_22 (Nat.le_refl _) (Nat.le_refl _) ?_
    exact hK _ (A_out (q_out0 h1 (by decide)))
  · skip
    refine Zv.iload_n hC d_M_parameter_4 rfl ?_
    refine Zv.bipush hC d_M_parameter_5 bp_7 ?_
    refine Zv.icmp_le (tgt := 16) hC d_M_parameter_7 (by decide) (fun h7 => ?_) (fun h7 => ?_)
    · skip
      obtain ⟨j, hj, e⟩ := q_inl h1 h7 (by decide)
      subst e
      refine Zv.aload_n hC d_M_parameter_16 rfl ?_
      refine Zv.getr (q := 76) hC d_M_parameter_17 fl_M_69 rfl rfl (by decide) (hP _ _ (by decide) (by decide)) ?_
      refine Zv.iload_n hC d_M_parameter_20 rfl ?_
      refine Zv.iald hC d_M_parameter_21 rfl (by decide) rfl (by omega) (by first | decide | omega) (h.2.2.1 j hj) ?_
      refine Zv.iret hC rfl d_M_parameter_22 (Nat.le_refl _) (Nat.le_refl _) ?_
      exact hK _ (A_in hj (by decide))
    · skip
      refine Zv.sipush hC d_M_parameter_10 sp_m1000 ?_
      refine Zv.goto (tgt := 22) hC d_M_parameter_13 (by decide) ?_
      refine Zv.iret hC rfl d_M_parameter_22 (Nat.le_refl _) (Nat.le_refl _) ?_
      exact hK _ (A_out (q_outl h7 (by decide)))
set_option maxRecDepth 100000 in
set_option maxHeartbeats 4000000 in
theorem sm_sense {y : Int32} {d : Nat} {σ : Sg} {B : Nat} {x : Int32} {I : Fm} {P : Fr} {K : Option Fs → Fm → Fr → Prop} (hP : x_ref P) (h : MR σ [] B I) (hK1 : ∀ j, j < 8 → x = nI j → (¬ y < -128 ∧ y ≤ nI 127) → K (some (.inr (s_pa σ j))) (f_u I 75 j y) P) (hK0 : ((¬ ∃ j, j < 8 ∧ x = nI j) ∨ ¬ (¬ y < -128 ∧ y ≤ nI 127)) → K (some (.inr (-1000))) I P) : Fk d m_M_sense 77 77 0 0 [rf 57, .inr x, .inr y] I P K := by
  refine Fk.intro (by decide +kernel) (Nat.le_of_ble_eq_true rfl) (fun G hC => ?_)
  refine Zv.iload_n hC d_M_sense_0 rfl ?_
  refine Zv.if_lt (tgt := 22) hC d_M_sense_1 (by decide) (fun h1 => ?_) (fun h1 => ?_)
  · skip
    refine Zv.sipush hC d_M_sense_22 sp_m1000 ?_
    refine Zv.iret hC rfl d_M_sense_25 (Nat.le_refl _) (Nat.le_refl _) ?_
    exact hK0 (Or.inl (q_out0 h1 (by decide)))
  · skip
    refine Zv.iload_n hC d_M_sense_4 rfl ?_
    refine Zv.bipush hC d_M_sense_5 bp_7 ?_
    refine Zv.icmp_gt (tgt := 22) hC d_M_sense_7 (by decide) (fun h7 => ?_) (fun h7 => ?_)
    · skip
      refine Zv.sipush hC d_M_sense_22 sp_m1000 ?_
      refine Zv.iret hC rfl d_M_sense_25 (Nat.le_refl _) (Nat.le_refl _) ?_
      exact hK0 (Or.inl (q_outl (fun z => Int32.not_le.mpr h7 z) (by decide)))
    · skip
      refine Zv.iload_n hC d_M_sense_10 rfl ?_
      refine Zv.bipush hC d_M_sense_11 bp_m128 ?_
      refine Zv.icmp_lt (tgt := 22) hC d_M_sense_13 (by decide) (fun h13 => ?_) (fun h13 => ?_)
      · skip
        refine Zv.sipush hC d_M_sense_22 sp_m1000 ?_
        refine Zv.iret hC rfl d_M_sense_25 (Nat.le_refl _) (Nat.le_refl _) ?_
        exact hK0 (Or.inr (fun z => z.1 h13))
      · skip
        refine Zv.iload_n hC d_M_sense_16 rfl ?_
        refine Zv.bipush hC d_M_sense_17 bp_127 ?_
        refine Zv.icmp_le (tgt := 26) hC d_M_sense_19 (by decide) (fun h19 => ?_) (fun h19 => ?_)
        · skip
          obtain ⟨j, hj, e⟩ := q_inl h1 (Int32.not_lt.mp h7) (by decide)
          subst e
          refine Zv.aload_n hC d_M_sense_26 rfl ?_
          refine Zv.getr (q := 76) hC d_M_sense_27 fl_M_69 rfl rfl (by decide) (hP _ _ (by decide) (by decide)) ?_
          refine Zv.iload_n hC d_M_sense_30 rfl ?_
          refine Zv.iald hC d_M_sense_31 rfl (by decide) rfl (by omega) (by first | decide | omega) (h.2.2.1 j hj) ?_
          refine Zv.istore_n hC d_M_sense_32 (by decide) rfl ?_
          refine Zv.aload_n hC d_M_sense_33 rfl ?_
          refine Zv.getr (q := 76) hC d_M_sense_34 fl_M_69 rfl rfl (by decide) (hP _ _ (by decide) (by decide)) ?_
          refine Zv.iload_n hC d_M_sense_37 rfl ?_
          refine Zv.iload_n hC d_M_sense_38 rfl ?_
          refine Zv.iast hC d_M_sense_39 rfl (by decide) rfl (by omega) (by first | decide | omega) ?_
          refine Zv.iload_n hC d_M_sense_40 rfl ?_
          refine Zv.iret hC rfl d_M_sense_41 (Nat.le_refl _) (Nat.le_refl _) ?_
          exact hK1 j hj rfl ⟨h13, h19⟩
        · skip
          refine Zv.sipush hC d_M_sense_22 sp_m1000 ?_
          refine Zv.iret hC rfl d_M_sense_25 (Nat.le_refl _) (Nat.le_refl _) ?_
          exact hK0 (Or.inr (fun z => h19 z.2))
set_option maxRecDepth 100000 in
set_option maxHeartbeats 4000000 in
theorem sm_planned {d : Nat} {σ : Sg} {B : Nat} {x : Int32} {I : Fm} {P : Fr} {K : Option Fs → Fm → Fr → Prop} (hP : x_ref P) (h : MR σ [] B I) (hB : B < 2 ^ 30) (hK : ∀ r : Int32, A_ix (s_pl σ).length (fun j => nI (p_t (s_pl σ) j)) x r → K (some (.inr r)) I P) : Fk (d + 2) m_M_planned 77 77 0 0 [rf 57, .inr x] I P K := by
  obtain ⟨tm, od, cd, L, D, ca, hp, hcaB, hpl, hdl⟩ := h.2.2.2.2.2.2
  have hl := (sl_L hp).2.2.2
  have hl2 : (s_pl σ).length = L.length := by rw [hpl, List.length_map]
  refine Fk.intro (by decide +kernel) (Nat.le_of_ble_eq_true rfl) (fun G hC => ?_)
  refine Zv.aload_n hC d_M_planned_0 rfl ?_
  refine Zv.iconst hC d_M_planned_1 ic_0 ?_
  refine Zv.iload_n hC d_M_planned_2 rfl ?_
  refine Zv.callV2 hC d_M_planned_3 ml_M_168 mk_M_entry rfl (Nat.le_of_ble_eq_true rfl) rfl (by decide) ?_
  refine sm_entryL hP hp (by omega) (fun e6 he6 he1 he0 => ?_)
  refine Zv.istore_n hC d_M_planned_6 (by decide) rfl ?_
  refine Zv.iload_n hC d_M_planned_7 rfl ?_
  refine Zv.bipush hC d_M_planned_8 bp_6 ?_
  refine Zv.icmp_ne (tgt := 19) hC d_M_planned_10 (by decide) (fun h10 => ?_) (fun h10 => ?_)
  · try have g10 := q_n h10
    obtain ⟨j, hj, ex, ee⟩ := he1 g10
    subst ex
    have h6 : e6 < 6 := by omega
    have hpa := pl_at (tm := tm) (cd := cd) hj
    rw [← hpl, ← ee] at hpa
    refine Zv.aload_n hC d_M_planned_19 rfl ?_
    refine Zv.getr (q := 62) hC d_M_planned_20 fl_M_26 rfl rfl (by decide) (hP _ _ (by decide) (by decide)) ?_
    refine Zv.iload_n hC d_M_planned_23 rfl ?_
    refine Zv.iald hC d_M_planned_24 rfl (by decide) rfl (by omega) (by first | decide | omega) ((sl_tm hp h6).trans (congrArg nI hpa.1.symm)) ?_
    refine Zv.iret hC rfl d_M_planned_25 (Nat.le_refl _) (Nat.le_refl _) ?_
    exact hK _ (A_in (f := fun j => nI (p_t (s_pl σ) j)) (by rw [hpl, List.length_map]; exact hj) (by omega))
  · try have g10 := q_e h10 (by omega) (by omega)
    refine Zv.sipush hC d_M_planned_13 sp_m1000 ?_
    refine Zv.goto (tgt := 25) hC d_M_planned_16 (by decide) ?_
    refine Zv.iret hC rfl d_M_planned_25 (Nat.le_refl _) (Nat.le_refl _) ?_
    exact hK _ (A_out (by rw [hpl, List.length_map]; exact he0 g10))
set_option maxRecDepth 100000 in
set_option maxHeartbeats 4000000 in
theorem sm_plannedService {d : Nat} {σ : Sg} {B : Nat} {x : Int32} {I : Fm} {P : Fr} {K : Option Fs → Fm → Fr → Prop} (hP : x_ref P) (h : MR σ [] B I) (hS : SI σ) (hB : B < 2 ^ 30) (hK : ∀ r : Int32, A_ix (s_pl σ).length (fun j => nI (e_at (p_c (s_pl σ) j) 0)) x r → K (some (.inr r)) I P) : Fk (d + 2) m_M_plannedService 77 77 0 0 [rf 57, .inr x] I P K := by
  obtain ⟨tm, od, cd, L, D, ca, hp, hcaB, hpl, hdl⟩ := h.2.2.2.2.2.2
  have hl := (sl_L hp).2.2.2
  have hl2 : (s_pl σ).length = L.length := by rw [hpl, List.length_map]
  refine Fk.intro (by decide +kernel) (Nat.le_of_ble_eq_true rfl) (fun G hC => ?_)
  refine Zv.aload_n hC d_M_plannedService_0 rfl ?_
  refine Zv.iconst hC d_M_plannedService_1 ic_0 ?_
  refine Zv.iload_n hC d_M_plannedService_2 rfl ?_
  refine Zv.callV2 hC d_M_plannedService_3 ml_M_168 mk_M_entry rfl (Nat.le_of_ble_eq_true rfl) rfl (by decide) ?_
  refine sm_entryL hP hp (by omega) (fun e6 he6 he1 he0 => ?_)
  refine Zv.istore_n hC d_M_plannedService_6 (by decide) rfl ?_
  refine Zv.iload_n hC d_M_plannedService_7 rfl ?_
  refine Zv.bipush hC d_M_plannedService_8 bp_6 ?_
  refine Zv.icmp_ne (tgt := 19) hC d_M_plannedService_10 (by decide) (fun h10 => ?_) (fun h10 => ?_)
  · try have g10 := q_n h10
    obtain ⟨j, hj, ex, ee⟩ := he1 g10
    subst ex
    have h6 : e6 < 6 := by omega
    have hpa := pl_at (tm := tm) (cd := cd) hj
    rw [← hpl, ← ee] at hpa
    have hmL : e6 ∈ L := by
      rw [ee, List.getD_eq_getElem?_getD, List.getElem?_eq_getElem hj]
      exact List.getElem_mem hj
    have hcd := sl_cd hp h6 ((sl_inL hp h6).mpr hmL).1
    have hva := (hS.2.2.2.2.1 (tm e6, cd e6) (by rw [hpl]; exact List.mem_map.mpr ⟨e6, hmL, rfl⟩)).1
    have hps := one_pos hva.1
    have h0 := hcd.2.2.1 0 hps
    refine Zv.aload_n hC d_M_plannedService_19 rfl ?_
    refine Zv.getr (q := 60) hC d_M_plannedService_20 fl_M_20 rfl rfl (by decide) (hP _ _ (by decide) (by decide)) ?_
    refine Zv.bipush hC d_M_plannedService_23 bp_12 ?_
    refine Zv.iload_n hC d_M_plannedService_25 rfl ?_
    first | refine Zv.imulN hC d_M_plannedService_26 ?_ | refine Zv.imul hC d_M_plannedService_26 ?_
    refine Zv.iald hC d_M_plannedService_27 rfl (by decide) rfl (by omega) (by first | decide | omega) (h0.trans (congrArg (fun c => nI (e_at c 0)) hpa.2.symm)) ?_
    refine Zv.iret hC rfl d_M_plannedService_28 (Nat.le_refl _) (Nat.le_refl _) ?_
    exact hK _ (A_in (f := fun j => nI (e_at (p_c (s_pl σ) j) 0)) (by rw [hpl, List.length_map]; exact hj) (by omega))
  · try have g10 := q_e h10 (by omega) (by omega)
    refine Zv.sipush hC d_M_plannedService_13 sp_m1000 ?_
    refine Zv.goto (tgt := 28) hC d_M_plannedService_16 (by decide) ?_
    refine Zv.iret hC rfl d_M_plannedService_28 (Nat.le_refl _) (Nat.le_refl _) ?_
    exact hK _ (A_out (by rw [hpl, List.length_map]; exact he0 g10))
set_option maxRecDepth 100000 in
set_option maxHeartbeats 4000000 in
theorem sm_watch {d : Nat} {σ : Sg} {B : Nat} {x : Int32} {I : Fm} {P : Fr} {K : Option Fs → Fm → Fr → Prop} (hP : x_ref P) (h : MR σ [] B I) (hwb : ∀ m, m < 4 → s_wn σ m 0 < 2) (hK : ∀ r : Int32, A_ix 4 (fun m => if s_wn σ m 0 = 0 then -1 else nI (s_wn σ m 4)) x r → K (some (.inr r)) I P) : Fk d m_M_watch 77 77 0 0 [rf 57, .inr x] I P K := by
  refine Fk.intro (by decide +kernel) (Nat.le_of_ble_eq_true rfl) (fun G hC => ?_)
  refine Zv.iload_n hC d_M_watch_0 rfl ?_
  refine Zv.if_lt (tgt := 9) hC d_M_watch_1 (by decide) (fun h1 => ?_) (fun h1 => ?_)
  · skip
    refine Zv.sipush hC d_M_watch_9 sp_m1000 ?_
    refine Zv.goto (tgt := 34) hC d_M_watch_12 (by decide) ?_
    refine Zv.iret hC rfl d_M_watch_34 (Nat.le_refl _) (Nat.le_refl _) ?_
    exact hK _ (A_out (q_out0 h1 (by decide)))
  · skip
    refine Zv.iload_n hC d_M_watch_4 rfl ?_
    refine Zv.iconst hC d_M_watch_5 ic_3 ?_
    refine Zv.icmp_le (tgt := 15) hC d_M_watch_6 (by decide) (fun h6 => ?_) (fun h6 => ?_)
    · skip
      obtain ⟨j, hj, e⟩ := q_inl h1 h6 (by decide)
      subst e
      have hw := h.2.2.2.1 j hj
      have hw2 := hwb j hj
      refine Zv.aload_n hC d_M_watch_15 rfl ?_
      refine Zv.getr (q := 67) hC d_M_watch_16 fl_M_42 rfl rfl (by decide) (hP _ _ (by decide) (by decide)) ?_
      refine Zv.iload_n hC d_M_watch_19 rfl ?_
      refine Zv.zald hC d_M_watch_20 rfl (by decide) rfl (by omega) (by first | decide | omega) hw.1 ?_
      refine Zv.if_eq (tgt := 33) hC d_M_watch_21 (by decide) (fun h21 => ?_) (fun h21 => ?_)
      · try have g21 := q_e0 h21 (by omega)
        refine Zv.iconst hC d_M_watch_33 ic_m1 ?_
        refine Zv.iret hC rfl d_M_watch_34 (Nat.le_refl _) (Nat.le_refl _) ?_
        have q := A_in (f := fun m => if s_wn σ m 0 = 0 then -1 else nI (s_wn σ m 4)) hj (by decide)
        rw [if_pos g21] at q
        exact hK _ q
      · try have g21 := q_n0 h21
        refine Zv.aload_n hC d_M_watch_24 rfl ?_
        refine Zv.getr (q := 73) hC d_M_watch_25 fl_M_60 rfl rfl (by decide) (hP _ _ (by decide) (by decide)) ?_
        refine Zv.iload_n hC d_M_watch_28 rfl ?_
        refine Zv.iald hC d_M_watch_29 rfl (by decide) rfl (by omega) (by first | decide | omega) hw.2.2.2.2.2.2 ?_
        refine Zv.goto (tgt := 34) hC d_M_watch_30 (by decide) ?_
        refine Zv.iret hC rfl d_M_watch_34 (Nat.le_refl _) (Nat.le_refl _) ?_
        have q := A_in (f := fun m => if s_wn σ m 0 = 0 then -1 else nI (s_wn σ m 4)) hj (by decide)
        rw [if_neg g21] at q
        exact hK _ q
    · skip
      refine Zv.sipush hC d_M_watch_9 sp_m1000 ?_
      refine Zv.goto (tgt := 34) hC d_M_watch_12 (by decide) ?_
      refine Zv.iret hC rfl d_M_watch_34 (Nat.le_refl _) (Nat.le_refl _) ?_
      exact hK _ (A_out (q_outl h6 (by decide)))
set_option maxRecDepth 100000 in
set_option maxHeartbeats 4000000 in
theorem sm_action {d : Nat} {σ : Sg} {B : Nat} {x : Int32} {I : Fm} {P : Fr} {K : Option Fs → Fm → Fr → Prop} (hP : x_ref P) (h : MR σ [] B I) (hK : ∀ r : Int32, A_ix 4 (fun e => nI (e_at (s_ac σ e) 0)) x r → K (some (.inr r)) I P) : Fk d m_M_action 77 77 0 0 [rf 57, .inr x] I P K := by
  refine Fk.intro (by decide +kernel) (Nat.le_of_ble_eq_true rfl) (fun G hC => ?_)
  refine Zv.iload_n hC d_M_action_0 rfl ?_
  refine Zv.if_lt (tgt := 9) hC d_M_action_1 (by decide) (fun h1 => ?_) (fun h1 => ?_)
  · skip
    refine Zv.sipush hC d_M_action_9 sp_m1000 ?_
    refine Zv.goto (tgt := 37) hC d_M_action_12 (by decide) ?_
    refine Zv.iret hC rfl d_M_action_37 (Nat.le_refl _) (Nat.le_refl _) ?_
    exact hK _ (A_out (q_out0 h1 (by decide)))
  · skip
    refine Zv.iload_n hC d_M_action_4 rfl ?_
    refine Zv.iconst hC d_M_action_5 ic_3 ?_
    refine Zv.icmp_le (tgt := 15) hC d_M_action_6 (by decide) (fun h6 => ?_) (fun h6 => ?_)
    · skip
      obtain ⟨j, hj, e⟩ := q_inl h1 h6 (by decide)
      subst e
      have hw := h.2.2.2.2.2.1 j hj
      have hw2 := hw.2.1
      refine Zv.aload_n hC d_M_action_15 rfl ?_
      refine Zv.getr (q := 66) hC d_M_action_16 fl_M_39 rfl rfl (by decide) (hP _ _ (by decide) (by decide)) ?_
      refine Zv.iload_n hC d_M_action_19 rfl ?_
      refine Zv.iald hC d_M_action_20 rfl (by decide) rfl (by omega) (by first | decide | omega) hw.1 ?_
      refine Zv.if_ne (tgt := 28) hC d_M_action_21 (by decide) (fun h21 => ?_) (fun h21 => ?_)
      · try have g21 := q_n0 h21
        refine Zv.aload_n hC d_M_action_28 rfl ?_
        refine Zv.getr (q := 65) hC d_M_action_29 fl_M_36 rfl rfl (by decide) (hP _ _ (by decide) (by decide)) ?_
        refine Zv.bipush hC d_M_action_32 bp_12 ?_
        refine Zv.iload_n hC d_M_action_34 rfl ?_
        first | refine Zv.imulN hC d_M_action_35 ?_ | refine Zv.imul hC d_M_action_35 ?_
        refine Zv.iald hC d_M_action_36 rfl (by decide) rfl (by omega) (by first | decide | omega) (hw.2.2.1 0 (by omega)) ?_
        refine Zv.iret hC rfl d_M_action_37 (Nat.le_refl _) (Nat.le_refl _) ?_
        exact hK _ (A_in (f := fun e => nI (e_at (s_ac σ e) 0)) hj (by decide))
      · try have g21 := q_e0 h21 (by omega)
        refine Zv.iconst hC d_M_action_24 ic_0 ?_
        refine Zv.goto (tgt := 37) hC d_M_action_25 (by decide) ?_
        refine Zv.iret hC rfl d_M_action_37 (Nat.le_refl _) (Nat.le_refl _) ?_
        have q := A_in (f := fun e => nI (e_at (s_ac σ e) 0)) hj (by decide)
        rw [show s_ac σ j = [] from List.eq_nil_of_length_eq_zero g21] at q
        exact hK _ q
    · skip
      refine Zv.sipush hC d_M_action_9 sp_m1000 ?_
      refine Zv.goto (tgt := 37) hC d_M_action_12 (by decide) ?_
      refine Zv.iret hC rfl d_M_action_37 (Nat.le_refl _) (Nat.le_refl _) ?_
      exact hK _ (A_out (q_outl h6 (by decide)))
theorem MR_take {σ : Sg} {B : Nat} {I I' : Fm} (h : MR σ [] B I) {l : List Q4} (hs : m_sto I' l) (h1 : ∀ j, j ≠ 23 → I' 56 j = I 56 j) (h2 : ∀ x, x ≠ 56 → x ≠ 76 → I' x = I x) : MR (w_sr σ l) [] B I' := by
  obtain ⟨q1, q2, q3, q4, q5, q6, q7⟩ := h
  exact ⟨m_d_kept q1 (fun j hj _ => h1 j (by omega)), hs, m_pa_kept q3 (h2 75 (by decide) (by decide)), m_ws_kept q4 (fun a _ _ => h2 a (by omega) (by omega)), m_li_kept q5 (h2 73 (by decide) (by decide)) (h2 74 (by decide) (by decide)), m_ac_kept q6 (h2 64 (by decide) (by decide)) (h2 65 (by decide) (by decide)), MP_kept q7 (h1 8 (by decide)) (fun a _ _ => h2 a (by omega) (by omega))⟩
set_option maxRecDepth 100000 in
set_option maxHeartbeats 4000000 in
theorem sm_take {d : Nat} {σ : Sg} {B : Nat} {I : Fm} {P : Fr} {K : Option Fs → Fm → Fr → Prop} (hP : x_ref P) (h : MR σ [] B I) (hK1 : s_sr σ ≠ [] → ∀ I' : Fm, MR (w_sr σ (s_sr σ).tail) [] B I' → mfr I I' → K (some (.inr (nI ((s_sr σ).length - 1)))) I' P) (hK0 : s_sr σ = [] → K (some (.inr (-1000))) I P) : Fk (d + 1) m_M_take 77 77 0 0 [rf 57] I P K := by
  have hl10 := h.2.1.2.1
  refine Fk.intro (by decide +kernel) (Nat.le_of_ble_eq_true rfl) (fun G hC => ?_)
  refine Zv.aload_n hC d_M_take_0 rfl ?_
  refine Zv.geti hC d_M_take_1 fl_M_75 rfl rfl (by decide) h.2.1.1 ?_
  refine Zv.if_ne (tgt := 11) hC d_M_take_4 (by decide) (fun h4 => ?_) (fun h4 => ?_)
  · try have g4 := q_n0 h4
    refine Zv.aload_n hC d_M_take_11 rfl ?_
    refine Zv.callV0 hC d_M_take_12 ml_M_78 mk_M_shiftStore rfl (Nat.le_of_ble_eq_true rfl) rfl (by decide) ?_
    refine sm_shiftStore hP (by omega) h.2.1.1 (fun I1 c1 c2 c3 c4 => ?_)
    refine Zv.aload_n hC d_M_take_15 rfl ?_
    refine Zv.geti hC d_M_take_16 fl_M_75 rfl rfl (by decide) c1 ?_
    refine Zv.iret hC rfl d_M_take_19 (Nat.le_refl _) (Nat.le_refl _) ?_
    obtain ⟨q, sr, hq⟩ : ∃ q sr, s_sr σ = q :: sr := by
      cases hh : s_sr σ with
      | nil => rw [hh] at g4; exact absurd rfl g4
      | cons q sr => exact ⟨q, sr, rfl⟩
    have hs := h.2.1
    rw [hq] at hs
    have hs1 : m_sto I1 (s_sr σ).tail := by
      rw [hq]
      exact ms_pop hs (by rw [c1, hq]; rfl) (fun k hk => c2 k (by have hk : k < 4 * sr.length := hk; rw [hq]; simp; omega))
    exact hK1 (by rw [hq]; exact List.cons_ne_nil _ _) I1 (MR_take h hs1 c3 c4) ⟨fun a ha => c4 a (by omega) (by omega), c3 1 (by decide)⟩
  · try have g4 := q_e0 h4 (by omega)
    have hnil : s_sr σ = [] := List.eq_nil_of_length_eq_zero g4
    refine Zv.sipush hC d_M_take_7 sp_m1000 ?_
    refine Zv.iret hC rfl d_M_take_10 (Nat.le_refl _) (Nat.le_refl _) ?_
    exact hK0 hnil
theorem A_ix_of {n : Nat} {f : Nat → Int32} {j : Nat} {r : Int32} (hj : j < n) (hn : n < 2 ^ 31) (e : r = f j) : A_ix n f (nI j) r := by subst e; exact A_in hj hn
set_option maxRecDepth 100000 in
set_option maxHeartbeats 4000000 in
theorem sm_report {d : Nat} {σ : Sg} {B : Nat} {x : Int32} {I : Fm} {P : Fr} {K : Option Fs → Fm → Fr → Prop} (hP : x_ref P) (h : MR σ [] B I) (hK : ∀ q sr, s_sr σ = q :: sr → ∀ r : Int32, A_ix 4 (fun j => match j with | 0 => q.1 | 1 => q.2.1 | 2 => q.2.2.1 | _ => q.2.2.2) x r → K (some (.inr r)) I P) (hK0 : s_sr σ = [] → K (some (.inr (-1000))) I P) : Fk d m_M_report 77 77 0 0 [rf 57, .inr x] I P K := by
  have hl10 := h.2.1.2.1
  refine Fk.intro (by decide +kernel) (Nat.le_of_ble_eq_true rfl) (fun G hC => ?_)
  refine Zv.aload_n hC d_M_report_0 rfl ?_
  refine Zv.geti hC d_M_report_1 fl_M_75 rfl rfl (by decide) h.2.1.1 ?_
  refine Zv.if_eq (tgt := 16) hC d_M_report_4 (by decide) (fun h4 => ?_) (fun h4 => ?_)
  · try have g4 := q_e0 h4 (by omega)
    refine Zv.sipush hC d_M_report_16 sp_m1000 ?_
    refine Zv.goto (tgt := 28) hC d_M_report_19 (by decide) ?_
    refine Zv.iret hC rfl d_M_report_28 (Nat.le_refl _) (Nat.le_refl _) ?_
    exact hK0 (List.eq_nil_of_length_eq_zero g4)
  · try have g4 := q_n0 h4
    obtain ⟨q, sr, hq⟩ : ∃ q sr, s_sr σ = q :: sr := by
      cases hh : s_sr σ with
      | nil => rw [hh] at g4; exact absurd rfl g4
      | cons q sr => exact ⟨q, sr, rfl⟩
    refine Zv.iload_n hC d_M_report_7 rfl ?_
    refine Zv.if_lt (tgt := 16) hC d_M_report_8 (by decide) (fun h8 => ?_) (fun h8 => ?_)
    · skip
      refine Zv.sipush hC d_M_report_16 sp_m1000 ?_
      refine Zv.goto (tgt := 28) hC d_M_report_19 (by decide) ?_
      refine Zv.iret hC rfl d_M_report_28 (Nat.le_refl _) (Nat.le_refl _) ?_
      exact hK q sr hq _ (A_out (q_out0 h8 (by decide)))
    · skip
      refine Zv.iload_n hC d_M_report_11 rfl ?_
      refine Zv.iconst hC d_M_report_12 ic_3 ?_
      refine Zv.icmp_le (tgt := 22) hC d_M_report_13 (by decide) (fun h13 => ?_) (fun h13 => ?_)
      · skip
        obtain ⟨j, hj, e⟩ := q_inl h8 h13 (by decide)
        subst e
        refine Zv.aload_n hC d_M_report_22 rfl ?_
        refine Zv.getr (q := 77) hC d_M_report_23 fl_M_72 rfl rfl (by decide) (hP _ _ (by decide) (by decide)) ?_
        refine Zv.iload_n hC d_M_report_26 rfl ?_
        refine Zv.iald hC d_M_report_27 rfl (by decide) rfl (by omega) (by first | decide | omega) rfl ?_
        refine Zv.iret hC rfl d_M_report_28 (Nat.le_refl _) (Nat.le_refl _) ?_
        have hs := h.2.1.2.2 0 (by omega)
        rw [hq, List.getElem?_cons_zero] at hs
        have hs := Option.some.inj hs
        refine hK q sr hq _ (A_ix_of (f := fun j => match j with | 0 => q.1 | 1 => q.2.1 | 2 => q.2.2.1 | _ => q.2.2.2) hj (by decide) ?_)
        rcases (show j = 0 ∨ j = 1 ∨ j = 2 ∨ j = 3 by omega) with rfl | rfl | rfl | rfl <;> rw [hs] <;> rfl
      · skip
        refine Zv.sipush hC d_M_report_16 sp_m1000 ?_
        refine Zv.goto (tgt := 28) hC d_M_report_19 (by decide) ?_
        refine Zv.iret hC rfl d_M_report_28 (Nat.le_refl _) (Nat.le_refl _) ?_
        exact hK q sr hq _ (A_out (q_outl h13 (by decide)))
set_option maxRecDepth 100000 in
set_option maxHeartbeats 4000000 in
theorem sm_count {d : Nat} {σ : Sg} {B : Nat} {x : Int32} {I : Fm} {P : Fr} {K : Option Fs → Fm → Fr → Prop} (hP : x_ref P) (h : MR σ [] B I) (hB : B < 2 ^ 30) (h1 : s_g σ 1 < 2) (h2 : s_g σ 2 < 2) (hK : ∀ r : Int32, A_ix 10 (fun j => match j with | 3 => nI (s_pl σ).length | 4 => nI (s_sr σ).length | j => nI (s_g σ j)) x r → K (some (.inr r)) I P) : Fk (d + 1) m_M_count 77 77 0 0 [rf 57, .inr x] I P K := by
  obtain ⟨tm, od, cd, L, D, ca, hp, hcaB, hpl, hdl⟩ := h.2.2.2.2.2.2
  refine Fk.intro (by decide +kernel) (Nat.le_of_ble_eq_true rfl) (fun G hC => ?_)
  refine Zv.iload_n hC d_M_count_0 rfl ?_
  by_cases hx : ∃ j, j < 10 ∧ x = nI j
  · obtain ⟨j, hj, e⟩ := hx
    subst e
    have hA := A_in (f := fun j => match j with | 3 => nI (s_pl σ).length | 4 => nI (s_sr σ).length | j => nI (s_g σ j)) hj (by decide)
    rcases (show j = 0 ∨ j = 1 ∨ j = 2 ∨ j = 3 ∨ j = 4 ∨ j = 5 ∨ j = 6 ∨ j = 7 ∨ j = 8 ∨ j = 9 by omega) with rfl | rfl | rfl | rfl | rfl | rfl | rfl | rfl | rfl | rfl
    · refine Zv.tabIn (tgt := 56) hC d_M_count_1 (by decide) (by decide) rfl (by decide) ?_
      refine Zv.aload_n hC d_M_count_56 rfl ?_
      refine Zv.geti hC d_M_count_57 fl_M_84 rfl rfl (by decide) h.1.1 ?_
      refine Zv.iret hC rfl d_M_count_60 (Nat.le_refl _) (Nat.le_refl _) ?_
      exact hK _ hA
    · refine Zv.tabIn (tgt := 61) hC d_M_count_1 (by decide) (by decide) rfl (by decide) ?_
      refine Zv.aload_n hC d_M_count_61 rfl ?_
      refine Zv.geti hC d_M_count_62 fl_M_102 rfl rfl (by decide) h.1.2.1 ?_
      refine Zv.if_eq (tgt := 72) hC d_M_count_65 (by decide) (fun h65 => ?_) (fun h65 => ?_)
      · try have g65 := q_e0 h65 (by omega)
        refine Zv.iconst hC d_M_count_72 ic_0 ?_
        refine Zv.iret hC rfl d_M_count_73 (Nat.le_refl _) (Nat.le_refl _) ?_
        have hA : A_ix 10 (fun j => match j with | 3 => nI (s_pl σ).length | 4 => nI (s_sr σ).length | j => nI (s_g σ j)) (nI 1) (nI (s_g σ 1)) := hA
        rw [g65] at hA
        exact hK _ hA
      · try have g65 := q_n0 h65
        refine Zv.iconst hC d_M_count_68 ic_1 ?_
        refine Zv.goto (tgt := 73) hC d_M_count_69 (by decide) ?_
        refine Zv.iret hC rfl d_M_count_73 (Nat.le_refl _) (Nat.le_refl _) ?_
        have hA : A_ix 10 (fun j => match j with | 3 => nI (s_pl σ).length | 4 => nI (s_sr σ).length | j => nI (s_g σ j)) (nI 1) (nI (s_g σ 1)) := hA
        rw [show s_g σ 1 = 1 by omega] at hA
        exact hK _ hA
    · refine Zv.tabIn (tgt := 74) hC d_M_count_1 (by decide) (by decide) rfl (by decide) ?_
      refine Zv.aload_n hC d_M_count_74 rfl ?_
      refine Zv.geti hC d_M_count_75 fl_M_116 rfl rfl (by decide) h.1.2.2.1 ?_
      refine Zv.if_eq (tgt := 85) hC d_M_count_78 (by decide) (fun h78 => ?_) (fun h78 => ?_)
      · try have g78 := q_e0 h78 (by omega)
        refine Zv.iconst hC d_M_count_85 ic_1 ?_
        refine Zv.iret hC rfl d_M_count_86 (Nat.le_refl _) (Nat.le_refl _) ?_
        have hA : A_ix 10 (fun j => match j with | 3 => nI (s_pl σ).length | 4 => nI (s_sr σ).length | j => nI (s_g σ j)) (nI 2) (nI (s_g σ 2)) := hA
        rw [show s_g σ 2 = 1 by omega] at hA
        exact hK _ hA
      · try have g78 := q_n0 h78
        refine Zv.iconst hC d_M_count_81 ic_0 ?_
        refine Zv.goto (tgt := 86) hC d_M_count_82 (by decide) ?_
        refine Zv.iret hC rfl d_M_count_86 (Nat.le_refl _) (Nat.le_refl _) ?_
        have hA : A_ix 10 (fun j => match j with | 3 => nI (s_pl σ).length | 4 => nI (s_sr σ).length | j => nI (s_g σ j)) (nI 2) (nI (s_g σ 2)) := hA
        rw [show s_g σ 2 = 0 by omega] at hA
        exact hK _ hA
    · refine Zv.tabIn (tgt := 87) hC d_M_count_1 (by decide) (by decide) rfl (by decide) ?_
      refine Zv.aload_n hC d_M_count_87 rfl ?_
      refine Zv.callV0 hC d_M_count_88 ml_M_106 mk_M_entries rfl (Nat.le_of_ble_eq_true rfl) rfl (by decide) ?_
      refine sm_entries hP hp (by omega) ?_
      rw [show L.length = (s_pl σ).length by rw [hpl, List.length_map]]
      refine Zv.iret hC rfl d_M_count_91 (Nat.le_refl _) (Nat.le_refl _) ?_
      exact hK _ hA
    · refine Zv.tabIn (tgt := 92) hC d_M_count_1 (by decide) (by decide) rfl (by decide) ?_
      refine Zv.aload_n hC d_M_count_92 rfl ?_
      refine Zv.geti hC d_M_count_93 fl_M_75 rfl rfl (by decide) h.2.1.1 ?_
      refine Zv.iret hC rfl d_M_count_96 (Nat.le_refl _) (Nat.le_refl _) ?_
      exact hK _ hA
    · refine Zv.tabIn (tgt := 97) hC d_M_count_1 (by decide) (by decide) rfl (by decide) ?_
      refine Zv.aload_n hC d_M_count_97 rfl ?_
      refine Zv.geti hC d_M_count_98 fl_M_81 rfl rfl (by decide) h.1.2.2.2.1 ?_
      refine Zv.iret hC rfl d_M_count_101 (Nat.le_refl _) (Nat.le_refl _) ?_
      exact hK _ hA
    · refine Zv.tabIn (tgt := 102) hC d_M_count_1 (by decide) (by decide) rfl (by decide) ?_
      refine Zv.aload_n hC d_M_count_102 rfl ?_
      refine Zv.geti hC d_M_count_103 fl_M_155 rfl rfl (by decide) h.1.2.2.2.2.1 ?_
      refine Zv.iret hC rfl d_M_count_106 (Nat.le_refl _) (Nat.le_refl _) ?_
      exact hK _ hA
    · refine Zv.tabIn (tgt := 107) hC d_M_count_1 (by decide) (by decide) rfl (by decide) ?_
      refine Zv.aload_n hC d_M_count_107 rfl ?_
      refine Zv.geti hC d_M_count_108 fl_M_148 rfl rfl (by decide) h.1.2.2.2.2.2.1 ?_
      refine Zv.iret hC rfl d_M_count_111 (Nat.le_refl _) (Nat.le_refl _) ?_
      exact hK _ hA
    · refine Zv.tabIn (tgt := 112) hC d_M_count_1 (by decide) (by decide) rfl (by decide) ?_
      refine Zv.aload_n hC d_M_count_112 rfl ?_
      refine Zv.geti hC d_M_count_113 fl_M_145 rfl rfl (by decide) h.1.2.2.2.2.2.2.1 ?_
      refine Zv.iret hC rfl d_M_count_116 (Nat.le_refl _) (Nat.le_refl _) ?_
      exact hK _ hA
    · refine Zv.tabIn (tgt := 117) hC d_M_count_1 (by decide) (by decide) rfl (by decide) ?_
      refine Zv.aload_n hC d_M_count_117 rfl ?_
      refine Zv.geti hC d_M_count_118 fl_M_142 rfl rfl (by decide) h.1.2.2.2.2.2.2.2 ?_
      refine Zv.iret hC rfl d_M_count_121 (Nat.le_refl _) (Nat.le_refl _) ?_
      exact hK _ hA
  · refine Zv.tabOut (tgt := 122) hC d_M_count_1 (q_outT hx (by decide)) (by decide) ?_
    refine Zv.sipush hC d_M_count_122 sp_m1000 ?_
    refine Zv.iret hC rfl d_M_count_125 (Nat.le_refl _) (Nat.le_refl _) ?_
    exact hK _ (A_out hx)
