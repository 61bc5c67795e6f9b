theorem z_nb1 {c : Prop} (i : Decidable c) : narrow .boolean (.int (if c then nI 1 else nI 0)) = .int (if c then nI 1 else nI 0) := by
  split <;> rfl
theorem e_sgn_lo {x : Nat} (h : x < 128) : e_sgn x = nI x := if_pos h
theorem e_sgn_hi {x : Nat} (h : ¬ x < 128) : e_sgn x = nI x - nI 256 := if_neg h
set_option maxRecDepth 100000 in
set_option maxHeartbeats 4000000 in
theorem sp_signed {d x : Nat} {y : Int32} {I : Fm} {P : Fr} {K : Option Fs → Fm → Fr → Prop} (hy : y = nI x) (hx : x < 256) (hK : K (some (.inr (e_sgn x))) I P) : Fk d m_D_signed 77 77 0 0 [.inr y] I P K := by
  subst hy
  refine Fk.intro (by decide +kernel) (Nat.le_of_ble_eq_true rfl) (fun G hC => ?_)
  refine Zv.iload_n hC d_D_signed_0 rfl ?_
  refine Zv.sipush hC d_D_signed_1 sp_128 ?_
  refine Zv.icmp_ge (tgt := 11) hC d_D_signed_4 (by decide) (fun h4 => ?_) (fun h4 => ?_)
  · try have g4 := q_le h4 (by omega) (by omega)
    refine Zv.iload_n hC d_D_signed_11 rfl ?_
    refine Zv.sipush hC d_D_signed_12 sp_256 ?_
    refine Zv.isub hC d_D_signed_15 ?_
    refine Zv.iret hC rfl d_D_signed_16 (Nat.le_refl _) (Nat.le_refl _) ?_
    first | (rw [e_sgn_lo (by omega)] at hK; exact hK) | (rw [e_sgn_hi (by omega)] at hK; exact hK)
  · try have g4 := q_nle h4 (by omega) (by omega)
    refine Zv.iload_n hC d_D_signed_7 rfl ?_
    refine Zv.goto (tgt := 16) hC d_D_signed_8 (by decide) ?_
    refine Zv.iret hC rfl d_D_signed_16 (Nat.le_refl _) (Nat.le_refl _) ?_
    first | (rw [e_sgn_lo (by omega)] at hK; exact hK) | (rw [e_sgn_hi (by omega)] at hK; exact hK)
set_option maxRecDepth 100000 in
set_option maxHeartbeats 4000000 in
theorem sp_isParameter {d : Nat} {x : Int32} {I : Fm} {P : Fr} {K : Option Fs → Fm → Fr → Prop} (hK1 : ∀ j, j < 8 → x = nI j → K (some (.inr (nI 1))) I P) (hK0 : (¬ ∃ j, j < 8 ∧ x = nI j) → K (some (.inr (nI 0))) I P) : Fk d m_D_isParameter 77 77 0 0 [.inr x] I P K := by
  refine Fk.intro (by decide +kernel) (Nat.le_of_ble_eq_true rfl) (fun G hC => ?_)
  refine Zv.iload_n hC d_D_isParameter_0 rfl ?_
  refine Zv.if_lt (tgt := 14) hC d_D_isParameter_1 (by decide) (fun h1 => ?_) (fun h1 => ?_)
  · skip
    have hn := q_out0 (n := 8) h1 (by decide)
    refine Zv.iconst hC d_D_isParameter_14 ic_0 ?_
    refine Zv.zret hC rfl d_D_isParameter_15 rfl (Nat.le_refl _) (Nat.le_refl _) ?_
    first | exact hK1 j hj e | exact hK0 hn
  · skip
    refine Zv.iload_n hC d_D_isParameter_4 rfl ?_
    refine Zv.bipush hC d_D_isParameter_5 bp_8 ?_
    refine Zv.icmp_ge (tgt := 14) hC d_D_isParameter_7 (by decide) (fun h7 => ?_) (fun h7 => ?_)
    · skip
      have hn := q_out1 h7 (by decide)
      refine Zv.iconst hC d_D_isParameter_14 ic_0 ?_
      refine Zv.zret hC rfl d_D_isParameter_15 rfl (Nat.le_refl _) (Nat.le_refl _) ?_
      first | exact hK1 j hj e | exact hK0 hn
    · skip
      obtain ⟨j, hj, e⟩ := q_in h1 h7 (by decide)
      refine Zv.iconst hC d_D_isParameter_10 ic_1 ?_
      refine Zv.goto (tgt := 15) hC d_D_isParameter_11 (by decide) ?_
      refine Zv.zret hC rfl d_D_isParameter_15 rfl (Nat.le_refl _) (Nat.le_refl _) ?_
      first | exact hK1 j hj e | exact hK0 hn
set_option maxRecDepth 100000 in
set_option maxHeartbeats 4000000 in
theorem sp_isWatch {d : Nat} {x : Int32} {I : Fm} {P : Fr} {K : Option Fs → Fm → Fr → Prop} (hK1 : ∀ j, j < 4 → x = nI j → K (some (.inr (nI 1))) I P) (hK0 : (¬ ∃ j, j < 4 ∧ x = nI j) → K (some (.inr (nI 0))) I P) : Fk d m_D_isWatch 77 77 0 0 [.inr x] I P K := by
  refine Fk.intro (by decide +kernel) (Nat.le_of_ble_eq_true rfl) (fun G hC => ?_)
  refine Zv.iload_n hC d_D_isWatch_0 rfl ?_
  refine Zv.if_lt (tgt := 13) hC d_D_isWatch_1 (by decide) (fun h1 => ?_) (fun h1 => ?_)
  · skip
    have hn := q_out0 (n := 4) h1 (by decide)
    refine Zv.iconst hC d_D_isWatch_13 ic_0 ?_
    refine Zv.zret hC rfl d_D_isWatch_14 rfl (Nat.le_refl _) (Nat.le_refl _) ?_
    first | exact hK1 j hj e | exact hK0 hn
  · skip
    refine Zv.iload_n hC d_D_isWatch_4 rfl ?_
    refine Zv.iconst hC d_D_isWatch_5 ic_4 ?_
    refine Zv.icmp_ge (tgt := 13) hC d_D_isWatch_6 (by decide) (fun h6 => ?_) (fun h6 => ?_)
    · skip
      have hn := q_out1 h6 (by decide)
      refine Zv.iconst hC d_D_isWatch_13 ic_0 ?_
      refine Zv.zret hC rfl d_D_isWatch_14 rfl (Nat.le_refl _) (Nat.le_refl _) ?_
      first | exact hK1 j hj e | exact hK0 hn
    · skip
      obtain ⟨j, hj, e⟩ := q_in h1 h6 (by decide)
      refine Zv.iconst hC d_D_isWatch_9 ic_1 ?_
      refine Zv.goto (tgt := 14) hC d_D_isWatch_10 (by decide) ?_
      refine Zv.zret hC rfl d_D_isWatch_14 rfl (Nat.le_refl _) (Nat.le_refl _) ?_
      first | exact hK1 j hj e | exact hK0 hn
set_option maxRecDepth 100000 in
set_option maxHeartbeats 4000000 in
theorem sp_isEvent {d : Nat} {x : Int32} {I : Fm} {P : Fr} {K : Option Fs → Fm → Fr → Prop} (hK1 : ∀ j, j < 4 → x = nI j → K (some (.inr (nI 1))) I P) (hK0 : (¬ ∃ j, j < 4 ∧ x = nI j) → K (some (.inr (nI 0))) I P) : Fk d m_D_isEvent 77 77 0 0 [.inr x] I P K := by
  refine Fk.intro (by decide +kernel) (Nat.le_of_ble_eq_true rfl) (fun G hC => ?_)
  refine Zv.iload_n hC d_D_isEvent_0 rfl ?_
  refine Zv.if_lt (tgt := 13) hC d_D_isEvent_1 (by decide) (fun h1 => ?_) (fun h1 => ?_)
  · skip
    have hn := q_out0 (n := 4) h1 (by decide)
    refine Zv.iconst hC d_D_isEvent_13 ic_0 ?_
    refine Zv.zret hC rfl d_D_isEvent_14 rfl (Nat.le_refl _) (Nat.le_refl _) ?_
    first | exact hK1 j hj e | exact hK0 hn
  · skip
    refine Zv.iload_n hC d_D_isEvent_4 rfl ?_
    refine Zv.iconst hC d_D_isEvent_5 ic_4 ?_
    refine Zv.icmp_ge (tgt := 13) hC d_D_isEvent_6 (by decide) (fun h6 => ?_) (fun h6 => ?_)
    · skip
      have hn := q_out1 h6 (by decide)
      refine Zv.iconst hC d_D_isEvent_13 ic_0 ?_
      refine Zv.zret hC rfl d_D_isEvent_14 rfl (Nat.le_refl _) (Nat.le_refl _) ?_
      first | exact hK1 j hj e | exact hK0 hn
    · skip
      obtain ⟨j, hj, e⟩ := q_in h1 h6 (by decide)
      refine Zv.iconst hC d_D_isEvent_9 ic_1 ?_
      refine Zv.goto (tgt := 14) hC d_D_isEvent_10 (by decide) ?_
      refine Zv.zret hC rfl d_D_isEvent_14 rfl (Nat.le_refl _) (Nat.le_refl _) ?_
      first | exact hK1 j hj e | exact hK0 hn
set_option maxRecDepth 100000 in
set_option maxHeartbeats 4000000 in
theorem sp_isList {d : Nat} {x : Int32} {I : Fm} {P : Fr} {K : Option Fs → Fm → Fr → Prop} (hK1 : ∀ j, j < 2 → x = nI j → K (some (.inr (nI 1))) I P) (hK0 : (¬ ∃ j, j < 2 ∧ x = nI j) → K (some (.inr (nI 0))) I P) : Fk d m_D_isList 77 77 0 0 [.inr x] I P K := by
  refine Fk.intro (by decide +kernel) (Nat.le_of_ble_eq_true rfl) (fun G hC => ?_)
  refine Zv.iload_n hC d_D_isList_0 rfl ?_
  refine Zv.if_lt (tgt := 13) hC d_D_isList_1 (by decide) (fun h1 => ?_) (fun h1 => ?_)
  · skip
    have hn := q_out0 (n := 2) h1 (by decide)
    refine Zv.iconst hC d_D_isList_13 ic_0 ?_
    refine Zv.zret hC rfl d_D_isList_14 rfl (Nat.le_refl _) (Nat.le_refl _) ?_
    first | exact hK1 j hj e | exact hK0 hn
  · skip
    refine Zv.iload_n hC d_D_isList_4 rfl ?_
    refine Zv.iconst hC d_D_isList_5 ic_2 ?_
    refine Zv.icmp_ge (tgt := 13) hC d_D_isList_6 (by decide) (fun h6 => ?_) (fun h6 => ?_)
    · skip
      have hn := q_out1 h6 (by decide)
      refine Zv.iconst hC d_D_isList_13 ic_0 ?_
      refine Zv.zret hC rfl d_D_isList_14 rfl (Nat.le_refl _) (Nat.le_refl _) ?_
      first | exact hK1 j hj e | exact hK0 hn
    · skip
      obtain ⟨j, hj, e⟩ := q_in h1 h6 (by decide)
      refine Zv.iconst hC d_D_isList_9 ic_1 ?_
      refine Zv.goto (tgt := 14) hC d_D_isList_10 (by decide) ?_
      refine Zv.zret hC rfl d_D_isList_14 rfl (Nat.le_refl _) (Nat.le_refl _) ?_
      first | exact hK1 j hj e | exact hK0 hn
set_option maxRecDepth 100000 in
set_option maxHeartbeats 4000000 in
theorem sp_holds {d x : Nat} {y : Int32} {I : Fm} {P : Fr} {K : Option Fs → Fm → Fr → Prop} (hy : y = nI x) (hx : x < 256) (hK1 : e_holds x = true → K (some (.inr (nI 1))) I P) (hK0 : e_holds x = false → K (some (.inr (nI 0))) I P) : Fk d m_D_holdsCommand 77 77 0 0 [.inr y] I P K := by
  subst hy
  refine Fk.intro (by decide +kernel) (Nat.le_of_ble_eq_true rfl) (fun G hC => ?_)
  refine Zv.iload_n hC d_D_holdsCommand_0 rfl ?_
  refine Zv.iconst hC d_D_holdsCommand_1 ic_3 ?_
  refine Zv.icmp_eq (tgt := 11) hC d_D_holdsCommand_2 (by decide) (fun h2 => ?_) (fun h2 => ?_)
  · try have g2 := q_e h2 (by omega) (by omega)
    refine Zv.iconst hC d_D_holdsCommand_11 ic_1 ?_
    refine Zv.goto (tgt := 16) hC d_D_holdsCommand_12 (by decide) ?_
    refine Zv.zret hC rfl d_D_holdsCommand_16 rfl (Nat.le_refl _) (Nat.le_refl _) ?_
    first | exact hK1 (by simp [e_holds]; omega) | exact hK0 (by simp [e_holds]; omega)
  · try have g2 := q_n h2
    refine Zv.iload_n hC d_D_holdsCommand_5 rfl ?_
    refine Zv.bipush hC d_D_holdsCommand_6 bp_8 ?_
    refine Zv.icmp_ne (tgt := 15) hC d_D_holdsCommand_8 (by decide) (fun h8 => ?_) (fun h8 => ?_)
    · try have g8 := q_n h8
      refine Zv.iconst hC d_D_holdsCommand_15 ic_0 ?_
      refine Zv.zret hC rfl d_D_holdsCommand_16 rfl (Nat.le_refl _) (Nat.le_refl _) ?_
      first | exact hK1 (by simp [e_holds]; omega) | exact hK0 (by simp [e_holds]; omega)
    · try have g8 := q_e h8 (by omega) (by omega)
      refine Zv.iconst hC d_D_holdsCommand_11 ic_1 ?_
      refine Zv.goto (tgt := 16) hC d_D_holdsCommand_12 (by decide) ?_
      refine Zv.zret hC rfl d_D_holdsCommand_16 rfl (Nat.le_refl _) (Nat.le_refl _) ?_
      first | exact hK1 (by simp [e_holds]; omega) | exact hK0 (by simp [e_holds]; omega)
set_option maxRecDepth 100000 in
set_option maxHeartbeats 4000000 in
theorem sp_mayStand {d a c : Nat} {x y : Int32} {I : Fm} {P : Fr} {K : Option Fs → Fm → Fr → Prop} (hx : x = nI a) (hy : y = nI c) (ha : a < 256) (hc : c < 256) (hK1 : (c ≠ 3 ∧ (a = 3 ∨ c ≠ 8)) → K (some (.inr (nI 1))) I P) (hK0 : ¬ (c ≠ 3 ∧ (a = 3 ∨ c ≠ 8)) → K (some (.inr (nI 0))) I P) : Fk d m_D_mayStandInside 77 77 0 0 [.inr x, .inr y] I P K := by
  subst hx
  subst hy
  refine Fk.intro (by decide +kernel) (Nat.le_of_ble_eq_true rfl) (fun G hC => ?_)
  refine Zv.iload_n hC d_D_mayStandInside_0 rfl ?_
  refine Zv.iconst hC d_D_mayStandInside_1 ic_3 ?_
  refine Zv.icmp_eq (tgt := 20) hC d_D_mayStandInside_2 (by decide) (fun h2 => ?_) (fun h2 => ?_)
  · try have g2 := q_e h2 (by omega) (by omega)
    refine Zv.iconst hC d_D_mayStandInside_20 ic_0 ?_
    refine Zv.zret hC rfl d_D_mayStandInside_21 rfl (Nat.le_refl _) (Nat.le_refl _) ?_
    first | exact hK1 (by omega) | exact hK0 (by omega)
  · try have g2 := q_n h2
    refine Zv.iload_n hC d_D_mayStandInside_5 rfl ?_
    refine Zv.iconst hC d_D_mayStandInside_6 ic_3 ?_
    refine Zv.icmp_eq (tgt := 16) hC d_D_mayStandInside_7 (by decide) (fun h7 => ?_) (fun h7 => ?_)
    · try have g7 := q_e h7 (by omega) (by omega)
      refine Zv.iconst hC d_D_mayStandInside_16 ic_1 ?_
      refine Zv.goto (tgt := 21) hC d_D_mayStandInside_17 (by decide) ?_
      refine Zv.zret hC rfl d_D_mayStandInside_21 rfl (Nat.le_refl _) (Nat.le_refl _) ?_
      first | exact hK1 (by omega) | exact hK0 (by omega)
    · try have g7 := q_n h7
      refine Zv.iload_n hC d_D_mayStandInside_10 rfl ?_
      refine Zv.bipush hC d_D_mayStandInside_11 bp_8 ?_
      refine Zv.icmp_eq (tgt := 20) hC d_D_mayStandInside_13 (by decide) (fun h13 => ?_) (fun h13 => ?_)
      · try have g13 := q_e h13 (by omega) (by omega)
        refine Zv.iconst hC d_D_mayStandInside_20 ic_0 ?_
        refine Zv.zret hC rfl d_D_mayStandInside_21 rfl (Nat.le_refl _) (Nat.le_refl _) ?_
        first | exact hK1 (by omega) | exact hK0 (by omega)
      · try have g13 := q_n h13
        refine Zv.iconst hC d_D_mayStandInside_16 ic_1 ?_
        refine Zv.goto (tgt := 21) hC d_D_mayStandInside_17 (by decide) ?_
        refine Zv.zret hC rfl d_D_mayStandInside_21 rfl (Nat.le_refl _) (Nat.le_refl _) ?_
        first | exact hK1 (by omega) | exact hK0 (by omega)
set_option maxRecDepth 100000 in
set_option maxHeartbeats 4000000 in
theorem sp_insideOf {d a : Nat} {x : Int32} {I : Fm} {P : Fr} {K : Option Fs → Fm → Fr → Prop} (hx : x = nI a) (ha : a < 256) (hK : K (some (.inr (nI (if a = 3 then 3 else 2)))) I P) : Fk d m_D_insideOf 77 77 0 0 [.inr x] I P K := by
  subst hx
  refine Fk.intro (by decide +kernel) (Nat.le_of_ble_eq_true rfl) (fun G hC => ?_)
  refine Zv.iconst hC d_D_insideOf_0 ic_1 ?_
  refine Zv.iload_n hC d_D_insideOf_1 rfl ?_
  refine Zv.iconst hC d_D_insideOf_2 ic_3 ?_
  refine Zv.icmp_ne (tgt := 14) hC d_D_insideOf_3 (by decide) (fun h3 => ?_) (fun h3 => ?_)
  · try have g3 := q_n h3
    refine Zv.gst_bipush hC d_D_insideOf_14 d_D_insideOf_17 d_D_insideOf_19 fs_D_165 bp_8 rfl (by decide) ?_
    refine Zv.iaddN (a := 1) (b := 1) hC d_D_insideOf_20 ?_
    rw [if_neg g3] at hK
    refine Zv.iret hC rfl d_D_insideOf_21 (Nat.le_refl _) (Nat.le_refl _) ?_
    exact hK
  · try have g3 := q_e h3 (by omega) (by omega)
    refine Zv.gst_iconst hC d_D_insideOf_6 d_D_insideOf_9 d_D_insideOf_10 fs_D_165 ic_3 rfl (by decide) ?_
    refine Zv.goto (tgt := 20) hC d_D_insideOf_11 (by decide) ?_
    refine Zv.iaddN (a := 1) (b := 2) hC d_D_insideOf_20 ?_
    rw [if_pos g3] at hK
    refine Zv.iret hC rfl d_D_insideOf_21 (Nat.le_refl _) (Nat.le_refl _) ?_
    exact hK
set_option maxRecDepth 100000 in
set_option maxHeartbeats 4000000 in
theorem sp_allowed {d a : Nat} {x : Int32} {I : Fm} {P : Fr} {K : Option Fs → Fm → Fr → Prop} (hx : x = nI a) (ha : a < 256) (hK1 : (a = 1 ∨ a = 2 ∨ a = 7 ∨ a = 11) → K (some (.inr (nI 1))) I P) (hK0 : ¬ (a = 1 ∨ a = 2 ∨ a = 7 ∨ a = 11) → K (some (.inr (nI 0))) I P) : Fk d m_D_isAllowedWhenSafe 77 77 0 0 [.inr x] I P K := by
  subst hx
  refine Fk.intro (by decide +kernel) (Nat.le_of_ble_eq_true rfl) (fun G hC => ?_)
  refine Zv.iload_n hC d_D_isAllowedWhenSafe_0 rfl ?_
  refine Zv.iconst hC d_D_isAllowedWhenSafe_1 ic_1 ?_
  refine Zv.icmp_eq (tgt := 22) hC d_D_isAllowedWhenSafe_2 (by decide) (fun h2 => ?_) (fun h2 => ?_)
  · try have g2 := q_e h2 (by omega) (by omega)
    refine Zv.iconst hC d_D_isAllowedWhenSafe_22 ic_1 ?_
    refine Zv.goto (tgt := 27) hC d_D_isAllowedWhenSafe_23 (by decide) ?_
    refine Zv.zret hC rfl d_D_isAllowedWhenSafe_27 rfl (Nat.le_refl _) (Nat.le_refl _) ?_
    first | exact hK1 (by omega) | exact hK0 (by omega)
  · try have g2 := q_n h2
    refine Zv.iload_n hC d_D_isAllowedWhenSafe_5 rfl ?_
    refine Zv.iconst hC d_D_isAllowedWhenSafe_6 ic_2 ?_
    refine Zv.icmp_eq (tgt := 22) hC d_D_isAllowedWhenSafe_7 (by decide) (fun h7 => ?_) (fun h7 => ?_)
    · try have g7 := q_e h7 (by omega) (by omega)
      refine Zv.iconst hC d_D_isAllowedWhenSafe_22 ic_1 ?_
      refine Zv.goto (tgt := 27) hC d_D_isAllowedWhenSafe_23 (by decide) ?_
      refine Zv.zret hC rfl d_D_isAllowedWhenSafe_27 rfl (Nat.le_refl _) (Nat.le_refl _) ?_
      first | exact hK1 (by omega) | exact hK0 (by omega)
    · try have g7 := q_n h7
      refine Zv.iload_n hC d_D_isAllowedWhenSafe_10 rfl ?_
      refine Zv.bipush hC d_D_isAllowedWhenSafe_11 bp_7 ?_
      refine Zv.icmp_eq (tgt := 22) hC d_D_isAllowedWhenSafe_13 (by decide) (fun h13 => ?_) (fun h13 => ?_)
      · try have g13 := q_e h13 (by omega) (by omega)
        refine Zv.iconst hC d_D_isAllowedWhenSafe_22 ic_1 ?_
        refine Zv.goto (tgt := 27) hC d_D_isAllowedWhenSafe_23 (by decide) ?_
        refine Zv.zret hC rfl d_D_isAllowedWhenSafe_27 rfl (Nat.le_refl _) (Nat.le_refl _) ?_
        first | exact hK1 (by omega) | exact hK0 (by omega)
      · try have g13 := q_n h13
        refine Zv.iload_n hC d_D_isAllowedWhenSafe_16 rfl ?_
        refine Zv.bipush hC d_D_isAllowedWhenSafe_17 bp_11 ?_
        refine Zv.icmp_ne (tgt := 26) hC d_D_isAllowedWhenSafe_19 (by decide) (fun h19 => ?_) (fun h19 => ?_)
        · try have g19 := q_n h19
          refine Zv.iconst hC d_D_isAllowedWhenSafe_26 ic_0 ?_
          refine Zv.zret hC rfl d_D_isAllowedWhenSafe_27 rfl (Nat.le_refl _) (Nat.le_refl _) ?_
          first | exact hK1 (by omega) | exact hK0 (by omega)
        · try have g19 := q_e h19 (by omega) (by omega)
          refine Zv.iconst hC d_D_isAllowedWhenSafe_22 ic_1 ?_
          refine Zv.goto (tgt := 27) hC d_D_isAllowedWhenSafe_23 (by decide) ?_
          refine Zv.zret hC rfl d_D_isAllowedWhenSafe_27 rfl (Nat.le_refl _) (Nat.le_refl _) ?_
          first | exact hK1 (by omega) | exact hK0 (by omega)
set_option maxRecDepth 100000 in
set_option maxHeartbeats 4000000 in
theorem sp_timeOf {d k : Nat} {c : List Nat} {I : Fm} {P : Fr} {K : Option Fs → Fm → Fr → Prop} (hk : isCm k) (hP : x_ref P) (hc : x_cmd I k c) (hK : K (some (.inr (nI (e_at c 1 * 256 + e_at c 2)))) I P) : Fk (d + 1) m_D_timeOf 77 77 0 0 [rf (k + 1)] I P K := by
  refine Fk.intro (by decide +kernel) (Nat.le_of_ble_eq_true rfl) (fun G hC => ?_)
  refine Zv.aload_n hC d_D_timeOf_0 rfl ?_
  refine Zv.iconst hC d_D_timeOf_1 ic_1 ?_
  refine Zv.callV1 hC d_D_timeOf_2 ml_D_190 mk_Cm_part rfl (Nat.le_of_ble_eq_true rfl) hk.1 (by have := hk.2.2.1; omega) ?_
  refine sp_part hk hP hc rfl (by decide) ?_
  refine Zv.sipush hC d_D_timeOf_5 sp_256 ?_
  first | refine Zv.imulN hC d_D_timeOf_8 ?_ | refine Zv.imul hC d_D_timeOf_8 ?_
  refine Zv.aload_n hC d_D_timeOf_9 rfl ?_
  refine Zv.iconst hC d_D_timeOf_10 ic_2 ?_
  refine Zv.callV1 hC d_D_timeOf_11 ml_D_190 mk_Cm_part rfl (Nat.le_of_ble_eq_true rfl) hk.1 (by have := hk.2.2.1; omega) ?_
  refine sp_part hk hP hc rfl (by decide) ?_
  first | refine Zv.iaddN hC d_D_timeOf_14 ?_ | refine Zv.iadd hC d_D_timeOf_14 ?_
  refine Zv.iret hC rfl d_D_timeOf_15 (Nat.le_refl _) (Nat.le_refl _) ?_
  exact hK
set_option maxRecDepth 100000 in
set_option maxHeartbeats 4000000 in
theorem sp_isDue {d h e t : Nat} {x : Int32} {I : Fm} {P : Fr} {K : Option Fs → Fm → Fr → Prop} (hh : f_shp h = .inr 1) (hhn : h < 77) (he : I h 0 = nI e) (hx : x = nI t) (ht : t < 2 ^ 30) (he2 : e < 256) (hK1 : e ≠ 0 → t % e = 0 → K (some (.inr (nI 1))) I P) (hK0 : (e = 0 ∨ t % e ≠ 0) → K (some (.inr (nI 0))) I P) : Fk d m_Hl_isDue 77 77 0 0 [rf (h + 1), .inr x] I P K := by
  subst hx
  refine Fk.intro (by decide +kernel) (Nat.le_of_ble_eq_true rfl) (fun G hC => ?_)
  refine Zv.aload_n hC d_Hl_isDue_0 rfl ?_
  refine Zv.geti hC d_Hl_isDue_1 fl_Hl_7 rfl hh hhn he ?_
  refine Zv.if_eq (tgt := 20) hC d_Hl_isDue_4 (by decide) (fun h4 => ?_) (fun h4 => ?_)
  · try have g4 := q_e0 h4 (by omega)
    refine Zv.iconst hC d_Hl_isDue_20 ic_0 ?_
    refine Zv.zret hC rfl d_Hl_isDue_21 rfl (Nat.le_refl _) (Nat.le_refl _) ?_
    exact hK0 (Or.inl g4)
  · try have g4 := q_n0 h4
    refine Zv.iload_n hC d_Hl_isDue_7 rfl ?_
    refine Zv.aload_n hC d_Hl_isDue_8 rfl ?_
    refine Zv.geti hC d_Hl_isDue_9 fl_Hl_7 rfl hh hhn he ?_
    have g0 : 0 < e := by omega
    have gm : t % e < e := Nat.mod_lt _ g0
    refine Zv.iremN hC d_Hl_isDue_12 (by omega) (by omega) (by omega) ?_
    refine Zv.if_ne (tgt := 20) hC d_Hl_isDue_13 (by decide) (fun h13 => ?_) (fun h13 => ?_)
    · try have g13 := q_n0 h13
      refine Zv.iconst hC d_Hl_isDue_20 ic_0 ?_
      refine Zv.zret hC rfl d_Hl_isDue_21 rfl (Nat.le_refl _) (Nat.le_refl _) ?_
      exact hK0 (Or.inr g13)
    · try have g13 := q_e0 h13 (by omega)
      refine Zv.iconst hC d_Hl_isDue_16 ic_1 ?_
      refine Zv.goto (tgt := 21) hC d_Hl_isDue_17 (by decide) ?_
      refine Zv.zret hC rfl d_Hl_isDue_21 rfl (Nat.le_refl _) (Nat.le_refl _) ?_
      exact hK1 g4 g13
