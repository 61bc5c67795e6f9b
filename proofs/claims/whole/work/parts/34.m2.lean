set_option maxRecDepth 100000 in
set_option maxHeartbeats 4000000 in
theorem sm_wanted {d v : Nat} {I : Fm} {P : Fr} {K : Option Fs → Fm → Fr → Prop} (hv : v = 1 ∨ v = 2 ∨ v = 3 ∨ v = 4 ∨ v = 5 ∨ v = 6 ∨ v = 7 ∨ v = 8 ∨ v = 9 ∨ v = 10 ∨ v = 11) (hK : K (some (.inr (nI (e_want v)))) I P) : Fk d m_M_wanted 77 77 0 0 [.inr (nI v)] I P K := by
  refine Fk.intro (by decide +kernel) (Nat.le_of_ble_eq_true rfl) (fun G hC => ?_)
  refine Zv.iload_n hC d_M_wanted_0 rfl ?_
  rcases hv with e | e | e | e | e | e | e | e | e | e | e
  · subst e
    refine Zv.tabIn (tgt := 60) hC d_M_wanted_1 (by decide) (by decide) rfl (by decide) ?_
    refine Zv.iconst hC d_M_wanted_60 ic_0 ?_
    refine Zv.iret hC rfl d_M_wanted_61 (Nat.le_refl _) (Nat.le_refl _) ?_
    exact hK
  · subst e
    refine Zv.tabIn (tgt := 62) hC d_M_wanted_1 (by decide) (by decide) rfl (by decide) ?_
    refine Zv.iconst hC d_M_wanted_62 ic_2 ?_
    refine Zv.iret hC rfl d_M_wanted_63 (Nat.le_refl _) (Nat.le_refl _) ?_
    exact hK
  · subst e
    refine Zv.tabIn (tgt := 64) hC d_M_wanted_1 (by decide) (by decide) rfl (by decide) ?_
    refine Zv.iconst hC d_M_wanted_64 ic_2 ?_
    refine Zv.iret hC rfl d_M_wanted_65 (Nat.le_refl _) (Nat.le_refl _) ?_
    exact hK
  · subst e
    refine Zv.tabIn (tgt := 66) hC d_M_wanted_1 (by decide) (by decide) rfl (by decide) ?_
    refine Zv.iconst hC d_M_wanted_66 ic_1 ?_
    refine Zv.iret hC rfl d_M_wanted_67 (Nat.le_refl _) (Nat.le_refl _) ?_
    exact hK
  · subst e
    refine Zv.tabIn (tgt := 66) hC d_M_wanted_1 (by decide) (by decide) rfl (by decide) ?_
    refine Zv.iconst hC d_M_wanted_66 ic_1 ?_
    refine Zv.iret hC rfl d_M_wanted_67 (Nat.le_refl _) (Nat.le_refl _) ?_
    exact hK
  · subst e
    refine Zv.tabIn (tgt := 68) hC d_M_wanted_1 (by decide) (by decide) rfl (by decide) ?_
    refine Zv.bipush hC d_M_wanted_68 bp_6 ?_
    refine Zv.iret hC rfl d_M_wanted_70 (Nat.le_refl _) (Nat.le_refl _) ?_
    exact hK
  · subst e
    refine Zv.tabIn (tgt := 66) hC d_M_wanted_1 (by decide) (by decide) rfl (by decide) ?_
    refine Zv.iconst hC d_M_wanted_66 ic_1 ?_
    refine Zv.iret hC rfl d_M_wanted_67 (Nat.le_refl _) (Nat.le_refl _) ?_
    exact hK
  · subst e
    refine Zv.tabIn (tgt := 66) hC d_M_wanted_1 (by decide) (by decide) rfl (by decide) ?_
    refine Zv.iconst hC d_M_wanted_66 ic_1 ?_
    refine Zv.iret hC rfl d_M_wanted_67 (Nat.le_refl _) (Nat.le_refl _) ?_
    exact hK
  · subst e
    refine Zv.tabIn (tgt := 66) hC d_M_wanted_1 (by decide) (by decide) rfl (by decide) ?_
    refine Zv.iconst hC d_M_wanted_66 ic_1 ?_
    refine Zv.iret hC rfl d_M_wanted_67 (Nat.le_refl _) (Nat.le_refl _) ?_
    exact hK
  · subst e
    refine Zv.tabIn (tgt := 71) hC d_M_wanted_1 (by decide) (by decide) rfl (by decide) ?_
    refine Zv.iconst hC d_M_wanted_71 ic_3 ?_
    refine Zv.iret hC rfl d_M_wanted_72 (Nat.le_refl _) (Nat.le_refl _) ?_
    exact hK
  · subst e
    refine Zv.tabIn (tgt := 66) hC d_M_wanted_1 (by decide) (by decide) rfl (by decide) ?_
    refine Zv.iconst hC d_M_wanted_66 ic_1 ?_
    refine Zv.iret hC rfl d_M_wanted_67 (Nat.le_refl _) (Nat.le_refl _) ?_
    exact hK
theorem nw_len {c : List Nat} {s v : Nat} (h : ¬ e_nw (c.drop s)) (e : e_at c s = v) : (e_holds v = true → e_want v < c.length - s - 1) ∧ (e_holds v = false → c.length - s - 1 = e_want v) := by
  unfold e_nw at h
  rw [e_at_drop, Nat.add_zero, e, List.length_drop] at h
  refine ⟨fun z => ?_, fun z => ?_⟩
  · rw [if_pos z] at h; omega
  · rw [if_neg (by rw [z]; decide)] at h; omega
set_option maxRecDepth 100000 in
set_option maxHeartbeats 4000000 in
theorem sm_outOfRange {d s : Nat} {c : List Nat} {I : Fm} {P : Fr} {K : Option Fs → Fm → Fr → Prop} (hP : x_ref P) (hc : m_w I c) (hs : s < c.length) (hsv : e_sv c s) (hnw : ¬ e_nw (c.drop s)) (hK : ∀ r : Nat, r < 2 → (r ≠ 0 ↔ ¬ e_rng (c.drop s) = true) → K (some (.inr (nI r))) I P) : Fk (d + 1) m_M_outOfRange 77 77 0 0 [rf 57, .inr (nI s)] I P K := by
  have hb := e_at_lt hc.2.2.2
  have hsv0 := hsv
  have hcl := hc.2.1
  obtain ⟨x1, hx1a, hx1b⟩ : ∃ x, I 58 (s + 1) = x ∧ (s + 1 < c.length → x = nI (e_at c (s + 1))) := ⟨_, rfl, fun z => hc.2.2.1 _ z⟩
  refine Fk.intro (by decide +kernel) (Nat.le_of_ble_eq_true rfl) (fun G hC => ?_)
  refine Zv.aload_n hC d_M_outOfRange_0 rfl ?_
  refine Zv.getr (q := 59) hC d_M_outOfRange_1 fl_M_17 rfl rfl (by decide) (hP _ _ (by decide) (by decide)) ?_
  refine Zv.iload_n hC d_M_outOfRange_4 rfl ?_
  refine Zv.iald hC d_M_outOfRange_5 rfl (by decide) rfl (by omega) (by first | decide | omega) (hc.2.2.1 s hs) ?_
  refine Zv.istore_n hC d_M_outOfRange_6 (by decide) rfl ?_
  refine Zv.aload_n hC d_M_outOfRange_7 rfl ?_
  refine Zv.getr (q := 59) hC d_M_outOfRange_8 fl_M_17 rfl rfl (by decide) (hP _ _ (by decide) (by decide)) ?_
  refine Zv.iload_n hC d_M_outOfRange_11 rfl ?_
  refine Zv.iconst hC d_M_outOfRange_12 ic_1 ?_
  first | refine Zv.iaddN hC d_M_outOfRange_13 ?_ | refine Zv.iadd hC d_M_outOfRange_13 ?_
  refine Zv.iald hC d_M_outOfRange_14 rfl (by decide) rfl (by omega) (by first | decide | omega) hx1a ?_
  refine Zv.istore_n hC d_M_outOfRange_15 (by decide) rfl ?_
  have hb1 := hb (s + 1)
  have hb2 := hb (s + 2)
  have hb3 := hb (s + 3)
  have hb5 := hb (s + 5)
  have hb6 := hb (s + 6)
  refine Zv.iload_n hC d_M_outOfRange_16 rfl ?_
  rcases hsv with e | e | e | e | e | e | e | e | e | e | e
  · refine Zv.top (show _ = nI 1 by rw [e]) ?_
    refine Zv.tabOut (tgt := 255) hC d_M_outOfRange_17 (by decide) (by decide) ?_
    have hq : e_rng (c.drop s) = true ↔ True := by rw [e_rng_iff hsv0]; unfold e_ar; rw [e]; simp
    have hl := (nw_len hnw e).2 rfl
    have hwv : e_want 1 = 0 := rfl
    refine Zv.iconst hC d_M_outOfRange_255 ic_0 ?_
    refine Zv.zret hC rfl d_M_outOfRange_256 rfl (Nat.le_refl _) (Nat.le_refl _) ?_
    exact hK 0 (by decide) ⟨fun z => absurd rfl z, fun z => absurd (hq.mpr trivial) z⟩
  · refine Zv.top (show _ = nI 2 by rw [e]) ?_
    refine Zv.tabIn (tgt := 72) hC d_M_outOfRange_17 (by decide) (by decide) rfl (by decide) ?_
    have hq : e_rng (c.drop s) = true ↔ e_at c (s + 1) < 8 := by rw [e_rng_iff hsv0]; unfold e_ar; rw [e]; simp
    have hl := (nw_len hnw e).2 rfl
    have hwv : e_want 2 = 2 := rfl
    have e1 := hx1b (by omega)
    subst e1
    refine Zv.iload_n hC d_M_outOfRange_72 rfl ?_
    refine Zv.iload_n hC d_M_outOfRange_73 rfl ?_
    refine Zv.iconst hC d_M_outOfRange_74 ic_2 ?_
    refine Zv.icmp_ne (tgt := 83) hC d_M_outOfRange_75 (by decide) (fun h75 => ?_) (fun h75 => ?_)
    · try have g75 := q_n h75
      exact absurd e g75
    · try have g75 := q_e h75 (by omega) (by omega)
      refine Zv.bipush hC d_M_outOfRange_78 bp_8 ?_
      refine Zv.goto (tgt := 84) hC d_M_outOfRange_80 (by decide) ?_
      refine Zv.icmp_lt (tgt := 91) hC d_M_outOfRange_84 (by decide) (fun h84 => ?_) (fun h84 => ?_)
      · try have g84 := q_l h84 (by omega) (by omega)
        refine Zv.iconst hC d_M_outOfRange_91 ic_0 ?_
        refine Zv.zret hC rfl d_M_outOfRange_92 rfl (Nat.le_refl _) (Nat.le_refl _) ?_
        exact hK 0 (by decide) ⟨fun z => absurd rfl z, fun z => absurd (hq.mpr (by omega)) z⟩
      · try have g84 := q_nl h84 (by omega) (by omega)
        refine Zv.iconst hC d_M_outOfRange_87 ic_1 ?_
        refine Zv.goto (tgt := 92) hC d_M_outOfRange_88 (by decide) ?_
        refine Zv.zret hC rfl d_M_outOfRange_92 rfl (Nat.le_refl _) (Nat.le_refl _) ?_
        exact hK 1 (by decide) ⟨fun _ z => absurd (hq.mp z) (by omega), fun _ => by decide⟩
  · refine Zv.top (show _ = nI 3 by rw [e]) ?_
    refine Zv.tabIn (tgt := 93) hC d_M_outOfRange_17 (by decide) (by decide) rfl (by decide) ?_
    have hq : e_rng (c.drop s) = true ↔ e_at c (s + 3) ≠ 3 := by rw [e_rng_iff hsv0]; unfold e_ar; rw [e]; simp
    have hl := (nw_len hnw e).1 rfl
    have hwv : e_want 3 = 2 := rfl
    have e1 := hx1b (by omega)
    subst e1
    refine Zv.aload_n hC d_M_outOfRange_93 rfl ?_
    refine Zv.getr (q := 59) hC d_M_outOfRange_94 fl_M_17 rfl rfl (by decide) (hP _ _ (by decide) (by decide)) ?_
    refine Zv.iload_n hC d_M_outOfRange_97 rfl ?_
    refine Zv.iconst hC d_M_outOfRange_98 ic_3 ?_
    first | refine Zv.iaddN hC d_M_outOfRange_99 ?_ | refine Zv.iadd hC d_M_outOfRange_99 ?_
    refine Zv.iald hC d_M_outOfRange_100 rfl (by decide) rfl (by omega) (by first | decide | omega) (hc.2.2.1 (s + 3) (by omega)) ?_
    refine Zv.iconst hC d_M_outOfRange_101 ic_3 ?_
    refine Zv.icmp_ne (tgt := 109) hC d_M_outOfRange_102 (by decide) (fun h102 => ?_) (fun h102 => ?_)
    · try have g102 := q_n h102
      refine Zv.iconst hC d_M_outOfRange_109 ic_0 ?_
      refine Zv.zret hC rfl d_M_outOfRange_110 rfl (Nat.le_refl _) (Nat.le_refl _) ?_
      exact hK 0 (by decide) ⟨fun z => absurd rfl z, fun z => absurd (hq.mpr (by omega)) z⟩
    · try have g102 := q_e h102 (by omega) (by omega)
      refine Zv.iconst hC d_M_outOfRange_105 ic_1 ?_
      refine Zv.goto (tgt := 110) hC d_M_outOfRange_106 (by decide) ?_
      refine Zv.zret hC rfl d_M_outOfRange_110 rfl (Nat.le_refl _) (Nat.le_refl _) ?_
      exact hK 1 (by decide) ⟨fun _ z => absurd (hq.mp z) (by omega), fun _ => by decide⟩
  · refine Zv.top (show _ = nI 4 by rw [e]) ?_
    refine Zv.tabIn (tgt := 72) hC d_M_outOfRange_17 (by decide) (by decide) rfl (by decide) ?_
    have hq : e_rng (c.drop s) = true ↔ e_at c (s + 1) < 3 := by rw [e_rng_iff hsv0]; unfold e_ar; rw [e]; simp
    have hl := (nw_len hnw e).2 rfl
    have hwv : e_want 4 = 1 := rfl
    have e1 := hx1b (by omega)
    subst e1
    refine Zv.iload_n hC d_M_outOfRange_72 rfl ?_
    refine Zv.iload_n hC d_M_outOfRange_73 rfl ?_
    refine Zv.iconst hC d_M_outOfRange_74 ic_2 ?_
    refine Zv.icmp_ne (tgt := 83) hC d_M_outOfRange_75 (by decide) (fun h75 => ?_) (fun h75 => ?_)
    · try have g75 := q_n h75
      refine Zv.iconst hC d_M_outOfRange_83 ic_3 ?_
      refine Zv.icmp_lt (tgt := 91) hC d_M_outOfRange_84 (by decide) (fun h84 => ?_) (fun h84 => ?_)
      · try have g84 := q_l h84 (by omega) (by omega)
        refine Zv.iconst hC d_M_outOfRange_91 ic_0 ?_
        refine Zv.zret hC rfl d_M_outOfRange_92 rfl (Nat.le_refl _) (Nat.le_refl _) ?_
        exact hK 0 (by decide) ⟨fun z => absurd rfl z, fun z => absurd (hq.mpr (by omega)) z⟩
      · try have g84 := q_nl h84 (by omega) (by omega)
        refine Zv.iconst hC d_M_outOfRange_87 ic_1 ?_
        refine Zv.goto (tgt := 92) hC d_M_outOfRange_88 (by decide) ?_
        refine Zv.zret hC rfl d_M_outOfRange_92 rfl (Nat.le_refl _) (Nat.le_refl _) ?_
        exact hK 1 (by decide) ⟨fun _ z => absurd (hq.mp z) (by omega), fun _ => by decide⟩
    · try have g75 := q_e h75 (by omega) (by omega)
      omega
  · refine Zv.top (show _ = nI 5 by rw [e]) ?_
    refine Zv.tabIn (tgt := 255) hC d_M_outOfRange_17 (by decide) (by decide) rfl (by decide) ?_
    have hq : e_rng (c.drop s) = true ↔ True := by rw [e_rng_iff hsv0]; unfold e_ar; rw [e]; simp
    have hl := (nw_len hnw e).2 rfl
    have hwv : e_want 5 = 1 := rfl
    have e1 := hx1b (by omega)
    subst e1
    refine Zv.iconst hC d_M_outOfRange_255 ic_0 ?_
    refine Zv.zret hC rfl d_M_outOfRange_256 rfl (Nat.le_refl _) (Nat.le_refl _) ?_
    exact hK 0 (by decide) ⟨fun z => absurd rfl z, fun z => absurd (hq.mpr trivial) z⟩
  · refine Zv.top (show _ = nI 6 by rw [e]) ?_
    refine Zv.tabIn (tgt := 111) hC d_M_outOfRange_17 (by decide) (by decide) rfl (by decide) ?_
    have hq : e_rng (c.drop s) = true ↔ e_wr c s := by rw [e_rng_iff hsv0]; unfold e_ar; rw [e]; simp
    have hl := (nw_len hnw e).2 rfl
    have hwv : e_want 6 = 6 := rfl
    have e1 := hx1b (by omega)
    subst e1
    refine Zv.iload_n hC d_M_outOfRange_111 rfl ?_
    refine Zv.iconst hC d_M_outOfRange_112 ic_3 ?_
    refine Zv.icmp_gt (tgt := 191) hC d_M_outOfRange_113 (by decide) (fun h113 => ?_) (fun h113 => ?_)
    · try have g113 := q_l h113 (by omega) (by omega)
      refine Zv.iconst hC d_M_outOfRange_191 ic_1 ?_
      refine Zv.goto (tgt := 196) hC d_M_outOfRange_192 (by decide) ?_
      refine Zv.zret hC rfl d_M_outOfRange_196 rfl (Nat.le_refl _) (Nat.le_refl _) ?_
      exact hK 1 (by decide) ⟨fun _ z => by have z := hq.mp z; unfold e_wr at z; omega, fun _ => by decide⟩
    · try have g113 := q_nl h113 (by omega) (by omega)
      refine Zv.aload_n hC d_M_outOfRange_116 rfl ?_
      refine Zv.getr (q := 59) hC d_M_outOfRange_117 fl_M_17 rfl rfl (by decide) (hP _ _ (by decide) (by decide)) ?_
      refine Zv.iload_n hC d_M_outOfRange_120 rfl ?_
      refine Zv.iconst hC d_M_outOfRange_121 ic_2 ?_
      first | refine Zv.iaddN hC d_M_outOfRange_122 ?_ | refine Zv.iadd hC d_M_outOfRange_122 ?_
      refine Zv.iald hC d_M_outOfRange_123 rfl (by decide) rfl (by omega) (by first | decide | omega) (hc.2.2.1 (s + 2) (by omega)) ?_
      refine Zv.bipush hC d_M_outOfRange_124 bp_7 ?_
      refine Zv.icmp_gt (tgt := 191) hC d_M_outOfRange_126 (by decide) (fun h126 => ?_) (fun h126 => ?_)
      · try have g126 := q_l h126 (by omega) (by omega)
        refine Zv.iconst hC d_M_outOfRange_191 ic_1 ?_
        refine Zv.goto (tgt := 196) hC d_M_outOfRange_192 (by decide) ?_
        refine Zv.zret hC rfl d_M_outOfRange_196 rfl (Nat.le_refl _) (Nat.le_refl _) ?_
        exact hK 1 (by decide) ⟨fun _ z => by have z := hq.mp z; unfold e_wr at z; omega, fun _ => by decide⟩
      · try have g126 := q_nl h126 (by omega) (by omega)
        refine Zv.aload_n hC d_M_outOfRange_129 rfl ?_
        refine Zv.getr (q := 59) hC d_M_outOfRange_130 fl_M_17 rfl rfl (by decide) (hP _ _ (by decide) (by decide)) ?_
        refine Zv.iload_n hC d_M_outOfRange_133 rfl ?_
        refine Zv.iconst hC d_M_outOfRange_134 ic_4 ?_
        first | refine Zv.iaddN hC d_M_outOfRange_135 ?_ | refine Zv.iadd hC d_M_outOfRange_135 ?_
        refine Zv.iald hC d_M_outOfRange_136 rfl (by decide) rfl (by omega) (by first | decide | omega) (hc.2.2.1 (s + 4) (by omega)) ?_
        refine Zv.callS1 hC d_M_outOfRange_137 ml_M_87 mk_M_signed (Nat.le_of_ble_eq_true rfl) ?_
        refine sm_signed rfl (hb _) ?_
        refine Zv.aload_n hC d_M_outOfRange_140 rfl ?_
        refine Zv.getr (q := 59) hC d_M_outOfRange_141 fl_M_17 rfl rfl (by decide) (hP _ _ (by decide) (by decide)) ?_
        refine Zv.iload_n hC d_M_outOfRange_144 rfl ?_
        refine Zv.iconst hC d_M_outOfRange_145 ic_3 ?_
        first | refine Zv.iaddN hC d_M_outOfRange_146 ?_ | refine Zv.iadd hC d_M_outOfRange_146 ?_
        refine Zv.iald hC d_M_outOfRange_147 rfl (by decide) rfl (by omega) (by first | decide | omega) (hc.2.2.1 (s + 3) (by omega)) ?_
        refine Zv.callS1 hC d_M_outOfRange_148 ml_M_87 mk_M_signed (Nat.le_of_ble_eq_true rfl) ?_
        refine sm_signed rfl (hb _) ?_
        refine Zv.icmp_lt (tgt := 191) hC d_M_outOfRange_151 (by decide) (fun h151 => ?_) (fun h151 => ?_)
        · skip
          refine Zv.iconst hC d_M_outOfRange_191 ic_1 ?_
          refine Zv.goto (tgt := 196) hC d_M_outOfRange_192 (by decide) ?_
          refine Zv.zret hC rfl d_M_outOfRange_196 rfl (Nat.le_refl _) (Nat.le_refl _) ?_
          exact hK 1 (by decide) ⟨fun _ z => by have z := hq.mp z; unfold e_wr at z; exact absurd h151 (Int32.not_lt.mpr z.2.2.1), fun _ => by decide⟩
        · skip
          refine Zv.aload_n hC d_M_outOfRange_154 rfl ?_
          refine Zv.getr (q := 59) hC d_M_outOfRange_155 fl_M_17 rfl rfl (by decide) (hP _ _ (by decide) (by decide)) ?_
          refine Zv.iload_n hC d_M_outOfRange_158 rfl ?_
          refine Zv.iconst hC d_M_outOfRange_159 ic_5 ?_
          first | refine Zv.iaddN hC d_M_outOfRange_160 ?_ | refine Zv.iadd hC d_M_outOfRange_160 ?_
          refine Zv.iald hC d_M_outOfRange_161 rfl (by decide) rfl (by omega) (by first | decide | omega) (hc.2.2.1 (s + 5) (by omega)) ?_
          refine Zv.iconst hC d_M_outOfRange_162 ic_1 ?_
          refine Zv.icmp_lt (tgt := 191) hC d_M_outOfRange_163 (by decide) (fun h163 => ?_) (fun h163 => ?_)
          · try have g163 := q_l h163 (by omega) (by omega)
            refine Zv.iconst hC d_M_outOfRange_191 ic_1 ?_
            refine Zv.goto (tgt := 196) hC d_M_outOfRange_192 (by decide) ?_
            refine Zv.zret hC rfl d_M_outOfRange_196 rfl (Nat.le_refl _) (Nat.le_refl _) ?_
            exact hK 1 (by decide) ⟨fun _ z => by have z := hq.mp z; unfold e_wr at z; omega, fun _ => by decide⟩
          · try have g163 := q_nl h163 (by omega) (by omega)
            refine Zv.aload_n hC d_M_outOfRange_166 rfl ?_
            refine Zv.getr (q := 59) hC d_M_outOfRange_167 fl_M_17 rfl rfl (by decide) (hP _ _ (by decide) (by decide)) ?_
            refine Zv.iload_n hC d_M_outOfRange_170 rfl ?_
            refine Zv.iconst hC d_M_outOfRange_171 ic_5 ?_
            first | refine Zv.iaddN hC d_M_outOfRange_172 ?_ | refine Zv.iadd hC d_M_outOfRange_172 ?_
            refine Zv.iald hC d_M_outOfRange_173 rfl (by decide) rfl (by omega) (by first | decide | omega) (hc.2.2.1 (s + 5) (by omega)) ?_
            refine Zv.iconst hC d_M_outOfRange_174 ic_3 ?_
            refine Zv.icmp_gt (tgt := 191) hC d_M_outOfRange_175 (by decide) (fun h175 => ?_) (fun h175 => ?_)
            · try have g175 := q_l h175 (by omega) (by omega)
              refine Zv.iconst hC d_M_outOfRange_191 ic_1 ?_
              refine Zv.goto (tgt := 196) hC d_M_outOfRange_192 (by decide) ?_
              refine Zv.zret hC rfl d_M_outOfRange_196 rfl (Nat.le_refl _) (Nat.le_refl _) ?_
              exact hK 1 (by decide) ⟨fun _ z => by have z := hq.mp z; unfold e_wr at z; omega, fun _ => by decide⟩
            · try have g175 := q_nl h175 (by omega) (by omega)
              refine Zv.aload_n hC d_M_outOfRange_178 rfl ?_
              refine Zv.getr (q := 59) hC d_M_outOfRange_179 fl_M_17 rfl rfl (by decide) (hP _ _ (by decide) (by decide)) ?_
              refine Zv.iload_n hC d_M_outOfRange_182 rfl ?_
              refine Zv.bipush hC d_M_outOfRange_183 bp_6 ?_
              first | refine Zv.iaddN hC d_M_outOfRange_185 ?_ | refine Zv.iadd hC d_M_outOfRange_185 ?_
              refine Zv.iald hC d_M_outOfRange_186 rfl (by decide) rfl (by omega) (by first | decide | omega) (hc.2.2.1 (s + 6) (by omega)) ?_
              refine Zv.iconst hC d_M_outOfRange_187 ic_3 ?_
              refine Zv.icmp_le (tgt := 195) hC d_M_outOfRange_188 (by decide) (fun h188 => ?_) (fun h188 => ?_)
              · try have g188 := q_le h188 (by omega) (by omega)
                refine Zv.iconst hC d_M_outOfRange_195 ic_0 ?_
                refine Zv.zret hC rfl d_M_outOfRange_196 rfl (Nat.le_refl _) (Nat.le_refl _) ?_
                exact hK 0 (by decide) ⟨fun z => absurd rfl z, fun z => absurd (hq.mpr ⟨by omega, by omega, Int32.not_lt.mp h151, by omega, by omega, by omega⟩) z⟩
              · try have g188 := q_nle h188 (by omega) (by omega)
                refine Zv.iconst hC d_M_outOfRange_191 ic_1 ?_
                refine Zv.goto (tgt := 196) hC d_M_outOfRange_192 (by decide) ?_
                refine Zv.zret hC rfl d_M_outOfRange_196 rfl (Nat.le_refl _) (Nat.le_refl _) ?_
                exact hK 1 (by decide) ⟨fun _ z => by have z := hq.mp z; unfold e_wr at z; omega, fun _ => by decide⟩
  · refine Zv.top (show _ = nI 7 by rw [e]) ?_
    refine Zv.tabIn (tgt := 197) hC d_M_outOfRange_17 (by decide) (by decide) rfl (by decide) ?_
    have hq : e_rng (c.drop s) = true ↔ e_at c (s + 1) < 4 := by rw [e_rng_iff hsv0]; unfold e_ar; rw [e]; simp
    have hl := (nw_len hnw e).2 rfl
    have hwv : e_want 7 = 1 := rfl
    have e1 := hx1b (by omega)
    subst e1
    refine Zv.iload_n hC d_M_outOfRange_197 rfl ?_
    refine Zv.iconst hC d_M_outOfRange_198 ic_3 ?_
    refine Zv.icmp_le (tgt := 206) hC d_M_outOfRange_199 (by decide) (fun h199 => ?_) (fun h199 => ?_)
    · try have g199 := q_le h199 (by omega) (by omega)
      refine Zv.iconst hC d_M_outOfRange_206 ic_0 ?_
      refine Zv.zret hC rfl d_M_outOfRange_207 rfl (Nat.le_refl _) (Nat.le_refl _) ?_
      exact hK 0 (by decide) ⟨fun z => absurd rfl z, fun z => absurd (hq.mpr (by omega)) z⟩
    · try have g199 := q_nle h199 (by omega) (by omega)
      refine Zv.iconst hC d_M_outOfRange_202 ic_1 ?_
      refine Zv.goto (tgt := 207) hC d_M_outOfRange_203 (by decide) ?_
      refine Zv.zret hC rfl d_M_outOfRange_207 rfl (Nat.le_refl _) (Nat.le_refl _) ?_
      exact hK 1 (by decide) ⟨fun _ z => absurd (hq.mp z) (by omega), fun _ => by decide⟩
  · refine Zv.top (show _ = nI 8 by rw [e]) ?_
    refine Zv.tabIn (tgt := 208) hC d_M_outOfRange_17 (by decide) (by decide) rfl (by decide) ?_
    have hq : e_rng (c.drop s) = true ↔ (e_at c (s + 1) < 4 ∧ e_at c (s + 2) ≠ 3 ∧ e_at c (s + 2) ≠ 8) := by rw [e_rng_iff hsv0]; unfold e_ar; rw [e]; simp
    have hl := (nw_len hnw e).1 rfl
    have hwv : e_want 8 = 1 := rfl
    have e1 := hx1b (by omega)
    subst e1
    refine Zv.iload_n hC d_M_outOfRange_208 rfl ?_
    refine Zv.iconst hC d_M_outOfRange_209 ic_3 ?_
    refine Zv.icmp_gt (tgt := 238) hC d_M_outOfRange_210 (by decide) (fun h210 => ?_) (fun h210 => ?_)
    · try have g210 := q_l h210 (by omega) (by omega)
      refine Zv.iconst hC d_M_outOfRange_238 ic_1 ?_
      refine Zv.goto (tgt := 243) hC d_M_outOfRange_239 (by decide) ?_
      refine Zv.zret hC rfl d_M_outOfRange_243 rfl (Nat.le_refl _) (Nat.le_refl _) ?_
      exact hK 1 (by decide) ⟨fun _ z => absurd (hq.mp z) (by omega), fun _ => by decide⟩
    · try have g210 := q_nl h210 (by omega) (by omega)
      refine Zv.aload_n hC d_M_outOfRange_213 rfl ?_
      refine Zv.getr (q := 59) hC d_M_outOfRange_214 fl_M_17 rfl rfl (by decide) (hP _ _ (by decide) (by decide)) ?_
      refine Zv.iload_n hC d_M_outOfRange_217 rfl ?_
      refine Zv.iconst hC d_M_outOfRange_218 ic_2 ?_
      first | refine Zv.iaddN hC d_M_outOfRange_219 ?_ | refine Zv.iadd hC d_M_outOfRange_219 ?_
      refine Zv.iald hC d_M_outOfRange_220 rfl (by decide) rfl (by omega) (by first | decide | omega) (hc.2.2.1 (s + 2) (by omega)) ?_
      refine Zv.iconst hC d_M_outOfRange_221 ic_3 ?_
      refine Zv.icmp_eq (tgt := 238) hC d_M_outOfRange_222 (by decide) (fun h222 => ?_) (fun h222 => ?_)
      · try have g222 := q_e h222 (by omega) (by omega)
        refine Zv.iconst hC d_M_outOfRange_238 ic_1 ?_
        refine Zv.goto (tgt := 243) hC d_M_outOfRange_239 (by decide) ?_
        refine Zv.zret hC rfl d_M_outOfRange_243 rfl (Nat.le_refl _) (Nat.le_refl _) ?_
        exact hK 1 (by decide) ⟨fun _ z => absurd (hq.mp z) (by omega), fun _ => by decide⟩
      · try have g222 := q_n h222
        refine Zv.aload_n hC d_M_outOfRange_225 rfl ?_
        refine Zv.getr (q := 59) hC d_M_outOfRange_226 fl_M_17 rfl rfl (by decide) (hP _ _ (by decide) (by decide)) ?_
        refine Zv.iload_n hC d_M_outOfRange_229 rfl ?_
        refine Zv.iconst hC d_M_outOfRange_230 ic_2 ?_
        first | refine Zv.iaddN hC d_M_outOfRange_231 ?_ | refine Zv.iadd hC d_M_outOfRange_231 ?_
        refine Zv.iald hC d_M_outOfRange_232 rfl (by decide) rfl (by omega) (by first | decide | omega) (hc.2.2.1 (s + 2) (by omega)) ?_
        refine Zv.bipush hC d_M_outOfRange_233 bp_8 ?_
        refine Zv.icmp_ne (tgt := 242) hC d_M_outOfRange_235 (by decide) (fun h235 => ?_) (fun h235 => ?_)
        · try have g235 := q_n h235
          refine Zv.iconst hC d_M_outOfRange_242 ic_0 ?_
          refine Zv.zret hC rfl d_M_outOfRange_243 rfl (Nat.le_refl _) (Nat.le_refl _) ?_
          exact hK 0 (by decide) ⟨fun z => absurd rfl z, fun z => absurd (hq.mpr (by omega)) z⟩
        · try have g235 := q_e h235 (by omega) (by omega)
          refine Zv.iconst hC d_M_outOfRange_238 ic_1 ?_
          refine Zv.goto (tgt := 243) hC d_M_outOfRange_239 (by decide) ?_
          refine Zv.zret hC rfl d_M_outOfRange_243 rfl (Nat.le_refl _) (Nat.le_refl _) ?_
          exact hK 1 (by decide) ⟨fun _ z => absurd (hq.mp z) (by omega), fun _ => by decide⟩
  · refine Zv.top (show _ = nI 9 by rw [e]) ?_
    refine Zv.tabIn (tgt := 197) hC d_M_outOfRange_17 (by decide) (by decide) rfl (by decide) ?_
    have hq : e_rng (c.drop s) = true ↔ e_at c (s + 1) < 4 := by rw [e_rng_iff hsv0]; unfold e_ar; rw [e]; simp
    have hl := (nw_len hnw e).2 rfl
    have hwv : e_want 9 = 1 := rfl
    have e1 := hx1b (by omega)
    subst e1
    refine Zv.iload_n hC d_M_outOfRange_197 rfl ?_
    refine Zv.iconst hC d_M_outOfRange_198 ic_3 ?_
    refine Zv.icmp_le (tgt := 206) hC d_M_outOfRange_199 (by decide) (fun h199 => ?_) (fun h199 => ?_)
    · try have g199 := q_le h199 (by omega) (by omega)
      refine Zv.iconst hC d_M_outOfRange_206 ic_0 ?_
      refine Zv.zret hC rfl d_M_outOfRange_207 rfl (Nat.le_refl _) (Nat.le_refl _) ?_
      exact hK 0 (by decide) ⟨fun z => absurd rfl z, fun z => absurd (hq.mpr (by omega)) z⟩
    · try have g199 := q_nle h199 (by omega) (by omega)
      refine Zv.iconst hC d_M_outOfRange_202 ic_1 ?_
      refine Zv.goto (tgt := 207) hC d_M_outOfRange_203 (by decide) ?_
      refine Zv.zret hC rfl d_M_outOfRange_207 rfl (Nat.le_refl _) (Nat.le_refl _) ?_
      exact hK 1 (by decide) ⟨fun _ z => absurd (hq.mp z) (by omega), fun _ => by decide⟩
  · refine Zv.top (show _ = nI 10 by rw [e]) ?_
    refine Zv.tabIn (tgt := 244) hC d_M_outOfRange_17 (by decide) (by decide) rfl (by decide) ?_
    have hq : e_rng (c.drop s) = true ↔ e_at c (s + 1) < 2 := by rw [e_rng_iff hsv0]; unfold e_ar; rw [e]; simp
    have hl := (nw_len hnw e).2 rfl
    have hwv : e_want 10 = 3 := rfl
    have e1 := hx1b (by omega)
    subst e1
    refine Zv.iload_n hC d_M_outOfRange_244 rfl ?_
    refine Zv.iconst hC d_M_outOfRange_245 ic_1 ?_
    refine Zv.icmp_le (tgt := 253) hC d_M_outOfRange_246 (by decide) (fun h246 => ?_) (fun h246 => ?_)
    · try have g246 := q_le h246 (by omega) (by omega)
      refine Zv.iconst hC d_M_outOfRange_253 ic_0 ?_
      refine Zv.zret hC rfl d_M_outOfRange_254 rfl (Nat.le_refl _) (Nat.le_refl _) ?_
      exact hK 0 (by decide) ⟨fun z => absurd rfl z, fun z => absurd (hq.mpr (by omega)) z⟩
    · try have g246 := q_nle h246 (by omega) (by omega)
      refine Zv.iconst hC d_M_outOfRange_249 ic_1 ?_
      refine Zv.goto (tgt := 254) hC d_M_outOfRange_250 (by decide) ?_
      refine Zv.zret hC rfl d_M_outOfRange_254 rfl (Nat.le_refl _) (Nat.le_refl _) ?_
      exact hK 1 (by decide) ⟨fun _ z => absurd (hq.mp z) (by omega), fun _ => by decide⟩
  · refine Zv.top (show _ = nI 11 by rw [e]) ?_
    refine Zv.tabIn (tgt := 244) hC d_M_outOfRange_17 (by decide) (by decide) rfl (by decide) ?_
    have hq : e_rng (c.drop s) = true ↔ e_at c (s + 1) < 2 := by rw [e_rng_iff hsv0]; unfold e_ar; rw [e]; simp
    have hl := (nw_len hnw e).2 rfl
    have hwv : e_want 11 = 1 := rfl
    have e1 := hx1b (by omega)
    subst e1
    refine Zv.iload_n hC d_M_outOfRange_244 rfl ?_
    refine Zv.iconst hC d_M_outOfRange_245 ic_1 ?_
    refine Zv.icmp_le (tgt := 253) hC d_M_outOfRange_246 (by decide) (fun h246 => ?_) (fun h246 => ?_)
    · try have g246 := q_le h246 (by omega) (by omega)
      refine Zv.iconst hC d_M_outOfRange_253 ic_0 ?_
      refine Zv.zret hC rfl d_M_outOfRange_254 rfl (Nat.le_refl _) (Nat.le_refl _) ?_
      exact hK 0 (by decide) ⟨fun z => absurd rfl z, fun z => absurd (hq.mpr (by omega)) z⟩
    · try have g246 := q_nle h246 (by omega) (by omega)
      refine Zv.iconst hC d_M_outOfRange_249 ic_1 ?_
      refine Zv.goto (tgt := 254) hC d_M_outOfRange_250 (by decide) ?_
      refine Zv.zret hC rfl d_M_outOfRange_254 rfl (Nat.le_refl _) (Nat.le_refl _) ?_
      exact hK 1 (by decide) ⟨fun _ z => absurd (hq.mp z) (by omega), fun _ => by decide⟩
theorem one_of {f : Nat} {c : List Nat} {v : Nat} (h : e_one c = v) (hv : v ≠ 0) : e_brk (f + 1) c = v := by
  rw [e_brk, if_pos (by rw [h]; exact hv), h]
theorem brk_stop {f : Nat} {c : List Nat} (h : e_one c = 0) (h2 : ¬ e_holds (e_at c 0) = true) : e_brk (f + 1) c = 0 := by
  rw [e_brk, if_neg (fun z => z h), if_neg h2]
theorem brk_go {f : Nat} {c : List Nat} (h : e_one c = 0) (h2 : e_holds (e_at c 0) = true) : e_brk (f + 1) c = e_brk f (c.drop (e_want (e_at c 0) + 1)) := by
  rw [e_brk, if_neg (fun z => z h), if_pos h2]
theorem brk_okd : ∀ (f : Nat) (c : List Nat), e_okd f c → e_brk (f + 1) c = e_brk f c
  | 0, c, h => absurd h id
  | f + 1, c, h => by
    by_cases h1 : e_one c = 0
    · by_cases h2 : e_holds (e_at c 0) = true
      · rw [brk_go h1 h2, brk_go h1 h2]
        exact brk_okd f _ (h h1 h2)
      · rw [brk_stop h1 h2, brk_stop h1 h2]
    · rw [one_of rfl h1, one_of rfl h1]
set_option maxRecDepth 100000 in
set_option maxHeartbeats 4000000 in
theorem lm_brk57 {G : Fx} {d : Nat} {c : List Nat} {I : Fm} {P : Fr} {K : Option Fs → Fm → Fr → Prop} (hC : Fc G m_M_broken (d + 2) 0 0) (hP : x_ref P) (hc : m_w I c) {f : Nat} (ih : ∀ s L, L + f = 4 → s < c.length → K (some (.inr (nI (e_brk f (c.drop s))))) I P → Zv G (f_R G K 77 0 0) 77 0 0 4 [(0, rf 57), (1, .inr (nI s)), (2, .inr (nI L))] [] I P) (s L h5 : Nat) (hL : L + (f + 1) = 4) (hs : s < c.length) (hK : K (some (.inr (nI (e_brk (f + 1) (c.drop s))))) I P) (hu : ¬ (e_at (c.drop s) 0 < 1 ∨ 11 < e_at (c.drop s) 0)) (hsv : e_sv c s) (h52 : h5 < 2) (h5e : h5 ≠ 0 ↔ e_holds (e_at c s) = true) : Zv G (f_R G K 77 0 0) 77 0 0 57 [(0, rf 57), (1, .inr (nI s)), (2, .inr (nI L)), (3, .inr (nI (e_at c s))), (4, .inr (nI (c.length - s - 1))), (5, .inr (nI h5))] [] I P := by
  have e0 : e_at (c.drop s) 0 = e_at c s := e_at_drop c s 0
  have hl : (c.drop s).length - 1 = c.length - s - 1 := by rw [List.length_drop]
  have hcl := hc.2.1
  have hw2 : e_want (e_at c s) ≤ 6 := by rcases hsv with e | e | e | e | e | e | e | e | e | e | e <;> rw [e] <;> decide
  refine Zv.iload hC d_M_broken_57 rfl ?_
  refine Zv.if_eq (tgt := 74) hC d_M_broken_59 (by decide) (fun h59 => ?_) (fun h59 => ?_)
  · try have g59 := q_e0 h59 (by omega)
    refine Zv.iload hC d_M_broken_74 rfl ?_
    refine Zv.iload_n hC d_M_broken_76 rfl ?_
    refine Zv.callS1 hC d_M_broken_77 ml_M_94 mk_M_wanted (Nat.le_of_ble_eq_true rfl) ?_
    refine sm_wanted hsv ?_
    refine Zv.icmp_eq (tgt := 85) hC d_M_broken_80 (by decide) (fun h80 => ?_) (fun h80 => ?_)
    · try have g80 := q_e h80 (by omega) (by omega)
      have hnw : ¬ e_nw (c.drop s) := by unfold e_nw; rw [e0, if_neg (fun z => absurd (h5e.mpr z) (by omega)), hl]; omega
      have hs := hs
      refine Zv.aload_n hC d_M_broken_85 rfl ?_
      refine Zv.iload_n hC d_M_broken_86 rfl ?_
      refine Zv.callV1 hC d_M_broken_87 ml_M_97 mk_M_outOfRange rfl (Nat.le_of_ble_eq_true rfl) rfl (by decide) ?_
      refine sm_outOfRange hP hc hs hsv hnw (fun r87 hr87 he87 => ?_)
      refine Zv.if_eq (tgt := 95) hC d_M_broken_90 (by decide) (fun h90 => ?_) (fun h90 => ?_)
      · try have g90 := q_e0 h90 (by omega)
        have hrg : e_rng (c.drop s) = true := Classical.byContradiction fun z => absurd (he87.mpr z) (by omega)
        refine Zv.iload hC d_M_broken_95 rfl ?_
        refine Zv.if_ne (tgt := 102) hC d_M_broken_97 (by decide) (fun h97 => ?_) (fun h97 => ?_)
        · try have g97 := q_n0 h97
          refine Zv.iload_n hC d_M_broken_102 rfl ?_
          refine Zv.iload_n hC d_M_broken_103 rfl ?_
          refine Zv.callS1 hC d_M_broken_104 ml_M_94 mk_M_wanted (Nat.le_of_ble_eq_true rfl) ?_
          refine sm_wanted hsv ?_
          refine Zv.iconst hC d_M_broken_107 ic_1 ?_
          first | refine Zv.iaddN hC d_M_broken_108 ?_ | refine Zv.iadd hC d_M_broken_108 ?_
          first | refine Zv.iaddN hC d_M_broken_109 ?_ | refine Zv.iadd hC d_M_broken_109 ?_
          refine Zv.istore_n hC d_M_broken_110 (by decide) rfl ?_
          refine Zv.iinc hC d_M_broken_111 rfl (by decide) (q_inc _) rfl ?_
          refine Zv.goto (tgt := 4) hC d_M_broken_114 (by decide) ?_
          refine Zv.take 3 ?_
          have hh := h5e.mp g97
          have hlen := (nw_len hnw rfl).1 hh
          have hd : c.drop (s + (e_want (e_at c s) + 1)) = (c.drop s).drop (e_want (e_at (c.drop s) 0) + 1) := by rw [List.drop_drop, e0]
          refine ih _ (L + 1) (by omega) (by omega) ?_
          rw [hd]
          rw [brk_go (e_one_ok hu hnw hrg) (by rw [e0]; exact hh)] at hK
          exact hK
        · try have g97 := q_e0 h97 (by omega)
          refine Zv.iconst hC d_M_broken_100 ic_0 ?_
          refine Zv.iret hC rfl d_M_broken_101 (Nat.le_refl _) (Nat.le_refl _) ?_
          rw [brk_stop (e_one_ok hu hnw hrg) (by rw [e0]; exact fun z => absurd (h5e.mpr z) (by omega))] at hK
          exact hK
      · try have g90 := q_n0 h90
        refine Zv.iconst hC d_M_broken_93 ic_3 ?_
        refine Zv.iret hC rfl d_M_broken_94 (Nat.le_refl _) (Nat.le_refl _) ?_
        rw [one_of (e_one_rng hu hnw (Bool.eq_false_iff.mpr (he87.mp g90))) (by decide)] at hK
        exact hK
    · try have g80 := q_n h80
      refine Zv.iconst hC d_M_broken_83 ic_2 ?_
      refine Zv.iret hC rfl d_M_broken_84 (Nat.le_refl _) (Nat.le_refl _) ?_
      rw [one_of (e_one_num hu (show e_nw (c.drop s) by unfold e_nw; rw [e0, if_neg (fun z => absurd (h5e.mpr z) (by omega)), hl]; omega)) (by decide)] at hK
      exact hK
  · try have g59 := q_n0 h59
    refine Zv.iload hC d_M_broken_62 rfl ?_
    refine Zv.iload_n hC d_M_broken_64 rfl ?_
    refine Zv.callS1 hC d_M_broken_65 ml_M_94 mk_M_wanted (Nat.le_of_ble_eq_true rfl) ?_
    refine sm_wanted hsv ?_
    refine Zv.icmp_gt (tgt := 85) hC d_M_broken_68 (by decide) (fun h68 => ?_) (fun h68 => ?_)
    · try have g68 := q_l h68 (by omega) (by omega)
      have hnw : ¬ e_nw (c.drop s) := by unfold e_nw; rw [e0, if_pos (h5e.mp g59), hl]; omega
      have hs := hs
      refine Zv.aload_n hC d_M_broken_85 rfl ?_
      refine Zv.iload_n hC d_M_broken_86 rfl ?_
      refine Zv.callV1 hC d_M_broken_87 ml_M_97 mk_M_outOfRange rfl (Nat.le_of_ble_eq_true rfl) rfl (by decide) ?_
      refine sm_outOfRange hP hc hs hsv hnw (fun r87 hr87 he87 => ?_)
      refine Zv.if_eq (tgt := 95) hC d_M_broken_90 (by decide) (fun h90 => ?_) (fun h90 => ?_)
      · try have g90 := q_e0 h90 (by omega)
        have hrg : e_rng (c.drop s) = true := Classical.byContradiction fun z => absurd (he87.mpr z) (by omega)
        refine Zv.iload hC d_M_broken_95 rfl ?_
        refine Zv.if_ne (tgt := 102) hC d_M_broken_97 (by decide) (fun h97 => ?_) (fun h97 => ?_)
        · try have g97 := q_n0 h97
          refine Zv.iload_n hC d_M_broken_102 rfl ?_
          refine Zv.iload_n hC d_M_broken_103 rfl ?_
          refine Zv.callS1 hC d_M_broken_104 ml_M_94 mk_M_wanted (Nat.le_of_ble_eq_true rfl) ?_
          refine sm_wanted hsv ?_
          refine Zv.iconst hC d_M_broken_107 ic_1 ?_
          first | refine Zv.iaddN hC d_M_broken_108 ?_ | refine Zv.iadd hC d_M_broken_108 ?_
          first | refine Zv.iaddN hC d_M_broken_109 ?_ | refine Zv.iadd hC d_M_broken_109 ?_
          refine Zv.istore_n hC d_M_broken_110 (by decide) rfl ?_
          refine Zv.iinc hC d_M_broken_111 rfl (by decide) (q_inc _) rfl ?_
          refine Zv.goto (tgt := 4) hC d_M_broken_114 (by decide) ?_
          refine Zv.take 3 ?_
          have hh := h5e.mp g97
          have hlen := (nw_len hnw rfl).1 hh
          have hd : c.drop (s + (e_want (e_at c s) + 1)) = (c.drop s).drop (e_want (e_at (c.drop s) 0) + 1) := by rw [List.drop_drop, e0]
          refine ih _ (L + 1) (by omega) (by omega) ?_
          rw [hd]
          rw [brk_go (e_one_ok hu hnw hrg) (by rw [e0]; exact hh)] at hK
          exact hK
        · try have g97 := q_e0 h97 (by omega)
          refine Zv.iconst hC d_M_broken_100 ic_0 ?_
          refine Zv.iret hC rfl d_M_broken_101 (Nat.le_refl _) (Nat.le_refl _) ?_
          rw [brk_stop (e_one_ok hu hnw hrg) (by rw [e0]; exact fun z => absurd (h5e.mpr z) (by omega))] at hK
          exact hK
      · try have g90 := q_n0 h90
        refine Zv.iconst hC d_M_broken_93 ic_3 ?_
        refine Zv.iret hC rfl d_M_broken_94 (Nat.le_refl _) (Nat.le_refl _) ?_
        rw [one_of (e_one_rng hu hnw (Bool.eq_false_iff.mpr (he87.mp g90))) (by decide)] at hK
        exact hK
    · try have g68 := q_nl h68 (by omega) (by omega)
      refine Zv.goto (tgt := 83) hC d_M_broken_71 (by decide) ?_
      refine Zv.iconst hC d_M_broken_83 ic_2 ?_
      refine Zv.iret hC rfl d_M_broken_84 (Nat.le_refl _) (Nat.le_refl _) ?_
      rw [one_of (e_one_num hu (show e_nw (c.drop s) by unfold e_nw; rw [e0, if_pos (h5e.mp g59), hl]; omega)) (by decide)] at hK
      exact hK
set_option maxRecDepth 100000 in
set_option maxHeartbeats 4000000 in
theorem lm_brk {G : Fx} {d : Nat} {c : List Nat} {I : Fm} {P : Fr} {K : Option Fs → Fm → Fr → Prop} (hC : Fc G m_M_broken (d + 2) 0 0) (hP : x_ref P) (hc : m_w I c) : ∀ (f s L : Nat), L + f = 4 → s < c.length → K (some (.inr (nI (e_brk f (c.drop s))))) I P → Zv G (f_R G K 77 0 0) 77 0 0 4 [(0, rf 57), (1, .inr (nI s)), (2, .inr (nI L))] [] I P := by
  have hcl := hc.2.1
  intro f
  induction f with
  | zero =>
    intro s L hL hs hK
    have eL : L = 4 := by omega
    subst eL
    refine Zv.iload_n hC d_M_broken_4 rfl ?_
    refine Zv.iconst hC d_M_broken_5 ic_4 ?_
    refine Zv.icmp_ge (tgt := 117) hC d_M_broken_6 (by decide) (fun _ => ?_) (fun h => absurd (nI_le (Nat.le_refl _) (by decide)) h)
    refine Zv.iconst hC d_M_broken_117 ic_0 ?_
    refine Zv.iret hC rfl d_M_broken_118 (Nat.le_refl _) (Nat.le_refl _) ?_
    exact hK
  | succ f ih =>
    intro s L hL hs hK
    refine Zv.iload_n hC d_M_broken_4 rfl ?_
    refine Zv.iconst hC d_M_broken_5 ic_4 ?_
    refine Zv.icmp_ge (tgt := 117) hC d_M_broken_6 (by decide) (fun h6 => ?_) (fun h6 => ?_)
    · try have g6 := q_le h6 (by omega) (by omega)
      exact absurd g6 (by omega)
    · try have g6 := q_nle h6 (by omega) (by omega)
      refine Zv.aload_n hC d_M_broken_9 rfl ?_
      refine Zv.getr (q := 59) hC d_M_broken_10 fl_M_17 rfl rfl (by decide) (hP _ _ (by decide) (by decide)) ?_
      refine Zv.iload_n hC d_M_broken_13 rfl ?_
      refine Zv.iald hC d_M_broken_14 rfl (by decide) rfl (by omega) (by first | decide | omega) (hc.2.2.1 s hs) ?_
      have hb0 := e_at_lt hc.2.2.2 s
      have e0 : e_at (c.drop s) 0 = e_at c s := e_at_drop c s 0
      refine Zv.istore_n hC d_M_broken_15 (by decide) rfl ?_
      refine Zv.iload_n hC d_M_broken_16 rfl ?_
      refine Zv.iconst hC d_M_broken_17 ic_1 ?_
      refine Zv.icmp_lt (tgt := 27) hC d_M_broken_18 (by decide) (fun h18 => ?_) (fun h18 => ?_)
      · try have g18 := q_l h18 (by omega) (by omega)
        refine Zv.iconst hC d_M_broken_27 ic_1 ?_
        refine Zv.iret hC rfl d_M_broken_28 (Nat.le_refl _) (Nat.le_refl _) ?_
        rw [one_of (e_one_unk (by rw [e0]; omega)) (by decide)] at hK
        exact hK
      · try have g18 := q_nl h18 (by omega) (by omega)
        refine Zv.iload_n hC d_M_broken_21 rfl ?_
        refine Zv.bipush hC d_M_broken_22 bp_11 ?_
        refine Zv.icmp_le (tgt := 29) hC d_M_broken_24 (by decide) (fun h24 => ?_) (fun h24 => ?_)
        · try have g24 := q_le h24 (by omega) (by omega)
          have hu : ¬ (e_at (c.drop s) 0 < 1 ∨ 11 < e_at (c.drop s) 0) := by rw [e0]; omega
          have hsv : e_sv c s := by unfold e_sv; omega
          refine Zv.aload_n hC d_M_broken_29 rfl ?_
          refine Zv.geti hC d_M_broken_30 fl_M_91 rfl rfl (by decide) hc.1 ?_
          refine Zv.iload_n hC d_M_broken_33 rfl ?_
          refine Zv.isubN hC d_M_broken_34 (by omega) ?_
          refine Zv.iconst hC d_M_broken_35 ic_1 ?_
          refine Zv.isubN hC d_M_broken_36 (by omega) ?_
          refine Zv.istore hC d_M_broken_37 (by decide) rfl ?_
          refine Zv.iload_n hC d_M_broken_39 rfl ?_
          refine Zv.iconst hC d_M_broken_40 ic_3 ?_
          refine Zv.icmp_eq (tgt := 50) hC d_M_broken_41 (by decide) (fun h41 => ?_) (fun h41 => ?_)
          · try have g41 := q_e h41 (by omega) (by omega)
            refine Zv.iconst hC d_M_broken_50 ic_1 ?_
            refine Zv.goto (tgt := 55) hC d_M_broken_51 (by decide) ?_
            refine Zv.istore hC d_M_broken_55 (by decide) rfl ?_
            exact lm_brk57 hC hP hc ih s L 1 hL hs hK hu hsv (by decide) ⟨fun _ => e_holds_iff.mpr (by omega), fun _ => by decide⟩
          · try have g41 := q_n h41
            refine Zv.iload_n hC d_M_broken_44 rfl ?_
            refine Zv.bipush hC d_M_broken_45 bp_8 ?_
            refine Zv.icmp_ne (tgt := 54) hC d_M_broken_47 (by decide) (fun h47 => ?_) (fun h47 => ?_)
            · try have g47 := q_n h47
              refine Zv.iconst hC d_M_broken_54 ic_0 ?_
              refine Zv.istore hC d_M_broken_55 (by decide) rfl ?_
              exact lm_brk57 hC hP hc ih s L 0 hL hs hK hu hsv (by decide) ⟨fun z => absurd rfl z, fun z => absurd (e_holds_iff.mp z) (by omega)⟩
            · try have g47 := q_e h47 (by omega) (by omega)
              refine Zv.iconst hC d_M_broken_50 ic_1 ?_
              refine Zv.goto (tgt := 55) hC d_M_broken_51 (by decide) ?_
              refine Zv.istore hC d_M_broken_55 (by decide) rfl ?_
              exact lm_brk57 hC hP hc ih s L 1 hL hs hK hu hsv (by decide) ⟨fun _ => e_holds_iff.mpr (by omega), fun _ => by decide⟩
        · try have g24 := q_nle h24 (by omega) (by omega)
          refine Zv.iconst hC d_M_broken_27 ic_1 ?_
          refine Zv.iret hC rfl d_M_broken_28 (Nat.le_refl _) (Nat.le_refl _) ?_
          rw [one_of (e_one_unk (by rw [e0]; omega)) (by decide)] at hK
          exact hK
set_option maxRecDepth 100000 in
set_option maxHeartbeats 4000000 in
theorem sm_broken {d : Nat} {c : List Nat} {I : Fm} {P : Fr} {K : Option Fs → Fm → Fr → Prop} (hP : x_ref P) (hc : m_w I c) (hpos : 0 < c.length) (hK : K (some (.inr (nI (e_brk 3 c)))) I P) : Fk (d + 2) m_M_broken 77 77 0 0 [rf 57] I P K := by
  refine Fk.intro (by decide +kernel) (Nat.le_of_ble_eq_true rfl) (fun G hC => ?_)
  refine Zv.iconst hC d_M_broken_0 ic_0 ?_
  refine Zv.istore_n hC d_M_broken_1 (by decide) rfl ?_
  refine Zv.iconst hC d_M_broken_2 ic_0 ?_
  refine Zv.istore_n hC d_M_broken_3 (by decide) rfl ?_
  exact lm_brk hC hP hc 4 0 0 rfl hpos (by rw [List.drop_zero, brk_okd 3 c (e_okd3 c)]; exact hK)
set_option maxRecDepth 100000 in
set_option maxHeartbeats 4000000 in
theorem lm_chk {G : Fx} {d x : Nat} {l : List Nat} {I : Fm} {P : Fr} {K : Option Fs → Fm → Fr → Prop} (hC : Fc G m_M_checked d 0 0) (hP : x_ref P) (hx : x < 256) (hl12 : l.length ≤ 12) (hbl : ∀ y ∈ l, y < 256) (hf : ∀ k, 1 ≤ k → k ≤ l.length → I 57 k = nI (e_at l (k - 1))) (hck : I 57 (l.length + 1) = nI x) (hK : ∀ r : Nat, r < 2 → (r ≠ 0 ↔ x = e_chk 255 l) → K (some (.inr (nI r))) I P) : ∀ (f k : Nat), k + f = l.length + 2 → 1 ≤ k ∧ k ≤ l.length + 1 → Zv G (f_R G K 77 0 0) 77 0 0 13 [(0, rf 57), (1, .inr (nI l.length)), (2, .inr (nI (e_chk 255 (l.take (k - 1))))), (3, .inr (nI k))] [] I P := by
  intro f
  induction f with
  | zero => intro k h1 h2; omega
  | succ f ih =>
    intro k hkf hk
    have hk1 := hk.1
    refine Zv.iload_n hC d_M_checked_13 rfl ?_
    refine Zv.iload_n hC d_M_checked_14 rfl ?_
    refine Zv.icmp_gt (tgt := 45) hC d_M_checked_15 (by decide) (fun h15 => ?_) (fun h15 => ?_)
    · try have g15 := q_l h15 (by omega) (by omega)
      have ek : k = l.length + 1 := by omega
      subst ek
      have hc1 := chk_lt (l.take (l.length + 1 - 1)) 255 (by decide) (fun x hx => hbl x (List.mem_of_mem_take hx))
      have et : l.take (l.length + 1 - 1) = l := by rw [Nat.add_sub_cancel]; exact List.take_length
      rw [et] at hc1 ⊢
      refine Zv.iload_n hC d_M_checked_45 rfl ?_
      refine Zv.aload_n hC d_M_checked_46 rfl ?_
      refine Zv.getr (q := 58) hC d_M_checked_47 fl_M_7 rfl rfl (by decide) (hP _ _ (by decide) (by decide)) ?_
      refine Zv.iload_n hC d_M_checked_50 rfl ?_
      refine Zv.iconst hC d_M_checked_51 ic_1 ?_
      first | refine Zv.iaddN hC d_M_checked_52 ?_ | refine Zv.iadd hC d_M_checked_52 ?_
      refine Zv.iald hC d_M_checked_53 rfl (by decide) rfl (by omega) (by first | decide | omega) hck ?_
      refine Zv.icmp_ne (tgt := 61) hC d_M_checked_54 (by decide) (fun h54 => ?_) (fun h54 => ?_)
      · try have g54 := q_n h54
        refine Zv.iconst hC d_M_checked_61 ic_0 ?_
        refine Zv.zret hC rfl d_M_checked_62 rfl (Nat.le_refl _) (Nat.le_refl _) ?_
        exact hK 0 (by decide) ⟨fun z => absurd rfl z, fun z => absurd z.symm g54⟩
      · try have g54 := q_e h54 (by omega) (by omega)
        refine Zv.iconst hC d_M_checked_57 ic_1 ?_
        refine Zv.goto (tgt := 62) hC d_M_checked_58 (by decide) ?_
        refine Zv.zret hC rfl d_M_checked_62 rfl (Nat.le_refl _) (Nat.le_refl _) ?_
        exact hK 1 (by decide) ⟨fun _ => g54.symm, fun _ => by decide⟩
    · try have g15 := q_nl h15 (by omega) (by omega)
      have hc1 := chk_lt (l.take (k - 1)) 255 (by decide) (fun x hx => hbl x (List.mem_of_mem_take hx))
      have hbk : e_at l (k - 1) < 256 := e_at_lt hbl _
      refine Zv.iload_n hC d_M_checked_18 rfl ?_
      refine Zv.iconst hC d_M_checked_19 ic_2 ?_
      first | refine Zv.imulN hC d_M_checked_20 ?_ | refine Zv.imul hC d_M_checked_20 ?_
      refine Zv.sipush hC d_M_checked_21 sp_256 ?_
      refine Zv.iremN hC d_M_checked_24 (by omega) (by omega) (by omega) ?_
      refine Zv.iload_n hC d_M_checked_25 rfl ?_
      refine Zv.sipush hC d_M_checked_26 sp_128 ?_
      refine Zv.idivN hC d_M_checked_29 (by omega) (by omega) (by omega) ?_
      first | refine Zv.iaddN hC d_M_checked_30 ?_ | refine Zv.iadd hC d_M_checked_30 ?_
      refine Zv.aload_n hC d_M_checked_31 rfl ?_
      refine Zv.getr (q := 58) hC d_M_checked_32 fl_M_7 rfl rfl (by decide) (hP _ _ (by decide) (by decide)) ?_
      refine Zv.iload_n hC d_M_checked_35 rfl ?_
      refine Zv.iald hC d_M_checked_36 rfl (by decide) rfl (by omega) (by first | decide | omega) (hf k hk1 (by omega)) ?_
      refine Zv.ixor hC d_M_checked_37 ?_
      refine Zv.top (q_xor _ _) ?_
      refine Zv.istore_n hC d_M_checked_38 (by decide) rfl ?_
      refine Zv.iinc hC d_M_checked_39 rfl (by decide) (q_inc _) rfl ?_
      refine Zv.goto (tgt := 13) hC d_M_checked_42 (by decide) ?_
      have e1 : e_chk 255 (l.take k) = (e_chk 255 (l.take (k - 1)) * 2 % 256 + e_chk 255 (l.take (k - 1)) / 128) ^^^ e_at l (k - 1) := by
        have : l.take k = l.take (k - 1) ++ [e_at l (k - 1)] := by
          have hk2 : k - 1 < l.length := by omega
          conv => lhs; rw [show k = k - 1 + 1 by omega]
          rw [List.take_succ, List.getElem?_eq_getElem hk2]
          simp [e_at, List.getD, List.getElem?_eq_getElem hk2]
        rw [this, chk_app]
      rw [← e1]
      refine ih (k + 1) (by omega) (by omega)
set_option maxRecDepth 100000 in
set_option maxHeartbeats 4000000 in
theorem sm_checked {d x : Nat} {l : List Nat} {I : Fm} {P : Fr} {K : Option Fs → Fm → Fr → Prop} (hP : x_ref P) (hx : x < 256) (hl12 : l.length ≤ 12) (hbl : ∀ y ∈ l, y < 256) (hN : I 57 0 = nI l.length) (hf : ∀ k, 1 ≤ k → k ≤ l.length → I 57 k = nI (e_at l (k - 1))) (hck : I 57 (l.length + 1) = nI x) (hK : ∀ r : Nat, r < 2 → (r ≠ 0 ↔ x = e_chk 255 l) → K (some (.inr (nI r))) I P) : Fk d m_M_checked 77 77 0 0 [rf 57] I P K := by
  refine Fk.intro (by decide +kernel) (Nat.le_of_ble_eq_true rfl) (fun G hC => ?_)
  refine Zv.aload_n hC d_M_checked_0 rfl ?_
  refine Zv.getr (q := 58) hC d_M_checked_1 fl_M_7 rfl rfl (by decide) (hP _ _ (by decide) (by decide)) ?_
  refine Zv.iconst hC d_M_checked_4 ic_0 ?_
  refine Zv.iald hC d_M_checked_5 rfl (by decide) rfl (by omega) (by first | decide | omega) hN ?_
  refine Zv.istore_n hC d_M_checked_6 (by decide) rfl ?_
  refine Zv.sipush hC d_M_checked_7 sp_255 ?_
  refine Zv.istore_n hC d_M_checked_10 (by decide) rfl ?_
  refine Zv.iconst hC d_M_checked_11 ic_1 ?_
  refine Zv.istore_n hC d_M_checked_12 (by decide) rfl ?_
  exact lm_chk hC hP hx hl12 hbl hf hck hK (l.length + 1) 1 (by omega) (by omega)
