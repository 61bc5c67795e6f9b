set_option maxRecDepth 100000 in
set_option maxHeartbeats 4000000 in
theorem lm_lkc {G : Fx} {d k m : Nat} {v : Int32} {c : List Nat} {I : Fm} {P : Fr} {K : Option Fs → Fm → Fr → Prop} (hC : Fc G m_M_look d 0 0) (hP : x_ref P) (hk : k < 4) (hl : c.length ≤ 11) (h3 : I 56 3 = nI c.length) (h64 : ∀ i, i < c.length → I 64 (12 * k + i) = nI (e_at c i)) (hgo : ∀ J : Fm, (∀ a, a ≠ 58 → J a = I a) → (∀ i, i < c.length → J 58 i = nI (e_at c i)) → Zv G (f_R G K 77 0 0) 77 0 0 153 [(0, rf 57)] [] J P) : ∀ (f i : Nat) (J : Fm), i + f = c.length + 1 → i ≤ c.length → (∀ a, a ≠ 58 → J a = I a) → (∀ j, j < i → J 58 j = nI (e_at c j)) → Zv G (f_R G K 77 0 0) 77 0 0 119 [(0, rf 57), (1, .inr (nI m)), (2, .inr v), (3, .inr (nI k)), (4, .inr (nI i))] [] J P := by
  intro f
  induction f with
  | zero => intro i J h1 h2; omega
  | succ f ih =>
    intro i J hif hin hJ1 hJ2
    refine Zv.iload hC d_M_look_119 rfl ?_
    refine Zv.aload_n hC d_M_look_121 rfl ?_
    refine Zv.geti hC d_M_look_122 fl_M_91 rfl rfl (by decide) ((congrFun (hJ1 56 (by decide)) 3).trans h3) ?_
    refine Zv.icmp_ge (tgt := 153) hC d_M_look_125 (by decide) (fun h125 => ?_) (fun h125 => ?_)
    · try have g125 := q_le h125 (by omega) (by omega)
      exact Zv.take 1 (hgo J hJ1 (fun j hj => hJ2 j (by omega)))
    · try have g125 := q_nle h125 (by omega) (by omega)
      refine Zv.aload_n hC d_M_look_128 rfl ?_
      refine Zv.getr (q := 59) hC d_M_look_129 fl_M_17 rfl rfl (by decide) (hP _ _ (by decide) (by decide)) ?_
      refine Zv.iload hC d_M_look_132 rfl ?_
      refine Zv.aload_n hC d_M_look_134 rfl ?_
      refine Zv.getr (q := 65) hC d_M_look_135 fl_M_36 rfl rfl (by decide) (hP _ _ (by decide) (by decide)) ?_
      refine Zv.bipush hC d_M_look_138 bp_12 ?_
      refine Zv.iload_n hC d_M_look_140 rfl ?_
      first | refine Zv.imulN hC d_M_look_141 ?_ | refine Zv.imul hC d_M_look_141 ?_
      refine Zv.iload hC d_M_look_142 rfl ?_
      first | refine Zv.iaddN hC d_M_look_144 ?_ | refine Zv.iadd hC d_M_look_144 ?_
      refine Zv.iald hC d_M_look_145 rfl (by decide) rfl (by omega) (by first | decide | omega) ((congrFun (hJ1 64 (by decide)) _).trans (h64 i g125)) ?_
      refine Zv.iast hC d_M_look_146 rfl (by decide) rfl (by omega) (by first | decide | omega) ?_
      refine Zv.iinc hC d_M_look_147 rfl (by decide) (q_inc _) rfl ?_
      refine Zv.goto (tgt := 119) hC d_M_look_150 (by decide) ?_
      refine ih (i + 1) _ (by omega) (by omega) (fun a h => by rw [f_u_ne h]; exact hJ1 a h) (fun j hj => ?_)
      by_cases e : j = i
      · subst e
        exact f_u_s
      · exact f_uc (by omega) (hJ2 j (by omega))
theorem MR_cnt {σ : Sg} {dl : List (Nat × List Nat)} {B : Nat} {I : Fm} (h : MR σ dl B I) {m : Nat} (v : Nat) : MR (w_wn σ (s_u (s_wn σ) m (s_u (s_wn σ m) 4 v))) dl B (f_u I 72 m (nI v)) := by
  refine (MR_wws (fn := s_u (s_wn σ) m (s_u (s_wn σ m) 4 v)) (fb := s_wb σ) h (fun m' hm' => ?_) (fun a ha => f_u_ne (by omega)) : MR (w_wb (w_wn σ (s_u (s_wn σ) m (s_u (s_wn σ m) 4 v))) (s_wb σ)) dl B (f_u I 72 m (nI v)))
  have := h.2.2.2.1 m' hm'
  by_cases e : m' = m
  · subst e
    rw [s_u_s]
    exact ⟨f_ur (by decide) this.1, f_ur (by decide) this.2.1, f_ur (by decide) this.2.2.1, f_ur (by decide) this.2.2.2.1, f_ur (by decide) this.2.2.2.2.1, f_ur (by decide) this.2.2.2.2.2.1, f_u_s⟩
  · rw [s_u_n e]
    exact ⟨f_ur (by decide) this.1, f_ur (by decide) this.2.1, f_ur (by decide) this.2.2.1, f_ur (by decide) this.2.2.2.1, f_ur (by decide) this.2.2.2.2.1, f_ur (by decide) this.2.2.2.2.2.1, f_uc e this.2.2.2.2.2.2⟩
theorem mfr_72 {I : Fm} {m : Nat} {v : Int32} : mfr I (f_u I 72 m v) := ⟨fun a ha => f_u_ne (by omega), f_ur (by decide) rfl⟩
theorem mfr_3 {I : Fm} {v : Int32} : mfr I (f_u I 56 3 v) := ⟨fun a ha => f_u_ne (by omega), f_uc (by decide) rfl⟩
theorem mfr_24 {I : Fm} {v : Int32} : mfr I (f_u I 56 24 v) := ⟨fun a ha => f_u_ne (by omega), f_uc (by decide) rfl⟩
theorem mfr_ad {I I' : Fm} (h1 : ∀ j, j ≠ 23 → j ≠ 27 → I' 56 j = I 56 j) (h2 : ∀ x, x ≠ 56 → x ≠ 76 → I' x = I x) : mfr I I' := ⟨fun a ha => h2 a (by omega) (by omega), h1 1 (by decide) (by decide)⟩
set_option maxRecDepth 100000 in
set_option maxHeartbeats 4000000 in
theorem lm_look {G : Fx} {d m : Nat} {σ : Sg} {B : Nat} {I : Fm} {P : Fr} {K : Option Fs → Fm → Fr → Prop} (hC : Fc G m_M_look (d + 4) 0 0) (hP : x_ref P) (h : MR σ [] B I) (hS : SI σ) (hB : B + 1 < 2 ^ 30) (hm : m < 4) (hon : ¬ s_wn σ m 0 = 0) (ha : ¬ (s_wb σ m 0 ≤ s_pa σ (s_wn σ m 1) ∧ s_pa σ (s_wn σ m 1) ≤ s_wb σ m 1)) (hK : ∀ I' : Fm, MR (e_look σ m) [] (B + 1) I' → mfr I I' → K none I' P) : Zv G (f_R G K 77 0 0) 77 0 0 40 [(0, rf 57), (1, .inr (nI m)), (2, .inr (s_pa σ (s_wn σ m 1)))] [] I P := by
  have hw := h.2.2.2.1 m hm
  have h7 := hS.2.2.2.2.2.2.1 m hm
  refine Zv.aload_n hC d_M_look_40 rfl ?_
  refine Zv.getr (q := 73) hC d_M_look_41 fl_M_60 rfl rfl (by decide) (hP _ _ (by decide) (by decide)) ?_
  refine Zv.iload_n hC d_M_look_44 rfl ?_
  refine Zv.iald hC d_M_look_45 rfl (by decide) rfl (by omega) (by first | decide | omega) hw.2.2.2.2.2.2 ?_
  refine Zv.aload_n hC d_M_look_46 rfl ?_
  refine Zv.getr (q := 71) hC d_M_look_47 fl_M_54 rfl rfl (by decide) (hP _ _ (by decide) (by decide)) ?_
  refine Zv.iload_n hC d_M_look_50 rfl ?_
  refine Zv.iald hC d_M_look_51 rfl (by decide) rfl (by omega) (by first | decide | omega) hw.2.2.2.2.1 ?_
  refine Zv.icmp_ne (tgt := 56) hC d_M_look_52 (by decide) (fun h52 => ?_) (fun h52 => ?_)
  · try have g52 := q_n h52
    have hlt : ¬ s_wn σ m 2 ≤ s_wn σ m 4 := by omega
    have hlt : ¬ s_wn σ m 2 ≤ s_wn σ m 4 := by omega
    have hM1 := MR_cnt h (m := m) (s_wn σ m 4 + 1)
    refine Zv.aload_n hC d_M_look_56 rfl ?_
    refine Zv.getr (q := 73) hC d_M_look_57 fl_M_60 rfl rfl (by decide) (hP _ _ (by decide) (by decide)) ?_
    refine Zv.iload_n hC d_M_look_60 rfl ?_
    refine Zv.dup2 hC d_M_look_61 ?_
    refine Zv.iald hC d_M_look_62 rfl (by decide) rfl (by omega) (by first | decide | omega) hw.2.2.2.2.2.2 ?_
    refine Zv.iconst hC d_M_look_63 ic_1 ?_
    first | refine Zv.iaddN hC d_M_look_64 ?_ | refine Zv.iadd hC d_M_look_64 ?_
    refine Zv.iast hC d_M_look_65 rfl (by decide) rfl (by omega) (by first | decide | omega) ?_
    refine Zv.aload_n hC d_M_look_66 rfl ?_
    refine Zv.getr (q := 73) hC d_M_look_67 fl_M_60 rfl rfl (by decide) (hP _ _ (by decide) (by decide)) ?_
    refine Zv.iload_n hC d_M_look_70 rfl ?_
    refine Zv.iald hC d_M_look_71 rfl (by decide) rfl (by omega) (by first | decide | omega) f_u_s ?_
    refine Zv.aload_n hC d_M_look_72 rfl ?_
    refine Zv.getr (q := 71) hC d_M_look_73 fl_M_54 rfl rfl (by decide) (hP _ _ (by decide) (by decide)) ?_
    refine Zv.iload_n hC d_M_look_76 rfl ?_
    refine Zv.iald hC d_M_look_77 rfl (by decide) rfl (by omega) (by first | decide | omega) (f_ur (by decide) hw.2.2.2.2.1) ?_
    refine Zv.icmp_ge (tgt := 82) hC d_M_look_78 (by decide) (fun h78 => ?_) (fun h78 => ?_)
    · try have g78 := q_le h78 (by omega) (by omega)
      have hel := el_ev (σ2 := (e_add (w_wn σ (s_u (s_wn σ) m (s_u (s_wn σ m) 4 (s_wn σ m 4 + 1)))) (nI 4) (nI (s_wn σ m 3)) (s_pa σ (s_wn σ m 1)))) hon ha hlt (by omega) rfl
      refine Zv.aload_n hC d_M_look_82 rfl ?_
      refine Zv.getr (q := 72) hC d_M_look_83 fl_M_57 rfl rfl (by decide) (hP _ _ (by decide) (by decide)) ?_
      refine Zv.iload_n hC d_M_look_86 rfl ?_
      refine Zv.iald hC d_M_look_87 rfl (by decide) rfl (by omega) (by first | decide | omega) (f_ur (by decide) hw.2.2.2.2.2.1) ?_
      refine Zv.istore_n hC d_M_look_88 (by decide) rfl ?_
      refine Zv.aload_n hC d_M_look_89 rfl ?_
      refine Zv.iconst hC d_M_look_90 ic_4 ?_
      refine Zv.iload_n hC d_M_look_91 rfl ?_
      refine Zv.iload_n hC d_M_look_92 rfl ?_
      refine Zv.callV3 hC d_M_look_93 ml_M_119 mk_M_add rfl (Nat.le_of_ble_eq_true rfl) rfl (by decide) ?_
      refine sm_add hP hM1 (fun I1 c1 c2 c3 => ?_)
      have hac := c1.2.2.2.2.2.1 _ h7.2.2.2.1
      have hS2 := SI_add (SI_cnt hS (m := m) (v := s_wn σ m 4 + 1) (by omega)) (nI 4) (nI (s_wn σ m 3)) (s_pa σ (s_wn σ m 1))
      refine Zv.aload_n hC d_M_look_96 rfl ?_
      refine Zv.getr (q := 66) hC d_M_look_97 fl_M_39 rfl rfl (by decide) (hP _ _ (by decide) (by decide)) ?_
      refine Zv.iload_n hC d_M_look_100 rfl ?_
      refine Zv.iald hC d_M_look_101 rfl (by decide) rfl (by omega) (by first | decide | omega) hac.1 ?_
      have hl11 := hac.2.1
      refine Zv.if_ne (tgt := 106) hC d_M_look_102 (by decide) (fun h102 => ?_) (fun h102 => ?_)
      · try have g102 := q_n0 h102
        have hne : ¬ s_ac (e_add (w_wn σ (s_u (s_wn σ) m (s_u (s_wn σ m) 4 (s_wn σ m 4 + 1)))) (nI 4) (nI (s_wn σ m 3)) (s_pa σ (s_wn σ m 1))) (s_wn σ m 3) = [] := fun z => g102 (by rw [z]; rfl)
        have hva := (hS2.2.2.2.2.2.1 _ h7.2.2.2.1).resolve_left hne
        refine Zv.aload_n hC d_M_look_106 rfl ?_
        refine Zv.aload_n hC d_M_look_107 rfl ?_
        refine Zv.getr (q := 66) hC d_M_look_108 fl_M_39 rfl rfl (by decide) (hP _ _ (by decide) (by decide)) ?_
        refine Zv.iload_n hC d_M_look_111 rfl ?_
        refine Zv.iald hC d_M_look_112 rfl (by decide) rfl (by omega) (by first | decide | omega) hac.1 ?_
        refine Zv.puti hC d_M_look_113 fl_M_91 rfl ck_7 rfl rfl rfl rfl (by decide) ?_
        refine Zv.iconst hC d_M_look_116 ic_0 ?_
        refine Zv.istore hC d_M_look_117 (by decide) rfl ?_
        refine lm_lkc (c := s_ac (e_add (w_wn σ (s_u (s_wn σ) m (s_u (s_wn σ m) 4 (s_wn σ m 4 + 1)))) (nI 4) (nI (s_wn σ m 3)) (s_pa σ (s_wn σ m 1))) (s_wn σ m 3)) hC hP h7.2.2.2.1 hac.2.1 f_u_s (fun i hi => f_ur (by decide) (hac.2.2.1 i hi)) (fun J1 b1 b2 => ?_) ((s_ac (e_add (w_wn σ (s_u (s_wn σ) m (s_u (s_wn σ m) 4 (s_wn σ m 4 + 1)))) (nI 4) (nI (s_wn σ m 3)) (s_pa σ (s_wn σ m 1))) (s_wn σ m 3)).length + 1) 0 _ (by omega) (Nat.zero_le _) (fun _ _ => rfl) (fun j hj => absurd hj (Nat.not_lt_zero j))
        have hM2 : MR (e_add (w_wn σ (s_u (s_wn σ) m (s_u (s_wn σ m) 4 (s_wn σ m 4 + 1)))) (nI 4) (nI (s_wn σ m 3)) (s_pa σ (s_wn σ m 1))) [] B J1 := MR_kept c1 (fun j h1 h3 => by rw [b1 56 (by decide)]; exact f_uc h3 rfl) (fun a ha => by rw [b1 a (by omega), f_u_ne (by omega)])
        have hw1 : m_w J1 (s_ac (e_add (w_wn σ (s_u (s_wn σ) m (s_u (s_wn σ m) 4 (s_wn σ m 4 + 1)))) (nI 4) (nI (s_wn σ m 3)) (s_pa σ (s_wn σ m 1))) (s_wn σ m 3)) := ⟨by rw [b1 56 (by decide)]; exact f_u_s, hac.2.1, b2, hac.2.2.2⟩
        have hfr1 : mfr I1 J1 := ⟨fun a ha => by rw [b1 a (by omega), f_u_ne (by omega)], by rw [b1 56 (by decide)]; exact f_uc (by decide) rfl⟩
        refine Zv.aload_n hC d_M_look_153 rfl ?_
        refine Zv.sipush hC d_M_look_154 sp_257 ?_
        refine Zv.callV1 hC d_M_look_157 ml_M_161 mk_M_carry rfl (Nat.le_of_ble_eq_true rfl) rfl (by decide) ?_
        refine sm_carry (num := 257) hP hM2 hS2 (by omega) hw1 hva.1 (fun z => absurd z hva.2.1) (fun J2 q1 q2 => ?_)
        refine Zv.if_ne (tgt := 168) hC d_M_look_160 (by decide) (fun h160 => ?_) (fun h160 => ?_)
        · skip
          refine Zv.vret hC rfl d_M_look_168 (Nat.le_refl _) (Nat.le_refl _) ?_
          rw [if_neg hne] at hel
          exact hK _ (by rw [hel]; exact q1) (mfr_tr mfr_72 (mfr_tr (mfr_ad c2 c3) (mfr_tr hfr1 q2)))
        · skip
          refine Zv.aload_n hC d_M_look_163 rfl ?_
          refine Zv.iconst hC d_M_look_164 ic_0 ?_
          refine Zv.puti hC d_M_look_165 fl_M_91 rfl ck_7 rfl rfl rfl rfl (by decide) ?_
          refine Zv.vret hC rfl d_M_look_168 (Nat.le_refl _) (Nat.le_refl _) ?_
          rw [if_neg hne] at hel
          exact hK _ (by rw [hel]; exact MR_kept q1 (fun j h1 h3 => f_uc h3 rfl) (fun a ha => f_u_ne (by omega))) (mfr_tr mfr_72 (mfr_tr (mfr_ad c2 c3) (mfr_tr hfr1 (mfr_tr q2 mfr_3))))
      · try have g102 := q_e0 h102 (by omega)
        have hnil : s_ac (e_add (w_wn σ (s_u (s_wn σ) m (s_u (s_wn σ m) 4 (s_wn σ m 4 + 1)))) (nI 4) (nI (s_wn σ m 3)) (s_pa σ (s_wn σ m 1))) (s_wn σ m 3) = [] := List.eq_nil_of_length_eq_zero g102
        refine Zv.vret hC rfl d_M_look_105 (Nat.le_refl _) (Nat.le_refl _) ?_
        rw [if_pos hnil] at hel
        exact hK _ (by rw [hel]; exact MR_le c1 (Nat.le_succ _)) (mfr_tr mfr_72 (mfr_ad c2 c3))
    · try have g78 := q_nle h78 (by omega) (by omega)
      refine Zv.vret hC rfl d_M_look_81 (Nat.le_refl _) (Nat.le_refl _) ?_
      rw [el_cnt hon ha hlt g78] at hK
      exact hK _ (MR_le hM1 (Nat.le_succ _)) mfr_72
  · try have g52 := q_e h52 (by omega) (by omega)
    refine Zv.vret hC rfl d_M_look_55 (Nat.le_refl _) (Nat.le_refl _) ?_
    rw [el_sat hon ha (by omega)] at hK
    exact hK I (MR_le h (Nat.le_succ _)) (mfr_rf I)
set_option maxRecDepth 100000 in
set_option maxHeartbeats 4000000 in
theorem sm_look {d m : Nat} {σ : Sg} {B : Nat} {I : Fm} {P : Fr} {K : Option Fs → Fm → Fr → Prop} (hP : x_ref P) (h : MR σ [] B I) (hS : SI σ) (hB : B + 1 < 2 ^ 30) (hm : m < 4) (hon : ¬ s_wn σ m 0 = 0) (hK : ∀ I' : Fm, MR (e_look σ m) [] (B + 1) I' → mfr I I' → K none I' P) : Fk (d + 4) m_M_look 77 77 0 0 [rf 57, .inr (nI m)] I P K := by
  have hw := h.2.2.2.1 m hm
  have h7 := hS.2.2.2.2.2.2.1 m hm
  refine Fk.intro (by decide +kernel) (Nat.le_of_ble_eq_true rfl) (fun G hC => ?_)
  refine Zv.aload_n hC d_M_look_0 rfl ?_
  refine Zv.getr (q := 76) hC d_M_look_1 fl_M_69 rfl rfl (by decide) (hP _ _ (by decide) (by decide)) ?_
  refine Zv.aload_n hC d_M_look_4 rfl ?_
  refine Zv.getr (q := 68) hC d_M_look_5 fl_M_45 rfl rfl (by decide) (hP _ _ (by decide) (by decide)) ?_
  refine Zv.iload_n hC d_M_look_8 rfl ?_
  refine Zv.iald hC d_M_look_9 rfl (by decide) rfl (by omega) (by first | decide | omega) hw.2.1 ?_
  refine Zv.iald hC d_M_look_10 rfl (by decide) rfl (by omega) (by first | decide | omega) (h.2.2.1 _ h7.2.1) ?_
  refine Zv.istore_n hC d_M_look_11 (by decide) rfl ?_
  refine Zv.iload_n hC d_M_look_12 rfl ?_
  refine Zv.aload_n hC d_M_look_13 rfl ?_
  refine Zv.getr (q := 69) hC d_M_look_14 fl_M_48 rfl rfl (by decide) (hP _ _ (by decide) (by decide)) ?_
  refine Zv.iload_n hC d_M_look_17 rfl ?_
  refine Zv.iald hC d_M_look_18 rfl (by decide) rfl (by omega) (by first | decide | omega) hw.2.2.1 ?_
  refine Zv.icmp_lt (tgt := 40) hC d_M_look_19 (by decide) (fun h19 => ?_) (fun h19 => ?_)
  · skip
    exact lm_look hC hP h hS hB hm hon (fun z => Int32.not_le.mpr h19 z.1) hK
  · skip
    refine Zv.iload_n hC d_M_look_22 rfl ?_
    refine Zv.aload_n hC d_M_look_23 rfl ?_
    refine Zv.getr (q := 70) hC d_M_look_24 fl_M_51 rfl rfl (by decide) (hP _ _ (by decide) (by decide)) ?_
    refine Zv.iload_n hC d_M_look_27 rfl ?_
    refine Zv.iald hC d_M_look_28 rfl (by decide) rfl (by omega) (by first | decide | omega) hw.2.2.2.1 ?_
    refine Zv.icmp_gt (tgt := 40) hC d_M_look_29 (by decide) (fun h29 => ?_) (fun h29 => ?_)
    · skip
      exact lm_look hC hP h hS hB hm hon (fun z => Int32.not_le.mpr h29 z.2) hK
    · skip
      refine Zv.aload_n hC d_M_look_32 rfl ?_
      refine Zv.getr (q := 73) hC d_M_look_33 fl_M_60 rfl rfl (by decide) (hP _ _ (by decide) (by decide)) ?_
      refine Zv.iload_n hC d_M_look_36 rfl ?_
      refine Zv.iconst hC d_M_look_37 ic_0 ?_
      refine Zv.iast hC d_M_look_38 rfl (by decide) rfl (by omega) (by first | decide | omega) ?_
      refine Zv.vret hC rfl d_M_look_39 (Nat.le_refl _) (Nat.le_refl _) ?_
      rw [el_in hon ⟨Int32.not_lt.mp h19, Int32.not_lt.mp h29⟩] at hK
      exact hK _ (MR_le (MR_cnt h 0) (Nat.le_succ _)) mfr_72
set_option maxRecDepth 100000 in
set_option maxHeartbeats 4000000 in
theorem lm_sum {G : Fx} {d m s : Nat} {pa : Nat → Int32} {I : Fm} {P : Fr} {K : Option Fs → Fm → Fr → Prop} (hC : Fc G m_M_tick d 0 0) (hP : x_ref P) (hs : s < 2) (hm : m < 256) (h74 : I 74 s = nI m) (hp : ∀ p, p < 8 → I 75 p = pa p) (hgo : Zv G (f_R G K 77 0 0) 77 0 0 132 [(0, rf 57), (1, .inr (nI s)), (2, .inr (e_sum pa m 8))] [] I P) : ∀ (f i : Nat), i + f = 9 ∧ i ≤ 8 → Zv G (f_R G K 77 0 0) 77 0 0 98 [(0, rf 57), (1, .inr (nI s)), (2, .inr (e_sum pa m i)), (3, .inr (nI i))] [] I P := by
  intro f
  induction f with
  | zero => intro i h; omega
  | succ f ih =>
    intro i hi
    refine Zv.iload_n hC d_M_tick_98 rfl ?_
    refine Zv.bipush hC d_M_tick_99 bp_8 ?_
    refine Zv.icmp_ge (tgt := 132) hC d_M_tick_101 (by decide) (fun h101 => ?_) (fun h101 => ?_)
    · try have g101 := q_le h101 (by omega) (by omega)
      have ei : i = 8 := by omega
      subst ei
      exact Zv.take 3 hgo
    · try have g101 := q_nle h101 (by omega) (by omega)
      refine Zv.aload_n hC d_M_tick_104 rfl ?_
      refine Zv.getr (q := 75) hC d_M_tick_105 fl_M_66 rfl rfl (by decide) (hP _ _ (by decide) (by decide)) ?_
      refine Zv.iload_n hC d_M_tick_108 rfl ?_
      refine Zv.iald hC d_M_tick_109 rfl (by decide) rfl (by omega) (by first | decide | omega) h74 ?_
      refine Zv.iload_n hC d_M_tick_110 rfl ?_
      refine Zv.ishr hC d_M_tick_111 ?_
      refine Zv.iconst hC d_M_tick_112 ic_1 ?_
      refine Zv.iand hC d_M_tick_113 ?_
      refine Zv.top (q_bit hm g101) ?_
      have hb2 : m / 2 ^ i % 2 < 2 := Nat.mod_lt _ (by decide)
      refine Zv.if_eq (tgt := 126) hC d_M_tick_114 (by decide) (fun h114 => ?_) (fun h114 => ?_)
      · try have g114 := q_e0 h114 (by omega)
        refine Zv.iinc hC d_M_tick_126 rfl (by decide) (q_inc _) rfl ?_
        refine Zv.goto (tgt := 98) hC d_M_tick_129 (by decide) ?_
        have := ih (i + 1) (by omega)
        rw [e_sum, if_neg (fun z => absurd (q_tb.mpr z) (by omega)), Int32.add_zero] at this
        exact this
      · try have g114 := q_n0 h114
        refine Zv.iload_n hC d_M_tick_117 rfl ?_
        refine Zv.aload_n hC d_M_tick_118 rfl ?_
        refine Zv.getr (q := 76) hC d_M_tick_119 fl_M_69 rfl rfl (by decide) (hP _ _ (by decide) (by decide)) ?_
        refine Zv.iload_n hC d_M_tick_122 rfl ?_
        refine Zv.iald hC d_M_tick_123 rfl (by decide) rfl (by omega) (by first | decide | omega) (hp i g101) ?_
        refine Zv.iadd hC d_M_tick_124 ?_
        refine Zv.istore_n hC d_M_tick_125 (by decide) rfl ?_
        refine Zv.iinc hC d_M_tick_126 rfl (by decide) (q_inc _) rfl ?_
        refine Zv.goto (tgt := 98) hC d_M_tick_129 (by decide) ?_
        have := ih (i + 1) (by omega)
        rw [e_sum, if_pos (q_tb.mp (by omega))] at this
        exact this
set_option maxRecDepth 100000 in
set_option maxHeartbeats 4000000 in
theorem lm_tick2 {G : Fx} {d : Nat} {τ : Sg} {B : Nat} {I : Fm} {P : Fr} {K : Option Fs → Fm → Fr → Prop} (hC : Fc G m_M_tick (d + 5) 0 0) (hP : x_ref P) (hK : ∀ I' : Fm, MR (e_hs 2 τ) [] B I' → mfr I I' → K (some (.inr (nI (s_g τ 0)))) I' P) : ∀ (f s : Nat) (J : Fm), s + f = 2 → MR (e_hs s τ) [] B J → SI (e_hs s τ) → mfr I J → Zv G (f_R G K 77 0 0) 77 0 0 63 [(0, rf 57), (1, .inr (nI s))] [] J P := by
  intro f
  induction f with
  | zero =>
    intro s J hs h hS hfr
    have es : s = 2 := by omega
    subst es
    refine Zv.iload_n hC d_M_tick_63 rfl ?_
    refine Zv.iconst hC d_M_tick_64 ic_2 ?_
    refine Zv.icmp_ge (tgt := 145) hC d_M_tick_65 (by decide) (fun _ => ?_) (fun h => absurd (nI_le (Nat.le_refl _) (by decide)) h)
    refine Zv.aload_n hC d_M_tick_145 rfl ?_
    refine Zv.geti hC d_M_tick_146 fl_M_84 rfl rfl (by decide) (h.1.1.trans (by rw [hs_g0])) ?_
    refine Zv.iret hC rfl d_M_tick_149 (Nat.le_refl _) (Nat.le_refl _) ?_
    exact hK J h hfr
  | succ f ih =>
    intro s J hs h hS hfr
    refine Zv.iload_n hC d_M_tick_63 rfl ?_
    refine Zv.iconst hC d_M_tick_64 ic_2 ?_
    refine Zv.icmp_ge (tgt := 145) hC d_M_tick_65 (by decide) (fun h65 => ?_) (fun h65 => ?_)
    · try have g65 := q_le h65 (by omega) (by omega)
      exact absurd g65 (by omega)
    · try have g65 := q_nle h65 (by omega) (by omega)
      have hl := h.2.2.2.2.1 s g65
      have hho := hS.2.2.2.2.2.2.2 s g65
      have hck := hS.1
      refine Zv.aload_n hC d_M_tick_68 rfl ?_
      refine Zv.getr (q := 74) hC d_M_tick_69 fl_M_63 rfl rfl (by decide) (hP _ _ (by decide) (by decide)) ?_
      refine Zv.iload_n hC d_M_tick_72 rfl ?_
      refine Zv.iald hC d_M_tick_73 rfl (by decide) rfl (by omega) (by first | decide | omega) hl.1 ?_
      refine Zv.if_eq (tgt := 139) hC d_M_tick_74 (by decide) (fun h74 => ?_) (fun h74 => ?_)
      · try have g74 := q_e0 h74 (by omega)
        refine Zv.iinc hC d_M_tick_139 rfl (by decide) (q_inc _) rfl ?_
        refine Zv.goto (tgt := 63) hC d_M_tick_142 (by decide) ?_
        refine Zv.take 2 ?_
        have eh : e_hs (s + 1) τ = e_hs s τ := if_pos (Or.inl g74)
        exact ih (s + 1) J (by omega) (by rw [eh]; exact h) (by rw [eh]; exact hS) hfr
      · try have g74 := q_n0 h74
        refine Zv.aload_n hC d_M_tick_77 rfl ?_
        refine Zv.geti hC d_M_tick_78 fl_M_84 rfl rfl (by decide) h.1.1 ?_
        refine Zv.aload_n hC d_M_tick_81 rfl ?_
        refine Zv.getr (q := 74) hC d_M_tick_82 fl_M_63 rfl rfl (by decide) (hP _ _ (by decide) (by decide)) ?_
        refine Zv.iload_n hC d_M_tick_85 rfl ?_
        refine Zv.iald hC d_M_tick_86 rfl (by decide) rfl (by omega) (by first | decide | omega) hl.1 ?_
        refine Zv.iremN hC d_M_tick_87 (by omega) (by omega) (by omega) ?_
        have hmr : s_g (e_hs s τ) 0 % s_ho (e_hs s τ) s 0 < 256 := by have := Nat.mod_lt (s_g (e_hs s τ) 0) (show 0 < s_ho (e_hs s τ) s 0 by omega); omega
        refine Zv.if_eq (tgt := 94) hC d_M_tick_88 (by decide) (fun h88 => ?_) (fun h88 => ?_)
        · try have g88 := q_e0 h88 (by omega)
          refine Zv.iconst hC d_M_tick_94 ic_0 ?_
          refine Zv.istore_n hC d_M_tick_95 (by decide) rfl ?_
          refine Zv.iconst hC d_M_tick_96 ic_0 ?_
          refine Zv.istore_n hC d_M_tick_97 (by decide) rfl ?_
          refine lm_sum hC hP g65 hho.2 hl.2 h.2.2.1 ?_ 9 0 (by omega)
          refine Zv.aload_n hC d_M_tick_132 rfl ?_
          refine Zv.iconst hC d_M_tick_133 ic_5 ?_
          refine Zv.iload_n hC d_M_tick_134 rfl ?_
          refine Zv.iload_n hC d_M_tick_135 rfl ?_
          refine Zv.callV3 hC d_M_tick_136 ml_M_119 mk_M_add rfl (Nat.le_of_ble_eq_true rfl) rfl (by decide) ?_
          refine sm_add hP h (fun I1 c1 c2 c3 => ?_)
          refine Zv.iinc hC d_M_tick_139 rfl (by decide) (q_inc _) rfl ?_
          refine Zv.goto (tgt := 63) hC d_M_tick_142 (by decide) ?_
          refine Zv.take 2 ?_
          have eh : e_hs (s + 1) τ = e_add (e_hs s τ) 5 (nI s) (e_sum (s_pa (e_hs s τ)) (s_ho (e_hs s τ) s 1) 8) := if_neg (fun z => z.elim g74 (fun q => q g88))
          exact ih (s + 1) I1 (by omega) (by rw [eh]; exact c1) (by rw [eh]; exact SI_add hS _ _ _) (mfr_tr hfr (mfr_ad c2 c3))
        · try have g88 := q_n0 h88
          refine Zv.goto (tgt := 139) hC d_M_tick_91 (by decide) ?_
          refine Zv.iinc hC d_M_tick_139 rfl (by decide) (q_inc _) rfl ?_
          refine Zv.goto (tgt := 63) hC d_M_tick_142 (by decide) ?_
          refine Zv.take 2 ?_
          have eh : e_hs (s + 1) τ = e_hs s τ := if_pos (Or.inr g88)
          exact ih (s + 1) J (by omega) (by rw [eh]; exact h) (by rw [eh]; exact hS) hfr
set_option maxRecDepth 100000 in
set_option maxHeartbeats 4000000 in
theorem lm_tick1 {G : Fx} {d : Nat} {τ : Sg} {B0 : Nat} {I : Fm} {P : Fr} {K : Option Fs → Fm → Fr → Prop} (hC : Fc G m_M_tick (d + 5) 0 0) (hP : x_ref P) (hB0 : B0 < 2 ^ 30) (hK : ∀ I' : Fm, MR (e_hs 2 (e_lk 4 τ)) [] B0 I' → mfr I I' → K (some (.inr (nI (s_g τ 0)))) I' P) : ∀ (f m B : Nat) (J : Fm), m + f = 4 → B + f = B0 → MR (e_lk m τ) [] B J → SI (e_lk m τ) → mfr I J → Zv G (f_R G K 77 0 0) 77 0 0 36 [(0, rf 57), (1, .inr (nI m))] [] J P := by
  intro f
  induction f with
  | zero =>
    intro m B J hm hB h hS hfr
    have em : m = 4 := by omega
    subst em
    have eB : B = B0 := by omega
    subst eB
    refine Zv.iload_n hC d_M_tick_36 rfl ?_
    refine Zv.iconst hC d_M_tick_37 ic_4 ?_
    refine Zv.icmp_ge (tgt := 61) hC d_M_tick_38 (by decide) (fun _ => ?_) (fun h => absurd (nI_le (Nat.le_refl _) (by decide)) h)
    refine Zv.iconst hC d_M_tick_61 ic_0 ?_
    refine Zv.istore_n hC d_M_tick_62 (by decide) rfl ?_
    exact lm_tick2 (τ := e_lk 4 τ) hC hP (by rw [lk_g0]; exact hK) 2 0 J rfl h hS hfr
  | succ f ih =>
    intro m B J hm hB h hS hfr
    refine Zv.iload_n hC d_M_tick_36 rfl ?_
    refine Zv.iconst hC d_M_tick_37 ic_4 ?_
    refine Zv.icmp_ge (tgt := 61) hC d_M_tick_38 (by decide) (fun h38 => ?_) (fun h38 => ?_)
    · try have g38 := q_le h38 (by omega) (by omega)
      exact absurd g38 (by omega)
    · try have g38 := q_nle h38 (by omega) (by omega)
      have h7 := hS.2.2.2.2.2.2.1 m g38
      refine Zv.aload_n hC d_M_tick_41 rfl ?_
      refine Zv.getr (q := 67) hC d_M_tick_42 fl_M_42 rfl rfl (by decide) (hP _ _ (by decide) (by decide)) ?_
      refine Zv.iload_n hC d_M_tick_45 rfl ?_
      refine Zv.zald hC d_M_tick_46 rfl (by decide) rfl (by omega) (by first | decide | omega) (h.2.2.2.1 m g38).1 ?_
      refine Zv.if_eq (tgt := 55) hC d_M_tick_47 (by decide) (fun h47 => ?_) (fun h47 => ?_)
      · try have g47 := q_e0 h47 (by omega)
        refine Zv.iinc hC d_M_tick_55 rfl (by decide) (q_inc _) rfl ?_
        refine Zv.goto (tgt := 36) hC d_M_tick_58 (by decide) ?_
        have eh : e_lk (m + 1) τ = e_lk m τ := el_off g47
        exact ih (m + 1) (B + 1) J (by omega) (by omega) (by rw [eh]; exact MR_le h (Nat.le_succ _)) (by rw [eh]; exact hS) hfr
      · try have g47 := q_n0 h47
        refine Zv.aload_n hC d_M_tick_50 rfl ?_
        refine Zv.iload_n hC d_M_tick_51 rfl ?_
        refine Zv.callV1 hC d_M_tick_52 ml_M_176 mk_M_look rfl (Nat.le_of_ble_eq_true rfl) rfl (by decide) ?_
        refine sm_look hP h hS (by omega) g38 g47 (fun J2 q1 q2 => ?_)
        refine Zv.iinc hC d_M_tick_55 rfl (by decide) (q_inc _) rfl ?_
        refine Zv.goto (tgt := 36) hC d_M_tick_58 (by decide) ?_
        exact ih (m + 1) (B + 1) J2 (by omega) (by omega) q1 (SI_look hS (fun e he => (h.2.2.2.2.2.1 e he).2.2.2) g38) (mfr_tr hfr q2)
theorem MR_plb {σ : Sg} {dl : List (Nat × List Nat)} {B : Nat} {I : Fm} (h : MR σ dl B I) : ∀ e ∈ s_pl σ, ∀ x ∈ e.2, x < 256 := by
  obtain ⟨tm, od, cd, L, D, ca, hp, hcaB, hpl, hdl⟩ := h.2.2.2.2.2.2
  intro e he
  rw [hpl] at he
  obtain ⟨k, hk, rfl⟩ := List.mem_map.mp he
  have h6 := (sl_L hp).2.1 k hk
  exact (sl_cd hp h6 ((sl_inL hp h6).mpr hk).1).2.2.2
theorem SI_carries : ∀ (l : List (Nat × List Nat)) (σ : Sg), SI σ → (∀ e ∈ l, va2 e.2 ∧ ∀ x ∈ e.2, x < 256) → SI (e_carries σ l)
  | [], σ, h, _ => h
  | e :: l, σ, h, hl => by
    rw [e_carries]
    exact SI_carries l _ (SI_carry h (va23 (hl e List.mem_cons_self).1) (hl e List.mem_cons_self).2) (fun x hx => hl x (List.mem_cons_of_mem _ hx))
theorem SI_due {σ : Sg} (hS : SI σ) (hb : ∀ e ∈ s_pl σ, ∀ x ∈ e.2, x < 256) : SI (e_due σ) := by
  unfold e_due
  split
  · exact hS
  · refine SI_carries _ _ ⟨hS.1, hS.2.1, hS.2.2.1, List.Pairwise.sublist (List.dropWhile_sublist _) hS.2.2.2.1, fun e he => hS.2.2.2.2.1 e ((List.dropWhile_sublist _).subset he), hS.2.2.2.2.2⟩ (fun e he => ?_)
    have := (List.takeWhile_sublist _).subset he
    exact ⟨(hS.2.2.2.2.1 e this).1, hb e this⟩
set_option maxRecDepth 100000 in
set_option maxHeartbeats 4000000 in
theorem sm_tick {d : Nat} {σ : Sg} {B : Nat} {I : Fm} {P : Fr} {K : Option Fs → Fm → Fr → Prop} (hP : x_ref P) (h : MR σ [] B I) (hS : SI σ) (hB : B + 16 < 2 ^ 30) (hK : s_g σ 0 < 60000 → ∀ I' : Fm, MR (e_tick σ) [] (B + 10) I' → mfr I I' → K (some (.inr (nI (s_g σ 0 + 1)))) I' P) (hK0 : 60000 ≤ s_g σ 0 → K (some (.inr (-1000))) I P) : Fk (d + 5) m_M_tick 77 77 0 0 [rf 57] I P K := by
  have hck0 := hS.1
  have hr20 := hS.2.2.1
  refine Fk.intro (by decide +kernel) (Nat.le_of_ble_eq_true rfl) (fun G hC => ?_)
  refine Zv.aload_n hC d_M_tick_0 rfl ?_
  refine Zv.geti hC d_M_tick_1 fl_M_84 rfl rfl (by decide) h.1.1 ?_
  refine Zv.ldc hC d_M_tick_4 co_M_172 ?_
  refine Zv.icmp_ne (tgt := 13) hC d_M_tick_6 (by decide) (fun h6 => ?_) (fun h6 => ?_)
  · try have g6 := q_n h6
    have hlt : s_g σ 0 < 60000 := by omega
    have h1 := MR_g0 (v := s_g σ 0 + 1) h
    have hS1 : SI (w_g σ 0 (s_g σ 0 + 1)) := ⟨hlt, hS.2⟩
    have hK := hK hlt
    rw [e_tick_eq] at hK
    refine Zv.aload_n hC d_M_tick_13 rfl ?_
    refine Zv.dup hC d_M_tick_14 ?_
    refine Zv.geti hC d_M_tick_15 fl_M_84 rfl rfl (by decide) h.1.1 ?_
    refine Zv.iconst hC d_M_tick_18 ic_1 ?_
    first | refine Zv.iaddN hC d_M_tick_19 ?_ | refine Zv.iadd hC d_M_tick_19 ?_
    refine Zv.puti hC d_M_tick_20 fl_M_84 rfl ck_7 rfl rfl rfl rfl (by decide) ?_
    refine Zv.aload_n hC d_M_tick_23 rfl ?_
    refine Zv.geti hC d_M_tick_24 fl_M_116 rfl rfl (by decide) (f_uc (by decide) h.1.2.2.1) ?_
    refine Zv.if_ne (tgt := 34) hC d_M_tick_27 (by decide) (fun h27 => ?_) (fun h27 => ?_)
    · try have g27 := q_n0 h27
      have ed : e_due (w_g σ 0 (s_g σ 0 + 1)) = w_g σ 0 (s_g σ 0 + 1) := if_pos (show s_g σ 2 = 0 by omega)
      rw [ed] at hK
      refine Zv.iconst hC d_M_tick_34 ic_0 ?_
      refine Zv.istore_n hC d_M_tick_35 (by decide) rfl ?_
      exact lm_tick1 (τ := w_g σ 0 (s_g σ 0 + 1)) hC hP (by omega) hK 4 0 (B + 6) _ rfl rfl (MR_le h1 (by omega)) hS1 mfr_24
    · try have g27 := q_e0 h27 (by omega)
      refine Zv.aload_n hC d_M_tick_30 rfl ?_
      refine Zv.callV0 hC d_M_tick_31 ml_M_173 mk_M_runPlan rfl (Nat.le_of_ble_eq_true rfl) rfl (by decide) ?_
      refine sm_runPlan hP h1 hS1 (by omega) (fun J2 q1 q3 => ?_)
      have ed : e_due (w_g σ 0 (s_g σ 0 + 1)) = _ := if_neg (show ¬ s_g σ 2 = 0 by omega)
      have eg := due_g0 (w_g σ 0 (s_g σ 0 + 1))
      have hSd := SI_due hS1 (fun e he => MR_plb h1 e he)
      rw [ed] at hK eg hSd
      refine Zv.iconst hC d_M_tick_34 ic_0 ?_
      refine Zv.istore_n hC d_M_tick_35 (by decide) rfl ?_
      exact lm_tick1 hC hP (by omega) (by rw [eg]; exact hK) 4 0 (B + 6) J2 rfl rfl q1 hSd (mfr_tr mfr_24 q3)
  · try have g6 := q_e h6 (by omega) (by omega)
    refine Zv.sipush hC d_M_tick_9 sp_m1000 ?_
    refine Zv.iret hC rfl d_M_tick_12 (Nat.le_refl _) (Nat.le_refl _) ?_
    exact hK0 (by omega)
