set_option maxRecDepth 100000 in
set_option maxHeartbeats 4000000 in
theorem sp_sEmpty {d o lost : Nat} {sr : List Q4} {I : Fm} {P : Fr} {K : Option Fs → Fm → Fr → Prop} (h : x_so I o sr lost) (hK : K (some (.inr (if sr = [] then nI 1 else nI 0))) I P) : Fk d m_St_isEmpty 77 77 0 0 [rf 34] I P K := by
  have hl := h.2.2.2.2.1
  refine Fk.intro (by decide +kernel) (Nat.le_of_ble_eq_true rfl) (fun G hC => ?_)
  refine Zv.aload_n hC d_St_isEmpty_0 rfl ?_
  refine Zv.geti hC d_St_isEmpty_1 fl_St_22 rfl rfl (by decide) h.2.2.1 ?_
  refine Zv.if_ne (tgt := 11) hC d_St_isEmpty_4 (by decide) (fun h4 => ?_) (fun h4 => ?_)
  · try have g4 := q_n0 h4
    rw [if_neg (fun z => g4 (by rw [z]; rfl))] at hK
    refine Zv.iconst hC d_St_isEmpty_11 ic_0 ?_
    refine Zv.zret hC rfl d_St_isEmpty_12 rfl (Nat.le_refl _) (Nat.le_refl _) ?_
    exact hK
  · try have g4 := q_e0 h4 (by omega)
    rw [if_pos (List.length_eq_zero_iff.mp g4)] at hK
    refine Zv.iconst hC d_St_isEmpty_7 ic_1 ?_
    refine Zv.goto (tgt := 12) hC d_St_isEmpty_8 (by decide) ?_
    refine Zv.zret hC rfl d_St_isEmpty_12 rfl (Nat.le_refl _) (Nat.le_refl _) ?_
    exact hK
set_option maxRecDepth 100000 in
set_option maxHeartbeats 4000000 in
theorem sp_removeOldest {d o lost : Nat} {sr : List Q4} {I : Fm} {P : Fr} {K : Option Fs → Fm → Fr → Prop} (hP : x_ref P) (h : x_so I o sr lost) (h0 : 0 < sr.length) (hK : K none (f_u (f_u I 33 4 (nI ((o + 1) % 10))) 33 5 (nI (sr.length - 1))) P) : Fk d m_St_removeOldest 77 77 0 0 [rf 34] I P K := by
  have hl := h.2.2.2.2.1
  have ho := h.1
  refine Fk.intro (by decide +kernel) (Nat.le_of_ble_eq_true rfl) (fun G hC => ?_)
  refine Zv.aload_n hC d_St_removeOldest_0 rfl ?_
  refine Zv.geti hC d_St_removeOldest_1 fl_St_22 rfl rfl (by decide) h.2.2.1 ?_
  refine Zv.if_le (tgt := 30) hC d_St_removeOldest_4 (by decide) (fun h4 => ?_) (fun h4 => ?_)
  · try have g4 := q_le0 h4 (by omega)
    exact absurd g4 (by omega)
  · try have g4 := q_nle0 h4
    refine Zv.aload_n hC d_St_removeOldest_7 rfl ?_
    refine Zv.aload_n hC d_St_removeOldest_8 rfl ?_
    refine Zv.geti hC d_St_removeOldest_9 fl_St_32 rfl rfl (by decide) h.2.1 ?_
    refine Zv.iconst hC d_St_removeOldest_12 ic_1 ?_
    first | refine Zv.iaddN hC d_St_removeOldest_13 ?_ | refine Zv.iadd hC d_St_removeOldest_13 ?_
    refine Zv.bipush hC d_St_removeOldest_14 bp_10 ?_
    refine Zv.iremN hC d_St_removeOldest_16 (by omega) (by omega) (by omega) ?_
    refine Zv.puti hC d_St_removeOldest_17 fl_St_32 rfl ck_4 rfl rfl rfl rfl (by decide) ?_
    refine Zv.aload_n hC d_St_removeOldest_20 rfl ?_
    refine Zv.dup hC d_St_removeOldest_21 ?_
    refine Zv.geti hC d_St_removeOldest_22 fl_St_22 rfl rfl (by decide) (f_uc (by decide) h.2.2.1) ?_
    refine Zv.iconst hC d_St_removeOldest_25 ic_1 ?_
    refine Zv.isubN hC d_St_removeOldest_26 (by omega) ?_
    refine Zv.puti hC d_St_removeOldest_27 fl_St_22 rfl ck_4 rfl rfl rfl rfl (by decide) ?_
    refine Zv.vret hC rfl d_St_removeOldest_30 (Nat.le_refl _) (Nat.le_refl _) ?_
    exact hK
set_option maxRecDepth 100000 in
set_option maxHeartbeats 4000000 in
theorem sp_oldestKind {d o lost : Nat} {q : Q4} {sr : List Q4} {I : Fm} {P : Fr} {K : Option Fs → Fm → Fr → Prop} (hP : x_ref P) (h : x_so I o (q :: sr) lost) (hK : K (some (.inr (q.1))) I P) : Fk d m_St_oldestKind 77 77 0 0 [rf 34] I P K := by
  have ho := h.1
  have e0 := h.2.2.2.2.2 0 (by simp)
  rw [Nat.add_zero, Nat.mod_eq_of_lt ho] at e0
  have e1 : q = _ := Option.some.inj e0
  have e : I 34 o = q.1 := by rw [e1]
  refine Fk.intro (by decide +kernel) (Nat.le_of_ble_eq_true rfl) (fun G hC => ?_)
  refine Zv.aload_n hC d_St_oldestKind_0 rfl ?_
  refine Zv.getr (q := 35) hC d_St_oldestKind_1 fl_St_9 rfl rfl (by decide) (hP _ _ (by decide) (by decide)) ?_
  refine Zv.aload_n hC d_St_oldestKind_4 rfl ?_
  refine Zv.geti hC d_St_oldestKind_5 fl_St_32 rfl rfl (by decide) h.2.1 ?_
  refine Zv.iald hC d_St_oldestKind_8 rfl (by decide) rfl (by omega) (by first | decide | omega) e ?_
  refine Zv.iret hC rfl d_St_oldestKind_9 (Nat.le_refl _) (Nat.le_refl _) ?_
  exact hK
set_option maxRecDepth 100000 in
set_option maxHeartbeats 4000000 in
theorem sp_oldestClock {d o lost : Nat} {q : Q4} {sr : List Q4} {I : Fm} {P : Fr} {K : Option Fs → Fm → Fr → Prop} (hP : x_ref P) (h : x_so I o (q :: sr) lost) (hK : K (some (.inr (q.2.1))) I P) : Fk d m_St_oldestClock 77 77 0 0 [rf 34] I P K := by
  have ho := h.1
  have e0 := h.2.2.2.2.2 0 (by simp)
  rw [Nat.add_zero, Nat.mod_eq_of_lt ho] at e0
  have e1 : q = _ := Option.some.inj e0
  have e : I 35 o = q.2.1 := by rw [e1]
  refine Fk.intro (by decide +kernel) (Nat.le_of_ble_eq_true rfl) (fun G hC => ?_)
  refine Zv.aload_n hC d_St_oldestClock_0 rfl ?_
  refine Zv.getr (q := 36) hC d_St_oldestClock_1 fl_St_13 rfl rfl (by decide) (hP _ _ (by decide) (by decide)) ?_
  refine Zv.aload_n hC d_St_oldestClock_4 rfl ?_
  refine Zv.geti hC d_St_oldestClock_5 fl_St_32 rfl rfl (by decide) h.2.1 ?_
  refine Zv.iald hC d_St_oldestClock_8 rfl (by decide) rfl (by omega) (by first | decide | omega) e ?_
  refine Zv.iret hC rfl d_St_oldestClock_9 (Nat.le_refl _) (Nat.le_refl _) ?_
  exact hK
set_option maxRecDepth 100000 in
set_option maxHeartbeats 4000000 in
theorem sp_oldestFirst {d o lost : Nat} {q : Q4} {sr : List Q4} {I : Fm} {P : Fr} {K : Option Fs → Fm → Fr → Prop} (hP : x_ref P) (h : x_so I o (q :: sr) lost) (hK : K (some (.inr (q.2.2.1))) I P) : Fk d m_St_oldestFirst 77 77 0 0 [rf 34] I P K := by
  have ho := h.1
  have e0 := h.2.2.2.2.2 0 (by simp)
  rw [Nat.add_zero, Nat.mod_eq_of_lt ho] at e0
  have e1 : q = _ := Option.some.inj e0
  have e : I 36 o = q.2.2.1 := by rw [e1]
  refine Fk.intro (by decide +kernel) (Nat.le_of_ble_eq_true rfl) (fun G hC => ?_)
  refine Zv.aload_n hC d_St_oldestFirst_0 rfl ?_
  refine Zv.getr (q := 37) hC d_St_oldestFirst_1 fl_St_16 rfl rfl (by decide) (hP _ _ (by decide) (by decide)) ?_
  refine Zv.aload_n hC d_St_oldestFirst_4 rfl ?_
  refine Zv.geti hC d_St_oldestFirst_5 fl_St_32 rfl rfl (by decide) h.2.1 ?_
  refine Zv.iald hC d_St_oldestFirst_8 rfl (by decide) rfl (by omega) (by first | decide | omega) e ?_
  refine Zv.iret hC rfl d_St_oldestFirst_9 (Nat.le_refl _) (Nat.le_refl _) ?_
  exact hK
set_option maxRecDepth 100000 in
set_option maxHeartbeats 4000000 in
theorem sp_oldestSecond {d o lost : Nat} {q : Q4} {sr : List Q4} {I : Fm} {P : Fr} {K : Option Fs → Fm → Fr → Prop} (hP : x_ref P) (h : x_so I o (q :: sr) lost) (hK : K (some (.inr (q.2.2.2))) I P) : Fk d m_St_oldestSecond 77 77 0 0 [rf 34] I P K := by
  have ho := h.1
  have e0 := h.2.2.2.2.2 0 (by simp)
  rw [Nat.add_zero, Nat.mod_eq_of_lt ho] at e0
  have e1 : q = _ := Option.some.inj e0
  have e : I 37 o = q.2.2.2 := by rw [e1]
  refine Fk.intro (by decide +kernel) (Nat.le_of_ble_eq_true rfl) (fun G hC => ?_)
  refine Zv.aload_n hC d_St_oldestSecond_0 rfl ?_
  refine Zv.getr (q := 38) hC d_St_oldestSecond_1 fl_St_19 rfl rfl (by decide) (hP _ _ (by decide) (by decide)) ?_
  refine Zv.aload_n hC d_St_oldestSecond_4 rfl ?_
  refine Zv.geti hC d_St_oldestSecond_5 fl_St_32 rfl rfl (by decide) h.2.1 ?_
  refine Zv.iald hC d_St_oldestSecond_8 rfl (by decide) rfl (by omega) (by first | decide | omega) e ?_
  refine Zv.iret hC rfl d_St_oldestSecond_9 (Nat.le_refl _) (Nat.le_refl _) ?_
  exact hK
set_option maxRecDepth 100000 in
set_option maxHeartbeats 4000000 in
theorem lp_sadd {G : Fx} {d o lost : Nat} {sr : List Q4} {k c a b : Int32} {I : Fm} {P : Fr} {K : Option Fs → Fm → Fr → Prop} (hC : Fc G m_St_add d 0 0) (hP : x_ref P) (h : x_so I o sr lost) (hl : sr.length < 10) (hK : ∀ I' : Fm, x_sto I' (sr ++ [(k, c, a, b)]) lost → (∀ x, (x < 33 ∨ 37 < x) → I' x = I x) → K none I' P) : Zv G (f_R G K 77 0 0) 77 0 0 23 [(0, rf 34), (1, .inr k), (2, .inr c), (3, .inr a), (4, .inr b)] [] I P := by
  have ho := h.1
  refine Zv.aload_n hC d_St_add_23 rfl ?_
  refine Zv.geti hC d_St_add_24 fl_St_32 rfl rfl (by decide) h.2.1 ?_
  refine Zv.aload_n hC d_St_add_27 rfl ?_
  refine Zv.geti hC d_St_add_28 fl_St_22 rfl rfl (by decide) h.2.2.1 ?_
  first | refine Zv.iaddN hC d_St_add_31 ?_ | refine Zv.iadd hC d_St_add_31 ?_
  refine Zv.bipush hC d_St_add_32 bp_10 ?_
  refine Zv.iremN hC d_St_add_34 (by omega) (by omega) (by omega) ?_
  refine Zv.istore hC d_St_add_35 (by decide) rfl ?_
  refine Zv.aload_n hC d_St_add_37 rfl ?_
  refine Zv.getr (q := 35) hC d_St_add_38 fl_St_9 rfl rfl (by decide) (hP _ _ (by decide) (by decide)) ?_
  refine Zv.iload hC d_St_add_41 rfl ?_
  refine Zv.iload_n hC d_St_add_43 rfl ?_
  refine Zv.iast hC d_St_add_44 rfl (by decide) rfl (by omega) (by first | decide | omega) ?_
  refine Zv.aload_n hC d_St_add_45 rfl ?_
  refine Zv.getr (q := 36) hC d_St_add_46 fl_St_13 rfl rfl (by decide) (hP _ _ (by decide) (by decide)) ?_
  refine Zv.iload hC d_St_add_49 rfl ?_
  refine Zv.iload_n hC d_St_add_51 rfl ?_
  refine Zv.iast hC d_St_add_52 rfl (by decide) rfl (by omega) (by first | decide | omega) ?_
  refine Zv.aload_n hC d_St_add_53 rfl ?_
  refine Zv.getr (q := 37) hC d_St_add_54 fl_St_16 rfl rfl (by decide) (hP _ _ (by decide) (by decide)) ?_
  refine Zv.iload hC d_St_add_57 rfl ?_
  refine Zv.iload_n hC d_St_add_59 rfl ?_
  refine Zv.iast hC d_St_add_60 rfl (by decide) rfl (by omega) (by first | decide | omega) ?_
  refine Zv.aload_n hC d_St_add_61 rfl ?_
  refine Zv.getr (q := 38) hC d_St_add_62 fl_St_19 rfl rfl (by decide) (hP _ _ (by decide) (by decide)) ?_
  refine Zv.iload hC d_St_add_65 rfl ?_
  refine Zv.iload hC d_St_add_67 rfl ?_
  refine Zv.iast hC d_St_add_69 rfl (by decide) rfl (by omega) (by first | decide | omega) ?_
  refine Zv.aload_n hC d_St_add_70 rfl ?_
  refine Zv.dup hC d_St_add_71 ?_
  refine Zv.geti hC d_St_add_72 fl_St_22 rfl rfl (by decide) (f_ur (by decide) (f_ur (by decide) (f_ur (by decide) (f_ur (by decide) h.2.2.1)))) ?_
  refine Zv.iconst hC d_St_add_75 ic_1 ?_
  first | refine Zv.iaddN hC d_St_add_76 ?_ | refine Zv.iadd hC d_St_add_76 ?_
  refine Zv.puti hC d_St_add_77 fl_St_22 rfl ck_4 rfl rfl rfl rfl (by decide) ?_
  refine Zv.vret hC rfl d_St_add_80 (Nat.le_refl _) (Nat.le_refl _) ?_
  exact hK _ ⟨o, so_push h hl⟩ (fun x hx => by rw [f_u_ne (by omega), f_u_ne (by omega), f_u_ne (by omega), f_u_ne (by omega), f_u_ne (by omega)])
set_option maxRecDepth 100000 in
set_option maxHeartbeats 4000000 in
theorem sp_sadd {d lost : Nat} {sr : List Q4} {k c a b : Int32} {I : Fm} {P : Fr} {K : Option Fs → Fm → Fr → Prop} (hP : x_ref P) (hs : x_sto I sr lost) (hK : ∀ I' : Fm, x_sto I' (st_add sr lost (k, c, a, b)).1 (st_add sr lost (k, c, a, b)).2 → (∀ x, (x < 33 ∨ 37 < x) → I' x = I x) → K none I' P) : Fk (d + 1) m_St_add 77 77 0 0 [rf 34, .inr k, .inr c, .inr a, .inr b] I P K := by
  obtain ⟨o, h⟩ := hs
  have hl := h.2.2.2.2.1
  refine Fk.intro (by decide +kernel) (Nat.le_of_ble_eq_true rfl) (fun G hC => ?_)
  refine Zv.aload_n hC d_St_add_0 rfl ?_
  refine Zv.geti hC d_St_add_1 fl_St_22 rfl rfl (by decide) h.2.2.1 ?_
  refine Zv.bipush hC d_St_add_4 bp_10 ?_
  refine Zv.icmp_lt (tgt := 23) hC d_St_add_6 (by decide) (fun h6 => ?_) (fun h6 => ?_)
  · try have g6 := q_l h6 (by omega) (by omega)
    exact lp_sadd hC hP h g6 (fun I' h1 h2 => hK I' (by rw [show st_add sr lost (k, c, a, b) = (sr ++ [(k, c, a, b)], lost) from if_neg (by omega)]; exact h1) h2)
  · try have g6 := q_nl h6 (by omega) (by omega)
    refine Zv.aload_n hC d_St_add_9 rfl ?_
    refine Zv.callV0 hC d_St_add_10 ml_St_26 mk_St_removeOldest rfl (Nat.le_of_ble_eq_true rfl) rfl (by decide) ?_
    refine sp_removeOldest hP h (by omega) ?_
    refine Zv.aload_n hC d_St_add_13 rfl ?_
    refine Zv.dup hC d_St_add_14 ?_
    refine Zv.geti hC d_St_add_15 fl_St_29 rfl rfl (by decide) (f_uc (by decide) (f_uc (by decide) h.2.2.2.1)) ?_
    refine Zv.iconst hC d_St_add_18 ic_1 ?_
    first | refine Zv.iaddN hC d_St_add_19 ?_ | refine Zv.iadd hC d_St_add_19 ?_
    refine Zv.puti hC d_St_add_20 fl_St_29 rfl ck_4 rfl rfl rfl rfl (by decide) ?_
    exact lp_sadd hC hP (so_lost (so_pop h (by omega))) (by rw [List.length_tail]; omega) (fun I' h1 h2 => hK I' (by rw [show st_add sr lost (k, c, a, b) = (sr.tail ++ [(k, c, a, b)], lost + 1) from if_pos (by omega)]; exact h1) (fun x hx => by rw [h2 x hx, f_u_ne (by omega), f_u_ne (by omega), f_u_ne (by omega)]))
set_option maxRecDepth 100000 in
set_option maxHeartbeats 4000000 in
theorem sp_accB {d x sk : Nat} {I : Fm} {P : Fr} {K : Option Fs → Fm → Fr → Prop} (hx : x < 256) (hsk : I 1 7 = nI sk) (hK1 : x = 235 → K (some (.inr (nI 0))) (f_u I 1 1 (nI 1)) P) (hK0 : x ≠ 235 → K (some (.inr (nI 5))) (f_u I 1 7 (nI (sk + 1))) P) : Fk d m_Rc_acceptBetweenFrames 77 77 0 0 [rf 2, .inr (nI x)] I P K := by
  refine Fk.intro (by decide +kernel) (Nat.le_of_ble_eq_true rfl) (fun G hC => ?_)
  refine Zv.iload_n hC d_Rc_acceptBetweenFrames_0 rfl ?_
  refine Zv.sipush hC d_Rc_acceptBetweenFrames_1 sp_235 ?_
  refine Zv.icmp_eq (tgt := 19) hC d_Rc_acceptBetweenFrames_4 (by decide) (fun h4 => ?_) (fun h4 => ?_)
  · try have g4 := q_e h4 (by omega) (by omega)
    refine Zv.aload_n hC d_Rc_acceptBetweenFrames_19 rfl ?_
    refine Zv.iconst hC d_Rc_acceptBetweenFrames_20 ic_1 ?_
    refine Zv.puti hC d_Rc_acceptBetweenFrames_21 fl_Rc_15 rfl ck_3 rfl rfl rfl rfl (by decide) ?_
    refine Zv.iconst hC d_Rc_acceptBetweenFrames_24 ic_0 ?_
    refine Zv.iret hC rfl d_Rc_acceptBetweenFrames_25 (Nat.le_refl _) (Nat.le_refl _) ?_
    exact hK1 g4
  · try have g4 := q_n h4
    refine Zv.aload_n hC d_Rc_acceptBetweenFrames_7 rfl ?_
    refine Zv.dup hC d_Rc_acceptBetweenFrames_8 ?_
    refine Zv.geti hC d_Rc_acceptBetweenFrames_9 fl_Rc_32 rfl rfl (by decide) hsk ?_
    refine Zv.iconst hC d_Rc_acceptBetweenFrames_12 ic_1 ?_
    first | refine Zv.iaddN hC d_Rc_acceptBetweenFrames_13 ?_ | refine Zv.iadd hC d_Rc_acceptBetweenFrames_13 ?_
    refine Zv.puti hC d_Rc_acceptBetweenFrames_14 fl_Rc_32 rfl ck_3 rfl rfl rfl rfl (by decide) ?_
    refine Zv.iconst hC d_Rc_acceptBetweenFrames_17 ic_5 ?_
    refine Zv.iret hC rfl d_Rc_acceptBetweenFrames_18 (Nat.le_refl _) (Nat.le_refl _) ?_
    exact hK0 g4
set_option maxRecDepth 100000 in
set_option maxHeartbeats 4000000 in
theorem sp_accL {d x dr : Nat} {I : Fm} {P : Fr} {K : Option Fs → Fm → Fr → Prop} (hx : x < 256) (hdr : I 1 6 = nI dr) (hK1 : (x < 2 ∨ 12 < x) → K (some (.inr (nI 3))) (f_u (f_u I 1 1 (nI 0)) 1 6 (nI (dr + 1))) P) (hK0 : ¬ (x < 2 ∨ 12 < x) → K (some (.inr (nI 0))) (f_u (f_u (f_u (f_u I 1 1 (nI 2)) 1 2 (nI x)) 1 3 (nI 0)) 1 4 (nI 255)) P) : Fk d m_Rc_acceptLength 77 77 0 0 [rf 2, .inr (nI x)] I P K := by
  refine Fk.intro (by decide +kernel) (Nat.le_of_ble_eq_true rfl) (fun G hC => ?_)
  refine Zv.iload_n hC d_Rc_acceptLength_0 rfl ?_
  refine Zv.iconst hC d_Rc_acceptLength_1 ic_2 ?_
  refine Zv.icmp_lt (tgt := 11) hC d_Rc_acceptLength_2 (by decide) (fun h2 => ?_) (fun h2 => ?_)
  · try have g2 := q_l h2 (by omega) (by omega)
    refine Zv.aload_n hC d_Rc_acceptLength_11 rfl ?_
    refine Zv.iconst hC d_Rc_acceptLength_12 ic_0 ?_
    refine Zv.puti hC d_Rc_acceptLength_13 fl_Rc_15 rfl ck_3 rfl rfl rfl rfl (by decide) ?_
    refine Zv.aload_n hC d_Rc_acceptLength_16 rfl ?_
    refine Zv.dup hC d_Rc_acceptLength_17 ?_
    refine Zv.geti hC d_Rc_acceptLength_18 fl_Rc_35 rfl rfl (by decide) (f_uc (by decide) hdr) ?_
    refine Zv.iconst hC d_Rc_acceptLength_21 ic_1 ?_
    first | refine Zv.iaddN hC d_Rc_acceptLength_22 ?_ | refine Zv.iadd hC d_Rc_acceptLength_22 ?_
    refine Zv.puti hC d_Rc_acceptLength_23 fl_Rc_35 rfl ck_3 rfl rfl rfl rfl (by decide) ?_
    refine Zv.iconst hC d_Rc_acceptLength_26 ic_3 ?_
    refine Zv.iret hC rfl d_Rc_acceptLength_27 (Nat.le_refl _) (Nat.le_refl _) ?_
    exact hK1 (by omega)
  · try have g2 := q_nl h2 (by omega) (by omega)
    refine Zv.iload_n hC d_Rc_acceptLength_5 rfl ?_
    refine Zv.bipush hC d_Rc_acceptLength_6 bp_12 ?_
    refine Zv.icmp_le (tgt := 28) hC d_Rc_acceptLength_8 (by decide) (fun h8 => ?_) (fun h8 => ?_)
    · try have g8 := q_le h8 (by omega) (by omega)
      refine Zv.aload_n hC d_Rc_acceptLength_28 rfl ?_
      refine Zv.iconst hC d_Rc_acceptLength_29 ic_2 ?_
      refine Zv.puti hC d_Rc_acceptLength_30 fl_Rc_15 rfl ck_3 rfl rfl rfl rfl (by decide) ?_
      refine Zv.aload_n hC d_Rc_acceptLength_33 rfl ?_
      refine Zv.iload_n hC d_Rc_acceptLength_34 rfl ?_
      refine Zv.puti hC d_Rc_acceptLength_35 fl_Rc_38 rfl ck_3 rfl rfl rfl rfl (by decide) ?_
      refine Zv.aload_n hC d_Rc_acceptLength_38 rfl ?_
      refine Zv.iconst hC d_Rc_acceptLength_39 ic_0 ?_
      refine Zv.puti hC d_Rc_acceptLength_40 fl_Rc_41 rfl ck_3 rfl rfl rfl rfl (by decide) ?_
      refine Zv.aload_n hC d_Rc_acceptLength_43 rfl ?_
      refine Zv.sipush hC d_Rc_acceptLength_44 sp_255 ?_
      refine Zv.puti hC d_Rc_acceptLength_47 fl_Rc_44 rfl ck_3 rfl rfl rfl rfl (by decide) ?_
      refine Zv.iconst hC d_Rc_acceptLength_50 ic_0 ?_
      refine Zv.iret hC rfl d_Rc_acceptLength_51 (Nat.le_refl _) (Nat.le_refl _) ?_
      exact hK0 (by omega)
    · try have g8 := q_nle h8 (by omega) (by omega)
      refine Zv.aload_n hC d_Rc_acceptLength_11 rfl ?_
      refine Zv.iconst hC d_Rc_acceptLength_12 ic_0 ?_
      refine Zv.puti hC d_Rc_acceptLength_13 fl_Rc_15 rfl ck_3 rfl rfl rfl rfl (by decide) ?_
      refine Zv.aload_n hC d_Rc_acceptLength_16 rfl ?_
      refine Zv.dup hC d_Rc_acceptLength_17 ?_
      refine Zv.geti hC d_Rc_acceptLength_18 fl_Rc_35 rfl rfl (by decide) (f_uc (by decide) hdr) ?_
      refine Zv.iconst hC d_Rc_acceptLength_21 ic_1 ?_
      first | refine Zv.iaddN hC d_Rc_acceptLength_22 ?_ | refine Zv.iadd hC d_Rc_acceptLength_22 ?_
      refine Zv.puti hC d_Rc_acceptLength_23 fl_Rc_35 rfl ck_3 rfl rfl rfl rfl (by decide) ?_
      refine Zv.iconst hC d_Rc_acceptLength_26 ic_3 ?_
      refine Zv.iret hC rfl d_Rc_acceptLength_27 (Nat.le_refl _) (Nat.le_refl _) ?_
      exact hK1 (by omega)
set_option maxRecDepth 100000 in
set_option maxHeartbeats 4000000 in
theorem sp_accC {d x c tk dr : Nat} {I : Fm} {P : Fr} {K : Option Fs → Fm → Fr → Prop} (hx : x < 256) (hc2 : c < 256) (hc : I 1 4 = nI c) (htk : I 1 5 = nI tk) (hdr : I 1 6 = nI dr) (hK1 : x = c → K (some (.inr (-1))) (f_u (f_u I 1 1 (nI 0)) 1 5 (nI (tk + 1))) P) (hK0 : x ≠ c → K (some (.inr (nI 4))) (f_u (f_u I 1 1 (nI 0)) 1 6 (nI (dr + 1))) P) : Fk d m_Rc_acceptCheck 77 77 0 0 [rf 2, .inr (nI x)] I P K := by
  refine Fk.intro (by decide +kernel) (Nat.le_of_ble_eq_true rfl) (fun G hC => ?_)
  refine Zv.aload_n hC d_Rc_acceptCheck_0 rfl ?_
  refine Zv.iconst hC d_Rc_acceptCheck_1 ic_0 ?_
  refine Zv.puti hC d_Rc_acceptCheck_2 fl_Rc_15 rfl ck_3 rfl rfl rfl rfl (by decide) ?_
  refine Zv.iload_n hC d_Rc_acceptCheck_5 rfl ?_
  refine Zv.aload_n hC d_Rc_acceptCheck_6 rfl ?_
  refine Zv.geti hC d_Rc_acceptCheck_7 fl_Rc_44 rfl rfl (by decide) (f_uc (by decide) hc) ?_
  refine Zv.icmp_eq (tgt := 25) hC d_Rc_acceptCheck_10 (by decide) (fun h10 => ?_) (fun h10 => ?_)
  · try have g10 := q_e h10 (by omega) (by omega)
    refine Zv.aload_n hC d_Rc_acceptCheck_25 rfl ?_
    refine Zv.dup hC d_Rc_acceptCheck_26 ?_
    refine Zv.geti hC d_Rc_acceptCheck_27 fl_Rc_47 rfl rfl (by decide) (f_uc (by decide) htk) ?_
    refine Zv.iconst hC d_Rc_acceptCheck_30 ic_1 ?_
    first | refine Zv.iaddN hC d_Rc_acceptCheck_31 ?_ | refine Zv.iadd hC d_Rc_acceptCheck_31 ?_
    refine Zv.puti hC d_Rc_acceptCheck_32 fl_Rc_47 rfl ck_3 rfl rfl rfl rfl (by decide) ?_
    refine Zv.iconst hC d_Rc_acceptCheck_35 ic_m1 ?_
    refine Zv.iret hC rfl d_Rc_acceptCheck_36 (Nat.le_refl _) (Nat.le_refl _) ?_
    exact hK1 g10
  · try have g10 := q_n h10
    refine Zv.aload_n hC d_Rc_acceptCheck_13 rfl ?_
    refine Zv.dup hC d_Rc_acceptCheck_14 ?_
    refine Zv.geti hC d_Rc_acceptCheck_15 fl_Rc_35 rfl rfl (by decide) (f_uc (by decide) hdr) ?_
    refine Zv.iconst hC d_Rc_acceptCheck_18 ic_1 ?_
    first | refine Zv.iaddN hC d_Rc_acceptCheck_19 ?_ | refine Zv.iadd hC d_Rc_acceptCheck_19 ?_
    refine Zv.puti hC d_Rc_acceptCheck_20 fl_Rc_35 rfl ck_3 rfl rfl rfl rfl (by decide) ?_
    refine Zv.iconst hC d_Rc_acceptCheck_23 ic_4 ?_
    refine Zv.iret hC rfl d_Rc_acceptCheck_24 (Nat.le_refl _) (Nat.le_refl _) ?_
    exact hK0 g10
set_option maxRecDepth 100000 in
set_option maxHeartbeats 4000000 in
theorem sp_accN {d x c f N : Nat} {I : Fm} {P : Fr} {K : Option Fs → Fm → Fr → Prop} (hP : x_ref P) (hx : x < 256) (hc2 : c < 256) (hf2 : f < 12) (hN2 : N < 256) (hN : I 1 2 = nI N) (hf : I 1 3 = nI f) (hc : I 1 4 = nI c) (hK1 : f + 1 < N → K (some (.inr (nI 0))) (f_u (f_u (f_u I 2 f (nI x)) 1 3 (nI (f + 1))) 1 4 (nI ((c * 2 % 256 + c / 128) ^^^ x))) P) (hK0 : N ≤ f + 1 → K (some (.inr (nI 0))) (f_u (f_u (f_u (f_u I 2 f (nI x)) 1 3 (nI (f + 1))) 1 4 (nI ((c * 2 % 256 + c / 128) ^^^ x))) 1 1 (nI 3)) P) : Fk d m_Rc_acceptContent 77 77 0 0 [rf 2, .inr (nI x)] I P K := by
  refine Fk.intro (by decide +kernel) (Nat.le_of_ble_eq_true rfl) (fun G hC => ?_)
  refine Zv.aload_n hC d_Rc_acceptContent_0 rfl ?_
  refine Zv.geti hC d_Rc_acceptContent_1 fl_Rc_41 rfl rfl (by decide) hf ?_
  refine Zv.aload_n hC d_Rc_acceptContent_4 rfl ?_
  refine Zv.getr (q := 3) hC d_Rc_acceptContent_5 fl_Rc_11 rfl rfl (by decide) (hP _ _ (by decide) (by decide)) ?_
  refine Zv.alen hC d_Rc_acceptContent_8 rfl (fun _ => rfl) (by decide) ?_
  refine Zv.icmp_ge (tgt := 22) hC d_Rc_acceptContent_9 (by decide) (fun h9 => ?_) (fun h9 => ?_)
  · try have g9 := q_le h9 (by omega) (by omega)
    exact absurd g9 (by omega)
  · try have g9 := q_nle h9 (by omega) (by omega)
    refine Zv.aload_n hC d_Rc_acceptContent_12 rfl ?_
    refine Zv.getr (q := 3) hC d_Rc_acceptContent_13 fl_Rc_11 rfl rfl (by decide) (hP _ _ (by decide) (by decide)) ?_
    refine Zv.aload_n hC d_Rc_acceptContent_16 rfl ?_
    refine Zv.geti hC d_Rc_acceptContent_17 fl_Rc_41 rfl rfl (by decide) hf ?_
    refine Zv.iload_n hC d_Rc_acceptContent_20 rfl ?_
    refine Zv.iast hC d_Rc_acceptContent_21 rfl (by decide) rfl (by omega) (by first | decide | omega) ?_
    refine Zv.aload_n hC d_Rc_acceptContent_22 rfl ?_
    refine Zv.dup hC d_Rc_acceptContent_23 ?_
    refine Zv.geti hC d_Rc_acceptContent_24 fl_Rc_41 rfl rfl (by decide) (f_ur (by decide) hf) ?_
    refine Zv.iconst hC d_Rc_acceptContent_27 ic_1 ?_
    first | refine Zv.iaddN hC d_Rc_acceptContent_28 ?_ | refine Zv.iadd hC d_Rc_acceptContent_28 ?_
    refine Zv.puti hC d_Rc_acceptContent_29 fl_Rc_41 rfl ck_3 rfl rfl rfl rfl (by decide) ?_
    refine Zv.aload_n hC d_Rc_acceptContent_32 rfl ?_
    refine Zv.aload_n hC d_Rc_acceptContent_33 rfl ?_
    refine Zv.geti hC d_Rc_acceptContent_34 fl_Rc_44 rfl rfl (by decide) (f_uc (by decide) (f_ur (by decide) hc)) ?_
    refine Zv.iconst hC d_Rc_acceptContent_37 ic_2 ?_
    first | refine Zv.imulN hC d_Rc_acceptContent_38 ?_ | refine Zv.imul hC d_Rc_acceptContent_38 ?_
    refine Zv.sipush hC d_Rc_acceptContent_39 sp_256 ?_
    refine Zv.iremN hC d_Rc_acceptContent_42 (by omega) (by omega) (by omega) ?_
    refine Zv.aload_n hC d_Rc_acceptContent_43 rfl ?_
    refine Zv.geti hC d_Rc_acceptContent_44 fl_Rc_44 rfl rfl (by decide) (f_uc (by decide) (f_ur (by decide) hc)) ?_
    refine Zv.sipush hC d_Rc_acceptContent_47 sp_128 ?_
    refine Zv.idivN hC d_Rc_acceptContent_50 (by omega) (by omega) (by omega) ?_
    first | refine Zv.iaddN hC d_Rc_acceptContent_51 ?_ | refine Zv.iadd hC d_Rc_acceptContent_51 ?_
    refine Zv.iload_n hC d_Rc_acceptContent_52 rfl ?_
    refine Zv.ixor hC d_Rc_acceptContent_53 ?_
    rw [q_xor]
    refine Zv.puti hC d_Rc_acceptContent_54 fl_Rc_44 rfl ck_3 rfl rfl rfl rfl (by decide) ?_
    refine Zv.aload_n hC d_Rc_acceptContent_57 rfl ?_
    refine Zv.geti hC d_Rc_acceptContent_58 fl_Rc_41 rfl rfl (by decide) (f_uc (by decide) f_u_s) ?_
    refine Zv.aload_n hC d_Rc_acceptContent_61 rfl ?_
    refine Zv.geti hC d_Rc_acceptContent_62 fl_Rc_38 rfl rfl (by decide) (f_uc (by decide) (f_uc (by decide) (f_ur (by decide) hN))) ?_
    refine Zv.icmp_lt (tgt := 73) hC d_Rc_acceptContent_65 (by decide) (fun h65 => ?_) (fun h65 => ?_)
    · try have g65 := q_l h65 (by omega) (by omega)
      refine Zv.iconst hC d_Rc_acceptContent_73 ic_0 ?_
      refine Zv.iret hC rfl d_Rc_acceptContent_74 (Nat.le_refl _) (Nat.le_refl _) ?_
      exact hK1 g65
    · try have g65 := q_nl h65 (by omega) (by omega)
      refine Zv.aload_n hC d_Rc_acceptContent_68 rfl ?_
      refine Zv.iconst hC d_Rc_acceptContent_69 ic_3 ?_
      refine Zv.puti hC d_Rc_acceptContent_70 fl_Rc_15 rfl ck_3 rfl rfl rfl rfl (by decide) ?_
      refine Zv.iconst hC d_Rc_acceptContent_73 ic_0 ?_
      refine Zv.iret hC rfl d_Rc_acceptContent_74 (Nat.le_refl _) (Nat.le_refl _) ?_
      exact hK0 g65
set_option maxRecDepth 100000 in
set_option maxHeartbeats 4000000 in
theorem sp_wstart {d w k : Nat} {c : List Nat} {I : Fm} {P : Fr} {K : Option Fs → Fm → Fr → Prop} (hk : isCm k) (hP : x_ref P) (hc : x_cmd I k c) (hw : f_shp w = .inr 5) (hwn : w < 77) (hwk : k ≠ w) (hwk1 : k + 1 ≠ w) (hK : ∀ I' : Fm, x_wa I' w (fun j => match j with | 0 => 1 | 1 => e_at c 2 | 2 => e_at c 5 | 3 => e_at c 6 | _ => 0) (fun j => match j with | 0 => e_sgn (e_at c 3) | _ => e_sgn (e_at c 4)) → (∀ x, x ≠ w → I' x = I x) → K none I' P) : Fk (d + 1) m_Wa_start 77 77 0 0 [rf (w + 1), rf (k + 1)] I P K := by
  refine Fk.intro (by decide +kernel) (Nat.le_of_ble_eq_true rfl) (fun G hC => ?_)
  refine Zv.aload_n hC d_Wa_start_0 rfl ?_
  refine Zv.iconst hC d_Wa_start_1 ic_1 ?_
  refine Zv.puti hC d_Wa_start_2 fl_Wa_7 rfl ck_5 rfl rfl rfl hw hwn ?_
  refine Zv.aload_n hC d_Wa_start_5 rfl ?_
  refine Zv.aload_n hC d_Wa_start_6 rfl ?_
  refine Zv.iconst hC d_Wa_start_7 ic_2 ?_
  refine Zv.callV1 hC d_Wa_start_8 ml_Wa_13 mk_Cm_part rfl (Nat.le_of_ble_eq_true rfl) hk.1 (by have := hk.2.2.1; omega) ?_
  refine sp_part hk hP (x_cmd_kept hc (by first | rfl | (simp only [f_u_ne hwk])) (by first | rfl | (simp only [f_u_ne hwk1]))) rfl (by decide) ?_
  refine Zv.puti hC d_Wa_start_11 fl_Wa_19 rfl ck_5 rfl rfl rfl hw hwn ?_
  refine Zv.aload_n hC d_Wa_start_14 rfl ?_
  refine Zv.aload_n hC d_Wa_start_15 rfl ?_
  refine Zv.iconst hC d_Wa_start_16 ic_3 ?_
  refine Zv.callV1 hC d_Wa_start_17 ml_Wa_13 mk_Cm_part rfl (Nat.le_of_ble_eq_true rfl) hk.1 (by have := hk.2.2.1; omega) ?_
  refine sp_part hk hP (x_cmd_kept hc (by first | rfl | (simp only [f_u_ne hwk])) (by first | rfl | (simp only [f_u_ne hwk1]))) rfl (by decide) ?_
  refine Zv.callS1 hC d_Wa_start_20 ml_Wa_23 mk_D_signed (Nat.le_of_ble_eq_true rfl) ?_
  refine sp_signed rfl (e_at_lt hc.2.2.2 _) ?_
  refine Zv.puti hC d_Wa_start_23 fl_Wa_28 rfl ck_5 rfl rfl rfl hw hwn ?_
  refine Zv.aload_n hC d_Wa_start_26 rfl ?_
  refine Zv.aload_n hC d_Wa_start_27 rfl ?_
  refine Zv.iconst hC d_Wa_start_28 ic_4 ?_
  refine Zv.callV1 hC d_Wa_start_29 ml_Wa_13 mk_Cm_part rfl (Nat.le_of_ble_eq_true rfl) hk.1 (by have := hk.2.2.1; omega) ?_
  refine sp_part hk hP (x_cmd_kept hc (by first | rfl | (simp only [f_u_ne hwk])) (by first | rfl | (simp only [f_u_ne hwk1]))) rfl (by decide) ?_
  refine Zv.callS1 hC d_Wa_start_32 ml_Wa_23 mk_D_signed (Nat.le_of_ble_eq_true rfl) ?_
  refine sp_signed rfl (e_at_lt hc.2.2.2 _) ?_
  refine Zv.puti hC d_Wa_start_35 fl_Wa_31 rfl ck_5 rfl rfl rfl hw hwn ?_
  refine Zv.aload_n hC d_Wa_start_38 rfl ?_
  refine Zv.aload_n hC d_Wa_start_39 rfl ?_
  refine Zv.iconst hC d_Wa_start_40 ic_5 ?_
  refine Zv.callV1 hC d_Wa_start_41 ml_Wa_13 mk_Cm_part rfl (Nat.le_of_ble_eq_true rfl) hk.1 (by have := hk.2.2.1; omega) ?_
  refine sp_part hk hP (x_cmd_kept hc (by first | rfl | (simp only [f_u_ne hwk])) (by first | rfl | (simp only [f_u_ne hwk1]))) rfl (by decide) ?_
  refine Zv.puti hC d_Wa_start_44 fl_Wa_34 rfl ck_5 rfl rfl rfl hw hwn ?_
  refine Zv.aload_n hC d_Wa_start_47 rfl ?_
  refine Zv.aload_n hC d_Wa_start_48 rfl ?_
  refine Zv.bipush hC d_Wa_start_49 bp_6 ?_
  refine Zv.callV1 hC d_Wa_start_51 ml_Wa_13 mk_Cm_part rfl (Nat.le_of_ble_eq_true rfl) hk.1 (by have := hk.2.2.1; omega) ?_
  refine sp_part hk hP (x_cmd_kept hc (by first | rfl | (simp only [f_u_ne hwk])) (by first | rfl | (simp only [f_u_ne hwk1]))) rfl (by decide) ?_
  refine Zv.puti hC d_Wa_start_54 fl_Wa_37 rfl ck_5 rfl rfl rfl hw hwn ?_
  refine Zv.aload_n hC d_Wa_start_57 rfl ?_
  refine Zv.iconst hC d_Wa_start_58 ic_0 ?_
  refine Zv.puti hC d_Wa_start_59 fl_Wa_40 rfl ck_5 rfl rfl rfl hw hwn ?_
  refine Zv.vret hC rfl d_Wa_start_62 (Nat.le_refl _) (Nat.le_refl _) ?_
  refine hK _ ⟨?_, ?_, ?_, ?_, ?_, ?_, ?_⟩ (fun x hx => ?_)
  · simp [f_u]
  · simp [f_u]
  · simp [f_u]
  · simp [f_u]
  · simp [f_u]
  · simp [f_u]
  · simp [f_u]
  · simp only [f_u_ne hx]
set_option maxRecDepth 100000 in
set_option maxHeartbeats 4000000 in
theorem sp_strikes {d w : Nat} {n : Nat → Nat} {b : Nat → Int32} {v : Int32} {I : Fm} {P : Fr} {K : Option Fs → Fm → Fr → Prop} (hw : f_shp w = .inr 5) (hwn : w < 77) (h : x_wa I w n b) (hn : n 2 < 256) (hc : n 4 < 256) (hK1 : (b 0 ≤ v ∧ v ≤ b 1) → K (some (.inr (nI 0))) (f_u I w 6 (nI 0)) P) (hK2 : ¬ (b 0 ≤ v ∧ v ≤ b 1) → n 2 ≤ n 4 → K (some (.inr (nI 0))) I P) (hK3 : ¬ (b 0 ≤ v ∧ v ≤ b 1) → n 4 < n 2 → K (some (.inr (if n 4 + 1 = n 2 then nI 1 else nI 0))) (f_u I w 6 (nI (n 4 + 1))) P) : Fk d m_Wa_strikesOut 77 77 0 0 [rf (w + 1), .inr v] I P K := by
  refine Fk.intro (by decide +kernel) (Nat.le_of_ble_eq_true rfl) (fun G hC => ?_)
  refine Zv.iload_n hC d_Wa_strikesOut_0 rfl ?_
  refine Zv.aload_n hC d_Wa_strikesOut_1 rfl ?_
  refine Zv.geti hC d_Wa_strikesOut_2 fl_Wa_28 rfl hw hwn h.2.2.1 ?_
  refine Zv.icmp_lt (tgt := 23) hC d_Wa_strikesOut_5 (by decide) (fun h5 => ?_) (fun h5 => ?_)
  · skip
    have hno : ¬ (b 0 ≤ v ∧ v ≤ b 1) := fun z => Int32.not_lt.mpr z.1 h5
    refine Zv.aload_n hC d_Wa_strikesOut_23 rfl ?_
    refine Zv.geti hC d_Wa_strikesOut_24 fl_Wa_40 rfl hw hwn h.2.2.2.2.2.2 ?_
    refine Zv.aload_n hC d_Wa_strikesOut_27 rfl ?_
    refine Zv.geti hC d_Wa_strikesOut_28 fl_Wa_34 rfl hw hwn h.2.2.2.2.1 ?_
    refine Zv.icmp_lt (tgt := 36) hC d_Wa_strikesOut_31 (by decide) (fun h31 => ?_) (fun h31 => ?_)
    · try have g31 := q_l h31 (by omega) (by omega)
      have hK3 := hK3 hno g31
      refine Zv.aload_n hC d_Wa_strikesOut_36 rfl ?_
      refine Zv.dup hC d_Wa_strikesOut_37 ?_
      refine Zv.geti hC d_Wa_strikesOut_38 fl_Wa_40 rfl hw hwn h.2.2.2.2.2.2 ?_
      refine Zv.iconst hC d_Wa_strikesOut_41 ic_1 ?_
      first | refine Zv.iaddN hC d_Wa_strikesOut_42 ?_ | refine Zv.iadd hC d_Wa_strikesOut_42 ?_
      refine Zv.puti hC d_Wa_strikesOut_43 fl_Wa_40 rfl ck_5 rfl rfl rfl hw hwn ?_
      refine Zv.aload_n hC d_Wa_strikesOut_46 rfl ?_
      refine Zv.geti hC d_Wa_strikesOut_47 fl_Wa_40 rfl hw hwn f_u_s ?_
      refine Zv.aload_n hC d_Wa_strikesOut_50 rfl ?_
      refine Zv.geti hC d_Wa_strikesOut_51 fl_Wa_34 rfl hw hwn (f_uc (by decide) h.2.2.2.2.1) ?_
      refine Zv.icmp_ne (tgt := 61) hC d_Wa_strikesOut_54 (by decide) (fun h54 => ?_) (fun h54 => ?_)
      · try have g54 := q_n h54
        refine Zv.iconst hC d_Wa_strikesOut_61 ic_0 ?_
        refine Zv.zret hC rfl d_Wa_strikesOut_62 rfl (Nat.le_refl _) (Nat.le_refl _) ?_
        rw [if_neg g54] at hK3
        exact hK3
      · try have g54 := q_e h54 (by omega) (by omega)
        refine Zv.iconst hC d_Wa_strikesOut_57 ic_1 ?_
        refine Zv.goto (tgt := 62) hC d_Wa_strikesOut_58 (by decide) ?_
        refine Zv.zret hC rfl d_Wa_strikesOut_62 rfl (Nat.le_refl _) (Nat.le_refl _) ?_
        rw [if_pos g54] at hK3
        exact hK3
    · try have g31 := q_nl h31 (by omega) (by omega)
      refine Zv.iconst hC d_Wa_strikesOut_34 ic_0 ?_
      refine Zv.zret hC rfl d_Wa_strikesOut_35 rfl (Nat.le_refl _) (Nat.le_refl _) ?_
      exact hK2 (by exact hno) g31
  · skip
    refine Zv.iload_n hC d_Wa_strikesOut_8 rfl ?_
    refine Zv.aload_n hC d_Wa_strikesOut_9 rfl ?_
    refine Zv.geti hC d_Wa_strikesOut_10 fl_Wa_31 rfl hw hwn h.2.2.2.1 ?_
    refine Zv.icmp_gt (tgt := 23) hC d_Wa_strikesOut_13 (by decide) (fun h13 => ?_) (fun h13 => ?_)
    · skip
      have hno : ¬ (b 0 ≤ v ∧ v ≤ b 1) := fun z => Int32.not_lt.mpr z.2 h13
      refine Zv.aload_n hC d_Wa_strikesOut_23 rfl ?_
      refine Zv.geti hC d_Wa_strikesOut_24 fl_Wa_40 rfl hw hwn h.2.2.2.2.2.2 ?_
      refine Zv.aload_n hC d_Wa_strikesOut_27 rfl ?_
      refine Zv.geti hC d_Wa_strikesOut_28 fl_Wa_34 rfl hw hwn h.2.2.2.2.1 ?_
      refine Zv.icmp_lt (tgt := 36) hC d_Wa_strikesOut_31 (by decide) (fun h31 => ?_) (fun h31 => ?_)
      · try have g31 := q_l h31 (by omega) (by omega)
        have hK3 := hK3 hno g31
        refine Zv.aload_n hC d_Wa_strikesOut_36 rfl ?_
        refine Zv.dup hC d_Wa_strikesOut_37 ?_
        refine Zv.geti hC d_Wa_strikesOut_38 fl_Wa_40 rfl hw hwn h.2.2.2.2.2.2 ?_
        refine Zv.iconst hC d_Wa_strikesOut_41 ic_1 ?_
        first | refine Zv.iaddN hC d_Wa_strikesOut_42 ?_ | refine Zv.iadd hC d_Wa_strikesOut_42 ?_
        refine Zv.puti hC d_Wa_strikesOut_43 fl_Wa_40 rfl ck_5 rfl rfl rfl hw hwn ?_
        refine Zv.aload_n hC d_Wa_strikesOut_46 rfl ?_
        refine Zv.geti hC d_Wa_strikesOut_47 fl_Wa_40 rfl hw hwn f_u_s ?_
        refine Zv.aload_n hC d_Wa_strikesOut_50 rfl ?_
        refine Zv.geti hC d_Wa_strikesOut_51 fl_Wa_34 rfl hw hwn (f_uc (by decide) h.2.2.2.2.1) ?_
        refine Zv.icmp_ne (tgt := 61) hC d_Wa_strikesOut_54 (by decide) (fun h54 => ?_) (fun h54 => ?_)
        · try have g54 := q_n h54
          refine Zv.iconst hC d_Wa_strikesOut_61 ic_0 ?_
          refine Zv.zret hC rfl d_Wa_strikesOut_62 rfl (Nat.le_refl _) (Nat.le_refl _) ?_
          rw [if_neg g54] at hK3
          exact hK3
        · try have g54 := q_e h54 (by omega) (by omega)
          refine Zv.iconst hC d_Wa_strikesOut_57 ic_1 ?_
          refine Zv.goto (tgt := 62) hC d_Wa_strikesOut_58 (by decide) ?_
          refine Zv.zret hC rfl d_Wa_strikesOut_62 rfl (Nat.le_refl _) (Nat.le_refl _) ?_
          rw [if_pos g54] at hK3
          exact hK3
      · try have g31 := q_nl h31 (by omega) (by omega)
        refine Zv.iconst hC d_Wa_strikesOut_34 ic_0 ?_
        refine Zv.zret hC rfl d_Wa_strikesOut_35 rfl (Nat.le_refl _) (Nat.le_refl _) ?_
        exact hK2 (by exact hno) g31
    · skip
      refine Zv.aload_n hC d_Wa_strikesOut_16 rfl ?_
      refine Zv.iconst hC d_Wa_strikesOut_17 ic_0 ?_
      refine Zv.puti hC d_Wa_strikesOut_18 fl_Wa_40 rfl ck_5 rfl rfl rfl hw hwn ?_
      refine Zv.iconst hC d_Wa_strikesOut_21 ic_0 ?_
      refine Zv.zret hC rfl d_Wa_strikesOut_22 rfl (Nat.le_refl _) (Nat.le_refl _) ?_
      exact hK1 ⟨Int32.not_lt.mp h5, Int32.not_lt.mp h13⟩
