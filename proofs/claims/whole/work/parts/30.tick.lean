def e_lk : Nat → Sg → Sg
  | 0, σ => σ
  | m + 1, σ => e_look (e_lk m σ) m
def e_hs : Nat → Sg → Sg
  | 0, σ => σ
  | s + 1, σ => e_house (e_hs s σ) s
theorem e_tick_eq (σ : Sg) : e_tick σ = e_hs 2 (e_lk 4 (e_due (w_g σ 0 (s_g σ 0 + 1)))) := rfl
theorem look_g0 (σ : Sg) (m : Nat) : s_g (e_look σ m) 0 = s_g σ 0 := by
  unfold e_look
  dsimp only
  split
  · rfl
  · split
    · rfl
    · split
      · rfl
      · split
        · rfl
        · split
          · exact add_g _ _ _ _ (by decide)
          · rw [carry_g0]; exact add_g _ _ _ _ (by decide)
theorem house_g0 (σ : Sg) (s : Nat) : s_g (e_house σ s) 0 = s_g σ 0 := by
  unfold e_house
  split
  · rfl
  · exact add_g _ _ _ _ (by decide)
theorem carries_g0 : ∀ (l : List (Nat × List Nat)) (σ : Sg), s_g (e_carries σ l) 0 = s_g σ 0
  | [], σ => rfl
  | e :: l, σ => by rw [e_carries, carries_g0 l, carry_g0]
theorem due_g0 (σ : Sg) : s_g (e_due σ) 0 = s_g σ 0 := by
  unfold e_due
  split
  · rfl
  · rw [carries_g0]; rfl
theorem lk_g0 : ∀ (m : Nat) (σ : Sg), s_g (e_lk m σ) 0 = s_g σ 0
  | 0, σ => rfl
  | m + 1, σ => by rw [e_lk, look_g0, lk_g0 m]
theorem hs_g0 : ∀ (m : Nat) (σ : Sg), s_g (e_hs m σ) 0 = s_g σ 0
  | 0, σ => rfl
  | m + 1, σ => by rw [e_hs, house_g0, hs_g0 m]
set_option maxRecDepth 100000 in
set_option maxHeartbeats 4000000 in
theorem lp_tick2 {G : Fx} {d : Nat} {τ : Sg} {I : Fm} {K : Option Fs → Fm → Fr → Prop} (hC : Fc G m_D_tick (d + 6) 0 0) (hK : ∀ (cm' du' : Nat → Nat) (I' : Fm) (P' : Fr), XR (e_hs 2 τ) cm' du' I' P' → SI (e_hs 2 τ) → x_frB I I' → K (some (.inr (nI (s_g τ 0)))) I' P') : ∀ (f s : Nat) (cm du : Nat → Nat) (J : Fm) (Q : Fr), s + f = 2 → XR (e_hs s τ) cm du J Q → SI (e_hs s τ) → x_frB I J → Zv G (f_R G K 77 0 0) 77 0 0 74 [(0, rf 1), (1, .inr (nI s))] [] J Q := by
  intro f
  induction f with
  | zero =>
    intro s cm du J Q hs hX hS hfr
    have es : s = 2 := by omega
    subst es
    refine Zv.iload_n hC d_D_tick_74 rfl ?_
    refine Zv.iconst hC d_D_tick_75 ic_2 ?_
    refine Zv.icmp_ge (tgt := 127) hC d_D_tick_76 (by decide) (fun _ => ?_) (fun h => absurd (nI_le (Nat.le_refl _) (by decide)) h)
    refine Zv.aload_n hC d_D_tick_127 rfl ?_
    refine Zv.geti hC d_D_tick_128 fl_D_67 rfl rfl (by decide) (hX.2.2.1.1.trans (by rw [hs_g0])) ?_
    refine Zv.iret hC rfl d_D_tick_131 (Nat.le_refl _) (Nat.le_refl _) ?_
    exact hK cm du J Q hX hS hfr
  | succ f ih =>
    intro s cm du J Q hs hX hS hfr
    refine Zv.iload_n hC d_D_tick_74 rfl ?_
    refine Zv.iconst hC d_D_tick_75 ic_2 ?_
    refine Zv.icmp_ge (tgt := 127) hC d_D_tick_76 (by decide) (fun h76 => ?_) (fun h76 => ?_)
    · try have g76 := q_le h76 (by omega) (by omega)
      exact absurd g76 (by omega)
    · try have g76 := q_nle h76 (by omega) (by omega)
      have hw := li_row hX.1 g76
      have hho := hS.2.2.2.2.2.2.2 s g76
      have hck := hS.1
      refine Zv.aload_n hC d_D_tick_79 rfl ?_
      refine Zv.getr (q := 54) hC d_D_tick_80 fl_D_54 rfl rfl (by decide) (hX.1 _ _ (by decide) (by decide)) ?_
      refine Zv.iload_n hC d_D_tick_83 rfl ?_
      refine Zv.aald (q := ((54 + s)) + 1) hC d_D_tick_84 rfl (fun _ => rfl) (by decide) (by decide) rfl (by omega) (by decide) hw.2.2 ?_
      refine Zv.aload_n hC d_D_tick_85 rfl ?_
      refine Zv.geti hC d_D_tick_86 fl_D_67 rfl rfl (by decide) hX.2.2.1.1 ?_
      refine Zv.callV1 hC d_D_tick_89 ml_D_86 mk_Hl_isDue rfl (Nat.le_of_ble_eq_true rfl) hw.1 hw.2.1 ?_
      refine sp_isDueN hw.1 hw.2.1 (hX.2.2.2.2.2.2.2.2.2 s g76).1 rfl (by omega) hho.1 (fun r hr he => ?_)
      refine Zv.if_eq (tgt := 121) hC d_D_tick_92 (by decide) (fun h92 => ?_) (fun h92 => ?_)
      · try have g92 := q_e0 h92 (by omega)
        have eh : e_hs (s + 1) τ = e_hs s τ := if_pos (he.mp g92)
        refine Zv.iinc hC d_D_tick_121 rfl (by decide) (q_inc _) rfl ?_
        refine Zv.goto (tgt := 74) hC d_D_tick_124 (by decide) ?_
        exact ih (s + 1) cm du J Q (by omega) (by rw [eh]; exact hX) (by rw [eh]; exact hS) hfr
      · try have g92 := q_n0 h92
        refine Zv.aload_n hC d_D_tick_95 rfl ?_
        refine Zv.getr (q := 34) hC d_D_tick_96 fl_D_33 rfl rfl (by decide) (hX.1 _ _ (by decide) (by decide)) ?_
        refine Zv.iconst hC d_D_tick_99 ic_5 ?_
        refine Zv.aload_n hC d_D_tick_100 rfl ?_
        refine Zv.geti hC d_D_tick_101 fl_D_67 rfl rfl (by decide) hX.2.2.1.1 ?_
        refine Zv.iload_n hC d_D_tick_104 rfl ?_
        refine Zv.aload_n hC d_D_tick_105 rfl ?_
        refine Zv.aload_n hC d_D_tick_106 rfl ?_
        refine Zv.getr (q := 54) hC d_D_tick_107 fl_D_54 rfl rfl (by decide) (hX.1 _ _ (by decide) (by decide)) ?_
        refine Zv.iload_n hC d_D_tick_110 rfl ?_
        refine Zv.aald (q := ((54 + s)) + 1) hC d_D_tick_111 rfl (fun _ => rfl) (by decide) (by decide) rfl (by omega) (by decide) hw.2.2 ?_
        refine Zv.geti hC d_D_tick_112 fl_D_90 rfl hw.1 hw.2.1 (hX.2.2.2.2.2.2.2.2.2 s g76).2 ?_
        refine Zv.callV1 hC d_D_tick_115 ml_D_93 mk_D_sumOf rfl (Nat.le_of_ble_eq_true rfl) rfl (by decide) ?_
        refine sp_sumOf hX.1 hho.2 hX.2.2.2.2.2.2.1 ?_
        refine Zv.callV4 hC d_D_tick_118 ml_D_96 mk_St_add rfl (Nat.le_of_ble_eq_true rfl) rfl (by decide) ?_
        refine sp_sadd hX.1 hX.2.2.2.2.2.1 (fun I2 q4 q5 => ?_)
        have q6 := XR_add hX q4 q5
        have eh : e_hs (s + 1) τ = e_add (e_hs s τ) 5 (nI s) (e_sum (s_pa (e_hs s τ)) (s_ho (e_hs s τ) s 1) 8) := if_neg (fun z => g92 (he.mpr z))
        refine Zv.iinc hC d_D_tick_121 rfl (by decide) (q_inc _) rfl ?_
        refine Zv.goto (tgt := 74) hC d_D_tick_124 (by decide) ?_
        exact ih (s + 1) cm du I2 Q (by omega) (by rw [eh]; exact q6.1) (by rw [eh]; exact SI_add hS _ _ _) (frB_tr hfr (frB_of q6.2))
set_option maxRecDepth 100000 in
set_option maxHeartbeats 4000000 in
theorem lp_tick1 {G : Fx} {d : Nat} {τ : Sg} {du : Nat → Nat} {I : Fm} {K : Option Fs → Fm → Fr → Prop} (hC : Fc G m_D_tick (d + 6) 0 0) (hK : ∀ (cm' du' : Nat → Nat) (I' : Fm) (P' : Fr), XR (e_hs 2 (e_lk 4 τ)) cm' du' I' P' → SI (e_hs 2 (e_lk 4 τ)) → x_frB I I' → K (some (.inr (nI (s_g τ 0)))) I' P') : ∀ (f m : Nat) (cm : Nat → Nat) (J : Fm) (Q : Fr), m + f = 4 → XR (e_lk m τ) cm du J Q → SI (e_lk m τ) → x_frB I J → Zv G (f_R G K 77 0 0) 77 0 0 39 [(0, rf 1), (1, .inr (nI m))] [] J Q := by
  intro f
  induction f with
  | zero =>
    intro m cm J Q hm hX hS hfr
    have em : m = 4 := by omega
    subst em
    refine Zv.iload_n hC d_D_tick_39 rfl ?_
    refine Zv.iconst hC d_D_tick_40 ic_4 ?_
    refine Zv.icmp_ge (tgt := 72) hC d_D_tick_41 (by decide) (fun _ => ?_) (fun h => absurd (nI_le (Nat.le_refl _) (by decide)) h)
    refine Zv.iconst hC d_D_tick_72 ic_0 ?_
    refine Zv.istore_n hC d_D_tick_73 (by decide) rfl ?_
    exact lp_tick2 (τ := e_lk 4 τ) hC (by rw [lk_g0]; exact hK) 2 0 cm du J Q rfl hX hS hfr
  | succ f ih =>
    intro m cm J Q hm hX hS hfr
    refine Zv.iload_n hC d_D_tick_39 rfl ?_
    refine Zv.iconst hC d_D_tick_40 ic_4 ?_
    refine Zv.icmp_ge (tgt := 72) hC d_D_tick_41 (by decide) (fun h41 => ?_) (fun h41 => ?_)
    · try have g41 := q_le h41 (by omega) (by omega)
      exact absurd g41 (by omega)
    · try have g41 := q_nle h41 (by omega) (by omega)
      have hw := wa_row hX.1 g41
      have h7 := hS.2.2.2.2.2.2.1 m g41
      refine Zv.aload_n hC d_D_tick_44 rfl ?_
      refine Zv.getr (q := 40) hC d_D_tick_45 fl_D_43 rfl rfl (by decide) (hX.1 _ _ (by decide) (by decide)) ?_
      refine Zv.iload_n hC d_D_tick_48 rfl ?_
      refine Zv.aald (q := ((40 + m)) + 1) hC d_D_tick_49 rfl (fun _ => rfl) (by decide) (by decide) rfl (by omega) (by decide) hw.2.2 ?_
      refine Zv.geti hC d_D_tick_50 fl_D_79 rfl hw.1 hw.2.1 (hX.2.2.2.2.2.2.2.1 m g41).1 ?_
      refine Zv.if_eq (tgt := 66) hC d_D_tick_53 (by decide) (fun h53 => ?_) (fun h53 => ?_)
      · try have g53 := q_e0 h53 (by omega)
        have eh : e_lk (m + 1) τ = e_lk m τ := el_off g53
        refine Zv.iinc hC d_D_tick_66 rfl (by decide) (q_inc _) rfl ?_
        refine Zv.goto (tgt := 39) hC d_D_tick_69 (by decide) ?_
        exact ih (m + 1) cm J Q (by omega) (by rw [eh]; exact hX) (by rw [eh]; exact hS) hfr
      · try have g53 := q_n0 h53
        refine Zv.aload_n hC d_D_tick_56 rfl ?_
        refine Zv.aload_n hC d_D_tick_57 rfl ?_
        refine Zv.getr (q := 40) hC d_D_tick_58 fl_D_43 rfl rfl (by decide) (hX.1 _ _ (by decide) (by decide)) ?_
        refine Zv.iload_n hC d_D_tick_61 rfl ?_
        refine Zv.aald (q := ((40 + m)) + 1) hC d_D_tick_62 rfl (fun _ => rfl) (by decide) (by decide) rfl (by omega) (by decide) hw.2.2 ?_
        refine Zv.callV1 hC d_D_tick_63 ml_D_82 mk_D_look rfl (Nat.le_of_ble_eq_true rfl) rfl (by decide) ?_
        refine sp_look hX hS g41 g53 (fun cm2 J2 Q2 q1 q2 => ?_)
        refine Zv.iinc hC d_D_tick_66 rfl (by decide) (q_inc _) rfl ?_
        refine Zv.goto (tgt := 39) hC d_D_tick_69 (by decide) ?_
        exact ih (m + 1) cm2 J2 Q2 (by omega) q1 (SI_look hS (fun e he => ac_bytes hX.2.2.2.2.2.2.2.2.1 he) g41) (frB_tr hfr q2)
set_option maxRecDepth 100000 in
set_option maxHeartbeats 4000000 in
theorem sp_tick {d : Nat} {σ : Sg} {cm du : Nat → Nat} {I : Fm} {P : Fr} {K : Option Fs → Fm → Fr → Prop} (hX : XR σ cm du I P) (hS : SI σ) (hK : s_g σ 0 < 60000 → ∀ (cm' du' : Nat → Nat) (I' : Fm) (P' : Fr), XR (e_tick σ) cm' du' I' P' → SI (e_tick σ) → x_frB I I' → K (some (.inr (nI (s_g σ 0 + 1)))) I' P') (hK0 : 60000 ≤ s_g σ 0 → K (some (.inr (-1000))) I P) : Fk (d + 6) m_D_tick 77 77 0 0 [rf 1] I P K := by
  have hck0 := hS.1
  have hr20 := hS.2.2.1
  refine Fk.intro (by decide +kernel) (Nat.le_of_ble_eq_true rfl) (fun G hC => ?_)
  refine Zv.aload_n hC d_D_tick_0 rfl ?_
  refine Zv.geti hC d_D_tick_1 fl_D_67 rfl rfl (by decide) hX.2.2.1.1 ?_
  refine Zv.ldc hC d_D_tick_4 co_D_71 ?_
  refine Zv.icmp_lt (tgt := 13) hC d_D_tick_6 (by decide) (fun h6 => ?_) (fun h6 => ?_)
  · try have g6 := q_l h6 (by omega) (by omega)
    have hck := hS.1
    have hr2 := hS.2.2.1
    have h1 := XR_g (v := s_g σ 0 + 1) hX (Or.inl ⟨rfl, rfl⟩)
    have hS1 : SI (w_g σ 0 (s_g σ 0 + 1)) := ⟨g6, hS.2⟩
    have hK := hK g6
    rw [e_tick_eq] at hK
    refine Zv.aload_n hC d_D_tick_13 rfl ?_
    refine Zv.dup hC d_D_tick_14 ?_
    refine Zv.geti hC d_D_tick_15 fl_D_67 rfl rfl (by decide) hX.2.2.1.1 ?_
    refine Zv.iconst hC d_D_tick_18 ic_1 ?_
    first | refine Zv.iaddN hC d_D_tick_19 ?_ | refine Zv.iadd hC d_D_tick_19 ?_
    refine Zv.puti hC d_D_tick_20 fl_D_67 rfl ck_6 rfl rfl rfl rfl (by decide) ?_
    refine Zv.aload_n hC d_D_tick_23 rfl ?_
    refine Zv.getr (q := 6) hC d_D_tick_24 fl_D_26 rfl rfl (by decide) (hX.1 _ _ (by decide) (by decide)) ?_
    refine Zv.geti hC d_D_tick_27 fl_D_72 rfl rfl (by decide) (f_ur (by decide) hX.2.2.2.2.1) ?_
    refine Zv.if_eq (tgt := 37) hC d_D_tick_30 (by decide) (fun h30 => ?_) (fun h30 => ?_)
    · try have g30 := q_e0 h30 (by omega)
      have ed : e_due (w_g σ 0 (s_g σ 0 + 1)) = w_g σ 0 (s_g σ 0 + 1) := if_pos g30
      rw [ed] at hK
      refine Zv.iconst hC d_D_tick_37 ic_0 ?_
      refine Zv.istore_n hC d_D_tick_38 (by decide) rfl ?_
      exact lp_tick1 (τ := w_g σ 0 (s_g σ 0 + 1)) hC hK 4 0 cm _ P rfl h1.1 hS1 (frB_of h1.2)
    · try have g30 := q_n0 h30
      refine Zv.aload_n hC d_D_tick_33 rfl ?_
      refine Zv.callV0 hC d_D_tick_34 ml_D_76 mk_D_carryOutDue rfl (Nat.le_of_ble_eq_true rfl) rfl (by decide) ?_
      refine sp_carryOutDue h1.1 hS1 (fun cm2 du2 J2 Q2 q1 q2 q3 => ?_)
      have ed : e_due (w_g σ 0 (s_g σ 0 + 1)) = _ := if_neg g30
      have eg := due_g0 (w_g σ 0 (s_g σ 0 + 1))
      rw [ed] at hK eg
      refine Zv.iconst hC d_D_tick_37 ic_0 ?_
      refine Zv.istore_n hC d_D_tick_38 (by decide) rfl ?_
      exact lp_tick1 hC (by rw [eg]; exact hK) 4 0 cm2 J2 Q2 rfl q1 q2 (frB_tr (frB_of h1.2) q3)
  · try have g6 := q_nl h6 (by omega) (by omega)
    refine Zv.sipush hC d_D_tick_9 sp_m1000 ?_
    refine Zv.iret hC rfl d_D_tick_12 (Nat.le_refl _) (Nat.le_refl _) ?_
    exact hK0 g6
theorem brk_le : ∀ (f : Nat) (c : List Nat), e_brk f c ≤ 3
  | 0, c => by unfold e_brk; decide
  | f + 1, c => by
    unfold e_brk
    split
    · exact e_one_le c
    · split
      · exact brk_le f _
      · decide
set_option maxRecDepth 100000 in
set_option maxHeartbeats 4000000 in
theorem sp_obeyFrame {d : Nat} {σ : Sg} {cm du : Nat → Nat} {l : List Nat} {I : Fm} {P : Fr} {K : Option Fs → Fm → Fr → Prop} (hX : XR σ cm du I P) (hS : SI σ) (hl : 2 ≤ l.length ∧ l.length ≤ 12) (hN : I 1 2 = nI l.length) (hcon : ∀ i, i < l.length → I 2 i = nI (e_at l i)) (hbl : ∀ x ∈ l, x < 256) (hK : ∀ (cm' : Nat → Nat) (I' : Fm) (P' : Fr), XR (e_frame σ l).1 cm' du I' P' → SI (e_frame σ l).1 → x_frB I I' → K (some (.inr (nI (e_frame σ l).2))) I' P') : Fk (d + 5) m_D_obeyFrame 77 77 0 0 [rf 1] I P K := by
  have hN' := (rfl : nI l.length = nI l.length)
  refine Fk.intro (by decide +kernel) (Nat.le_of_ble_eq_true rfl) (fun G hC => ?_)
  refine Zv.aload_n hC d_D_obeyFrame_0 rfl ?_
  refine Zv.getr (q := 4) hC d_D_obeyFrame_1 fl_D_19 rfl rfl (by decide) (hX.1 _ _ (by decide) (by decide)) ?_
  refine Zv.aload_n hC d_D_obeyFrame_4 rfl ?_
  refine Zv.getr (q := 2) hC d_D_obeyFrame_5 fl_D_10 rfl rfl (by decide) (hX.1 _ _ (by decide) (by decide)) ?_
  refine Zv.getr (q := 3) hC d_D_obeyFrame_8 fl_D_168 rfl rfl (by decide) (hX.1 _ _ (by decide) (by decide)) ?_
  refine Zv.iconst hC d_D_obeyFrame_11 ic_1 ?_
  refine Zv.aload_n hC d_D_obeyFrame_12 rfl ?_
  refine Zv.getr (q := 2) hC d_D_obeyFrame_13 fl_D_10 rfl rfl (by decide) (hX.1 _ _ (by decide) (by decide)) ?_
  refine Zv.geti hC d_D_obeyFrame_16 fl_D_171 rfl rfl (by decide) hN ?_
  refine Zv.callV3 hC d_D_obeyFrame_19 ml_D_174 mk_Cm_load rfl (Nat.le_of_ble_eq_true rfl) rfl (by decide) ?_
  refine sp_load (La := 12) (src := l) (f := 1) (show isCm 3 by unfold isCm; decide) hX.1 rfl (by decide) (by decide) (by decide) hcon hbl (by omega) (by omega) (by omega) rfl hN' (fun I1 hc1 hf1 => ?_)
  have hX1 := XR_34 hX (fun a _ _ h3 h4 => hf1 a h3 h4)
  rw [List.drop_one] at hc1
  refine Zv.aload_n hC d_D_obeyFrame_22 rfl ?_
  refine Zv.getr (q := 2) hC d_D_obeyFrame_23 fl_D_10 rfl rfl (by decide) (hX.1 _ _ (by decide) (by decide)) ?_
  refine Zv.getr (q := 3) hC d_D_obeyFrame_26 fl_D_168 rfl rfl (by decide) (hX.1 _ _ (by decide) (by decide)) ?_
  refine Zv.iconst hC d_D_obeyFrame_29 ic_0 ?_
  refine Zv.iald hC d_D_obeyFrame_30 rfl (by decide) rfl (by omega) (by first | decide | omega) ((congrFun (hf1 2 (by decide) (by decide)) 0).trans (hcon 0 (by omega))) ?_
  refine Zv.istore_n hC d_D_obeyFrame_31 (by decide) rfl ?_
  refine Zv.aload_n hC d_D_obeyFrame_32 rfl ?_
  refine Zv.getr (q := 4) hC d_D_obeyFrame_33 fl_D_19 rfl rfl (by decide) (hX.1 _ _ (by decide) (by decide)) ?_
  refine Zv.callS1 hC d_D_obeyFrame_36 ml_D_178 mk_D_brokenCode (Nat.le_of_ble_eq_true rfl) ?_
  refine sp_brokenCode (show isCm 3 by unfold isCm; decide) hX.1 hc1 ?_
  refine Zv.istore_n hC d_D_obeyFrame_39 (by decide) rfl ?_
  have hbr := brk_le 3 l.tail
  refine Zv.iload_n hC d_D_obeyFrame_40 rfl ?_
  refine Zv.if_eq (tgt := 60) hC d_D_obeyFrame_41 (by decide) (fun h41 => ?_) (fun h41 => ?_)
  · try have g41 := q_e0 h41 (by omega)
    have hva := va_of g41
    have ef : e_frame σ l = e_carry σ l.tail (e_at l 0) := if_neg (fun z => z g41)
    rw [ef] at hK
    refine Zv.aload_n hC d_D_obeyFrame_60 rfl ?_
    refine Zv.aload_n hC d_D_obeyFrame_61 rfl ?_
    refine Zv.getr (q := 4) hC d_D_obeyFrame_62 fl_D_19 rfl rfl (by decide) (hX.1 _ _ (by decide) (by decide)) ?_
    refine Zv.iload_n hC d_D_obeyFrame_65 rfl ?_
    refine Zv.callV2 hC d_D_obeyFrame_66 ml_D_182 mk_D_carryOut rfl (Nat.le_of_ble_eq_true rfl) rfl (by decide) ?_
    refine sp_carryOut (num := e_at l 0) hX1 (by have := hS.1; omega) hS.2.1 (show isCm 3 by unfold isCm; decide) hc1 hva.1 (so_of hS.2.2.2.1) (fun _ => rfl) (fun _ => by decide) (by decide) (fun cm2 J2 Q2 r1 r2 => ?_)
    refine Zv.zret hC rfl d_D_obeyFrame_69 (nb_2 (carry_2 _ _ _)) (Nat.le_refl _) (Nat.le_refl _) ?_
    exact hK cm2 J2 Q2 r1 (SI_carry hS hva hc1.2.2.2) (fun a ha => (frB_of r2 a ha).trans (hf1 a (by omega) (by omega)))
  · try have g41 := q_n0 h41
    have ef : e_frame σ l = (e_add σ 2 (nI (e_at l 0)) (nI (e_brk 3 l.tail)), 0) := if_pos g41
    rw [ef] at hK
    refine Zv.aload_n hC d_D_obeyFrame_44 rfl ?_
    refine Zv.getr (q := 34) hC d_D_obeyFrame_45 fl_D_33 rfl rfl (by decide) (hX.1 _ _ (by decide) (by decide)) ?_
    refine Zv.iconst hC d_D_obeyFrame_48 ic_2 ?_
    refine Zv.aload_n hC d_D_obeyFrame_49 rfl ?_
    refine Zv.geti hC d_D_obeyFrame_50 fl_D_67 rfl rfl (by decide) hX1.2.2.1.1 ?_
    refine Zv.iload_n hC d_D_obeyFrame_53 rfl ?_
    refine Zv.iload_n hC d_D_obeyFrame_54 rfl ?_
    refine Zv.callV4 hC d_D_obeyFrame_55 ml_D_96 mk_St_add rfl (Nat.le_of_ble_eq_true rfl) rfl (by decide) ?_
    refine sp_sadd hX.1 hX1.2.2.2.2.2.1 (fun I2 q4 q5 => ?_)
    have q6 := XR_add hX1 q4 q5
    refine Zv.iconst hC d_D_obeyFrame_58 ic_0 ?_
    refine Zv.zret hC rfl d_D_obeyFrame_59 rfl (Nat.le_refl _) (Nat.le_refl _) ?_
    exact hK cm I2 P q6.1 (SI_add hS _ _ _) (fun a ha => (q5 a (by omega)).trans (hf1 a (by omega) (by omega)))
