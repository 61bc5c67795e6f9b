theorem sp_strikesN {d w : Nat} {n : Nat → Nat} {b : Nat → Int32} {v : Int32} {I : Fm} {P : Fr} {K : Option Fs → Fm → Fr → Prop} (hw : f_shp w = .inr 5) (hwn : w < 77) (h : x_wa I w n b) (hn : n 2 < 256) (hc : n 4 < 256) (hK : ∀ (r : Nat) (I' : Fm), r < 2 → ((b 0 ≤ v ∧ v ≤ b 1) → r = 0 ∧ I' = f_u I w 6 (nI 0)) → (¬ (b 0 ≤ v ∧ v ≤ b 1) → n 2 ≤ n 4 → r = 0 ∧ I' = I) → (¬ (b 0 ≤ v ∧ v ≤ b 1) → ¬ n 2 ≤ n 4 → (r ≠ 0 ↔ n 4 + 1 = n 2) ∧ I' = f_u I w 6 (nI (n 4 + 1))) → K (some (.inr (nI r))) I' P) : Fk d m_Wa_strikesOut 77 77 0 0 [rf (w + 1), .inr v] I P K := by
  refine sp_strikes hw hwn h hn hc (fun a => hK 0 _ (by decide) (fun _ => ⟨rfl, rfl⟩) (fun z => absurd a z) (fun z => absurd a z)) (fun a c => hK 0 _ (by decide) (fun z => absurd z a) (fun _ _ => ⟨rfl, rfl⟩) (fun _ z => absurd c z)) (fun a c => ?_)
  by_cases e : n 4 + 1 = n 2
  · rw [if_pos e]
    exact hK 1 _ (by decide) (fun z => absurd z a) (fun _ z => absurd z (by omega)) (fun _ _ => ⟨⟨fun _ => e, fun _ => by decide⟩, rfl⟩)
  · rw [if_neg e]
    exact hK 0 _ (by decide) (fun z => absurd z a) (fun _ z => absurd z (by omega)) (fun _ _ => ⟨⟨fun z => absurd rfl z, fun z => absurd z e⟩, rfl⟩)
theorem sp_cisEmptyN {d k : Nat} {c : List Nat} {I : Fm} {P : Fr} {K : Option Fs → Fm → Fr → Prop} (hk : isCm k) (hP : x_ref P) (hc : x_cmd I k c) (hK : ∀ r : Nat, r < 2 → (r ≠ 0 ↔ c = []) → K (some (.inr (nI r))) I P) : Fk d m_Cm_isEmpty 77 77 0 0 [rf (k + 1)] I P K :=
  sp_cisEmpty hk hP hc (by
    by_cases e : c = []
    · rw [if_pos e]; exact hK 1 (by decide) ⟨fun _ => e, fun _ => by decide⟩
    · rw [if_neg e]; exact hK 0 (by decide) ⟨fun z => absurd rfl z, fun z => absurd z e⟩)
theorem sp_isDueN {d h e t : Nat} {x : Int32} {I : Fm} {P : Fr} {K : Option Fs → Fm → Fr → Prop} (hh : f_shp h = .inr 1) (hhn : h < 77) (he : I h 0 = nI e) (hx : x = nI t) (ht : t < 2 ^ 30) (he2 : e < 256) (hK : ∀ r : Nat, r < 2 → (r = 0 ↔ (e = 0 ∨ t % e ≠ 0)) → K (some (.inr (nI r))) I P) : Fk d m_Hl_isDue 77 77 0 0 [rf (h + 1), .inr x] I P K :=
  sp_isDue hh hhn he hx ht he2 (fun a b => hK 1 (by decide) ⟨fun z => absurd z (by decide), fun z => z.elim (fun z => absurd z a) (fun z => absurd b z)⟩) (fun a => hK 0 (by decide) ⟨fun _ => a, fun _ => rfl⟩)
set_option maxRecDepth 100000 in
set_option maxHeartbeats 4000000 in
theorem lp_cod {G : Fx} {d m : Nat} {du : Nat → Nat} {pl : List (Nat × List Nat)} {I : Fm} {K : Option Fs → Fm → Fr → Prop} (hC : Fc G m_D_carryOutDue (d + 5) 0 0) (hm : m ≤ pl.length) (hl6 : pl.length ≤ 6) (hva : ∀ j, j < m → va2 (p_c pl j)) : ∀ (f i : Nat) (σ : Sg) (cm : Nat → Nat) (J : Fm) (Q : Fr), i + f = m → XR σ cm du J Q → SI σ → (∀ j, i ≤ j → j < m → x_cmd J (du j) (p_c pl j)) → x_frB I J → (∀ (cm' : Nat → Nat) (I' : Fm) (P' : Fr), XR (e_carries σ ((pl.take m).drop i)) cm' du I' P' → SI (e_carries σ ((pl.take m).drop i)) → x_frB I I' → K none I' P') → Zv G (f_R G K 77 0 0) 77 0 0 14 [(0, rf 1), (1, .inr (nI m)), (2, .inr (nI i))] [] J Q := by
  intro f
  induction f with
  | zero =>
    intro i σ cm J Q hi hX hS hcs hfr hK
    have ei : i = m := by omega
    subst ei
    refine Zv.iload_n hC d_D_carryOutDue_14 rfl ?_
    refine Zv.iload_n hC d_D_carryOutDue_15 rfl ?_
    refine Zv.icmp_ge (tgt := 42) hC d_D_carryOutDue_16 (by decide) (fun _ => ?_) (fun h16 => absurd (nI_le (Nat.le_refl _) (by omega)) h16)
    refine Zv.vret hC rfl d_D_carryOutDue_42 (Nat.le_refl _) (Nat.le_refl _) ?_
    have e0 : (pl.take i).drop i = [] := by rw [List.drop_eq_nil_of_le]; rw [List.length_take]; omega
    rw [e0] at hK
    exact hK cm J Q hX hS hfr
  | succ f ih =>
    intro i σ cm J Q hi hX hS hcs hfr hK
    refine Zv.iload_n hC d_D_carryOutDue_14 rfl ?_
    refine Zv.iload_n hC d_D_carryOutDue_15 rfl ?_
    refine Zv.icmp_ge (tgt := 42) hC d_D_carryOutDue_16 (by decide) (fun h16 => ?_) (fun h16 => ?_)
    · try have g16 := q_le h16 (by omega) (by omega)
      exact absurd g16 (by omega)
    · try have g16 := q_nle h16 (by omega) (by omega)
      have hcu := isPC_cm (hX.2.1.1 i (by omega)).2.2.2
      have hdb := pc_bd hX.2.1 (show i < 6 by omega)
      refine Zv.aload_n hC d_D_carryOutDue_19 rfl ?_
      refine Zv.aload_n hC d_D_carryOutDue_20 rfl ?_
      refine Zv.getr (q := 6) hC d_D_carryOutDue_21 fl_D_26 rfl rfl (by decide) (hX.1 _ _ (by decide) (by decide)) ?_
      refine Zv.getr (q := 9) hC d_D_carryOutDue_24 fl_D_288 rfl rfl (by decide) (hX.1 _ _ (by decide) (by decide)) ?_
      refine Zv.iload_n hC d_D_carryOutDue_27 rfl ?_
      refine Zv.aald (q := ((du i)) + 1) hC d_D_carryOutDue_28 rfl (fun _ => rfl) (by decide) (by decide) rfl (by omega) (by decide) ((hX.2.1.1 i (by omega)).2.1) ?_
      refine Zv.sipush hC d_D_carryOutDue_29 sp_256 ?_
      refine Zv.callV2 hC d_D_carryOutDue_32 ml_D_182 mk_D_carryOut rfl (Nat.le_of_ble_eq_true rfl) rfl (by decide) ?_
      refine sp_carryOut (num := 256) hX (by have := hS.1; omega) hS.2.1 hcu (hcs i (Nat.le_refl _) g16) (hva i g16).1 (so_of hS.2.2.2.1) (fun z => absurd z (hva i g16).2.1) (fun _ => by omega) (by omega) (fun cm2 J2 Q2 q1 q2 => ?_)
      refine Zv.pop hC d_D_carryOutDue_35 ?_
      refine Zv.iinc hC d_D_carryOutDue_36 rfl (by decide) (q_inc _) rfl ?_
      refine Zv.goto (tgt := 14) hC d_D_carryOutDue_39 (by decide) ?_
      have hl1 : i < (pl.take m).length := by rw [List.length_take]; omega
      have hd : (pl.take m).drop i = pl.getD i (0, []) :: (pl.take m).drop (i + 1) := by
        rw [List.drop_eq_getElem_cons hl1]
        congr 1
        rw [List.getElem_take, List.getD_eq_getElem?_getD, List.getElem?_eq_getElem (by omega)]
        rfl
      refine ih (i + 1) _ cm2 J2 Q2 (by omega) q1 (SI_carry hS (va23 (hva i g16)) (hcs i (Nat.le_refl _) g16).2.2.2) (fun j h1 h2 => ?_) (frB_tr hfr (frB_of q2)) ?_
      · refine x_cmd_kept (hcs j (by omega) h2) (q2 _ ?_) (q2 _ ?_)
        · exact Or.inr (Or.inr (Or.inr (Or.inr (Or.inr ⟨j, by omega, Or.inl rfl⟩))))
        · exact Or.inr (Or.inr (Or.inr (Or.inr (Or.inr ⟨j, by omega, Or.inr rfl⟩))))
      · rw [hd] at hK
        exact hK
set_option maxRecDepth 100000 in
set_option maxHeartbeats 4000000 in
theorem sp_carryOutDue {d : Nat} {σ : Sg} {cm du : Nat → Nat} {I : Fm} {P : Fr} {K : Option Fs → Fm → Fr → Prop} (hX : XR σ cm du I P) (hS : SI σ) (hK : ∀ (cm' du' : Nat → Nat) (I' : Fm) (P' : Fr), XR (e_carries (w_pl σ ((s_pl σ).dropWhile (fun e => decide (e.1 ≤ s_g σ 0)))) ((s_pl σ).takeWhile (fun e => decide (e.1 ≤ s_g σ 0)))) cm' du' I' P' → SI (e_carries (w_pl σ ((s_pl σ).dropWhile (fun e => decide (e.1 ≤ s_g σ 0)))) ((s_pl σ).takeWhile (fun e => decide (e.1 ≤ s_g σ 0)))) → x_frB I I' → K none I' P') : Fk (d + 5) m_D_carryOutDue 77 77 0 0 [rf 1] I P K := by
  refine Fk.intro (by decide +kernel) (Nat.le_of_ble_eq_true rfl) (fun G hC => ?_)
  refine Zv.aload_n hC d_D_carryOutDue_0 rfl ?_
  refine Zv.getr (q := 6) hC d_D_carryOutDue_1 fl_D_26 rfl rfl (by decide) (hX.1 _ _ (by decide) (by decide)) ?_
  refine Zv.aload_n hC d_D_carryOutDue_4 rfl ?_
  refine Zv.geti hC d_D_carryOutDue_5 fl_D_67 rfl rfl (by decide) hX.2.2.1.1 ?_
  refine Zv.callV1 hC d_D_carryOutDue_8 ml_D_285 mk_Pl_takeOutDue rfl (Nat.le_of_ble_eq_true rfl) rfl (by decide) ?_
  refine sp_takeOutDue hX.1 hX.2.1 hX.2.2.2.1 (by have := hS.1; omega) (fun m J Q cm1 du1 b1 b2 b3 b4 b5 b6 b7 b8 b9 => ?_)
  refine Zv.istore_n hC d_D_carryOutDue_11 (by decide) rfl ?_
  refine Zv.iconst hC d_D_carryOutDue_12 ic_0 ?_
  refine Zv.istore_n hC d_D_carryOutDue_13 (by decide) rfl ?_
  obtain ⟨t1, t2⟩ := tw_at (s_pl σ) m (s_g σ 0) b1 b2 b3
  have hX1 := XR_plan' hX b4 b5 b6 b9 (fun a ha => b8 a (by omega) (by omega))
  have hS1 : SI (w_pl σ ((s_pl σ).drop m)) := ⟨hS.1, hS.2.1, hS.2.2.1, List.Pairwise.sublist (List.drop_sublist _ _) hS.2.2.2.1, fun e he => hS.2.2.2.2.1 e (List.mem_of_mem_drop he), hS.2.2.2.2.2⟩
  refine lp_cod (I := I) hC b1 hX.2.2.2.1.2.1 (fun j hj => (hS.2.2.2.2.1 _ (p_mem (by omega))).1) m 0 _ cm1 J Q (by omega) hX1 hS1 (fun j _ hj => b7 j hj) (fun a ha => b8 a (by omega) (by omega)) (fun cm' I' P' r1 r2 r3 => ?_)
  rw [List.drop_zero] at r1 r2
  rw [t1, t2] at hK
  exact hK cm' du1 I' P' r1 r2 r3
set_option maxRecDepth 100000 in
set_option maxHeartbeats 4000000 in
theorem sp_look {d m : Nat} {σ : Sg} {cm du : Nat → Nat} {I : Fm} {P : Fr} {K : Option Fs → Fm → Fr → Prop} (hX : XR σ cm du I P) (hS : SI σ) (hm : m < 4) (hon : ¬ s_wn σ m 0 = 0) (hK : ∀ (cm' : Nat → Nat) (I' : Fm) (P' : Fr), XR (e_look σ m) cm' du I' P' → x_frB I I' → K none I' P') : Fk (d + 5) m_D_look 77 77 0 0 [rf 1, rf (40 + m + 1)] I P K := by
  have hw := wa_row hX.1 hm
  have hwa := hX.2.2.2.2.2.2.2.1 m hm
  have h7 := hS.2.2.2.2.2.2.1 m hm
  refine Fk.intro (by decide +kernel) (Nat.le_of_ble_eq_true rfl) (fun G hC => ?_)
  refine Zv.aload_n hC d_D_look_0 rfl ?_
  refine Zv.aload_n hC d_D_look_1 rfl ?_
  refine Zv.geti hC d_D_look_2 fl_D_291 rfl hw.1 hw.2.1 hwa.2.1 ?_
  refine Zv.callV1 hC d_D_look_5 ml_D_294 mk_D_parameter rfl (Nat.le_of_ble_eq_true rfl) rfl (by decide) ?_
  refine sp_parameter hX (fun r hr => ?_)
  have er : r = s_pa σ (s_wn σ m 1) := hr.1 _ h7.2.1 rfl
  subst er
  refine Zv.istore_n hC d_D_look_8 (by decide) rfl ?_
  refine Zv.aload_n hC d_D_look_9 rfl ?_
  refine Zv.iload_n hC d_D_look_10 rfl ?_
  refine Zv.callV1 hC d_D_look_11 ml_D_297 mk_Wa_strikesOut rfl (Nat.le_of_ble_eq_true rfl) hw.1 hw.2.1 ?_
  refine sp_strikesN hw.1 hw.2.1 hwa (by omega) (by omega) (fun r11 I1 hr11 hs1 hs2 hs3 => ?_)
  refine Zv.if_ne (tgt := 18) hC d_D_look_14 (by decide) (fun h14 => ?_) (fun h14 => ?_)
  · try have g14 := q_n0 h14
    have ha : ¬ (s_wb σ m 0 ≤ s_pa σ (s_wn σ m 1) ∧ s_pa σ (s_wn σ m 1) ≤ s_wb σ m 1) := fun z => absurd (hs1 z).1 (by omega)
    have hb : ¬ s_wn σ m 2 ≤ s_wn σ m 4 := fun z => absurd (hs2 ha z).1 (by omega)
    obtain ⟨hs4, rfl⟩ := hs3 ha hb
    have hc := hs4.mp g14
    have q1 := XR_cnt hX hm (s_wn σ m 4 + 1)
    have hel := el_ev (σ2 := e_add (w_wn σ (s_u (s_wn σ) m (s_u (s_wn σ m) 4 (s_wn σ m 4 + 1)))) (nI 4) (nI (s_wn σ m 3)) (s_pa σ (s_wn σ m 1))) hon ha hb (by omega) rfl
    have hac := ac_row hX.1 h7.2.2.2.1
    refine Zv.aload_n hC d_D_look_18 rfl ?_
    refine Zv.geti hC d_D_look_19 fl_D_300 rfl hw.1 hw.2.1 (f_uc (by decide) hwa.2.2.2.2.2.1) ?_
    refine Zv.istore_n hC d_D_look_22 (by decide) rfl ?_
    refine Zv.aload_n hC d_D_look_23 rfl ?_
    refine Zv.getr (q := 34) hC d_D_look_24 fl_D_33 rfl rfl (by decide) (hX.1 _ _ (by decide) (by decide)) ?_
    refine Zv.iconst hC d_D_look_27 ic_4 ?_
    refine Zv.aload_n hC d_D_look_28 rfl ?_
    refine Zv.geti hC d_D_look_29 fl_D_67 rfl rfl (by decide) q1.1.2.2.1.1 ?_
    refine Zv.iload_n hC d_D_look_32 rfl ?_
    refine Zv.iload_n hC d_D_look_33 rfl ?_
    refine Zv.callV4 hC d_D_look_34 ml_D_96 mk_St_add rfl (Nat.le_of_ble_eq_true rfl) rfl (by decide) ?_
    refine sp_sadd hX.1 q1.1.2.2.2.2.2.1 (fun I2 q4 q5 => ?_)
    have q6 := XR_add q1.1 q4 q5
    refine Zv.iload_n hC d_D_look_37 rfl ?_
    refine Zv.callS1 hC d_D_look_38 ml_D_143 mk_D_isEvent (Nat.le_of_ble_eq_true rfl) ?_
    refine sp_isEventN rfl (by omega) (fun r38 hr38 he38 => ?_)
    refine Zv.if_eq (tgt := 70) hC d_D_look_41 (by decide) (fun h41 => ?_) (fun h41 => ?_)
    · try have g41 := q_e0 h41 (by omega)
      exact absurd (he38.mpr h7.2.2.2.1) (by omega)
    · try have g41 := q_n0 h41
      refine Zv.aload_n hC d_D_look_44 rfl ?_
      refine Zv.getr (q := 45) hC d_D_look_45 fl_D_48 rfl rfl (by decide) (hX.1 _ _ (by decide) (by decide)) ?_
      refine Zv.iload_n hC d_D_look_48 rfl ?_
      refine Zv.aald (q := ((45 + 2 * s_wn σ m 3)) + 1) hC d_D_look_49 rfl (fun _ => rfl) (by decide) (by decide) rfl (by omega) (by decide) hac.2 ?_
      refine Zv.callV0 hC d_D_look_50 ml_D_303 mk_Cm_isEmpty rfl (Nat.le_of_ble_eq_true rfl) hac.1.1 (by have := hac.1.2.2.1; omega) ?_
      refine sp_cisEmptyN hac.1 hX.1 (q6.1.2.2.2.2.2.2.2.2.1 _ h7.2.2.2.1) (fun r50 hr50 he50 => ?_)
      refine Zv.if_ne (tgt := 70) hC d_D_look_53 (by decide) (fun h53 => ?_) (fun h53 => ?_)
      · try have g53 := q_n0 h53
        refine Zv.vret hC rfl d_D_look_70 (Nat.le_refl _) (Nat.le_refl _) ?_
        rw [if_pos (he50.mp g53)] at hel
        exact hK cm I2 P (by rw [hel]; exact q6.1) (frB_of (x_fr_tr q1.2 q6.2))
      · try have g53 := q_e0 h53 (by omega)
        have hne := mt he50.mpr (fun z => z g53)
        have hva := (SI_add (SI_cnt hS (m := m) (v := s_wn σ m 4 + 1) (by omega)) 4 (nI (s_wn σ m 3)) (s_pa σ (s_wn σ m 1))).2.2.2.2.2.1 (s_wn σ m 3) h7.2.2.2.1
        have hva := hva.resolve_left hne
        refine Zv.aload_n hC d_D_look_56 rfl ?_
        refine Zv.aload_n hC d_D_look_57 rfl ?_
        refine Zv.getr (q := 45) hC d_D_look_58 fl_D_48 rfl rfl (by decide) (hX.1 _ _ (by decide) (by decide)) ?_
        refine Zv.iload_n hC d_D_look_61 rfl ?_
        refine Zv.aald (q := ((45 + 2 * s_wn σ m 3)) + 1) hC d_D_look_62 rfl (fun _ => rfl) (by decide) (by decide) rfl (by omega) (by decide) hac.2 ?_
        refine Zv.sipush hC d_D_look_63 sp_257 ?_
        refine Zv.callV2 hC d_D_look_66 ml_D_182 mk_D_carryOut rfl (Nat.le_of_ble_eq_true rfl) rfl (by decide) ?_
        refine sp_carryOut (num := 257) q6.1 (by rw [add_g _ _ _ _ (by decide)]; have := hS.1; show s_g σ 0 < 2 ^ 30; omega) (by rw [add_g _ _ _ _ (by decide)]; exact hS.2.1) hac.1 (q6.1.2.2.2.2.2.2.2.2.1 _ h7.2.2.2.1) hva.1 (so_of (by rw [add_pl]; exact hS.2.2.2.1)) (fun z => absurd z hva.2.1) (fun z => absurd z hva.2.2) (by omega) (fun cm2 J2 Q2 r1 r2 => ?_)
        refine Zv.pop hC d_D_look_69 ?_
        refine Zv.vret hC rfl d_D_look_70 (Nat.le_refl _) (Nat.le_refl _) ?_
        rw [if_neg hne] at hel
        exact hK cm2 J2 Q2 (by rw [hel]; exact r1) (frB_of (x_fr_tr q1.2 (x_fr_tr q6.2 r2)))
  · try have g14 := q_e0 h14 (by omega)
    have hpost : ∃ J, I1 = J ∧ XR (e_look σ m) cm du J P ∧ x_fr du I J := by
      by_cases a : s_wb σ m 0 ≤ s_pa σ (s_wn σ m 1) ∧ s_pa σ (s_wn σ m 1) ≤ s_wb σ m 1
      · rw [el_in hon a, (hs1 a).2]; exact ⟨_, rfl, XR_cnt hX hm 0⟩
      · by_cases b : s_wn σ m 2 ≤ s_wn σ m 4
        · rw [el_sat hon a b, (hs2 a b).2]; exact ⟨_, rfl, hX, x_fr_rf⟩
        · have hne : ¬ s_wn σ m 4 + 1 = s_wn σ m 2 := fun z => absurd ((hs3 a b).1.mpr z) (by omega)
          rw [el_cnt hon a b (by omega), (hs3 a b).2]; exact ⟨_, rfl, XR_cnt hX hm _⟩
    obtain ⟨J, rfl, hp1, hp2⟩ := hpost
    refine Zv.vret hC rfl d_D_look_17 (Nat.le_refl _) (Nat.le_refl _) ?_
    exact hK cm _ P hp1 (frB_of hp2)
