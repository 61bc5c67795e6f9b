theorem sm_first {d : Nat} {tm od : Nat → Nat} {cd : Nat → List Nat} {L D : List Nat} {ca : Nat} {I : Fm} {P : Fr} {K : Option Fs → Fm → Fr → Prop} (hP : x_ref P) (h : m_pln I tm od cd L D ca) (hca : ca < 2 ^ 30) (hK : K (some (.inr (nI (D.headD 6)))) I P) : Fk (d + 1) m_M_entry 77 77 0 0 [rf 57, .inr (nI 1), .inr (nI 0)] I P K := by
  refine sm_entry hP h hca (fun i hi => sl_inD h hi) (by decide) (sl_D h).1 (sl_D h).2.1 (sl_D h).2.2 (fun j hj e => ?_) (fun hn => ?_)
  · have hl6 : D.length ≤ 6 := by
      have := cn_all (sl_D h).1 (sl_D h).2.1
      have h2 := cn_le D (fun _ => true) 6
      omega
    have ej : 0 = j := q_e e (by decide) (by omega)
    subst ej
    cases D with
    | nil => exact absurd hj (Nat.not_lt_zero _)
    | cons a D => exact hK
  · cases D with
    | nil => exact hK
    | cons a D => exact absurd ⟨0, Nat.succ_pos _, rfl⟩ hn
set_option maxRecDepth 100000 in
set_option maxHeartbeats 4000000 in
theorem lm_rpc {G : Fx} {d k : Nat} {c : List Nat} {I : Fm} {P : Fr} {K : Option Fs → Fm → Fr → Prop} (hC : Fc G m_M_runPlan d 0 0) (hP : x_ref P) (hk : k < 6) (hl : c.length ≤ 11) (h3 : I 56 3 = nI c.length) (h59 : ∀ i, i < c.length → I 59 (12 * k + i) = nI (e_at c i)) (hgo : ∀ J : Fm, (∀ a, a ≠ 58 → J a = I a) → (∀ i, i < c.length → J 58 i = nI (e_at c i)) → Zv G (f_R G K 77 0 0) 77 0 0 103 [(0, rf 57), (1, .inr (nI k))] [] J P) : ∀ (f i : Nat) (J : Fm), i + f = c.length + 1 → i ≤ c.length → (∀ a, a ≠ 58 → J a = I a) → (∀ j, j < i → J 58 j = nI (e_at c j)) → Zv G (f_R G K 77 0 0) 77 0 0 72 [(0, rf 57), (1, .inr (nI k)), (2, .inr (nI i))] [] J P := by
  intro f
  induction f with
  | zero => intro i J h1 h2; omega
  | succ f ih =>
    intro i J hif hin hJ1 hJ2
    refine Zv.iload_n hC d_M_runPlan_72 rfl ?_
    refine Zv.aload_n hC d_M_runPlan_73 rfl ?_
    refine Zv.geti hC d_M_runPlan_74 fl_M_91 rfl rfl (by decide) ((congrFun (hJ1 56 (by decide)) 3).trans h3) ?_
    refine Zv.icmp_ge (tgt := 103) hC d_M_runPlan_77 (by decide) (fun h77 => ?_) (fun h77 => ?_)
    · try have g77 := q_le h77 (by omega) (by omega)
      exact Zv.take 2 (hgo J hJ1 (fun j hj => hJ2 j (by omega)))
    · try have g77 := q_nle h77 (by omega) (by omega)
      refine Zv.aload_n hC d_M_runPlan_80 rfl ?_
      refine Zv.getr (q := 59) hC d_M_runPlan_81 fl_M_17 rfl rfl (by decide) (hP _ _ (by decide) (by decide)) ?_
      refine Zv.iload_n hC d_M_runPlan_84 rfl ?_
      refine Zv.aload_n hC d_M_runPlan_85 rfl ?_
      refine Zv.getr (q := 60) hC d_M_runPlan_86 fl_M_20 rfl rfl (by decide) (hP _ _ (by decide) (by decide)) ?_
      refine Zv.bipush hC d_M_runPlan_89 bp_12 ?_
      refine Zv.iload_n hC d_M_runPlan_91 rfl ?_
      first | refine Zv.imulN hC d_M_runPlan_92 ?_ | refine Zv.imul hC d_M_runPlan_92 ?_
      refine Zv.iload_n hC d_M_runPlan_93 rfl ?_
      first | refine Zv.iaddN hC d_M_runPlan_94 ?_ | refine Zv.iadd hC d_M_runPlan_94 ?_
      refine Zv.iald hC d_M_runPlan_95 rfl (by decide) rfl (by omega) (by first | decide | omega) ((congrFun (hJ1 59 (by decide)) _).trans (h59 i g77)) ?_
      refine Zv.iast hC d_M_runPlan_96 rfl (by decide) rfl (by omega) (by first | decide | omega) ?_
      refine Zv.iinc hC d_M_runPlan_97 rfl (by decide) (q_inc _) rfl ?_
      refine Zv.goto (tgt := 72) hC d_M_runPlan_100 (by decide) ?_
      refine ih (i + 1) _ (by omega) (by omega) (fun a h => by rw [f_u_ne h]; exact hJ1 a h) (fun j hj => ?_)
      by_cases e : j = i
      · subst e
        exact f_u_s
      · exact f_uc (by omega) (hJ2 j (by omega))
set_option maxRecDepth 100000 in
set_option maxHeartbeats 4000000 in
theorem lm_rp {G : Fx} {d : Nat} {I : Fm} {P : Fr} {K : Option Fs → Fm → Fr → Prop} (hC : Fc G m_M_runPlan (d + 4) 0 0) (hP : x_ref P) : ∀ (dl : List (Nat × List Nat)) (σ : Sg) (B k : Nat) (J : Fm), MR σ dl B J → SI σ → (∀ e ∈ dl, va2 e.2) → B + dl.length < 2 ^ 30 → mfr I J → (∃ tm od cd L D ca, m_pln J tm od cd L D ca ∧ ca ≤ B ∧ s_pl σ = L.map (fun k => (tm k, cd k)) ∧ dl = D.map (fun k => (tm k, cd k)) ∧ k = D.headD 6) → (∀ I' : Fm, MR (e_carries σ dl) [] (B + dl.length) I' → mfr I I' → K none I' P) → Zv G (f_R G K 77 0 0) 77 0 0 54 [(0, rf 57), (1, .inr (nI k))] [] J P := by
  intro dl
  induction dl with
  | nil =>
    intro σ B k J h hS hva hB hfr hk hK
    obtain ⟨tm, od, cd, L, D, ca, hp, hcaB, hpl, hdl, ek⟩ := hk
    have hD : D = [] := List.map_eq_nil_iff.mp hdl.symm
    subst hD
    have ek : k = 6 := ek
    subst ek
    refine Zv.iload_n hC d_M_runPlan_54 rfl ?_
    refine Zv.bipush hC d_M_runPlan_55 bp_6 ?_
    refine Zv.icmp_ge (tgt := 142) hC d_M_runPlan_57 (by decide) (fun _ => ?_) (fun h => absurd (nI_le (Nat.le_refl _) (by decide)) h)
    refine Zv.vret hC rfl d_M_runPlan_142 (Nat.le_refl _) (Nat.le_refl _) ?_
    exact hK J h hfr
  | cons e0 dl ih =>
    intro σ B k J h hS hva hB hfr hk hK
    obtain ⟨tm, od, cd, L, D0, ca, hp, hcaB, hpl, hdl, ek⟩ := hk
    cases D0 with
    | nil => cases hdl
    | cons k0 D =>
    have ek : k = k0 := ek
    subst ek
    rw [List.map_cons] at hdl
    obtain ⟨e1, e2⟩ := List.cons.inj hdl
    subst e1
    subst e2
    have hk : k < 6 := (sl_D hp).2.1 k List.mem_cons_self
    have hcd := sl_cd hp hk ((sl_inD hp hk).mpr List.mem_cons_self).1
    have hll : (List.length ((tm k, cd k) :: D.map (fun k => (tm k, cd k)))) = (D.map (fun k => (tm k, cd k))).length + 1 := List.length_cons
    have hB1 : B < 2 ^ 30 := by omega
    refine Zv.iload_n hC d_M_runPlan_54 rfl ?_
    refine Zv.bipush hC d_M_runPlan_55 bp_6 ?_
    refine Zv.icmp_ge (tgt := 142) hC d_M_runPlan_57 (by decide) (fun h57 => ?_) (fun h57 => ?_)
    · try have g57 := q_le h57 (by omega) (by omega)
      exact absurd g57 (by omega)
    · try have g57 := q_nle h57 (by omega) (by omega)
      refine Zv.aload_n hC d_M_runPlan_60 rfl ?_
      refine Zv.aload_n hC d_M_runPlan_61 rfl ?_
      refine Zv.getr (q := 61) hC d_M_runPlan_62 fl_M_23 rfl rfl (by decide) (hP _ _ (by decide) (by decide)) ?_
      refine Zv.iload_n hC d_M_runPlan_65 rfl ?_
      refine Zv.iald hC d_M_runPlan_66 rfl (by decide) rfl (by omega) (by first | decide | omega) hcd.1 ?_
      refine Zv.puti hC d_M_runPlan_67 fl_M_91 rfl ck_7 rfl rfl rfl rfl (by decide) ?_
      refine Zv.iconst hC d_M_runPlan_70 ic_0 ?_
      refine Zv.istore_n hC d_M_runPlan_71 (by decide) rfl ?_
      refine lm_rpc (c := cd k) hC hP hk hcd.2.1 f_u_s (fun i hi => f_ur (by decide) (hcd.2.2.1 i hi)) (fun J1 c1 c2 => ?_) ((cd k).length + 1) 0 _ (by omega) (Nat.zero_le _) (fun _ _ => rfl) (fun j hj => absurd hj (Nat.not_lt_zero j))
      refine Zv.aload_n hC d_M_runPlan_103 rfl ?_
      refine Zv.getr (q := 63) hC d_M_runPlan_104 fl_M_29 rfl rfl (by decide) (hP _ _ (by decide) (by decide)) ?_
      refine Zv.iload_n hC d_M_runPlan_107 rfl ?_
      refine Zv.iconst hC d_M_runPlan_108 ic_0 ?_
      refine Zv.iast hC d_M_runPlan_109 rfl (by decide) rfl (by omega) (by first | decide | omega) ?_
      refine Zv.aload_n hC d_M_runPlan_110 rfl ?_
      refine Zv.getr (q := 64) hC d_M_runPlan_111 fl_M_32 rfl rfl (by decide) (hP _ _ (by decide) (by decide)) ?_
      refine Zv.iload_n hC d_M_runPlan_114 rfl ?_
      refine Zv.iconst hC d_M_runPlan_115 ic_0 ?_
      refine Zv.zast hC d_M_runPlan_116 rfl (by decide) rfl (by omega) (by first | decide | omega) rfl ?_
      have hp1 : m_pln (f_u (f_u J1 62 k (nI 0)) 63 k (nI 0)) tm (s_u od k 0) cd L D ca := by
        refine pln_pop hp (f_ur (by decide) f_u_s) (fun j hj => f_ur (by decide) (f_uc hj ?_)) f_u_s (fun j hj => f_uc hj (f_ur (by decide) ?_)) (f_ur (by decide) (f_ur (by decide) ?_)) (fun a h1 h2 => ?_)
        · rw [c1 62 (by decide)]; exact f_ur (by decide) rfl
        · rw [c1 63 (by decide)]; exact f_ur (by decide) rfl
        · rw [c1 56 (by decide)]; exact f_uc (by decide) rfl
        · rw [f_u_ne (by omega), f_u_ne (by omega), c1 a (by omega), f_u_ne (by omega)]
      have hM1 : MR σ (D.map (fun k => (tm k, cd k))) B (f_u (f_u J1 62 k (nI 0)) 63 k (nI 0)) := by
        refine MR_wpl h ⟨_, _, _, _, _, _, hp1, hcaB, hpl, rfl⟩ (fun j hj => f_ur (by decide) (f_ur (by decide) ?_)) (fun a ha => ?_)
        · rw [c1 56 (by decide)]; exact f_uc (by omega) rfl
        · rw [f_u_ne (by omega), f_u_ne (by omega), c1 a (by omega), f_u_ne (by omega)]
      have hw1 : m_w (f_u (f_u J1 62 k (nI 0)) 63 k (nI 0)) (cd k) := ⟨f_ur (by decide) (f_ur (by decide) (by rw [c1 56 (by decide)]; exact f_u_s)), hcd.2.1, fun i hi => f_ur (by decide) (f_ur (by decide) (c2 i hi)), hcd.2.2.2⟩
      have hfr1 : mfr J (f_u (f_u J1 62 k (nI 0)) 63 k (nI 0)) := ⟨fun a ha => by rw [f_u_ne (by omega), f_u_ne (by omega), c1 a (by omega), f_u_ne (by omega)], f_ur (by decide) (f_ur (by decide) (by rw [c1 56 (by decide)]; exact f_uc (by decide) rfl))⟩
      have hve := hva (tm k, cd k) List.mem_cons_self
      refine Zv.aload_n hC d_M_runPlan_117 rfl ?_
      refine Zv.sipush hC d_M_runPlan_118 sp_256 ?_
      refine Zv.callV1 hC d_M_runPlan_121 ml_M_161 mk_M_carry rfl (Nat.le_of_ble_eq_true rfl) rfl (by decide) ?_
      refine sm_carry (num := 256) hP hM1 hS hB1 hw1 hve.1 (fun z => absurd z hve.2.1) (fun J2 q1 q2 => ?_)
      refine Zv.if_ne (tgt := 132) hC d_M_runPlan_124 (by decide) (fun h124 => ?_) (fun h124 => ?_)
      · skip
        refine Zv.aload_n hC d_M_runPlan_132 rfl ?_
        refine Zv.iconst hC d_M_runPlan_133 ic_1 ?_
        refine Zv.iconst hC d_M_runPlan_134 ic_0 ?_
        refine Zv.callV2 hC d_M_runPlan_135 ml_M_168 mk_M_entry rfl (Nat.le_of_ble_eq_true rfl) rfl (by decide) ?_
        obtain ⟨tm2, od2, cd2, L2, D2, ca2, hp2, hcaB2, hpl2, hdl2⟩ := (q1).2.2.2.2.2.2
        refine sm_first hP hp2 (by omega) ?_
        refine Zv.istore_n hC d_M_runPlan_138 (by decide) rfl ?_
        refine Zv.goto (tgt := 54) hC d_M_runPlan_139 (by decide) ?_
        exact ih _ (B + 1) _ _ q1 (SI_carry hS (va23 hve) hcd.2.2.2) (fun e he => hva e (List.mem_cons_of_mem _ he)) (by omega) (mfr_tr (mfr_tr hfr hfr1) q2) ⟨_, _, _, _, _, _, hp2, hcaB2, hpl2, hdl2, rfl⟩ (fun I' r1 r2 => hK I' (by rw [show B + (List.length ((tm k, cd k) :: D.map (fun k => (tm k, cd k)))) = B + 1 + (D.map (fun k => (tm k, cd k))).length by omega]; exact r1) r2)
      · skip
        refine Zv.aload_n hC d_M_runPlan_127 rfl ?_
        refine Zv.iconst hC d_M_runPlan_128 ic_0 ?_
        refine Zv.puti hC d_M_runPlan_129 fl_M_91 rfl ck_7 rfl rfl rfl rfl (by decide) ?_
        refine Zv.aload_n hC d_M_runPlan_132 rfl ?_
        refine Zv.iconst hC d_M_runPlan_133 ic_1 ?_
        refine Zv.iconst hC d_M_runPlan_134 ic_0 ?_
        refine Zv.callV2 hC d_M_runPlan_135 ml_M_168 mk_M_entry rfl (Nat.le_of_ble_eq_true rfl) rfl (by decide) ?_
        obtain ⟨tm2, od2, cd2, L2, D2, ca2, hp2, hcaB2, hpl2, hdl2⟩ := ((MR_kept q1 (fun j h1 h3 => f_uc h3 rfl) (fun a ha => f_u_ne (by omega)) : MR (e_carry σ (cd k) 256).1 _ _ (f_u J2 56 3 (nI 0)))).2.2.2.2.2.2
        refine sm_first hP hp2 (by omega) ?_
        refine Zv.istore_n hC d_M_runPlan_138 (by decide) rfl ?_
        refine Zv.goto (tgt := 54) hC d_M_runPlan_139 (by decide) ?_
        exact ih _ (B + 1) _ _ (MR_kept q1 (fun j h1 h3 => f_uc h3 rfl) (fun a ha => f_u_ne (by omega)) : MR (e_carry σ (cd k) 256).1 _ _ (f_u J2 56 3 (nI 0))) (SI_carry hS (va23 hve) hcd.2.2.2) (fun e he => hva e (List.mem_cons_of_mem _ he)) (by omega) (mfr_tr (mfr_tr hfr hfr1) (mfr_tr q2 (⟨fun a ha => f_u_ne (by omega), f_uc (by decide) rfl⟩ : mfr J2 (f_u J2 56 3 (nI 0))))) ⟨_, _, _, _, _, _, hp2, hcaB2, hpl2, hdl2, rfl⟩ (fun I' r1 r2 => hK I' (by rw [show B + (List.length ((tm k, cd k) :: D.map (fun k => (tm k, cd k)))) = B + 1 + (D.map (fun k => (tm k, cd k))).length by omega]; exact r1) r2)
set_option maxRecDepth 100000 in
set_option maxHeartbeats 4000000 in
theorem lm_mark {G : Fx} {d t : Nat} {tm od : Nat → Nat} {cd : Nat → List Nat} {L D : List Nat} {ca : Nat} {I : Fm} {P : Fr} {K : Option Fs → Fm → Fr → Prop} (hC : Fc G m_M_runPlan d 0 0) (hP : x_ref P) (h : m_pln I tm od cd L D ca) (hca : ca < 2 ^ 30) (ht : t < 2 ^ 30) (h24 : I 56 24 = nI t) (hgo : ∀ J : Fm, (∀ a, a ≠ 63 → J a = I a) → (∀ j, j < 6 → J 63 j = if od j ≠ 0 ∧ tm j ≤ t then nI 1 else nI 0) → Zv G (f_R G K 77 0 0) 77 0 0 47 [(0, rf 57)] [] J P) : ∀ (f i : Nat) (J : Fm), i + f = 7 ∧ i ≤ 6 → (∀ a, a ≠ 63 → J a = I a) → (∀ j, j < i → J 63 j = if od j ≠ 0 ∧ tm j ≤ t then nI 1 else nI 0) → Zv G (f_R G K 77 0 0) 77 0 0 2 [(0, rf 57), (1, .inr (nI i))] [] J P := by
  intro f
  induction f with
  | zero => intro i J h; omega
  | succ f ih =>
    intro i J hi hJ1 hJ2
    refine Zv.iload_n hC d_M_runPlan_2 rfl ?_
    refine Zv.bipush hC d_M_runPlan_3 bp_6 ?_
    refine Zv.icmp_ge (tgt := 47) hC d_M_runPlan_5 (by decide) (fun h5 => ?_) (fun h5 => ?_)
    · try have g5 := q_le h5 (by omega) (by omega)
      have ei : i = 6 := by omega
      subst ei
      exact Zv.take 1 (hgo J hJ1 hJ2)
    · try have g5 := q_nle h5 (by omega) (by omega)
      have hb2 := sl_bd h g5
      refine Zv.aload_n hC d_M_runPlan_8 rfl ?_
      refine Zv.getr (q := 64) hC d_M_runPlan_9 fl_M_32 rfl rfl (by decide) (hP _ _ (by decide) (by decide)) ?_
      refine Zv.iload_n hC d_M_runPlan_12 rfl ?_
      refine Zv.aload_n hC d_M_runPlan_13 rfl ?_
      refine Zv.getr (q := 63) hC d_M_runPlan_14 fl_M_29 rfl rfl (by decide) (hP _ _ (by decide) (by decide)) ?_
      refine Zv.iload_n hC d_M_runPlan_17 rfl ?_
      refine Zv.iald hC d_M_runPlan_18 rfl (by decide) rfl (by omega) (by first | decide | omega) ((congrFun (hJ1 62 (by decide)) i).trans (sl_od h g5)) ?_
      refine Zv.if_eq (tgt := 39) hC d_M_runPlan_19 (by decide) (fun h19 => ?_) (fun h19 => ?_)
      · try have g19 := q_e0 h19 (by omega)
        refine Zv.iconst hC d_M_runPlan_39 ic_0 ?_
        refine Zv.zast hC d_M_runPlan_40 rfl (by decide) rfl (by omega) (by first | decide | omega) rfl ?_
        refine Zv.iinc hC d_M_runPlan_41 rfl (by decide) (q_inc _) rfl ?_
        refine Zv.goto (tgt := 2) hC d_M_runPlan_44 (by decide) ?_
        refine ih (i + 1) _ (by omega) (fun a h => by rw [f_u_ne h]; exact hJ1 a h) (fun j hj => ?_)
        by_cases e : j = i
        · subst e
          rw [f_u_s, if_neg (fun z => z.1 g19)]
        · exact f_uc e (hJ2 j (by omega))
      · try have g19 := q_n0 h19
        refine Zv.aload_n hC d_M_runPlan_22 rfl ?_
        refine Zv.getr (q := 62) hC d_M_runPlan_23 fl_M_26 rfl rfl (by decide) (hP _ _ (by decide) (by decide)) ?_
        refine Zv.iload_n hC d_M_runPlan_26 rfl ?_
        refine Zv.iald hC d_M_runPlan_27 rfl (by decide) rfl (by omega) (by first | decide | omega) ((congrFun (hJ1 61 (by decide)) i).trans (sl_tm h g5)) ?_
        refine Zv.aload_n hC d_M_runPlan_28 rfl ?_
        refine Zv.geti hC d_M_runPlan_29 fl_M_84 rfl rfl (by decide) ((congrFun (hJ1 56 (by decide)) 24).trans h24) ?_
        refine Zv.icmp_gt (tgt := 39) hC d_M_runPlan_32 (by decide) (fun h32 => ?_) (fun h32 => ?_)
        · try have g32 := q_l h32 (by omega) (by omega)
          refine Zv.iconst hC d_M_runPlan_39 ic_0 ?_
          refine Zv.zast hC d_M_runPlan_40 rfl (by decide) rfl (by omega) (by first | decide | omega) rfl ?_
          refine Zv.iinc hC d_M_runPlan_41 rfl (by decide) (q_inc _) rfl ?_
          refine Zv.goto (tgt := 2) hC d_M_runPlan_44 (by decide) ?_
          refine ih (i + 1) _ (by omega) (fun a h => by rw [f_u_ne h]; exact hJ1 a h) (fun j hj => ?_)
          by_cases e : j = i
          · subst e
            rw [f_u_s, if_neg (fun z => absurd z.2 (by omega))]
          · exact f_uc e (hJ2 j (by omega))
        · try have g32 := q_nl h32 (by omega) (by omega)
          refine Zv.iconst hC d_M_runPlan_35 ic_1 ?_
          refine Zv.goto (tgt := 40) hC d_M_runPlan_36 (by decide) ?_
          refine Zv.zast hC d_M_runPlan_40 rfl (by decide) rfl (by omega) (by first | decide | omega) rfl ?_
          refine Zv.iinc hC d_M_runPlan_41 rfl (by decide) (q_inc _) rfl ?_
          refine Zv.goto (tgt := 2) hC d_M_runPlan_44 (by decide) ?_
          refine ih (i + 1) _ (by omega) (fun a h => by rw [f_u_ne h]; exact hJ1 a h) (fun j hj => ?_)
          by_cases e : j = i
          · subst e
            rw [f_u_s, if_pos ⟨g19, g32⟩]
          · exact f_uc e (hJ2 j (by omega))
set_option maxRecDepth 100000 in
set_option maxHeartbeats 4000000 in
theorem sm_runPlan {d : Nat} {σ : Sg} {B : Nat} {I : Fm} {P : Fr} {K : Option Fs → Fm → Fr → Prop} (hP : x_ref P) (h : MR σ [] B I) (hS : SI σ) (hB : B + 6 < 2 ^ 30) (hK : ∀ I' : Fm, MR (e_carries (w_pl σ ((s_pl σ).dropWhile (fun e => decide (e.1 ≤ s_g σ 0)))) ((s_pl σ).takeWhile (fun e => decide (e.1 ≤ s_g σ 0)))) [] (B + 6) I' → mfr I I' → K none I' P) : Fk (d + 4) m_M_runPlan 77 77 0 0 [rf 57] I P K := by
  obtain ⟨tm, od, cd, L, D, ca, hp, hcaB, hpl, hdl⟩ := h.2.2.2.2.2.2
  have hD : D = [] := List.map_eq_nil_iff.mp hdl.symm
  subst hD
  refine Fk.intro (by decide +kernel) (Nat.le_of_ble_eq_true rfl) (fun G hC => ?_)
  refine Zv.iconst hC d_M_runPlan_0 ic_0 ?_
  refine Zv.istore_n hC d_M_runPlan_1 (by decide) rfl ?_
  refine lm_mark (t := s_g σ 0) hC hP hp (by omega) (by have := hS.1; omega) h.1.1 (fun J c1 c2 => ?_) 7 0 I (by omega) (fun _ _ => rfl) (fun j hj => absurd hj (Nat.not_lt_zero j))
  refine Zv.aload_n hC d_M_runPlan_47 rfl ?_
  refine Zv.iconst hC d_M_runPlan_48 ic_1 ?_
  refine Zv.iconst hC d_M_runPlan_49 ic_0 ?_
  refine Zv.callV2 hC d_M_runPlan_50 ml_M_168 mk_M_entry rfl (Nat.le_of_ble_eq_true rfl) rfl (by decide) ?_
  have hp1 := pln_due hp c2 (by rw [c1 56 (by decide)]) (fun a h1 _ _ => c1 a h1)
  refine sm_first hP hp1 (by omega) ?_
  refine Zv.istore_n hC d_M_runPlan_53 (by decide) rfl ?_
  obtain ⟨t1, t2⟩ := tw_f (t := s_g σ 0) hS.2.2.2.1
  have e1 : ((s_pl σ).takeWhile (fun e => decide (e.1 ≤ s_g σ 0))) = (L.filter (fun j => decide (tm j ≤ s_g σ 0))).map (fun k => (tm k, cd k)) := by rw [t1, hpl, List.filter_map]; rfl
  have e2 : ((s_pl σ).dropWhile (fun e => decide (e.1 ≤ s_g σ 0))) = (L.filter (fun j => !decide (tm j ≤ s_g σ 0))).map (fun k => (tm k, cd k)) := by rw [t2, hpl, List.filter_map]; rfl
  have hl6 : ((s_pl σ).takeWhile (fun e => decide (e.1 ≤ s_g σ 0))).length ≤ 6 := by
    rw [e1, List.length_map]
    have a1 := List.length_filter_le (fun j => decide (tm j ≤ s_g σ 0)) L
    have a2 := (sl_L hp).2.2.2
    omega
  have hM : MR (w_pl σ ((s_pl σ).dropWhile (fun e => decide (e.1 ≤ s_g σ 0)))) ((s_pl σ).takeWhile (fun e => decide (e.1 ≤ s_g σ 0))) B J := MR_wpl h ⟨_, _, _, _, _, _, hp1, hcaB, e2, e1⟩ (fun j _ => by rw [c1 56 (by decide)]) (fun a ha => c1 a (by omega))
  have hS1 : SI (w_pl σ ((s_pl σ).dropWhile (fun e => decide (e.1 ≤ s_g σ 0)))) := ⟨hS.1, hS.2.1, hS.2.2.1, List.Pairwise.sublist (List.dropWhile_sublist _) hS.2.2.2.1, fun e he => hS.2.2.2.2.1 e ((List.dropWhile_sublist _).subset he), hS.2.2.2.2.2⟩
  exact lm_rp (I := I) hC hP _ _ B _ J hM hS1 (fun e he => (hS.2.2.2.2.1 e ((List.takeWhile_sublist _).subset he)).1) (by omega) ⟨fun a ha => c1 a (by omega), by rw [c1 56 (by decide)]⟩ ⟨_, _, _, _, _, _, hp1, hcaB, e2, e1, rfl⟩ (fun I' r1 r2 => hK I' (MR_le r1 (by omega)) r2)
