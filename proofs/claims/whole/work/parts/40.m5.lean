theorem shift_mapD {tm : Nat → Nat} {cd : Nat → List Nat} {z : Int} {L D : List Nat} (h : (L ++ D).Nodup) : D.map (fun k => (tm k, cd k)) = D.map (fun k => ((fun j => if j ∈ L then ((tm j : Int) + z).toNat else tm j) k, cd k)) :=
  List.map_congr_left (fun a ha => by simp only [if_neg (fun q => (List.nodup_append.mp h).2.2 a q a ha rfl)])
set_option maxRecDepth 100000 in
set_option maxHeartbeats 4000000 in
theorem sm_setWatch {d m : Nat} {c : List Nat} {I : Fm} {P : Fr} {K : Option Fs → Fm → Fr → Prop} (hP : x_ref P) (hc : m_w I c) (hl : c.length = 7) (hm : m < 4) (hK : K none (f_u (f_u (f_u (f_u (f_u (f_u (f_u I 66 m (nI 1)) 67 m (nI (e_at c 2))) 68 m (e_sgn (e_at c 3))) 69 m (e_sgn (e_at c 4))) 70 m (nI (e_at c 5))) 71 m (nI (e_at c 6))) 72 m (nI 0)) P) : Fk (d + 1) m_M_setWatch 77 77 0 0 [rf 57, .inr (nI m)] I P K := by
  have hb := e_at_lt hc.2.2.2
  refine Fk.intro (by decide +kernel) (Nat.le_of_ble_eq_true rfl) (fun G hC => ?_)
  refine Zv.aload_n hC d_M_setWatch_0 rfl ?_
  refine Zv.getr (q := 67) hC d_M_setWatch_1 fl_M_42 rfl rfl (by decide) (hP _ _ (by decide) (by decide)) ?_
  refine Zv.iload_n hC d_M_setWatch_4 rfl ?_
  refine Zv.iconst hC d_M_setWatch_5 ic_1 ?_
  refine Zv.zast hC d_M_setWatch_6 rfl (by decide) rfl (by omega) (by first | decide | omega) rfl ?_
  refine Zv.aload_n hC d_M_setWatch_7 rfl ?_
  refine Zv.getr (q := 68) hC d_M_setWatch_8 fl_M_45 rfl rfl (by decide) (hP _ _ (by decide) (by decide)) ?_
  refine Zv.iload_n hC d_M_setWatch_11 rfl ?_
  refine Zv.aload_n hC d_M_setWatch_12 rfl ?_
  refine Zv.getr (q := 59) hC d_M_setWatch_13 fl_M_17 rfl rfl (by decide) (hP _ _ (by decide) (by decide)) ?_
  refine Zv.iconst hC d_M_setWatch_16 ic_2 ?_
  refine Zv.iald hC d_M_setWatch_17 rfl (by decide) rfl (by omega) (by first | decide | omega) (f_ur (by decide) (hc.2.2.1 2 (by omega))) ?_
  refine Zv.iast hC d_M_setWatch_18 rfl (by decide) rfl (by omega) (by first | decide | omega) ?_
  refine Zv.aload_n hC d_M_setWatch_19 rfl ?_
  refine Zv.getr (q := 69) hC d_M_setWatch_20 fl_M_48 rfl rfl (by decide) (hP _ _ (by decide) (by decide)) ?_
  refine Zv.iload_n hC d_M_setWatch_23 rfl ?_
  refine Zv.aload_n hC d_M_setWatch_24 rfl ?_
  refine Zv.getr (q := 59) hC d_M_setWatch_25 fl_M_17 rfl rfl (by decide) (hP _ _ (by decide) (by decide)) ?_
  refine Zv.iconst hC d_M_setWatch_28 ic_3 ?_
  refine Zv.iald hC d_M_setWatch_29 rfl (by decide) rfl (by omega) (by first | decide | omega) (f_ur (by decide) (f_ur (by decide) (hc.2.2.1 3 (by omega)))) ?_
  refine Zv.callS1 hC d_M_setWatch_30 ml_M_87 mk_M_signed (Nat.le_of_ble_eq_true rfl) ?_
  refine sm_signed rfl (hb _) ?_
  refine Zv.iast hC d_M_setWatch_33 rfl (by decide) rfl (by omega) (by first | decide | omega) ?_
  refine Zv.aload_n hC d_M_setWatch_34 rfl ?_
  refine Zv.getr (q := 70) hC d_M_setWatch_35 fl_M_51 rfl rfl (by decide) (hP _ _ (by decide) (by decide)) ?_
  refine Zv.iload_n hC d_M_setWatch_38 rfl ?_
  refine Zv.aload_n hC d_M_setWatch_39 rfl ?_
  refine Zv.getr (q := 59) hC d_M_setWatch_40 fl_M_17 rfl rfl (by decide) (hP _ _ (by decide) (by decide)) ?_
  refine Zv.iconst hC d_M_setWatch_43 ic_4 ?_
  refine Zv.iald hC d_M_setWatch_44 rfl (by decide) rfl (by omega) (by first | decide | omega) (f_ur (by decide) (f_ur (by decide) (f_ur (by decide) (hc.2.2.1 4 (by omega))))) ?_
  refine Zv.callS1 hC d_M_setWatch_45 ml_M_87 mk_M_signed (Nat.le_of_ble_eq_true rfl) ?_
  refine sm_signed rfl (hb _) ?_
  refine Zv.iast hC d_M_setWatch_48 rfl (by decide) rfl (by omega) (by first | decide | omega) ?_
  refine Zv.aload_n hC d_M_setWatch_49 rfl ?_
  refine Zv.getr (q := 71) hC d_M_setWatch_50 fl_M_54 rfl rfl (by decide) (hP _ _ (by decide) (by decide)) ?_
  refine Zv.iload_n hC d_M_setWatch_53 rfl ?_
  refine Zv.aload_n hC d_M_setWatch_54 rfl ?_
  refine Zv.getr (q := 59) hC d_M_setWatch_55 fl_M_17 rfl rfl (by decide) (hP _ _ (by decide) (by decide)) ?_
  refine Zv.iconst hC d_M_setWatch_58 ic_5 ?_
  refine Zv.iald hC d_M_setWatch_59 rfl (by decide) rfl (by omega) (by first | decide | omega) (f_ur (by decide) (f_ur (by decide) (f_ur (by decide) (f_ur (by decide) (hc.2.2.1 5 (by omega)))))) ?_
  refine Zv.iast hC d_M_setWatch_60 rfl (by decide) rfl (by omega) (by first | decide | omega) ?_
  refine Zv.aload_n hC d_M_setWatch_61 rfl ?_
  refine Zv.getr (q := 72) hC d_M_setWatch_62 fl_M_57 rfl rfl (by decide) (hP _ _ (by decide) (by decide)) ?_
  refine Zv.iload_n hC d_M_setWatch_65 rfl ?_
  refine Zv.aload_n hC d_M_setWatch_66 rfl ?_
  refine Zv.getr (q := 59) hC d_M_setWatch_67 fl_M_17 rfl rfl (by decide) (hP _ _ (by decide) (by decide)) ?_
  refine Zv.bipush hC d_M_setWatch_70 bp_6 ?_
  refine Zv.iald hC d_M_setWatch_72 rfl (by decide) rfl (by omega) (by first | decide | omega) (f_ur (by decide) (f_ur (by decide) (f_ur (by decide) (f_ur (by decide) (f_ur (by decide) (hc.2.2.1 6 (by omega))))))) ?_
  refine Zv.iast hC d_M_setWatch_73 rfl (by decide) rfl (by omega) (by first | decide | omega) ?_
  refine Zv.aload_n hC d_M_setWatch_74 rfl ?_
  refine Zv.getr (q := 73) hC d_M_setWatch_75 fl_M_60 rfl rfl (by decide) (hP _ _ (by decide) (by decide)) ?_
  refine Zv.iload_n hC d_M_setWatch_78 rfl ?_
  refine Zv.iconst hC d_M_setWatch_79 ic_0 ?_
  refine Zv.iast hC d_M_setWatch_80 rfl (by decide) rfl (by omega) (by first | decide | omega) ?_
  refine Zv.vret hC rfl d_M_setWatch_81 (Nat.le_refl _) (Nat.le_refl _) ?_
  exact hK
set_option maxRecDepth 100000 in
set_option maxHeartbeats 4000000 in
theorem lm_setAction {G : Fx} {d k : Nat} {c : List Nat} {I : Fm} {P : Fr} {K : Option Fs → Fm → Fr → Prop} (hC : Fc G m_M_setAction d 0 0) (hP : x_ref P) (hk : k < 4) (hl : 3 ≤ c.length ∧ c.length ≤ 11) (h3 : I 56 3 = nI c.length) (h58 : ∀ i, i < c.length → I 58 i = nI (e_at c i)) (hK : ∀ J : Fm, (∀ a, a ≠ 64 → J a = I a) → (∀ j, 2 ≤ j → j < c.length → J 64 (12 * k + j - 2) = nI (e_at c j)) → (∀ q, q < 12 * k ∨ 12 * k + 12 ≤ q → J 64 q = I 64 q) → K none J P) : ∀ (f i : Nat) (J : Fm), i + f = c.length + 1 → 2 ≤ i → i ≤ c.length → (∀ a, a ≠ 64 → J a = I a) → (∀ j, j < i → 2 ≤ j → J 64 (12 * k + j - 2) = nI (e_at c j)) → (∀ q, q < 12 * k ∨ 12 * k + 12 ≤ q → J 64 q = I 64 q) → Zv G (f_R G K 77 0 0) 77 0 0 14 [(0, rf 57), (1, .inr (nI k)), (2, .inr (nI i))] [] J P := by
  intro f
  induction f with
  | zero => intro i J h1 h2 h3; omega
  | succ f ih =>
    intro i J hif hi3 hin hJ1 hJ2 hJ3
    refine Zv.iload_n hC d_M_setAction_14 rfl ?_
    refine Zv.aload_n hC d_M_setAction_15 rfl ?_
    refine Zv.geti hC d_M_setAction_16 fl_M_91 rfl rfl (by decide) ((congrFun (hJ1 56 (by decide)) 3).trans h3) ?_
    refine Zv.icmp_ge (tgt := 47) hC d_M_setAction_19 (by decide) (fun h19 => ?_) (fun h19 => ?_)
    · try have g19 := q_le h19 (by omega) (by omega)
      refine Zv.vret hC rfl d_M_setAction_47 (Nat.le_refl _) (Nat.le_refl _) ?_
      exact hK J hJ1 (fun j h1 h2 => hJ2 j (by omega) h1) hJ3
    · try have g19 := q_nle h19 (by omega) (by omega)
      refine Zv.aload_n hC d_M_setAction_22 rfl ?_
      refine Zv.getr (q := 65) hC d_M_setAction_23 fl_M_36 rfl rfl (by decide) (hP _ _ (by decide) (by decide)) ?_
      refine Zv.bipush hC d_M_setAction_26 bp_12 ?_
      refine Zv.iload_n hC d_M_setAction_28 rfl ?_
      first | refine Zv.imulN hC d_M_setAction_29 ?_ | refine Zv.imul hC d_M_setAction_29 ?_
      refine Zv.iload_n hC d_M_setAction_30 rfl ?_
      first | refine Zv.iaddN hC d_M_setAction_31 ?_ | refine Zv.iadd hC d_M_setAction_31 ?_
      refine Zv.iconst hC d_M_setAction_32 ic_2 ?_
      refine Zv.isubN hC d_M_setAction_33 (by omega) ?_
      refine Zv.aload_n hC d_M_setAction_34 rfl ?_
      refine Zv.getr (q := 59) hC d_M_setAction_35 fl_M_17 rfl rfl (by decide) (hP _ _ (by decide) (by decide)) ?_
      refine Zv.iload_n hC d_M_setAction_38 rfl ?_
      refine Zv.iald hC d_M_setAction_39 rfl (by decide) rfl (by omega) (by first | decide | omega) ((congrFun (hJ1 58 (by decide)) i).trans (h58 i g19)) ?_
      refine Zv.iast hC d_M_setAction_40 rfl (by decide) rfl (by omega) (by first | decide | omega) ?_
      refine Zv.iinc hC d_M_setAction_41 rfl (by decide) (q_inc _) rfl ?_
      refine Zv.goto (tgt := 14) hC d_M_setAction_44 (by decide) ?_
      refine ih (i + 1) _ (by omega) (by omega) (by omega) (fun a h => by rw [f_u_ne h]; exact hJ1 a h) (fun j hj hj2 => ?_) (fun q hq => f_uc (by omega) (hJ3 q hq))
      by_cases e : j = i
      · subst e
        exact f_u_s
      · exact f_uc (by omega) (hJ2 j (by omega) hj2)
set_option maxRecDepth 100000 in
set_option maxHeartbeats 4000000 in
theorem sm_setAction {d m : Nat} {c : List Nat} {I : Fm} {P : Fr} {K : Option Fs → Fm → Fr → Prop} (hP : x_ref P) (hc : m_w I c) (hl : 3 ≤ c.length) (hm : m < 4) (hK : ∀ I' : Fm, I' 65 m = nI (c.drop 2).length → (∀ j, j ≠ m → I' 65 j = I 65 j) → (∀ i, i < (c.drop 2).length → I' 64 (12 * m + i) = nI (e_at (c.drop 2) i)) → (∀ q, q < 12 * m ∨ 12 * m + 12 ≤ q → I' 64 q = I 64 q) → (∀ a, a ≠ 64 → a ≠ 65 → I' a = I a) → K none I' P) : Fk d m_M_setAction 77 77 0 0 [rf 57, .inr (nI m)] I P K := by
  have hcl := hc.2.1
  refine Fk.intro (by decide +kernel) (Nat.le_of_ble_eq_true rfl) (fun G hC => ?_)
  refine Zv.aload_n hC d_M_setAction_0 rfl ?_
  refine Zv.getr (q := 66) hC d_M_setAction_1 fl_M_39 rfl rfl (by decide) (hP _ _ (by decide) (by decide)) ?_
  refine Zv.iload_n hC d_M_setAction_4 rfl ?_
  refine Zv.aload_n hC d_M_setAction_5 rfl ?_
  refine Zv.geti hC d_M_setAction_6 fl_M_91 rfl rfl (by decide) hc.1 ?_
  refine Zv.iconst hC d_M_setAction_9 ic_2 ?_
  refine Zv.isubN hC d_M_setAction_10 (by omega) ?_
  refine Zv.iast hC d_M_setAction_11 rfl (by decide) rfl (by omega) (by first | decide | omega) ?_
  refine Zv.iconst hC d_M_setAction_12 ic_2 ?_
  refine Zv.istore_n hC d_M_setAction_13 (by decide) rfl ?_
  refine lm_setAction hC hP hm (by omega) (f_ur (by decide) hc.1) (fun i hi => f_ur (by decide) (hc.2.2.1 i hi)) (fun J c1 c2 c3 => ?_) (c.length - 1) 2 _ (by omega) (by omega) (by omega) (fun _ _ => rfl) (fun j hj h3 => absurd hj (by omega)) (fun _ _ => rfl)
  refine hK J (by rw [c1 65 (by decide), List.length_drop]; exact f_u_s) (fun j hj => by rw [c1 65 (by decide)]; exact f_uc hj rfl) (fun i hi => ?_) (fun q hq => (c3 q hq).trans (f_ur (by decide) rfl)) (fun a h1 h2 => by rw [c1 a h1, f_u_ne h2])
  rw [List.length_drop] at hi
  have := c2 (i + 2) (by omega) (by omega)
  rw [show 12 * m + (i + 2) - 2 = 12 * m + i by omega] at this
  rw [this, e_at_drop, Nat.add_comm]
set_option maxRecDepth 100000 in
set_option maxHeartbeats 4000000 in
theorem lm_ping {G : Fx} {d num : Nat} {pa : Nat → Int32} {I : Fm} {P : Fr} {K : Option Fs → Fm → Fr → Prop} (hC : Fc G m_M_work d 0 0) (hP : x_ref P) (hp : ∀ p, p < 8 → I 75 p = pa p) (hgo : Zv G (f_R G K 77 0 0) 77 0 0 88 [(0, rf 57), (1, .inr (nI num)), (2, .inr (nI (e_nz pa 8)))] [] I P) : ∀ (f i : Nat), i + f = 9 ∧ i ≤ 8 → Zv G (f_R G K 77 0 0) 77 0 0 64 [(0, rf 57), (1, .inr (nI num)), (2, .inr (nI (e_nz pa i))), (3, .inr (nI i))] [] I P := by
  intro f
  induction f with
  | zero => intro i h; omega
  | succ f ih =>
    intro i hi
    refine Zv.iload_n hC d_M_work_64 rfl ?_
    refine Zv.bipush hC d_M_work_65 bp_8 ?_
    refine Zv.icmp_ge (tgt := 88) hC d_M_work_67 (by decide) (fun h67 => ?_) (fun h67 => ?_)
    · try have g67 := q_le h67 (by omega) (by omega)
      have ei : i = 8 := by omega
      subst ei
      exact Zv.take 3 hgo
    · try have g67 := q_nle h67 (by omega) (by omega)
      refine Zv.aload_n hC d_M_work_70 rfl ?_
      refine Zv.getr (q := 76) hC d_M_work_71 fl_M_69 rfl rfl (by decide) (hP _ _ (by decide) (by decide)) ?_
      refine Zv.iload_n hC d_M_work_74 rfl ?_
      refine Zv.iald hC d_M_work_75 rfl (by decide) rfl (by omega) (by first | decide | omega) (hp i g67) ?_
      refine Zv.if_eq (tgt := 82) hC d_M_work_76 (by decide) (fun h76 => ?_) (fun h76 => ?_)
      · skip
        refine Zv.iinc hC d_M_work_82 rfl (by decide) (q_inc _) rfl ?_
        refine Zv.goto (tgt := 64) hC d_M_work_85 (by decide) ?_
        have := ih (i + 1) (by omega)
        rw [e_nz, if_pos h76, Nat.add_zero] at this
        exact this
      · skip
        refine Zv.iinc hC d_M_work_79 rfl (by decide) (q_inc _) rfl ?_
        refine Zv.iinc hC d_M_work_82 rfl (by decide) (q_inc _) rfl ?_
        refine Zv.goto (tgt := 64) hC d_M_work_85 (by decide) ?_
        have := ih (i + 1) (by omega)
        rw [e_nz, if_neg h76] at this
        exact this
set_option maxRecDepth 100000 in
set_option maxHeartbeats 4000000 in
theorem lm_wshift {G : Fx} {d b num : Nat} {tm od : Nat → Nat} {cd : Nat → List Nat} {L D : List Nat} {ca : Nat} {I : Fm} {P : Fr} {K : Option Fs → Fm → Fr → Prop} (hC : Fc G m_M_work (d + 1) 0 0) (hP : x_ref P) (h : m_pln I tm od cd L D ca) (hca : ca < 2 ^ 30) (hb : b < 256) (h58 : I 58 1 = nI b) (hz : ∀ j ∈ L, 0 ≤ (tm j : Int) + e_sgz b ∧ (tm j : Int) + e_sgz b ≤ 65535) (hK : ∀ J : Fm, (∀ a, a ≠ 61 → J a = I a) → (∀ j, j < 6 → J 61 j = if j ∈ L then nI ((tm j : Int) + e_sgz b).toNat else I 61 j) → K none J P) : ∀ (f i : Nat) (J : Fm), i + f = 7 ∧ i ≤ 6 → (∀ a, a ≠ 61 → J a = I a) → (∀ j, J 61 j = if j < i ∧ j ∈ L then nI ((tm j : Int) + e_sgz b).toNat else I 61 j) → Zv G (f_R G K 77 0 0) 77 0 0 143 [(0, rf 57), (1, .inr (nI num)), (3, .inr (nI i))] [] J P := by
  intro f
  induction f with
  | zero => intro i J h; omega
  | succ f ih =>
    intro i J hi hJ1 hJ2
    refine Zv.iload_n hC d_M_work_143 rfl ?_
    refine Zv.bipush hC d_M_work_144 bp_6 ?_
    refine Zv.icmp_ge (tgt := 191) hC d_M_work_146 (by decide) (fun h146 => ?_) (fun h146 => ?_)
    · try have g146 := q_le h146 (by omega) (by omega)
      have ei : i = 6 := by omega
      subst ei
      refine Zv.goto (tgt := 318) hC d_M_work_191 (by decide) ?_
      refine Zv.vret hC rfl d_M_work_318 (Nat.le_refl _) (Nat.le_refl _) ?_
      exact hK J hJ1 (fun j hj => (hJ2 j).trans (by by_cases e : j ∈ L <;> simp [e, hj]))
    · try have g146 := q_nle h146 (by omega) (by omega)
      have hb2 := sl_bd h g146
      have hd2 := dq_2 D i
      refine Zv.aload_n hC d_M_work_149 rfl ?_
      refine Zv.getr (q := 63) hC d_M_work_150 fl_M_29 rfl rfl (by decide) (hP _ _ (by decide) (by decide)) ?_
      refine Zv.iload_n hC d_M_work_153 rfl ?_
      refine Zv.iald hC d_M_work_154 rfl (by decide) rfl (by omega) (by first | decide | omega) ((congrFun (hJ1 62 (by decide)) i).trans (sl_od h g146)) ?_
      refine Zv.if_eq (tgt := 185) hC d_M_work_155 (by decide) (fun h155 => ?_) (fun h155 => ?_)
      · try have g155 := q_e0 h155 (by omega)
        refine Zv.iinc hC d_M_work_185 rfl (by decide) (q_inc _) rfl ?_
        refine Zv.goto (tgt := 143) hC d_M_work_188 (by decide) ?_
        refine ih (i + 1) J (by omega) hJ1 (fun j => ?_)
        by_cases e : j = i
        · subst e
          rw [hJ2 j, if_neg (by omega), if_neg (fun z => absurd ((sl_inL h g146).mpr z.2).1 (by omega))]
        · rw [hJ2 j]
          by_cases e2 : j < i ∧ j ∈ L
          · rw [if_pos e2, if_pos ⟨by omega, e2.2⟩]
          · rw [if_neg e2, if_neg (fun z => e2 ⟨by omega, z.2⟩)]
      · try have g155 := q_n0 h155
        refine Zv.aload_n hC d_M_work_158 rfl ?_
        refine Zv.getr (q := 64) hC d_M_work_159 fl_M_32 rfl rfl (by decide) (hP _ _ (by decide) (by decide)) ?_
        refine Zv.iload_n hC d_M_work_162 rfl ?_
        refine Zv.zald hC d_M_work_163 rfl (by decide) rfl (by omega) (by first | decide | omega) ((congrFun (hJ1 63 (by decide)) i).trans (sl_du h g146)) ?_
        refine Zv.if_ne (tgt := 185) hC d_M_work_164 (by decide) (fun h164 => ?_) (fun h164 => ?_)
        · try have g164 := q_n0 h164
          refine Zv.iinc hC d_M_work_185 rfl (by decide) (q_inc _) rfl ?_
          refine Zv.goto (tgt := 143) hC d_M_work_188 (by decide) ?_
          refine ih (i + 1) J (by omega) hJ1 (fun j => ?_)
          by_cases e : j = i
          · subst e
            rw [hJ2 j, if_neg (by omega), if_neg (fun z => absurd ((sl_inL h g146).mpr z.2).2 (by omega))]
          · rw [hJ2 j]
            by_cases e2 : j < i ∧ j ∈ L
            · rw [if_pos e2, if_pos ⟨by omega, e2.2⟩]
            · rw [if_neg e2, if_neg (fun z => e2 ⟨by omega, z.2⟩)]
        · try have g164 := q_e0 h164 (by omega)
          refine Zv.aload_n hC d_M_work_167 rfl ?_
          refine Zv.getr (q := 62) hC d_M_work_168 fl_M_26 rfl rfl (by decide) (hP _ _ (by decide) (by decide)) ?_
          refine Zv.iload_n hC d_M_work_171 rfl ?_
          refine Zv.dup2 hC d_M_work_172 ?_
          refine Zv.iald hC d_M_work_173 rfl (by decide) rfl (by omega) (by first | decide | omega) ((hJ2 i).trans ((if_neg (by omega)).trans (sl_tm h g146))) ?_
          refine Zv.aload_n hC d_M_work_174 rfl ?_
          refine Zv.getr (q := 59) hC d_M_work_175 fl_M_17 rfl rfl (by decide) (hP _ _ (by decide) (by decide)) ?_
          refine Zv.iconst hC d_M_work_178 ic_1 ?_
          refine Zv.iald hC d_M_work_179 rfl (by decide) rfl (by omega) (by first | decide | omega) ((congrFun (hJ1 58 (by decide)) 1).trans h58) ?_
          refine Zv.callS1 hC d_M_work_180 ml_M_87 mk_M_signed (Nat.le_of_ble_eq_true rfl) ?_
          refine sm_signed rfl hb ?_
          refine Zv.iadd hC d_M_work_183 ?_
          have hiL := (sl_inL h g146).mp ⟨g155, g164⟩
          refine Zv.top (sgn_addN hb2.1 hb (hz i hiL).1) ?_
          refine Zv.iast hC d_M_work_184 rfl (by decide) rfl (by omega) (by first | decide | omega) ?_
          refine Zv.iinc hC d_M_work_185 rfl (by decide) (q_inc _) rfl ?_
          refine Zv.goto (tgt := 143) hC d_M_work_188 (by decide) ?_
          refine ih (i + 1) _ (by omega) (fun a h => by rw [f_u_ne h]; exact hJ1 a h) (fun j => ?_)
          by_cases e : j = i
          · subst e
            rw [f_u_s, if_pos ⟨by omega, hiL⟩]
          · rw [f_uc e (hJ2 j)]
            by_cases e2 : j < i ∧ j ∈ L
            · rw [if_pos e2, if_pos ⟨by omega, e2.2⟩]
            · rw [if_neg e2, if_neg (fun z => e2 ⟨by omega, z.2⟩)]
set_option maxRecDepth 100000 in
set_option maxHeartbeats 4000000 in
theorem sm_work {d num : Nat} {σ : Sg} {dl : List (Nat × List Nat)} {B : Nat} {c : List Nat} {I : Fm} {P : Fr} {K : Option Fs → Fm → Fr → Prop} (hP : x_ref P) (h : MR σ dl B I) (hB : B < 2 ^ 30) (hc : m_w I c) (hv : e_one c = 0) (hr : e_ref σ c = 0) (hd3 : e_at c 0 = 3 → dl = []) (hK : ∀ I' : Fm, MR (e_perf (if e_at c 0 = 1 then e_add σ 3 (nI num) (nI (e_nz (s_pa σ) 8)) else σ) c) dl (B + 1) I' → mfr I I' → K none I' P) : Fk (d + 2) m_M_work 77 77 0 0 [rf 57, .inr (nI num)] I P K := by
  obtain ⟨tm, od, cd, L, D, ca, hp, hcaB, hpl, hdl⟩ := h.2.2.2.2.2.2
  have hb := e_at_lt hc.2.2.2
  have hb1 := hb 1
  have har := one_rng hv
  have hcl := hc.2.1
  refine Fk.intro (by decide +kernel) (Nat.le_of_ble_eq_true rfl) (fun G hC => ?_)
  refine Zv.aload_n hC d_M_work_0 rfl ?_
  refine Zv.getr (q := 59) hC d_M_work_1 fl_M_17 rfl rfl (by decide) (hP _ _ (by decide) (by decide)) ?_
  refine Zv.iconst hC d_M_work_4 ic_0 ?_
  refine Zv.iald hC d_M_work_5 rfl (by decide) rfl (by omega) (by first | decide | omega) (hc.2.2.1 0 (one_pos hv)) ?_
  rcases (one_sv hv).1 with e | e | e | e | e | e | e | e | e | e | e
  · refine Zv.top (congrArg nI e) ?_
    refine Zv.tabIn (tgt := 60) hC d_M_work_6 (by decide) (by decide) rfl (by decide) ?_
    have hq : e_perf (if e_at c 0 = 1 then e_add σ 3 (nI num) (nI (e_nz (s_pa σ) 8)) else σ) c = e_add σ 3 (nI num) (nI (e_nz (s_pa σ) 8)) := by rw [if_pos e]; unfold e_perf; rw [e]; rfl
    rw [hq] at hK
    refine Zv.iconst hC d_M_work_60 ic_0 ?_
    refine Zv.istore_n hC d_M_work_61 (by decide) rfl ?_
    refine Zv.iconst hC d_M_work_62 ic_0 ?_
    refine Zv.istore_n hC d_M_work_63 (by decide) rfl ?_
    refine lm_ping hC hP h.2.2.1 ?_ 9 0 (by omega)
    refine Zv.aload_n hC d_M_work_88 rfl ?_
    refine Zv.iconst hC d_M_work_89 ic_3 ?_
    refine Zv.iload_n hC d_M_work_90 rfl ?_
    refine Zv.iload_n hC d_M_work_91 rfl ?_
    refine Zv.callV3 hC d_M_work_92 ml_M_119 mk_M_add rfl (Nat.le_of_ble_eq_true rfl) rfl (by decide) ?_
    refine sm_add hP h (fun I1 c1 c2 c3 => ?_)
    refine Zv.goto (tgt := 318) hC d_M_work_95 (by decide) ?_
    refine Zv.vret hC rfl d_M_work_318 (Nat.le_refl _) (Nat.le_refl _) ?_
    exact hK I1 (MR_le c1 (Nat.le_succ _)) ⟨fun a ha => c3 a (by omega) (by omega), c2 1 (by decide) (by decide)⟩
  · refine Zv.top (congrArg nI e) ?_
    refine Zv.tabIn (tgt := 98) hC d_M_work_6 (by decide) (by decide) rfl (by decide) ?_
    have hq : e_perf (if e_at c 0 = 1 then e_add σ 3 (nI num) (nI (e_nz (s_pa σ) 8)) else σ) c = w_pa σ (e_at c 1) (e_sgn (e_at c 2)) := by rw [if_neg (by rw [e]; decide)]; unfold e_perf; rw [e]; rfl
    rw [hq] at hK
    have ha : e_at c 1 < 8 := ar_at har e
    have hl : c.length = 3 := one_len hv e rfl
    refine Zv.aload_n hC d_M_work_98 rfl ?_
    refine Zv.getr (q := 76) hC d_M_work_99 fl_M_69 rfl rfl (by decide) (hP _ _ (by decide) (by decide)) ?_
    refine Zv.aload_n hC d_M_work_102 rfl ?_
    refine Zv.getr (q := 59) hC d_M_work_103 fl_M_17 rfl rfl (by decide) (hP _ _ (by decide) (by decide)) ?_
    refine Zv.iconst hC d_M_work_106 ic_1 ?_
    refine Zv.iald hC d_M_work_107 rfl (by decide) rfl (by omega) (by first | decide | omega) (hc.2.2.1 1 (by omega)) ?_
    refine Zv.aload_n hC d_M_work_108 rfl ?_
    refine Zv.getr (q := 59) hC d_M_work_109 fl_M_17 rfl rfl (by decide) (hP _ _ (by decide) (by decide)) ?_
    refine Zv.iconst hC d_M_work_112 ic_2 ?_
    refine Zv.iald hC d_M_work_113 rfl (by decide) rfl (by omega) (by first | decide | omega) (hc.2.2.1 2 (by omega)) ?_
    refine Zv.callS1 hC d_M_work_114 ml_M_87 mk_M_signed (Nat.le_of_ble_eq_true rfl) ?_
    refine sm_signed rfl (hb _) ?_
    refine Zv.iast hC d_M_work_117 rfl (by decide) rfl (by omega) (by first | decide | omega) ?_
    refine Zv.goto (tgt := 318) hC d_M_work_118 (by decide) ?_
    refine Zv.vret hC rfl d_M_work_318 (Nat.le_refl _) (Nat.le_refl _) ?_
    exact hK _ (MR_le (MR_wpa h _ _) (Nat.le_succ _)) ⟨fun a ha => f_u_ne (by omega), f_ur (by decide) rfl⟩
  · refine Zv.top (congrArg nI e) ?_
    refine Zv.tabIn (tgt := 121) hC d_M_work_6 (by decide) (by decide) rfl (by decide) ?_
    have hq : e_perf (if e_at c 0 = 1 then e_add σ 3 (nI num) (nI (e_nz (s_pa σ) 8)) else σ) c = w_pl σ (e_ins (s_pl σ) (e_at c 1 * 256 + e_at c 2) (c.drop 3)) := by rw [if_neg (by rw [e]; decide)]; unfold e_perf; rw [e]; rfl
    rw [hq] at hK
    have hl := one_len3 hv e
    have hdl0 := hd3 e
    subst hdl0
    have hD : D = [] := List.map_eq_nil_iff.mp hdl.symm
    subst hD
    have hl6 := (ref_full hr e).1
    rw [hpl, List.length_map] at hl6
    refine Zv.aload_n hC d_M_work_121 rfl ?_
    refine Zv.callV0 hC d_M_work_122 ml_M_123 mk_M_plan rfl (Nat.le_of_ble_eq_true rfl) rfl (by decide) ?_
    refine sm_plan hP hp (by omega) hl6 hc hl (fun I1 c1 c2 c3 => ?_)
    refine Zv.goto (tgt := 318) hC d_M_work_125 (by decide) ?_
    refine Zv.vret hC rfl d_M_work_318 (Nat.le_refl _) (Nat.le_refl _) ?_
    exact hK I1 (MR_le (MR_wpl h (by rw [hpl]; exact c1) (fun j hj => c2 j (by omega)) (fun a ha => c3 a (by omega) (by omega))) (by omega)) ⟨fun a ha => c3 a (by omega) (by omega), c2 1 (by decide)⟩
  · refine Zv.top (congrArg nI e) ?_
    refine Zv.tabIn (tgt := 128) hC d_M_work_6 (by decide) (by decide) rfl (by decide) ?_
    have hq : e_perf (if e_at c 0 = 1 then e_add σ 3 (nI num) (nI (e_nz (s_pa σ) 8)) else σ) c = (if e_at c 1 = 2 then w_pl σ [] else w_g σ 2 (if e_at c 1 = 1 then 1 else 0)) := by rw [if_neg (by rw [e]; decide)]; unfold e_perf; rw [e]; rfl
    rw [hq] at hK
    have ha : e_at c 1 < 3 := ar_at har e
    have hl : c.length = 2 := one_len hv e rfl
    refine Zv.aload_n hC d_M_work_128 rfl ?_
    refine Zv.aload_n hC d_M_work_129 rfl ?_
    refine Zv.getr (q := 59) hC d_M_work_130 fl_M_17 rfl rfl (by decide) (hP _ _ (by decide) (by decide)) ?_
    refine Zv.iconst hC d_M_work_133 ic_1 ?_
    refine Zv.iald hC d_M_work_134 rfl (by decide) rfl (by omega) (by first | decide | omega) (hc.2.2.1 1 (by omega)) ?_
    refine Zv.callV1 hC d_M_work_135 ml_M_126 mk_M_run rfl (Nat.le_of_ble_eq_true rfl) rfl (by decide) ?_
    refine sm_run hP hp ha (fun e0 => ?_) (fun e1 => ?_) (fun e2 I1 c1 c2 => ?_)
    · rw [if_neg (by omega), if_neg (by omega)] at hK
      refine Zv.goto (tgt := 318) hC d_M_work_138 (by decide) ?_
      refine Zv.vret hC rfl d_M_work_318 (Nat.le_refl _) (Nat.le_refl _) ?_
      exact hK _ (MR_le (MR_g2 h rfl) (Nat.le_succ _)) ⟨fun a ha => f_u_ne (by omega), f_uc (by decide) rfl⟩
    · rw [if_neg (by omega), if_pos e1] at hK
      refine Zv.goto (tgt := 318) hC d_M_work_138 (by decide) ?_
      refine Zv.vret hC rfl d_M_work_318 (Nat.le_refl _) (Nat.le_refl _) ?_
      exact hK _ (MR_le (MR_g2 h rfl) (Nat.le_succ _)) ⟨fun a ha => f_u_ne (by omega), f_uc (by decide) rfl⟩
    · rw [if_pos e2] at hK
      refine Zv.goto (tgt := 318) hC d_M_work_138 (by decide) ?_
      refine Zv.vret hC rfl d_M_work_318 (Nat.le_refl _) (Nat.le_refl _) ?_
      exact hK I1 (MR_le (MR_wpl h ⟨_, _, _, _, _, _, pln_clear hp c2 (by rw [c1 56 (by decide)]) (fun a h1 _ _ => c1 a h1), hcaB, rfl, hdl⟩ (fun j _ => by rw [c1 56 (by decide)]) (fun a ha => c1 a (by omega))) (Nat.le_succ _)) ⟨fun a ha => c1 a (by omega), by rw [c1 56 (by decide)]⟩
  · refine Zv.top (congrArg nI e) ?_
    refine Zv.tabIn (tgt := 141) hC d_M_work_6 (by decide) (by decide) rfl (by decide) ?_
    have hq : e_perf (if e_at c 0 = 1 then e_add σ 3 (nI num) (nI (e_nz (s_pa σ) 8)) else σ) c = w_pl σ (e_shift (s_pl σ) (e_sgz (e_at c 1))) := by rw [if_neg (by rw [e]; decide)]; unfold e_perf; rw [e]; rfl
    rw [hq] at hK
    have hl : c.length = 2 := one_len hv e rfl
    have hz : ∀ j ∈ L, 0 ≤ (tm j : Int) + e_sgz (e_at c 1) ∧ (tm j : Int) + e_sgz (e_at c 1) ≤ 65535 := fun j hj => by
      have := ref_shift hr e (tm j, cd j) (by rw [hpl]; exact List.mem_map.mpr ⟨j, hj, rfl⟩)
      dsimp only at this
      omega
    refine Zv.iconst hC d_M_work_141 ic_0 ?_
    refine Zv.istore_n hC d_M_work_142 (by decide) rfl ?_
    exact lm_wshift hC hP hp (by omega) (hb 1) (hc.2.2.1 1 (by omega)) hz (fun I1 c1 c2 => hK I1 (MR_le (MR_wpl h ⟨_, _, _, _, _, _, pln_shift hp hz c2 (by rw [c1 56 (by decide)]) (fun a h1 _ _ => c1 a h1), hcaB, (by rw [hpl]; exact (shift_map L).symm), hdl.trans (shift_mapD hp.2.2.1)⟩ (fun j _ => by rw [c1 56 (by decide)]) (fun a ha => c1 a (by omega))) (Nat.le_succ _)) ⟨fun a ha => c1 a (by omega), by rw [c1 56 (by decide)]⟩) 7 0 I (by omega) (fun _ _ => rfl) (fun j => (if_neg (by omega)).symm)
  · refine Zv.top (congrArg nI e) ?_
    refine Zv.tabIn (tgt := 194) hC d_M_work_6 (by decide) (by decide) rfl (by decide) ?_
    have hq : e_perf (if e_at c 0 = 1 then e_add σ 3 (nI num) (nI (e_nz (s_pa σ) 8)) else σ) c = w_wb (w_wn σ (s_u (s_wn σ) (e_at c 1) (fun j => match j with | 0 => 1 | 1 => e_at c 2 | 2 => e_at c 5 | 3 => e_at c 6 | _ => 0))) (s_u (s_wb σ) (e_at c 1) (fun j => match j with | 0 => e_sgn (e_at c 3) | _ => e_sgn (e_at c 4))) := by rw [if_neg (by rw [e]; decide)]; unfold e_perf; rw [e]; rfl
    rw [hq] at hK
    have ha : e_wr c 0 := ar_at har e
    have hl : c.length = 7 := one_len hv e rfl
    refine Zv.aload_n hC d_M_work_194 rfl ?_
    refine Zv.aload_n hC d_M_work_195 rfl ?_
    refine Zv.getr (q := 59) hC d_M_work_196 fl_M_17 rfl rfl (by decide) (hP _ _ (by decide) (by decide)) ?_
    refine Zv.iconst hC d_M_work_199 ic_1 ?_
    refine Zv.iald hC d_M_work_200 rfl (by decide) rfl (by omega) (by first | decide | omega) (hc.2.2.1 1 (by omega)) ?_
    refine Zv.callV1 hC d_M_work_201 ml_M_130 mk_M_setWatch rfl (Nat.le_of_ble_eq_true rfl) rfl (by decide) ?_
    refine sm_setWatch hP hc hl ha.1 ?_
    refine Zv.goto (tgt := 318) hC d_M_work_204 (by decide) ?_
    refine Zv.vret hC rfl d_M_work_318 (Nat.le_refl _) (Nat.le_refl _) ?_
    refine hK _ (MR_le (MR_wws h (fun m' hm' => ?_) (fun a ha => ?_)) (Nat.le_succ _)) ⟨fun a ha => ?_, ?_⟩
    · by_cases e2 : m' = e_at c 1
      · subst e2
        simp [f_u, s_u]
      · have := h.2.2.2.1 m' hm'
        simp [f_u, s_u, e2]
        exact this
    · rw [f_u_ne (by omega), f_u_ne (by omega), f_u_ne (by omega), f_u_ne (by omega), f_u_ne (by omega), f_u_ne (by omega), f_u_ne (by omega)]
    · rw [f_u_ne (by omega), f_u_ne (by omega), f_u_ne (by omega), f_u_ne (by omega), f_u_ne (by omega), f_u_ne (by omega), f_u_ne (by omega)]
    · simp [f_u]
  · refine Zv.top (congrArg nI e) ?_
    refine Zv.tabIn (tgt := 207) hC d_M_work_6 (by decide) (by decide) rfl (by decide) ?_
    have hq : e_perf (if e_at c 0 = 1 then e_add σ 3 (nI num) (nI (e_nz (s_pa σ) 8)) else σ) c = w_wb (w_wn σ (s_u (s_wn σ) (e_at c 1) (s_u (s_wn σ (e_at c 1)) 0 0))) (s_wb σ) := by rw [if_neg (by rw [e]; decide)]; unfold e_perf; rw [e]; rfl
    rw [hq] at hK
    have ha : e_at c 1 < 4 := ar_at har e
    have hl : c.length = 2 := one_len hv e rfl
    refine Zv.aload_n hC d_M_work_207 rfl ?_
    refine Zv.getr (q := 67) hC d_M_work_208 fl_M_42 rfl rfl (by decide) (hP _ _ (by decide) (by decide)) ?_
    refine Zv.aload_n hC d_M_work_211 rfl ?_
    refine Zv.getr (q := 59) hC d_M_work_212 fl_M_17 rfl rfl (by decide) (hP _ _ (by decide) (by decide)) ?_
    refine Zv.iconst hC d_M_work_215 ic_1 ?_
    refine Zv.iald hC d_M_work_216 rfl (by decide) rfl (by omega) (by first | decide | omega) (hc.2.2.1 1 (by omega)) ?_
    refine Zv.iconst hC d_M_work_217 ic_0 ?_
    refine Zv.zast hC d_M_work_218 rfl (by decide) rfl (by omega) (by first | decide | omega) rfl ?_
    refine Zv.goto (tgt := 318) hC d_M_work_219 (by decide) ?_
    refine Zv.vret hC rfl d_M_work_318 (Nat.le_refl _) (Nat.le_refl _) ?_
    refine hK _ (MR_le (MR_wws h (fun m' hm' => ?_) (fun a ha => ?_)) (Nat.le_succ _)) ⟨fun a ha => f_u_ne (by omega), f_ur (by decide) rfl⟩
    · by_cases e2 : m' = e_at c 1
      · subst e2
        have := h.2.2.2.1 _ ha
        rw [s_u_s]
        exact ⟨f_u_s, (f_ur (by decide) this.2.1), (f_ur (by decide) this.2.2.1), (f_ur (by decide) this.2.2.2.1), (f_ur (by decide) this.2.2.2.2.1), (f_ur (by decide) this.2.2.2.2.2.1), (f_ur (by decide) this.2.2.2.2.2.2)⟩
      · have := h.2.2.2.1 m' hm'
        rw [s_u_n e2]
        exact ⟨f_uc e2 this.1, (f_ur (by decide) this.2.1), (f_ur (by decide) this.2.2.1), (f_ur (by decide) this.2.2.2.1), (f_ur (by decide) this.2.2.2.2.1), (f_ur (by decide) this.2.2.2.2.2.1), (f_ur (by decide) this.2.2.2.2.2.2)⟩
    · exact f_u_ne (by omega)
  · refine Zv.top (congrArg nI e) ?_
    refine Zv.tabIn (tgt := 222) hC d_M_work_6 (by decide) (by decide) rfl (by decide) ?_
    have hq : e_perf (if e_at c 0 = 1 then e_add σ 3 (nI num) (nI (e_nz (s_pa σ) 8)) else σ) c = w_ac σ (e_at c 1) (c.drop 2) := by rw [if_neg (by rw [e]; decide)]; unfold e_perf; rw [e]; rfl
    rw [hq] at hK
    have ha : e_at c 1 < 4 := ar_at har e
    have hl := one_len8 hv e
    refine Zv.aload_n hC d_M_work_222 rfl ?_
    refine Zv.aload_n hC d_M_work_223 rfl ?_
    refine Zv.getr (q := 59) hC d_M_work_224 fl_M_17 rfl rfl (by decide) (hP _ _ (by decide) (by decide)) ?_
    refine Zv.iconst hC d_M_work_227 ic_1 ?_
    refine Zv.iald hC d_M_work_228 rfl (by decide) rfl (by omega) (by first | decide | omega) (hc.2.2.1 1 (by omega)) ?_
    refine Zv.callV1 hC d_M_work_229 ml_M_133 mk_M_setAction rfl (Nat.le_of_ble_eq_true rfl) rfl (by decide) ?_
    refine sm_setAction hP hc hl ha (fun I1 c1 c2 c3 c4 c5 => ?_)
    refine Zv.goto (tgt := 318) hC d_M_work_232 (by decide) ?_
    refine Zv.vret hC rfl d_M_work_318 (Nat.le_refl _) (Nat.le_refl _) ?_
    exact hK I1 (MR_le (MR_wac h (by rw [List.length_drop]; omega) (fun x hx => hc.2.2.2 x (List.mem_of_mem_drop hx)) c1 c2 c3 c4 c5) (Nat.le_succ _)) ⟨fun a ha => c5 a (by omega) (by omega), by rw [c5 56 (by decide) (by decide)]⟩
  · refine Zv.top (congrArg nI e) ?_
    refine Zv.tabIn (tgt := 235) hC d_M_work_6 (by decide) (by decide) rfl (by decide) ?_
    have hq : e_perf (if e_at c 0 = 1 then e_add σ 3 (nI num) (nI (e_nz (s_pa σ) 8)) else σ) c = w_ac σ (e_at c 1) [] := by rw [if_neg (by rw [e]; decide)]; unfold e_perf; rw [e]; rfl
    rw [hq] at hK
    have ha : e_at c 1 < 4 := ar_at har e
    have hl : c.length = 2 := one_len hv e rfl
    refine Zv.aload_n hC d_M_work_235 rfl ?_
    refine Zv.getr (q := 66) hC d_M_work_236 fl_M_39 rfl rfl (by decide) (hP _ _ (by decide) (by decide)) ?_
    refine Zv.aload_n hC d_M_work_239 rfl ?_
    refine Zv.getr (q := 59) hC d_M_work_240 fl_M_17 rfl rfl (by decide) (hP _ _ (by decide) (by decide)) ?_
    refine Zv.iconst hC d_M_work_243 ic_1 ?_
    refine Zv.iald hC d_M_work_244 rfl (by decide) rfl (by omega) (by first | decide | omega) (hc.2.2.1 1 (by omega)) ?_
    refine Zv.iconst hC d_M_work_245 ic_0 ?_
    refine Zv.iast hC d_M_work_246 rfl (by decide) rfl (by omega) (by first | decide | omega) ?_
    refine Zv.goto (tgt := 318) hC d_M_work_247 (by decide) ?_
    refine Zv.vret hC rfl d_M_work_318 (Nat.le_refl _) (Nat.le_refl _) ?_
    exact hK _ (MR_le (MR_wac h (by decide) (fun x hx => absurd hx List.not_mem_nil) f_u_s (fun j hj => f_uc hj rfl) (fun i hi => absurd hi (Nat.not_lt_zero i)) (fun q _ => f_ur (by decide) rfl) (fun a h1 h2 => f_u_ne h2)) (Nat.le_succ _)) ⟨fun a ha => f_u_ne (by omega), f_ur (by decide) rfl⟩
  · refine Zv.top (congrArg nI e) ?_
    refine Zv.tabIn (tgt := 250) hC d_M_work_6 (by decide) (by decide) rfl (by decide) ?_
    have hq : e_perf (if e_at c 0 = 1 then e_add σ 3 (nI num) (nI (e_nz (s_pa σ) 8)) else σ) c = w_ho σ (s_u (s_ho σ) (e_at c 1) (fun j => match j with | 0 => e_at c 2 | _ => e_at c 3)) := by rw [if_neg (by rw [e]; decide)]; unfold e_perf; rw [e]; rfl
    rw [hq] at hK
    have ha : e_at c 1 < 2 := ar_at har e
    have hl : c.length = 4 := one_len hv e rfl
    refine Zv.aload_n hC d_M_work_250 rfl ?_
    refine Zv.getr (q := 74) hC d_M_work_251 fl_M_63 rfl rfl (by decide) (hP _ _ (by decide) (by decide)) ?_
    refine Zv.aload_n hC d_M_work_254 rfl ?_
    refine Zv.getr (q := 59) hC d_M_work_255 fl_M_17 rfl rfl (by decide) (hP _ _ (by decide) (by decide)) ?_
    refine Zv.iconst hC d_M_work_258 ic_1 ?_
    refine Zv.iald hC d_M_work_259 rfl (by decide) rfl (by omega) (by first | decide | omega) (hc.2.2.1 1 (by omega)) ?_
    refine Zv.aload_n hC d_M_work_260 rfl ?_
    refine Zv.getr (q := 59) hC d_M_work_261 fl_M_17 rfl rfl (by decide) (hP _ _ (by decide) (by decide)) ?_
    refine Zv.iconst hC d_M_work_264 ic_2 ?_
    refine Zv.iald hC d_M_work_265 rfl (by decide) rfl (by omega) (by first | decide | omega) (hc.2.2.1 2 (by omega)) ?_
    refine Zv.iast hC d_M_work_266 rfl (by decide) rfl (by omega) (by first | decide | omega) ?_
    refine Zv.aload_n hC d_M_work_267 rfl ?_
    refine Zv.getr (q := 75) hC d_M_work_268 fl_M_66 rfl rfl (by decide) (hP _ _ (by decide) (by decide)) ?_
    refine Zv.aload_n hC d_M_work_271 rfl ?_
    refine Zv.getr (q := 59) hC d_M_work_272 fl_M_17 rfl rfl (by decide) (hP _ _ (by decide) (by decide)) ?_
    refine Zv.iconst hC d_M_work_275 ic_1 ?_
    refine Zv.iald hC d_M_work_276 rfl (by decide) rfl (by omega) (by first | decide | omega) (f_ur (by decide) (hc.2.2.1 1 (by omega))) ?_
    refine Zv.aload_n hC d_M_work_277 rfl ?_
    refine Zv.getr (q := 59) hC d_M_work_278 fl_M_17 rfl rfl (by decide) (hP _ _ (by decide) (by decide)) ?_
    refine Zv.iconst hC d_M_work_281 ic_3 ?_
    refine Zv.iald hC d_M_work_282 rfl (by decide) rfl (by omega) (by first | decide | omega) (f_ur (by decide) (hc.2.2.1 3 (by omega))) ?_
    refine Zv.iast hC d_M_work_283 rfl (by decide) rfl (by omega) (by first | decide | omega) ?_
    refine Zv.goto (tgt := 318) hC d_M_work_284 (by decide) ?_
    refine Zv.vret hC rfl d_M_work_318 (Nat.le_refl _) (Nat.le_refl _) ?_
    refine hK _ (MR_le (MR_wli h (fun m' hm' => ?_) (fun a h1 h2 => by rw [f_u_ne h2, f_u_ne h1])) (Nat.le_succ _)) ⟨fun a ha => by rw [f_u_ne (by omega), f_u_ne (by omega)], by rw [f_u_ne (by decide), f_u_ne (by decide)]⟩
    by_cases e2 : m' = e_at c 1
    · subst e2
      rw [s_u_s]
      exact ⟨f_ur (by decide) f_u_s, f_u_s⟩
    · have := h.2.2.2.2.1 m' hm'
      rw [s_u_n e2]
      exact ⟨f_ur (by decide) (f_uc e2 this.1), f_uc e2 (f_ur (by decide) this.2)⟩
  · refine Zv.top (congrArg nI e) ?_
    refine Zv.tabOut (tgt := 287) hC d_M_work_6 (by decide) (by decide) ?_
    have hq : e_perf (if e_at c 0 = 1 then e_add σ 3 (nI num) (nI (e_nz (s_pa σ) 8)) else σ) c = (if e_at c 1 = 1 then w_g (w_g σ 1 1) 2 0 else w_g σ 1 0) := by rw [if_neg (by rw [e]; decide)]; unfold e_perf; rw [e]; rfl
    rw [hq] at hK
    have ha : e_at c 1 < 2 := ar_at har e
    have hl : c.length = 2 := one_len hv e rfl
    refine Zv.aload_n hC d_M_work_287 rfl ?_
    refine Zv.aload_n hC d_M_work_288 rfl ?_
    refine Zv.getr (q := 59) hC d_M_work_289 fl_M_17 rfl rfl (by decide) (hP _ _ (by decide) (by decide)) ?_
    refine Zv.iconst hC d_M_work_292 ic_1 ?_
    refine Zv.iald hC d_M_work_293 rfl (by decide) rfl (by omega) (by first | decide | omega) (hc.2.2.1 1 (by omega)) ?_
    refine Zv.iconst hC d_M_work_294 ic_1 ?_
    refine Zv.icmp_ne (tgt := 302) hC d_M_work_295 (by decide) (fun h295 => ?_) (fun h295 => ?_)
    · try have g295 := q_n h295
      rw [if_neg g295] at hK
      refine Zv.iconst hC d_M_work_302 ic_0 ?_
      refine Zv.puti hC d_M_work_303 fl_M_102 rfl ck_7 rfl rfl rfl rfl (by decide) ?_
      refine Zv.aload_n hC d_M_work_306 rfl ?_
      refine Zv.geti hC d_M_work_307 fl_M_102 rfl rfl (by decide) f_u_s ?_
      refine Zv.if_eq (tgt := 318) hC d_M_work_310 (by decide) (fun h310 => ?_) (fun h310 => ?_)
      · try have g310 := q_e0 h310 (by omega)
        refine Zv.vret hC rfl d_M_work_318 (Nat.le_refl _) (Nat.le_refl _) ?_
        exact hK _ (MR_le (MR_g1 h) (Nat.le_succ _)) ⟨fun a ha => f_u_ne (by omega), f_uc (by decide) rfl⟩
      · try have g310 := q_n0 h310
        exact absurd rfl g310
    · try have g295 := q_e h295 (by omega) (by omega)
      rw [if_pos g295] at hK
      refine Zv.iconst hC d_M_work_298 ic_1 ?_
      refine Zv.goto (tgt := 303) hC d_M_work_299 (by decide) ?_
      refine Zv.puti hC d_M_work_303 fl_M_102 rfl ck_7 rfl rfl rfl rfl (by decide) ?_
      refine Zv.aload_n hC d_M_work_306 rfl ?_
      refine Zv.geti hC d_M_work_307 fl_M_102 rfl rfl (by decide) f_u_s ?_
      refine Zv.if_eq (tgt := 318) hC d_M_work_310 (by decide) (fun h310 => ?_) (fun h310 => ?_)
      · try have g310 := q_e0 h310 (by omega)
        exact absurd g310 (by decide)
      · try have g310 := q_n0 h310
        refine Zv.aload_n hC d_M_work_313 rfl ?_
        refine Zv.iconst hC d_M_work_314 ic_1 ?_
        refine Zv.puti hC d_M_work_315 fl_M_116 rfl ck_7 rfl rfl rfl rfl (by decide) ?_
        refine Zv.vret hC rfl d_M_work_318 (Nat.le_refl _) (Nat.le_refl _) ?_
        exact hK _ (MR_le (MR_g2 (MR_g1 h) rfl) (Nat.le_succ _)) ⟨fun a ha => by rw [f_u_ne (by omega), f_u_ne (by omega)], f_uc (by decide) (f_uc (by decide) rfl)⟩
set_option maxRecDepth 100000 in
set_option maxHeartbeats 4000000 in
theorem sm_carry {d num : Nat} {σ : Sg} {dl : List (Nat × List Nat)} {B : Nat} {c : List Nat} {I : Fm} {P : Fr} {K : Option Fs → Fm → Fr → Prop} (hP : x_ref P) (h : MR σ dl B I) (hS : SI σ) (hB : B < 2 ^ 30) (hc : m_w I c) (hv : e_one c = 0) (hd3 : e_at c 0 = 3 → dl = []) (hK : ∀ I' : Fm, MR (e_carry σ c num).1 dl (B + 1) I' → mfr I I' → K (some (.inr (nI (e_carry σ c num).2))) I' P) : Fk (d + 3) m_M_carry 77 77 0 0 [rf 57, .inr (nI num)] I P K := by
  refine Fk.intro (by decide +kernel) (Nat.le_of_ble_eq_true rfl) (fun G hC => ?_)
  refine Zv.aload_n hC d_M_carry_0 rfl ?_
  refine Zv.callV0 hC d_M_carry_1 ml_M_136 mk_M_refusal rfl (Nat.le_of_ble_eq_true rfl) rfl (by decide) ?_
  refine sm_refusal hP h hB hS.1 hS.2.1 hc hv ?_
  refine Zv.istore_n hC d_M_carry_4 (by decide) rfl ?_
  have hrl := ref_le σ c
  refine Zv.iload_n hC d_M_carry_5 rfl ?_
  refine Zv.if_eq (tgt := 18) hC d_M_carry_6 (by decide) (fun h6 => ?_) (fun h6 => ?_)
  · try have g6 := q_e0 h6 (by omega)
    have ec : e_carry σ c num = (e_add (w_g (e_perf (if e_at c 0 = 1 then e_add σ 3 (nI num) (nI (e_nz (s_pa σ) 8)) else σ) c) 9 (s_g (e_perf (if e_at c 0 = 1 then e_add σ 3 (nI num) (nI (e_nz (s_pa σ) 8)) else σ) c) 9 + 1)) 1 (nI num) (nI (e_at c 0)), 1) := if_neg (fun z => z g6)
    rw [ec] at hK
    refine Zv.aload_n hC d_M_carry_18 rfl ?_
    refine Zv.getr (q := 59) hC d_M_carry_19 fl_M_17 rfl rfl (by decide) (hP _ _ (by decide) (by decide)) ?_
    refine Zv.iconst hC d_M_carry_22 ic_0 ?_
    refine Zv.iald hC d_M_carry_23 rfl (by decide) rfl (by omega) (by first | decide | omega) (hc.2.2.1 0 (one_pos hv)) ?_
    refine Zv.istore_n hC d_M_carry_24 (by decide) rfl ?_
    refine Zv.aload_n hC d_M_carry_25 rfl ?_
    refine Zv.iload_n hC d_M_carry_26 rfl ?_
    refine Zv.callV1 hC d_M_carry_27 ml_M_139 mk_M_work rfl (Nat.le_of_ble_eq_true rfl) rfl (by decide) ?_
    refine sm_work hP h hB hc hv g6 hd3 (fun I1 c1 c2 => ?_)
    refine Zv.aload_n hC d_M_carry_30 rfl ?_
    refine Zv.iconst hC d_M_carry_31 ic_1 ?_
    refine Zv.iload_n hC d_M_carry_32 rfl ?_
    refine Zv.iload_n hC d_M_carry_33 rfl ?_
    refine Zv.callV3 hC d_M_carry_34 ml_M_119 mk_M_add rfl (Nat.le_of_ble_eq_true rfl) rfl (by decide) ?_
    refine sm_add (k := 1) hP c1 (fun I2 c4 c5 c6 => ?_)
    rw [add_w9, ← add_g _ 1 (nI num) (nI (e_at c 0)) (show (9 : Nat) ≠ 5 by decide)] at hK
    refine Zv.aload_n hC d_M_carry_37 rfl ?_
    refine Zv.dup hC d_M_carry_38 ?_
    refine Zv.geti hC d_M_carry_39 fl_M_142 rfl rfl (by decide) c4.1.2.2.2.2.2.2.2 ?_
    refine Zv.iconst hC d_M_carry_42 ic_1 ?_
    first | refine Zv.iaddN hC d_M_carry_43 ?_ | refine Zv.iadd hC d_M_carry_43 ?_
    refine Zv.puti hC d_M_carry_44 fl_M_142 rfl ck_7 rfl rfl rfl rfl (by decide) ?_
    refine Zv.iconst hC d_M_carry_47 ic_1 ?_
    refine Zv.zret hC rfl d_M_carry_48 rfl (Nat.le_refl _) (Nat.le_refl _) ?_
    exact hK _ (MR_g9 c4) (mfr_tr c2 ⟨fun a ha => (f_u_ne (by omega)).trans (c6 a (by omega) (by omega)), (f_uc (by decide) (c5 1 (by decide) (by decide)))⟩)
  · try have g6 := q_n0 h6
    have ec : e_carry σ c num = (e_add σ 2 (nI num) (nI (e_ref σ c)), 0) := if_pos g6
    rw [ec] at hK
    refine Zv.aload_n hC d_M_carry_9 rfl ?_
    refine Zv.iconst hC d_M_carry_10 ic_2 ?_
    refine Zv.iload_n hC d_M_carry_11 rfl ?_
    refine Zv.iload_n hC d_M_carry_12 rfl ?_
    refine Zv.callV3 hC d_M_carry_13 ml_M_119 mk_M_add rfl (Nat.le_of_ble_eq_true rfl) rfl (by decide) ?_
    refine sm_add hP h (fun I1 c1 c2 c3 => ?_)
    refine Zv.iconst hC d_M_carry_16 ic_0 ?_
    refine Zv.zret hC rfl d_M_carry_17 rfl (Nat.le_refl _) (Nat.le_refl _) ?_
    exact hK I1 (MR_le c1 (Nat.le_succ _)) ⟨fun a ha => c3 a (by omega) (by omega), c2 1 (by decide) (by decide)⟩
