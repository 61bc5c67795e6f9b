set_option maxRecDepth 100000 in
set_option maxHeartbeats 4000000 in
theorem sm_signed {d x : Nat} {y : Int32} {I : Fm} {P : Fr} {K : Option Fs → Fm → Fr → Prop} (hy : y = nI x) (hx : x < 256) (hK : K (some (.inr (e_sgn x))) I P) : Fk d m_M_signed 77 77 0 0 [.inr y] I P K := by
  subst hy
  refine Fk.intro (by decide +kernel) (Nat.le_of_ble_eq_true rfl) (fun G hC => ?_)
  refine Zv.iload_n hC d_M_signed_0 rfl ?_
  refine Zv.bipush hC d_M_signed_1 bp_127 ?_
  refine Zv.icmp_le (tgt := 14) hC d_M_signed_3 (by decide) (fun h3 => ?_) (fun h3 => ?_)
  · try have g3 := q_le h3 (by omega) (by omega)
    refine Zv.iload_n hC d_M_signed_14 rfl ?_
    refine Zv.iret hC rfl d_M_signed_15 (Nat.le_refl _) (Nat.le_refl _) ?_
    first | (rw [e_sgn_lo (by omega)] at hK; exact hK) | (rw [e_sgn_hi (by omega)] at hK; exact hK)
  · try have g3 := q_nle h3 (by omega) (by omega)
    refine Zv.iload_n hC d_M_signed_6 rfl ?_
    refine Zv.sipush hC d_M_signed_7 sp_256 ?_
    refine Zv.isub hC d_M_signed_10 ?_
    refine Zv.goto (tgt := 15) hC d_M_signed_11 (by decide) ?_
    refine Zv.iret hC rfl d_M_signed_15 (Nat.le_refl _) (Nat.le_refl _) ?_
    first | (rw [e_sgn_lo (by omega)] at hK; exact hK) | (rw [e_sgn_hi (by omega)] at hK; exact hK)
set_option maxRecDepth 100000 in
set_option maxHeartbeats 4000000 in
theorem lm_shift {G : Fx} {d n : Nat} {I : Fm} {P : Fr} {K : Option Fs → Fm → Fr → Prop} (hC : Fc G m_M_shiftStore d 0 0) (hP : x_ref P) (hn : 1 ≤ n ∧ n ≤ 10) (hK : ∀ I' : Fm, I' 56 23 = nI (n - 1) → (∀ k, k < 4 * n - 4 → I' 76 k = I 76 (k + 4)) → (∀ j, j ≠ 23 → I' 56 j = I 56 j) → (∀ x, x ≠ 56 → x ≠ 76 → I' x = I x) → K none I' P) : ∀ (f k : Nat) (J : Fm), k + f = 4 * n + 1 → 4 ≤ k → k ≤ 4 * n → J 56 23 = nI n → (∀ i, i < k - 4 → J 76 i = I 76 (i + 4)) → (∀ i, k ≤ i → J 76 i = I 76 i) → (∀ a, a ≠ 76 → J a = I a) → Zv G (f_R G K 77 0 0) 77 0 0 2 [(0, rf 57), (1, .inr (nI k))] [] J P := by
  intro f
  induction f with
  | zero => intro k J h1 h2 h3; omega
  | succ f ih =>
    intro k J hkf hk4 hkn hJ1 hJ2 hJ3 hJ4
    refine Zv.iload_n hC d_M_shiftStore_2 rfl ?_
    refine Zv.iconst hC d_M_shiftStore_3 ic_4 ?_
    refine Zv.aload_n hC d_M_shiftStore_4 rfl ?_
    refine Zv.geti hC d_M_shiftStore_5 fl_M_75 rfl rfl (by decide) hJ1 ?_
    first | refine Zv.imulN hC d_M_shiftStore_8 ?_ | refine Zv.imul hC d_M_shiftStore_8 ?_
    refine Zv.icmp_ge (tgt := 32) hC d_M_shiftStore_9 (by decide) (fun h9 => ?_) (fun h9 => ?_)
    · try have g9 := q_le h9 (by omega) (by omega)
      have ek : k = 4 * n := by omega
      subst ek
      refine Zv.aload_n hC d_M_shiftStore_32 rfl ?_
      refine Zv.dup hC d_M_shiftStore_33 ?_
      refine Zv.geti hC d_M_shiftStore_34 fl_M_75 rfl rfl (by decide) hJ1 ?_
      refine Zv.iconst hC d_M_shiftStore_37 ic_1 ?_
      refine Zv.isubN hC d_M_shiftStore_38 (by omega) ?_
      refine Zv.puti hC d_M_shiftStore_39 fl_M_75 rfl ck_7 rfl rfl rfl rfl (by decide) ?_
      refine Zv.vret hC rfl d_M_shiftStore_42 (Nat.le_refl _) (Nat.le_refl _) ?_
      exact hK _ f_u_s (fun i hi => f_ur (by decide) (hJ2 i (by omega))) (fun j hj => f_uc hj (by rw [hJ4 56 (by decide)])) (fun a h1 h2 => by rw [f_u_ne h1]; exact hJ4 a h2)
    · try have g9 := q_nle h9 (by omega) (by omega)
      refine Zv.aload_n hC d_M_shiftStore_12 rfl ?_
      refine Zv.getr (q := 77) hC d_M_shiftStore_13 fl_M_72 rfl rfl (by decide) (hP _ _ (by decide) (by decide)) ?_
      refine Zv.iload_n hC d_M_shiftStore_16 rfl ?_
      refine Zv.iconst hC d_M_shiftStore_17 ic_4 ?_
      refine Zv.isubN hC d_M_shiftStore_18 (by omega) ?_
      refine Zv.aload_n hC d_M_shiftStore_19 rfl ?_
      refine Zv.getr (q := 77) hC d_M_shiftStore_20 fl_M_72 rfl rfl (by decide) (hP _ _ (by decide) (by decide)) ?_
      refine Zv.iload_n hC d_M_shiftStore_23 rfl ?_
      refine Zv.iald hC d_M_shiftStore_24 rfl (by decide) rfl (by omega) (by first | decide | omega) rfl ?_
      refine Zv.iast hC d_M_shiftStore_25 rfl (by decide) rfl (by omega) (by first | decide | omega) ?_
      refine Zv.iinc hC d_M_shiftStore_26 rfl (by decide) (q_inc _) rfl ?_
      refine Zv.goto (tgt := 2) hC d_M_shiftStore_29 (by decide) ?_
      refine ih (k + 1) _ (by omega) (by omega) (by omega) (f_ur (by decide) hJ1) (fun i hi => ?_) (fun i hi => f_uc (by omega) (hJ3 i (by omega))) (fun a h => by rw [f_u_ne h]; exact hJ4 a h)
      by_cases e : i = k - 4
      · subst e
        refine f_u_s.trans ?_
        rw [show k - 4 + 4 = k by omega]
        exact hJ3 k (Nat.le_refl _)
      · exact f_uc e (hJ2 i (by omega))
set_option maxRecDepth 100000 in
set_option maxHeartbeats 4000000 in
theorem sm_shiftStore {d n : Nat} {I : Fm} {P : Fr} {K : Option Fs → Fm → Fr → Prop} (hP : x_ref P) (hn : 1 ≤ n ∧ n ≤ 10) (h23 : I 56 23 = nI n) (hK : ∀ I' : Fm, I' 56 23 = nI (n - 1) → (∀ k, k < 4 * n - 4 → I' 76 k = I 76 (k + 4)) → (∀ j, j ≠ 23 → I' 56 j = I 56 j) → (∀ x, x ≠ 56 → x ≠ 76 → I' x = I x) → K none I' P) : Fk d m_M_shiftStore 77 77 0 0 [rf 57] I P K := by
  refine Fk.intro (by decide +kernel) (Nat.le_of_ble_eq_true rfl) (fun G hC => ?_)
  refine Zv.iconst hC d_M_shiftStore_0 ic_4 ?_
  refine Zv.istore_n hC d_M_shiftStore_1 (by decide) rfl ?_
  exact lm_shift hC hP hn hK (4 * n - 3) 4 I (by omega) (by omega) (by omega) h23 (fun i hi => absurd hi (by omega)) (fun _ _ => rfl) (fun _ _ => rfl)
set_option maxRecDepth 100000 in
set_option maxHeartbeats 4000000 in
theorem lm_add {G : Fx} {d n : Nat} {k c a b : Int32} {I : Fm} {P : Fr} {K : Option Fs → Fm → Fr → Prop} (hC : Fc G m_M_add d 0 0) (hP : x_ref P) (hn : n < 10) (h23 : I 56 23 = nI n) (h24 : I 56 24 = c) (hK : ∀ I' : Fm, I' 56 23 = nI (n + 1) → (∀ k, k < 4 * n → I' 76 k = I 76 k) → (I' 76 (4 * n), I' 76 (4 * n + 1), I' 76 (4 * n + 2), I' 76 (4 * n + 3)) = (k, c, a, b) → (∀ j, j ≠ 23 → I' 56 j = I 56 j) → (∀ x, x ≠ 56 → x ≠ 76 → I' x = I x) → K none I' P) : Zv G (f_R G K 77 0 0) 77 0 0 23 [(0, rf 57), (1, .inr k), (2, .inr a), (3, .inr b)] [] I P := by
  refine Zv.aload_n hC d_M_add_23 rfl ?_
  refine Zv.getr (q := 77) hC d_M_add_24 fl_M_72 rfl rfl (by decide) (hP _ _ (by decide) (by decide)) ?_
  refine Zv.iconst hC d_M_add_27 ic_4 ?_
  refine Zv.aload_n hC d_M_add_28 rfl ?_
  refine Zv.geti hC d_M_add_29 fl_M_75 rfl rfl (by decide) h23 ?_
  first | refine Zv.imulN hC d_M_add_32 ?_ | refine Zv.imul hC d_M_add_32 ?_
  refine Zv.iload_n hC d_M_add_33 rfl ?_
  refine Zv.iast hC d_M_add_34 rfl (by decide) rfl (by omega) (by first | decide | omega) ?_
  refine Zv.aload_n hC d_M_add_35 rfl ?_
  refine Zv.getr (q := 77) hC d_M_add_36 fl_M_72 rfl rfl (by decide) (hP _ _ (by decide) (by decide)) ?_
  refine Zv.iconst hC d_M_add_39 ic_4 ?_
  refine Zv.aload_n hC d_M_add_40 rfl ?_
  refine Zv.geti hC d_M_add_41 fl_M_75 rfl rfl (by decide) (f_ur (by decide) h23) ?_
  first | refine Zv.imulN hC d_M_add_44 ?_ | refine Zv.imul hC d_M_add_44 ?_
  refine Zv.iconst hC d_M_add_45 ic_1 ?_
  first | refine Zv.iaddN hC d_M_add_46 ?_ | refine Zv.iadd hC d_M_add_46 ?_
  refine Zv.aload_n hC d_M_add_47 rfl ?_
  refine Zv.geti hC d_M_add_48 fl_M_84 rfl rfl (by decide) (f_ur (by decide) h24) ?_
  refine Zv.iast hC d_M_add_51 rfl (by decide) rfl (by omega) (by first | decide | omega) ?_
  refine Zv.aload_n hC d_M_add_52 rfl ?_
  refine Zv.getr (q := 77) hC d_M_add_53 fl_M_72 rfl rfl (by decide) (hP _ _ (by decide) (by decide)) ?_
  refine Zv.iconst hC d_M_add_56 ic_4 ?_
  refine Zv.aload_n hC d_M_add_57 rfl ?_
  refine Zv.geti hC d_M_add_58 fl_M_75 rfl rfl (by decide) (f_ur (by decide) (f_ur (by decide) h23)) ?_
  first | refine Zv.imulN hC d_M_add_61 ?_ | refine Zv.imul hC d_M_add_61 ?_
  refine Zv.iconst hC d_M_add_62 ic_2 ?_
  first | refine Zv.iaddN hC d_M_add_63 ?_ | refine Zv.iadd hC d_M_add_63 ?_
  refine Zv.iload_n hC d_M_add_64 rfl ?_
  refine Zv.iast hC d_M_add_65 rfl (by decide) rfl (by omega) (by first | decide | omega) ?_
  refine Zv.aload_n hC d_M_add_66 rfl ?_
  refine Zv.getr (q := 77) hC d_M_add_67 fl_M_72 rfl rfl (by decide) (hP _ _ (by decide) (by decide)) ?_
  refine Zv.iconst hC d_M_add_70 ic_4 ?_
  refine Zv.aload_n hC d_M_add_71 rfl ?_
  refine Zv.geti hC d_M_add_72 fl_M_75 rfl rfl (by decide) (f_ur (by decide) (f_ur (by decide) (f_ur (by decide) h23))) ?_
  first | refine Zv.imulN hC d_M_add_75 ?_ | refine Zv.imul hC d_M_add_75 ?_
  refine Zv.iconst hC d_M_add_76 ic_3 ?_
  first | refine Zv.iaddN hC d_M_add_77 ?_ | refine Zv.iadd hC d_M_add_77 ?_
  refine Zv.iload_n hC d_M_add_78 rfl ?_
  refine Zv.iast hC d_M_add_79 rfl (by decide) rfl (by omega) (by first | decide | omega) ?_
  refine Zv.aload_n hC d_M_add_80 rfl ?_
  refine Zv.dup hC d_M_add_81 ?_
  refine Zv.geti hC d_M_add_82 fl_M_75 rfl rfl (by decide) (f_ur (by decide) (f_ur (by decide) (f_ur (by decide) (f_ur (by decide) h23)))) ?_
  refine Zv.iconst hC d_M_add_85 ic_1 ?_
  first | refine Zv.iaddN hC d_M_add_86 ?_ | refine Zv.iadd hC d_M_add_86 ?_
  refine Zv.puti hC d_M_add_87 fl_M_75 rfl ck_7 rfl rfl rfl rfl (by decide) ?_
  refine Zv.vret hC rfl d_M_add_90 (Nat.le_refl _) (Nat.le_refl _) ?_
  refine hK _ f_u_s (fun k hk => ?_) ?_ (fun j hj => ?_) (fun x h1 h2 => ?_)
  · exact f_ur (by decide) (f_uc (by omega) (f_uc (by omega) (f_uc (by omega) (f_uc (by omega) rfl))))
  · simp [f_u]
  · exact f_uc hj (by rw [f_u_ne (by decide), f_u_ne (by decide), f_u_ne (by decide), f_u_ne (by decide)])
  · rw [f_u_ne h1, f_u_ne h2, f_u_ne h2, f_u_ne h2, f_u_ne h2]
set_option maxRecDepth 100000 in
set_option maxHeartbeats 4000000 in
theorem sm_add {d : Nat} {σ : Sg} {dl : List (Nat × List Nat)} {B : Nat} {k a b : Int32} {I : Fm} {P : Fr} {K : Option Fs → Fm → Fr → Prop} (hP : x_ref P) (h : MR σ dl B I) (hK : ∀ I' : Fm, MR (e_add σ k a b) dl B I' → (∀ j, j ≠ 23 → j ≠ 27 → I' 56 j = I 56 j) → (∀ x, x ≠ 56 → x ≠ 76 → I' x = I x) → K none I' P) : Fk (d + 1) m_M_add 77 77 0 0 [rf 57, .inr k, .inr a, .inr b] I P K := by
  have hl10 := h.2.1.2.1
  refine Fk.intro (by decide +kernel) (Nat.le_of_ble_eq_true rfl) (fun G hC => ?_)
  refine Zv.aload_n hC d_M_add_0 rfl ?_
  refine Zv.geti hC d_M_add_1 fl_M_75 rfl rfl (by decide) h.2.1.1 ?_
  refine Zv.bipush hC d_M_add_4 bp_10 ?_
  refine Zv.icmp_ne (tgt := 23) hC d_M_add_6 (by decide) (fun h6 => ?_) (fun h6 => ?_)
  · try have g6 := q_n h6
    refine lm_add hC hP (show (s_sr σ).length < 10 by omega) h.2.1.1 h.1.1 (fun I' b1 b2 b3 b4 b5 => ?_)
    have e : st_add (s_sr σ) (s_g σ 5) (k, nI (s_g σ 0), a, b) = (s_sr σ ++ [(k, nI (s_g σ 0), a, b)], s_g σ 5) := if_neg (by omega)
    exact hK I' (MR_add h (by rw [e]; exact ms_push h.2.1 (by omega) b1 b2 b3) (by rw [e]; exact (b4 27 (by decide)).trans h.1.2.2.2.1) (fun j h1 _ => b4 j h1) b5) (fun j h1 _ => b4 j h1) b5
  · try have g6 := q_e h6 (by omega) (by omega)
    refine Zv.aload_n hC d_M_add_9 rfl ?_
    refine Zv.callV0 hC d_M_add_10 ml_M_78 mk_M_shiftStore rfl (Nat.le_of_ble_eq_true rfl) rfl (by decide) ?_
    refine sm_shiftStore hP (by omega) h.2.1.1 (fun I1 c1 c2 c3 c4 => ?_)
    refine Zv.aload_n hC d_M_add_13 rfl ?_
    refine Zv.dup hC d_M_add_14 ?_
    refine Zv.geti hC d_M_add_15 fl_M_81 rfl rfl (by decide) ((c3 27 (by decide)).trans h.1.2.2.2.1) ?_
    refine Zv.iconst hC d_M_add_18 ic_1 ?_
    first | refine Zv.iaddN hC d_M_add_19 ?_ | refine Zv.iadd hC d_M_add_19 ?_
    refine Zv.puti hC d_M_add_20 fl_M_81 rfl ck_7 rfl rfl rfl rfl (by decide) ?_
    obtain ⟨q, sr, hq⟩ : ∃ q sr, s_sr σ = q :: sr := by
      cases hh : s_sr σ with
      | nil => rw [hh] at g6; exact absurd g6 (by decide)
      | cons q sr => exact ⟨q, sr, rfl⟩
    have hl : sr.length = 9 := by rw [hq] at g6; simpa using g6
    have hs := h.2.1
    rw [hq] at hs
    have c1 : I1 56 23 = nI sr.length := by rw [c1, hq]; rfl
    have hs1 := ms_pop hs c1 (fun k hk => c2 k (by rw [hq]; simp; omega))
    refine lm_add hC hP (show sr.length < 10 by omega) (f_uc (by decide) c1) (f_uc (by decide) ((c3 24 (by decide)).trans h.1.1)) (fun I' b1 b2 b3 b4 b5 => ?_)
    have e : st_add (s_sr σ) (s_g σ 5) (k, nI (s_g σ 0), a, b) = (sr ++ [(k, nI (s_g σ 0), a, b)], s_g σ 5 + 1) := by unfold st_add; rw [if_pos (by omega), hq]; rfl
    have g1 : ∀ j, j ≠ 23 → j ≠ 27 → I' 56 j = I 56 j := fun j h1 h2 => (b4 j h1).trans (f_uc h2 (c3 j h1))
    have g2 : ∀ x, x ≠ 56 → x ≠ 76 → I' x = I x := fun x h1 h2 => (b5 x h1 h2).trans ((f_u_ne h1).trans (c4 x h1 h2))
    refine hK I' (MR_add h ?_ (by rw [e]; exact (b4 27 (by decide)).trans f_u_s) g1 g2) g1 g2
    rw [e]
    refine ms_push hs1 (by omega) b1 (fun k hk => (b2 k hk).trans (by rw [f_u_ne (by decide)])) b3
