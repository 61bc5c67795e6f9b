def m_rcv (I : Fm) (rx : Rx) : Prop := match rx with
  | none => I 56 1 = -1
  | some [] => I 56 1 = nI 0
  | some (N :: l) => I 56 1 = nI (l.length + 1) ∧ 2 ≤ N ∧ N ≤ 12 ∧ l.length ≤ N ∧ (∀ x ∈ l, x < 256) ∧ I 57 0 = nI N ∧ ∀ i, i < l.length → I 57 (i + 1) = nI (e_at l i)
theorem m_rcv_kept {I I' : Fm} {rx : Rx} (h : m_rcv I rx) (h1 : I' 56 1 = I 56 1) (h2 : I' 57 = I 57) : m_rcv I' rx := by
  unfold m_rcv at h ⊢
  rw [h1, h2]
  exact h
set_option maxRecDepth 100000 in
set_option maxHeartbeats 4000000 in
theorem lm_upc {G : Fx} {d : Nat} {y : Int32} {c : List Nat} {I : Fm} {P : Fr} {K : Option Fs → Fm → Fr → Prop} (hC : Fc G m_M_uplink d 0 0) (hP : x_ref P) (hl : c.length ≤ 11) (h3 : I 56 3 = nI c.length) (h57 : ∀ i, i < c.length → I 57 (i + 2) = nI (e_at c i)) (hgo : ∀ J : Fm, (∀ a, a ≠ 58 → J a = I a) → (∀ i, i < c.length → J 58 i = nI (e_at c i)) → Zv G (f_R G K 77 0 0) 77 0 0 213 [(0, rf 57), (1, .inr y)] [] J P) : ∀ (f i : Nat) (J : Fm), i + f = c.length + 1 → i ≤ c.length → (∀ a, a ≠ 58 → J a = I a) → (∀ j, j < i → J 58 j = nI (e_at c j)) → Zv G (f_R G K 77 0 0) 77 0 0 185 [(0, rf 57), (1, .inr y), (2, .inr (nI i))] [] J P := by
  intro f
  induction f with
  | zero => intro i J h1 h2; omega
  | succ f ih =>
    intro i J hif hin hJ1 hJ2
    refine Zv.iload_n hC d_M_uplink_185 rfl ?_
    refine Zv.aload_n hC d_M_uplink_186 rfl ?_
    refine Zv.geti hC d_M_uplink_187 fl_M_91 rfl rfl (by decide) ((congrFun (hJ1 56 (by decide)) 3).trans h3) ?_
    refine Zv.icmp_ge (tgt := 213) hC d_M_uplink_190 (by decide) (fun h190 => ?_) (fun h190 => ?_)
    · try have g190 := q_le h190 (by omega) (by omega)
      exact Zv.take 2 (hgo J hJ1 (fun j hj => hJ2 j (by omega)))
    · try have g190 := q_nle h190 (by omega) (by omega)
      refine Zv.aload_n hC d_M_uplink_193 rfl ?_
      refine Zv.getr (q := 59) hC d_M_uplink_194 fl_M_17 rfl rfl (by decide) (hP _ _ (by decide) (by decide)) ?_
      refine Zv.iload_n hC d_M_uplink_197 rfl ?_
      refine Zv.aload_n hC d_M_uplink_198 rfl ?_
      refine Zv.getr (q := 58) hC d_M_uplink_199 fl_M_7 rfl rfl (by decide) (hP _ _ (by decide) (by decide)) ?_
      refine Zv.iload_n hC d_M_uplink_202 rfl ?_
      refine Zv.iconst hC d_M_uplink_203 ic_2 ?_
      first | refine Zv.iaddN hC d_M_uplink_204 ?_ | refine Zv.iadd hC d_M_uplink_204 ?_
      refine Zv.iald hC d_M_uplink_205 rfl (by decide) rfl (by omega) (by first | decide | omega) ((congrFun (hJ1 57 (by decide)) _).trans (h57 i g190)) ?_
      refine Zv.iast hC d_M_uplink_206 rfl (by decide) rfl (by omega) (by first | decide | omega) ?_
      refine Zv.iinc hC d_M_uplink_207 rfl (by decide) (q_inc _) rfl ?_
      refine Zv.goto (tgt := 185) hC d_M_uplink_210 (by decide) ?_
      refine ih (i + 1) _ (by omega) (by omega) (fun a h => by rw [f_u_ne h]; exact hJ1 a h) (fun j hj => ?_)
      by_cases e : j = i
      · subst e
        exact f_u_s
      · exact f_uc (by omega) (hJ2 j (by omega))
set_option maxRecDepth 100000 in
set_option maxHeartbeats 4000000 in
theorem lm_up161 {G : Fx} {d n : Nat} {y : Int32} {σ : Sg} {B : Nat} {c : List Nat} {I : Fm} {P : Fr} {K : Option Fs → Fm → Fr → Prop} (hC : Fc G m_M_uplink (d + 4) 0 0) (hP : x_ref P) (h : MR σ [] B I) (hS : SI σ) (hB : B < 2 ^ 30) (hl : 1 ≤ c.length ∧ c.length ≤ 11) (hbl : ∀ x ∈ n :: c, x < 256) (hN : I 57 0 = nI (c.length + 1)) (hn : I 57 1 = nI n) (hf : ∀ i, i < c.length → I 57 (i + 2) = nI (e_at c i)) (hK : ∀ I' : Fm, MR (e_frame (w_g σ 6 (s_g σ 6 + 1)) (n :: c)).1 [] (B + 1) I' → mfr I I' → K (some (.inr (nI (if (e_frame (w_g σ 6 (s_g σ 6 + 1)) (n :: c)).2 = 0 then 2 else 1)))) I' P) : Zv G (f_R G K 77 0 0) 77 0 0 161 [(0, rf 57), (1, .inr y)] [] I P := by
  refine Zv.aload_n hC d_M_uplink_161 rfl ?_
  refine Zv.dup hC d_M_uplink_162 ?_
  refine Zv.geti hC d_M_uplink_163 fl_M_155 rfl rfl (by decide) h.1.2.2.2.2.1 ?_
  refine Zv.iconst hC d_M_uplink_166 ic_1 ?_
  first | refine Zv.iaddN hC d_M_uplink_167 ?_ | refine Zv.iadd hC d_M_uplink_167 ?_
  refine Zv.puti hC d_M_uplink_168 fl_M_155 rfl ck_7 rfl rfl rfl rfl (by decide) ?_
  refine Zv.aload_n hC d_M_uplink_171 rfl ?_
  refine Zv.aload_n hC d_M_uplink_172 rfl ?_
  refine Zv.getr (q := 58) hC d_M_uplink_173 fl_M_7 rfl rfl (by decide) (hP _ _ (by decide) (by decide)) ?_
  refine Zv.iconst hC d_M_uplink_176 ic_0 ?_
  refine Zv.iald hC d_M_uplink_177 rfl (by decide) rfl (by omega) (by first | decide | omega) (f_ur (by decide) hN) ?_
  refine Zv.iconst hC d_M_uplink_178 ic_1 ?_
  refine Zv.isubN hC d_M_uplink_179 (by omega) ?_
  refine Zv.puti hC d_M_uplink_180 fl_M_91 rfl ck_7 rfl rfl rfl rfl (by decide) ?_
  refine Zv.iconst hC d_M_uplink_183 ic_0 ?_
  refine Zv.istore_n hC d_M_uplink_184 (by decide) rfl ?_
  refine lm_upc (c := c) hC hP (by omega) (f_u_s.trans (by rw [Nat.add_sub_cancel])) (fun i hi => f_ur (by decide) (f_ur (by decide) (hf i hi))) (fun J c1 c2 => ?_) (c.length + 1) 0 _ (by omega) (Nat.zero_le _) (fun _ _ => rfl) (fun j hj => absurd hj (Nat.not_lt_zero j))
  have hM : MR (w_g σ 6 (s_g σ 6 + 1)) [] B J := MR_kept (MR_g6 (v := s_g σ 6 + 1) h) (fun j h1 h3 => by rw [c1 56 (by decide)]; exact f_uc h3 rfl) (fun a ha => by rw [c1 a (by omega), f_u_ne (by omega)])
  have hw : m_w J c := ⟨by rw [c1 56 (by decide)]; exact f_u_s.trans (by rw [Nat.add_sub_cancel]), by omega, c2, fun x hx => hbl x (List.mem_cons_of_mem _ hx)⟩
  have hfr : mfr I J := ⟨fun a ha => by rw [c1 a (by omega), f_u_ne (by omega), f_u_ne (by omega)], by rw [c1 56 (by decide)]; exact f_uc (by decide) (f_uc (by decide) rfl)⟩
  have hS1 : SI (w_g σ 6 (s_g σ 6 + 1)) := SI_g9 hS (by decide) _
  refine Zv.aload_n hC d_M_uplink_213 rfl ?_
  refine Zv.callV0 hC d_M_uplink_214 ml_M_158 mk_M_broken rfl (Nat.le_of_ble_eq_true rfl) rfl (by decide) ?_
  refine sm_broken hP hw (by omega) ?_
  refine Zv.istore_n hC d_M_uplink_217 (by decide) rfl ?_
  have hbr := brk_le 3 c
  refine Zv.iload_n hC d_M_uplink_218 rfl ?_
  refine Zv.if_ne (tgt := 241) hC d_M_uplink_219 (by decide) (fun h219 => ?_) (fun h219 => ?_)
  · try have g219 := q_n0 h219
    have ef : e_frame (w_g σ 6 (s_g σ 6 + 1)) (n :: c) = (e_add (w_g σ 6 (s_g σ 6 + 1)) 2 (nI n) (nI (e_brk 3 c)), 0) := if_pos g219
    rw [ef] at hK
    refine Zv.aload_n hC d_M_uplink_241 rfl ?_
    refine Zv.iconst hC d_M_uplink_242 ic_2 ?_
    refine Zv.aload_n hC d_M_uplink_243 rfl ?_
    refine Zv.getr (q := 58) hC d_M_uplink_244 fl_M_7 rfl rfl (by decide) (hP _ _ (by decide) (by decide)) ?_
    refine Zv.iconst hC d_M_uplink_247 ic_1 ?_
    refine Zv.iald hC d_M_uplink_248 rfl (by decide) rfl (by omega) (by first | decide | omega) ((congrFun (c1 57 (by decide)) 1).trans (f_ur (by decide) (f_ur (by decide) hn))) ?_
    refine Zv.iload_n hC d_M_uplink_249 rfl ?_
    refine Zv.callV3 hC d_M_uplink_250 ml_M_119 mk_M_add rfl (Nat.le_of_ble_eq_true rfl) rfl (by decide) ?_
    refine sm_add hP hM (fun J2 q1 q2 q3 => ?_)
    refine Zv.iconst hC d_M_uplink_253 ic_2 ?_
    refine Zv.iret hC rfl d_M_uplink_254 (Nat.le_refl _) (Nat.le_refl _) ?_
    exact hK J2 (MR_le q1 (Nat.le_succ _)) (mfr_tr hfr (mfr_ad q2 q3))
  · try have g219 := q_e0 h219 (by omega)
    have ef : e_frame (w_g σ 6 (s_g σ 6 + 1)) (n :: c) = e_carry (w_g σ 6 (s_g σ 6 + 1)) c n := if_neg (fun z => z g219)
    rw [ef] at hK
    refine Zv.aload_n hC d_M_uplink_222 rfl ?_
    refine Zv.aload_n hC d_M_uplink_223 rfl ?_
    refine Zv.getr (q := 58) hC d_M_uplink_224 fl_M_7 rfl rfl (by decide) (hP _ _ (by decide) (by decide)) ?_
    refine Zv.iconst hC d_M_uplink_227 ic_1 ?_
    refine Zv.iald hC d_M_uplink_228 rfl (by decide) rfl (by omega) (by first | decide | omega) ((congrFun (c1 57 (by decide)) 1).trans (f_ur (by decide) (f_ur (by decide) hn))) ?_
    refine Zv.callV1 hC d_M_uplink_229 ml_M_161 mk_M_carry rfl (Nat.le_of_ble_eq_true rfl) rfl (by decide) ?_
    refine sm_carry (num := n) hP hM hS1 (by omega) hw (val_one g219) (fun _ => rfl) (fun J2 q1 q2 => ?_)
    have hc2 := carry_2 (w_g σ 6 (s_g σ 6 + 1)) c n
    refine Zv.if_eq (tgt := 239) hC d_M_uplink_232 (by decide) (fun h232 => ?_) (fun h232 => ?_)
    · try have g232 := q_e0 h232 (by omega)
      refine Zv.iconst hC d_M_uplink_239 ic_2 ?_
      refine Zv.iret hC rfl d_M_uplink_240 (Nat.le_refl _) (Nat.le_refl _) ?_
      rw [if_pos g232] at hK
      exact hK J2 q1 (mfr_tr hfr q2)
    · try have g232 := q_n0 h232
      refine Zv.iconst hC d_M_uplink_235 ic_1 ?_
      refine Zv.goto (tgt := 240) hC d_M_uplink_236 (by decide) ?_
      refine Zv.iret hC rfl d_M_uplink_240 (Nat.le_refl _) (Nat.le_refl _) ?_
      rw [if_neg g232] at hK
      exact hK J2 q1 (mfr_tr hfr q2)
set_option maxRecDepth 100000 in
set_option maxHeartbeats 4000000 in
theorem lm_up0 {G : Fx} {d j : Nat} {σ : Sg} {B : Nat} {I : Fm} {P : Fr} {K : Option Fs → Fm → Fr → Prop} (hC : Fc G m_M_uplink (d + 4) 0 0) (hP : x_ref P) (h : MR σ [] B I) (hS : SI σ) (hB : B < 2 ^ 30) (hj : j < 256) (hr : I 56 1 = -1) (hK : ∀ I' : Fm, MR (e_up none σ j).2.1 [] (B + 1) I' → m_rcv I' (e_up none σ j).1 → (∀ a, a < 56 → I' a = I a) → K (some (.inr (nI (e_up none σ j).2.2))) I' P) : Zv G (f_R G K 77 0 0) 77 0 0 15 [(0, rf 57), (1, .inr (nI j))] [] I P := by
  refine Zv.aload_n hC d_M_uplink_15 rfl ?_
  refine Zv.geti hC d_M_uplink_16 fl_M_13 rfl rfl (by decide) hr ?_
  refine Zv.if_ge (tgt := 64) hC d_M_uplink_19 (by decide) (fun h19 => ?_) (fun h19 => ?_)
  · skip
    exact absurd h19 (by decide)
  · skip
    refine Zv.iload_n hC d_M_uplink_22 rfl ?_
    refine Zv.sipush hC d_M_uplink_23 sp_235 ?_
    refine Zv.icmp_ne (tgt := 34) hC d_M_uplink_26 (by decide) (fun h26 => ?_) (fun h26 => ?_)
    · try have g26 := q_n h26
      have eu : e_up none σ j = (none, w_g σ 8 (s_g σ 8 + 1), 5) := if_neg g26
      rw [eu] at hK
      refine Zv.iload_n hC d_M_uplink_34 rfl ?_
      refine Zv.sipush hC d_M_uplink_35 sp_235 ?_
      refine Zv.icmp_eq (tgt := 51) hC d_M_uplink_38 (by decide) (fun h38 => ?_) (fun h38 => ?_)
      · try have g38 := q_e h38 (by omega) (by omega)
        exact absurd g38 g26
      · try have g38 := q_n h38
        refine Zv.aload_n hC d_M_uplink_41 rfl ?_
        refine Zv.dup hC d_M_uplink_42 ?_
        refine Zv.geti hC d_M_uplink_43 fl_M_145 rfl rfl (by decide) h.1.2.2.2.2.2.2.1 ?_
        refine Zv.iconst hC d_M_uplink_46 ic_1 ?_
        first | refine Zv.iaddN hC d_M_uplink_47 ?_ | refine Zv.iadd hC d_M_uplink_47 ?_
        refine Zv.puti hC d_M_uplink_48 fl_M_145 rfl ck_7 rfl rfl rfl rfl (by decide) ?_
        refine Zv.iload_n hC d_M_uplink_51 rfl ?_
        refine Zv.sipush hC d_M_uplink_52 sp_235 ?_
        refine Zv.icmp_ne (tgt := 62) hC d_M_uplink_55 (by decide) (fun h55 => ?_) (fun h55 => ?_)
        · try have g55 := q_n h55
          refine Zv.iconst hC d_M_uplink_62 ic_5 ?_
          refine Zv.iret hC rfl d_M_uplink_63 (Nat.le_refl _) (Nat.le_refl _) ?_
          exact hK _ (MR_le (MR_g8 h) (Nat.le_succ _)) (f_uc (by decide) hr) (fun a ha => f_u_ne (by omega))
        · try have g55 := q_e h55 (by omega) (by omega)
          exact absurd g55 g26
    · try have g26 := q_e h26 (by omega) (by omega)
      have eu : e_up none σ j = (some [], σ, 0) := if_pos g26
      rw [eu] at hK
      refine Zv.aload_n hC d_M_uplink_29 rfl ?_
      refine Zv.iconst hC d_M_uplink_30 ic_0 ?_
      refine Zv.puti hC d_M_uplink_31 fl_M_13 rfl ck_7 rfl rfl rfl rfl (by decide) ?_
      refine Zv.iload_n hC d_M_uplink_34 rfl ?_
      refine Zv.sipush hC d_M_uplink_35 sp_235 ?_
      refine Zv.icmp_eq (tgt := 51) hC d_M_uplink_38 (by decide) (fun h38 => ?_) (fun h38 => ?_)
      · try have g38 := q_e h38 (by omega) (by omega)
        refine Zv.iload_n hC d_M_uplink_51 rfl ?_
        refine Zv.sipush hC d_M_uplink_52 sp_235 ?_
        refine Zv.icmp_ne (tgt := 62) hC d_M_uplink_55 (by decide) (fun h55 => ?_) (fun h55 => ?_)
        · try have g55 := q_n h55
          exact absurd g26 g55
        · try have g55 := q_e h55 (by omega) (by omega)
          refine Zv.iconst hC d_M_uplink_58 ic_0 ?_
          refine Zv.goto (tgt := 63) hC d_M_uplink_59 (by decide) ?_
          refine Zv.iret hC rfl d_M_uplink_63 (Nat.le_refl _) (Nat.le_refl _) ?_
          exact hK _ (MR_le (MR_kept h (fun j h1 _ => f_uc h1 rfl) (fun a ha => f_u_ne (by omega))) (Nat.le_succ _)) (show f_u I 56 1 (nI 0) 56 1 = nI 0 from f_u_s) (fun a ha => f_u_ne (by omega))
      · try have g38 := q_n h38
        exact absurd g26 g38
set_option maxRecDepth 100000 in
set_option maxHeartbeats 4000000 in
theorem lm_up1 {G : Fx} {d j : Nat} {σ : Sg} {B : Nat} {I : Fm} {P : Fr} {K : Option Fs → Fm → Fr → Prop} (hC : Fc G m_M_uplink (d + 4) 0 0) (hP : x_ref P) (h : MR σ [] B I) (hS : SI σ) (hB : B < 2 ^ 30) (hj : j < 256) (hr : I 56 1 = nI 0) (hK : ∀ I' : Fm, MR (e_up (some []) σ j).2.1 [] (B + 1) I' → m_rcv I' (e_up (some []) σ j).1 → (∀ a, a < 56 → I' a = I a) → K (some (.inr (nI (e_up (some []) σ j).2.2))) I' P) : Zv G (f_R G K 77 0 0) 77 0 0 15 [(0, rf 57), (1, .inr (nI j))] [] I P := by
  refine Zv.aload_n hC d_M_uplink_15 rfl ?_
  refine Zv.geti hC d_M_uplink_16 fl_M_13 rfl rfl (by decide) hr ?_
  refine Zv.if_ge (tgt := 64) hC d_M_uplink_19 (by decide) (fun h19 => ?_) (fun h19 => ?_)
  · skip
    refine Zv.aload_n hC d_M_uplink_64 rfl ?_
    refine Zv.getr (q := 58) hC d_M_uplink_65 fl_M_7 rfl rfl (by decide) (hP _ _ (by decide) (by decide)) ?_
    refine Zv.aload_n hC d_M_uplink_68 rfl ?_
    refine Zv.geti hC d_M_uplink_69 fl_M_13 rfl rfl (by decide) hr ?_
    refine Zv.iload_n hC d_M_uplink_72 rfl ?_
    refine Zv.iast hC d_M_uplink_73 rfl (by decide) rfl (by omega) (by first | decide | omega) ?_
    refine Zv.aload_n hC d_M_uplink_74 rfl ?_
    refine Zv.dup hC d_M_uplink_75 ?_
    refine Zv.geti hC d_M_uplink_76 fl_M_13 rfl rfl (by decide) (f_ur (by decide) hr) ?_
    refine Zv.iconst hC d_M_uplink_79 ic_1 ?_
    first | refine Zv.iaddN hC d_M_uplink_80 ?_ | refine Zv.iadd hC d_M_uplink_80 ?_
    refine Zv.puti hC d_M_uplink_81 fl_M_13 rfl ck_7 rfl rfl rfl rfl (by decide) ?_
    refine Zv.aload_n hC d_M_uplink_84 rfl ?_
    refine Zv.geti hC d_M_uplink_85 fl_M_13 rfl rfl (by decide) f_u_s ?_
    refine Zv.iconst hC d_M_uplink_88 ic_1 ?_
    refine Zv.icmp_ne (tgt := 120) hC d_M_uplink_89 (by decide) (fun h89 => ?_) (fun h89 => ?_)
    · try have g89 := q_n h89
      exact absurd g89 (by omega)
    · try have g89 := q_e h89 (by omega) (by omega)
      refine Zv.iload_n hC d_M_uplink_92 rfl ?_
      refine Zv.iconst hC d_M_uplink_93 ic_2 ?_
      refine Zv.icmp_lt (tgt := 103) hC d_M_uplink_94 (by decide) (fun h94 => ?_) (fun h94 => ?_)
      · try have g94 := q_l h94 (by omega) (by omega)
        refine Zv.aload_n hC d_M_uplink_103 rfl ?_
        refine Zv.iconst hC d_M_uplink_104 ic_m1 ?_
        refine Zv.puti hC d_M_uplink_105 fl_M_13 rfl ck_7 rfl rfl rfl rfl (by decide) ?_
        refine Zv.aload_n hC d_M_uplink_108 rfl ?_
        refine Zv.dup hC d_M_uplink_109 ?_
        refine Zv.geti hC d_M_uplink_110 fl_M_148 rfl rfl (by decide) (f_uc (by decide) (f_uc (by decide) (f_ur (by decide) h.1.2.2.2.2.2.1))) ?_
        refine Zv.iconst hC d_M_uplink_113 ic_1 ?_
        first | refine Zv.iaddN hC d_M_uplink_114 ?_ | refine Zv.iadd hC d_M_uplink_114 ?_
        refine Zv.puti hC d_M_uplink_115 fl_M_148 rfl ck_7 rfl rfl rfl rfl (by decide) ?_
        refine Zv.iconst hC d_M_uplink_118 ic_3 ?_
        refine Zv.iret hC rfl d_M_uplink_119 (Nat.le_refl _) (Nat.le_refl _) ?_
        have eu : e_up (some []) σ j = (none, w_g σ 7 (s_g σ 7 + 1), 3) := if_pos (by omega)
        rw [eu] at hK
        have h1 : MR σ [] B (f_u (f_u (f_u I 57 0 (nI j)) 56 1 (nI (0 + 1))) 56 1 (-1)) := MR_kept h (fun i h1 _ => f_uc h1 (f_uc h1 (f_ur (by decide) rfl))) (fun a ha => by rw [f_u_ne (by omega), f_u_ne (by omega), f_u_ne (by omega)])
        exact hK _ (MR_le (MR_g7 h1) (Nat.le_succ _)) (f_uc (by decide) f_u_s) (fun a ha => by rw [f_u_ne (by omega), f_u_ne (by omega), f_u_ne (by omega), f_u_ne (by omega)])
      · try have g94 := q_nl h94 (by omega) (by omega)
        refine Zv.iload_n hC d_M_uplink_97 rfl ?_
        refine Zv.bipush hC d_M_uplink_98 bp_12 ?_
        refine Zv.icmp_le (tgt := 120) hC d_M_uplink_100 (by decide) (fun h100 => ?_) (fun h100 => ?_)
        · try have g100 := q_le h100 (by omega) (by omega)
          refine Zv.aload_n hC d_M_uplink_120 rfl ?_
          refine Zv.geti hC d_M_uplink_121 fl_M_13 rfl rfl (by decide) f_u_s ?_
          refine Zv.aload_n hC d_M_uplink_124 rfl ?_
          refine Zv.getr (q := 58) hC d_M_uplink_125 fl_M_7 rfl rfl (by decide) (hP _ _ (by decide) (by decide)) ?_
          refine Zv.iconst hC d_M_uplink_128 ic_0 ?_
          refine Zv.iald hC d_M_uplink_129 rfl (by decide) rfl (by omega) (by first | decide | omega) (f_ur (by decide) f_u_s) ?_
          refine Zv.iconst hC d_M_uplink_130 ic_2 ?_
          first | refine Zv.iaddN hC d_M_uplink_131 ?_ | refine Zv.iadd hC d_M_uplink_131 ?_
          refine Zv.icmp_ge (tgt := 137) hC d_M_uplink_132 (by decide) (fun h132 => ?_) (fun h132 => ?_)
          · try have g132 := q_le h132 (by omega) (by omega)
            exact absurd g132 (by omega)
          · try have g132 := q_nle h132 (by omega) (by omega)
            refine Zv.iconst hC d_M_uplink_135 ic_0 ?_
            refine Zv.iret hC rfl d_M_uplink_136 (Nat.le_refl _) (Nat.le_refl _) ?_
            have eu : e_up (some []) σ j = (some [j], σ, 0) := if_neg (by omega)
            rw [eu] at hK
            exact hK _ (MR_le (MR_kept h (fun i h1 _ => f_uc h1 (f_ur (by decide) rfl)) (fun a ha => by rw [f_u_ne (by omega), f_u_ne (by omega)])) (Nat.le_succ _)) ⟨f_u_s, by omega, by omega, Nat.zero_le _, fun x hx => absurd hx List.not_mem_nil, f_ur (by decide) f_u_s, fun i hi => absurd hi (Nat.not_lt_zero i)⟩ (fun a ha => by rw [f_u_ne (by omega), f_u_ne (by omega)])
        · try have g100 := q_nle h100 (by omega) (by omega)
          refine Zv.aload_n hC d_M_uplink_103 rfl ?_
          refine Zv.iconst hC d_M_uplink_104 ic_m1 ?_
          refine Zv.puti hC d_M_uplink_105 fl_M_13 rfl ck_7 rfl rfl rfl rfl (by decide) ?_
          refine Zv.aload_n hC d_M_uplink_108 rfl ?_
          refine Zv.dup hC d_M_uplink_109 ?_
          refine Zv.geti hC d_M_uplink_110 fl_M_148 rfl rfl (by decide) (f_uc (by decide) (f_uc (by decide) (f_ur (by decide) h.1.2.2.2.2.2.1))) ?_
          refine Zv.iconst hC d_M_uplink_113 ic_1 ?_
          first | refine Zv.iaddN hC d_M_uplink_114 ?_ | refine Zv.iadd hC d_M_uplink_114 ?_
          refine Zv.puti hC d_M_uplink_115 fl_M_148 rfl ck_7 rfl rfl rfl rfl (by decide) ?_
          refine Zv.iconst hC d_M_uplink_118 ic_3 ?_
          refine Zv.iret hC rfl d_M_uplink_119 (Nat.le_refl _) (Nat.le_refl _) ?_
          have eu : e_up (some []) σ j = (none, w_g σ 7 (s_g σ 7 + 1), 3) := if_pos (by omega)
          rw [eu] at hK
          have h1 : MR σ [] B (f_u (f_u (f_u I 57 0 (nI j)) 56 1 (nI (0 + 1))) 56 1 (-1)) := MR_kept h (fun i h1 _ => f_uc h1 (f_uc h1 (f_ur (by decide) rfl))) (fun a ha => by rw [f_u_ne (by omega), f_u_ne (by omega), f_u_ne (by omega)])
          exact hK _ (MR_le (MR_g7 h1) (Nat.le_succ _)) (f_uc (by decide) f_u_s) (fun a ha => by rw [f_u_ne (by omega), f_u_ne (by omega), f_u_ne (by omega), f_u_ne (by omega)])
  · skip
    exact absurd (show (0 : Int32) ≤ nI 0 by decide) h19
set_option maxRecDepth 100000 in
set_option maxHeartbeats 4000000 in
theorem lm_up2 {G : Fx} {d j : Nat} {σ : Sg} {B : Nat} {I : Fm} {P : Fr} {K : Option Fs → Fm → Fr → Prop} (hC : Fc G m_M_uplink (d + 4) 0 0) (hP : x_ref P) (h : MR σ [] B I) (hS : SI σ) (hB : B < 2 ^ 30) (hj : j < 256) {N : Nat} {l : List Nat} (hr : m_rcv I (some (N :: l))) (hK : ∀ I' : Fm, MR (e_up (some (N :: l)) σ j).2.1 [] (B + 1) I' → m_rcv I' (e_up (some (N :: l)) σ j).1 → (∀ a, a < 56 → I' a = I a) → K (some (.inr (nI (e_up (some (N :: l)) σ j).2.2))) I' P) : Zv G (f_R G K 77 0 0) 77 0 0 15 [(0, rf 57), (1, .inr (nI j))] [] I P := by
  have hr : I 56 1 = nI (l.length + 1) ∧ 2 ≤ N ∧ N ≤ 12 ∧ l.length ≤ N ∧ (∀ x ∈ l, x < 256) ∧ I 57 0 = nI N ∧ ∀ i, i < l.length → I 57 (i + 1) = nI (e_at l i) := hr
  have hN1 := hr.2.1
  have hN2 := hr.2.2.1
  have hlN := hr.2.2.2.1
  refine Zv.aload_n hC d_M_uplink_15 rfl ?_
  refine Zv.geti hC d_M_uplink_16 fl_M_13 rfl rfl (by decide) hr.1 ?_
  refine Zv.if_ge (tgt := 64) hC d_M_uplink_19 (by decide) (fun h19 => ?_) (fun h19 => ?_)
  · skip
    refine Zv.aload_n hC d_M_uplink_64 rfl ?_
    refine Zv.getr (q := 58) hC d_M_uplink_65 fl_M_7 rfl rfl (by decide) (hP _ _ (by decide) (by decide)) ?_
    refine Zv.aload_n hC d_M_uplink_68 rfl ?_
    refine Zv.geti hC d_M_uplink_69 fl_M_13 rfl rfl (by decide) hr.1 ?_
    refine Zv.iload_n hC d_M_uplink_72 rfl ?_
    refine Zv.iast hC d_M_uplink_73 rfl (by decide) rfl (by omega) (by first | decide | omega) ?_
    refine Zv.aload_n hC d_M_uplink_74 rfl ?_
    refine Zv.dup hC d_M_uplink_75 ?_
    refine Zv.geti hC d_M_uplink_76 fl_M_13 rfl rfl (by decide) (f_ur (by decide) hr.1) ?_
    refine Zv.iconst hC d_M_uplink_79 ic_1 ?_
    first | refine Zv.iaddN hC d_M_uplink_80 ?_ | refine Zv.iadd hC d_M_uplink_80 ?_
    refine Zv.puti hC d_M_uplink_81 fl_M_13 rfl ck_7 rfl rfl rfl rfl (by decide) ?_
    refine Zv.aload_n hC d_M_uplink_84 rfl ?_
    refine Zv.geti hC d_M_uplink_85 fl_M_13 rfl rfl (by decide) f_u_s ?_
    refine Zv.iconst hC d_M_uplink_88 ic_1 ?_
    refine Zv.icmp_ne (tgt := 120) hC d_M_uplink_89 (by decide) (fun h89 => ?_) (fun h89 => ?_)
    · try have g89 := q_n h89
      refine Zv.aload_n hC d_M_uplink_120 rfl ?_
      refine Zv.geti hC d_M_uplink_121 fl_M_13 rfl rfl (by decide) f_u_s ?_
      refine Zv.aload_n hC d_M_uplink_124 rfl ?_
      refine Zv.getr (q := 58) hC d_M_uplink_125 fl_M_7 rfl rfl (by decide) (hP _ _ (by decide) (by decide)) ?_
      refine Zv.iconst hC d_M_uplink_128 ic_0 ?_
      refine Zv.iald hC d_M_uplink_129 rfl (by decide) rfl (by omega) (by first | decide | omega) (f_ur (by decide) (f_uc (by omega) hr.2.2.2.2.2.1)) ?_
      refine Zv.iconst hC d_M_uplink_130 ic_2 ?_
      first | refine Zv.iaddN hC d_M_uplink_131 ?_ | refine Zv.iadd hC d_M_uplink_131 ?_
      refine Zv.icmp_ge (tgt := 137) hC d_M_uplink_132 (by decide) (fun h132 => ?_) (fun h132 => ?_)
      · try have g132 := q_le h132 (by omega) (by omega)
        have hNl : l.length = N := by omega
        have hq1 : MR σ [] B (f_u (f_u (f_u I 57 (l.length + 1) (nI j)) 56 1 (nI (l.length + 1 + 1))) 56 1 (-1)) := MR_kept h (fun i h1 _ => f_uc h1 (f_uc h1 (f_ur (by decide) rfl))) (fun a ha => by rw [f_u_ne (by omega), f_u_ne (by omega), f_u_ne (by omega)])
        have hf57 : ∀ i, f_u (f_u (f_u I 57 (l.length + 1) (nI j)) 56 1 (nI (l.length + 1 + 1))) 56 1 (-1) 57 i = f_u I 57 (l.length + 1) (nI j) 57 i := fun i => f_ur (by decide) (f_ur (by decide) rfl)
        have hrow : ∀ a, a < 56 → f_u (f_u (f_u I 57 (l.length + 1) (nI j)) 56 1 (nI (l.length + 1 + 1))) 56 1 (-1) a = I a := fun a ha => by rw [f_u_ne (by omega), f_u_ne (by omega), f_u_ne (by omega)]
        refine Zv.aload_n hC d_M_uplink_137 rfl ?_
        refine Zv.iconst hC d_M_uplink_138 ic_m1 ?_
        refine Zv.puti hC d_M_uplink_139 fl_M_13 rfl ck_7 rfl rfl rfl rfl (by decide) ?_
        refine Zv.aload_n hC d_M_uplink_142 rfl ?_
        refine Zv.callV0 hC d_M_uplink_143 ml_M_151 mk_M_checked rfl (Nat.le_of_ble_eq_true rfl) rfl (by decide) ?_
        refine sm_checked (l := l) (x := j) hP hj (by omega) hr.2.2.2.2.1 ((hf57 0).trans (f_uc (by omega) (by rw [hNl]; exact hr.2.2.2.2.2.1))) (fun k h1 h2 => (hf57 k).trans (f_uc (by omega) ?_)) ((hf57 _).trans f_u_s) (fun r hrr he => ?_)
        · have := hr.2.2.2.2.2.2 (k - 1) (by omega)
          rw [show k - 1 + 1 = k by omega] at this
          exact this
        refine Zv.if_ne (tgt := 161) hC d_M_uplink_146 (by decide) (fun h146 => ?_) (fun h146 => ?_)
        · try have g146 := q_n0 h146
          have eu : e_up (some (N :: l)) σ j = (none, (e_frame (w_g σ 6 (s_g σ 6 + 1)) l).1, if (e_frame (w_g σ 6 (s_g σ 6 + 1)) l).2 = 0 then 2 else 1) := by
            unfold e_up
            dsimp only
            rw [if_neg (by omega), if_pos (he.mp g146)]
          rw [eu] at hK
          cases l with
          | nil => exact absurd hNl (by have := hr.2.1; simp; omega)
          | cons n c =>
            have hNl : c.length + 1 = N := hNl
            refine lm_up161 (n := n) (c := c) hC hP hq1 hS hB (by omega) hr.2.2.2.2.1 ((hf57 0).trans (f_uc (by simp) (by rw [hNl]; exact hr.2.2.2.2.2.1))) ((hf57 1).trans (f_uc (by simp) (hr.2.2.2.2.2.2 0 (Nat.succ_pos _)))) (fun i hi => (hf57 _).trans (f_uc (by simp; omega) (hr.2.2.2.2.2.2 (i + 1) (by simp; omega)))) (fun I' r1 r2 => ?_)
            exact hK I' r1 (r2.2.trans f_u_s) (fun a ha => (r2.1 a (Or.inl ha)).trans (hrow a ha))
        · try have g146 := q_e0 h146 (by omega)
          refine Zv.aload_n hC d_M_uplink_149 rfl ?_
          refine Zv.dup hC d_M_uplink_150 ?_
          refine Zv.geti hC d_M_uplink_151 fl_M_148 rfl rfl (by decide) (f_uc (by decide) (f_uc (by decide) (f_ur (by decide) h.1.2.2.2.2.2.1))) ?_
          refine Zv.iconst hC d_M_uplink_154 ic_1 ?_
          first | refine Zv.iaddN hC d_M_uplink_155 ?_ | refine Zv.iadd hC d_M_uplink_155 ?_
          refine Zv.puti hC d_M_uplink_156 fl_M_148 rfl ck_7 rfl rfl rfl rfl (by decide) ?_
          refine Zv.iconst hC d_M_uplink_159 ic_4 ?_
          refine Zv.iret hC rfl d_M_uplink_160 (Nat.le_refl _) (Nat.le_refl _) ?_
          have eu : e_up (some (N :: l)) σ j = (none, w_g σ 7 (s_g σ 7 + 1), 4) := by
            unfold e_up
            dsimp only
            rw [if_neg (by omega), if_neg (fun z => absurd (he.mpr z) (by omega))]
          rw [eu] at hK
          exact hK _ (MR_le (MR_g7 hq1) (Nat.le_succ _)) (f_uc (by decide) f_u_s) (fun a ha => (f_u_ne (by omega)).trans (hrow a ha))
      · try have g132 := q_nle h132 (by omega) (by omega)
        refine Zv.iconst hC d_M_uplink_135 ic_0 ?_
        refine Zv.iret hC rfl d_M_uplink_136 (Nat.le_refl _) (Nat.le_refl _) ?_
        have eu : e_up (some (N :: l)) σ j = (some (N :: (l ++ [j])), σ, 0) := if_pos (by omega)
        rw [eu] at hK
        refine hK _ (MR_le (MR_kept h (fun i h1 _ => f_uc h1 (f_ur (by decide) rfl)) (fun a ha => by rw [f_u_ne (by omega), f_u_ne (by omega)])) (Nat.le_succ _)) ⟨by rw [List.length_append]; exact f_u_s, hr.2.1, hr.2.2.1, by rw [List.length_append]; simp; omega, fun x hx => ?_, f_ur (by decide) (f_uc (by omega) hr.2.2.2.2.2.1), fun i hi => f_ur (by decide) ?_⟩ (fun a ha => by rw [f_u_ne (by omega), f_u_ne (by omega)])
        · rcases List.mem_append.mp hx with hx | hx
          · exact hr.2.2.2.2.1 x hx
          · rw [List.mem_singleton.mp hx]; exact hj
        · rw [List.length_append] at hi
          have hi : i < l.length + 1 := hi
          by_cases e : i = l.length
          · subst e
            refine f_u_s.trans ?_
            simp [e_at, List.getD]
          · refine f_uc (by omega) ((hr.2.2.2.2.2.2 i (by omega)).trans ?_)
            simp [e_at, List.getD, List.getElem?_append_left (show i < l.length by omega)]
    · try have g89 := q_e h89 (by omega) (by omega)
      exact absurd g89 (by omega)
  · skip
    exact absurd (nI_le (Nat.zero_le _) (by omega)) h19
set_option maxRecDepth 100000 in
set_option maxHeartbeats 4000000 in
theorem sm_uplink {d : Nat} {x : Int32} {rx : Rx} {σ : Sg} {B : Nat} {I : Fm} {P : Fr} {K : Option Fs → Fm → Fr → Prop} (hP : x_ref P) (h : MR σ [] B I) (hS : SI σ) (hB : B < 2 ^ 30) (hr : m_rcv I rx) (hK : ∀ j, j < 256 → x = nI j → ∀ I' : Fm, MR (e_up rx σ j).2.1 [] (B + 1) I' → m_rcv I' (e_up rx σ j).1 → (∀ a, a < 56 → I' a = I a) → K (some (.inr (nI (e_up rx σ j).2.2))) I' P) (hK0 : (¬ ∃ j, j < 256 ∧ x = nI j) → K (some (.inr (-1000))) I P) : Fk (d + 4) m_M_uplink 77 77 0 0 [rf 57, .inr x] I P K := by
  refine Fk.intro (by decide +kernel) (Nat.le_of_ble_eq_true rfl) (fun G hC => ?_)
  refine Zv.iload_n hC d_M_uplink_0 rfl ?_
  refine Zv.if_lt (tgt := 11) hC d_M_uplink_1 (by decide) (fun h1 => ?_) (fun h1 => ?_)
  · skip
    refine Zv.sipush hC d_M_uplink_11 sp_m1000 ?_
    refine Zv.iret hC rfl d_M_uplink_14 (Nat.le_refl _) (Nat.le_refl _) ?_
    exact hK0 (q_out0 h1 (by decide))
  · skip
    refine Zv.iload_n hC d_M_uplink_4 rfl ?_
    refine Zv.sipush hC d_M_uplink_5 sp_255 ?_
    refine Zv.icmp_le (tgt := 15) hC d_M_uplink_8 (by decide) (fun h8 => ?_) (fun h8 => ?_)
    · skip
      obtain ⟨j, hj, ej⟩ := q_in h1 (q_255 h8) (by decide)
      subst ej
      match rx, hr, hK with
      | none, hr, hK => exact lm_up0 hC hP h hS hB hj hr (hK j hj rfl)
      | some [], hr, hK => exact lm_up1 hC hP h hS hB hj hr (hK j hj rfl)
      | some (N :: l), hr, hK => exact lm_up2 hC hP h hS hB hj hr (hK j hj rfl)
    · skip
      refine Zv.sipush hC d_M_uplink_11 sp_m1000 ?_
      refine Zv.iret hC rfl d_M_uplink_14 (Nat.le_refl _) (Nat.le_refl _) ?_
      exact hK0 (q_256 h8)
