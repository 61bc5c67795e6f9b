theorem q_255 {x : Int32} (h : x ≤ nI 255) : ¬ nI 256 ≤ x := fun z => by
  have a := Int32.le_iff_toInt_le.mp h
  have b := Int32.le_iff_toInt_le.mp z
  rw [nI_toInt (by decide)] at a b
  omega
theorem q_256 {x : Int32} (h : ¬ x ≤ nI 255) : ¬ ∃ j, j < 256 ∧ x = nI j := fun ⟨j, hj, e⟩ => h (e ▸ nI_le (by omega) (by decide))
theorem nI_m1 {n : Nat} (h : n < 2 ^ 31) : ¬ nI n = -1 := fun z => by
  have := congrArg Int32.toInt z
  rw [nI_toInt h] at this
  have e : (-1 : Int32).toInt = -1 := by decide
  rw [e] at this
  omega
/-- XR over what the receiver's counters are not -/
theorem XR_g678 {σ : Sg} {cm du : Nat → Nat} {I : Fm} {P : Fr} (h : XR σ cm du I P) {j : Nat} (hj : j = 6 ∨ j = 7 ∨ j = 8) (v : Nat) : XR (w_g σ j v) cm du I P := by
  obtain ⟨h1, h2, h3, h4, h5, h6, h7⟩ := h
  have e : ∀ i, i ≠ 6 → i ≠ 7 → i ≠ 8 → s_g (w_g σ j v) i = s_g σ i := fun i a b c => if_neg (by omega)
  refine ⟨h1, h2, ?_, h4, ?_, ?_, h7⟩
  · unfold x_d at h3 ⊢
    rw [e 0 (by decide) (by decide) (by decide), e 1 (by decide) (by decide) (by decide), e 9 (by decide) (by decide) (by decide)]; exact h3
  · rw [e 2 (by decide) (by decide) (by decide)]; exact h5
  · rw [e 5 (by decide) (by decide) (by decide)]; exact h6
theorem frame_g (σ : Sg) (l : List Nat) {j : Nat} (hj : j = 6 ∨ j = 7 ∨ j = 8) : s_g (e_frame σ l).1 j = s_g σ j := by
  have hp : ∀ τ c, s_g (e_perf τ c) j = s_g τ j := by
    intro τ c
    have e : ∀ (τ : Sg) i v, i ≠ j → s_g (w_g τ i v) j = s_g τ j := fun τ i v h => if_neg (fun z => h z.symm)
    unfold e_perf
    split <;> first | rfl | (split <;> first | rfl | (rw [e _ _ _ (by omega)]; done) | (rw [e _ _ _ (by omega), e _ _ _ (by omega)]))
  unfold e_frame
  split
  · exact add_g _ _ _ _ (by omega)
  · unfold e_carry
    split
    · exact add_g _ _ _ _ (by omega)
    · dsimp only
      rw [add_g _ _ _ _ (by omega)]
      show s_u (s_g (e_perf _ _)) 9 _ j = _
      unfold s_u
      rw [if_neg (by omega), hp]
      split
      · exact add_g _ _ _ _ (by omega)
      · rfl
set_option maxRecDepth 100000 in
set_option maxHeartbeats 4000000 in
theorem sp_uplink {d : Nat} {x : Int32} {rx : Rx} {σ : Sg} {cm du : Nat → Nat} {I : Fm} {P : Fr} {K : Option Fs → Fm → Fr → Prop} (hX : XR σ cm du I P) (hS : SI σ) (hR : x_rcv I rx (s_g σ 6) (s_g σ 7) (s_g σ 8)) (hK : ∀ j, j < 256 → x = nI j → ∀ (cm' : Nat → Nat) (I' : Fm) (P' : Fr), XR (e_up rx σ j).2.1 cm' du I' P' → SI (e_up rx σ j).2.1 → x_rcv I' (e_up rx σ j).1 (s_g (e_up rx σ j).2.1 6) (s_g (e_up rx σ j).2.1 7) (s_g (e_up rx σ j).2.1 8) → (∀ a, 56 ≤ a → I' a = I a) → K (some (.inr (nI (e_up rx σ j).2.2))) I' P') (hK0 : (¬ ∃ j, j < 256 ∧ x = nI j) → K (some (.inr (-1000))) I P) : Fk (d + 6) m_D_uplink 77 77 0 0 [rf 1, .inr x] I P K := by
  refine Fk.intro (by decide +kernel) (Nat.le_of_ble_eq_true rfl) (fun G hC => ?_)
  refine Zv.iload_n hC d_D_uplink_0 rfl ?_
  refine Zv.if_lt (tgt := 11) hC d_D_uplink_1 (by decide) (fun h1 => ?_) (fun h1 => ?_)
  · skip
    refine Zv.sipush hC d_D_uplink_11 sp_m1000 ?_
    refine Zv.iret hC rfl d_D_uplink_14 (Nat.le_refl _) (Nat.le_refl _) ?_
    exact hK0 (q_out0 h1 (by decide))
  · skip
    refine Zv.iload_n hC d_D_uplink_4 rfl ?_
    refine Zv.sipush hC d_D_uplink_5 sp_255 ?_
    refine Zv.icmp_le (tgt := 15) hC d_D_uplink_8 (by decide) (fun h8 => ?_) (fun h8 => ?_)
    · skip
      obtain ⟨j, hj, ej⟩ := q_in h1 (q_255 h8) (by decide)
      subst ej
      refine Zv.aload_n hC d_D_uplink_15 rfl ?_
      refine Zv.getr (q := 2) hC d_D_uplink_16 fl_D_10 rfl rfl (by decide) (hX.1 _ _ (by decide) (by decide)) ?_
      refine Zv.iload_n hC d_D_uplink_19 rfl ?_
      refine Zv.callV1 hC d_D_uplink_20 ml_D_59 mk_Rc_accept rfl (Nat.le_of_ble_eq_true rfl) rfl (by decide) ?_
      refine sp_accept hX.1 hR hj (fun r I1 ha hf => ?_)
      have hX1 := XR_34 hX (fun a h1 h2 _ _ => hf a h1 h2)
      have hf56 : ∀ a, 56 ≤ a → I1 a = I a := fun a h => hf a (by omega) (by omega)
      have hK := hK j hj rfl
      refine Zv.istore_n hC d_D_uplink_23 (by decide) rfl ?_
      refine Zv.iload_n hC d_D_uplink_24 rfl ?_
      refine Zv.iconst hC d_D_uplink_25 ic_m1 ?_
      match rx, hR, ha, hK with
      | none, hR, ha, hK =>
        dsimp only [x_acc] at ha
        by_cases e : j = 235
        · rw [if_pos e] at ha
          have eu : e_up none σ j = (some [], σ, 0) := if_pos e
          rw [eu] at hK
          rw [ha.1]
          refine Zv.icmp_eq (tgt := 31) hC d_D_uplink_26 (by decide) (fun z => absurd z (nI_m1 (by decide))) (fun _ => ?_)
          refine Zv.iload_n hC d_D_uplink_29 rfl ?_
          refine Zv.iret hC rfl d_D_uplink_30 (Nat.le_refl _) (Nat.le_refl _) ?_
          exact hK cm I1 P hX1 hS ha.2 hf56
        · rw [if_neg e] at ha
          have eu : e_up none σ j = (none, w_g σ 8 (s_g σ 8 + 1), 5) := if_neg e
          rw [eu] at hK
          rw [ha.1]
          refine Zv.icmp_eq (tgt := 31) hC d_D_uplink_26 (by decide) (fun z => absurd z (nI_m1 (by decide))) (fun _ => ?_)
          refine Zv.iload_n hC d_D_uplink_29 rfl ?_
          refine Zv.iret hC rfl d_D_uplink_30 (Nat.le_refl _) (Nat.le_refl _) ?_
          exact hK cm I1 P (XR_g678 hX1 (by omega) _) (SI_g9 hS (by decide) _) ha.2 hf56
      | some [], hR, ha, hK =>
        dsimp only [x_acc] at ha
        by_cases e : j < 2 ∨ 12 < j
        · rw [if_pos e] at ha
          have eu : e_up (some []) σ j = (none, w_g σ 7 (s_g σ 7 + 1), 3) := if_pos e
          rw [eu] at hK
          rw [ha.1]
          refine Zv.icmp_eq (tgt := 31) hC d_D_uplink_26 (by decide) (fun z => absurd z (nI_m1 (by decide))) (fun _ => ?_)
          refine Zv.iload_n hC d_D_uplink_29 rfl ?_
          refine Zv.iret hC rfl d_D_uplink_30 (Nat.le_refl _) (Nat.le_refl _) ?_
          exact hK cm I1 P (XR_g678 hX1 (by omega) _) (SI_g9 hS (by decide) _) ha.2 hf56
        · rw [if_neg e] at ha
          have eu : e_up (some []) σ j = (some [j], σ, 0) := if_neg e
          rw [eu] at hK
          rw [ha.1]
          refine Zv.icmp_eq (tgt := 31) hC d_D_uplink_26 (by decide) (fun z => absurd z (nI_m1 (by decide))) (fun _ => ?_)
          refine Zv.iload_n hC d_D_uplink_29 rfl ?_
          refine Zv.iret hC rfl d_D_uplink_30 (Nat.le_refl _) (Nat.le_refl _) ?_
          exact hK cm I1 P hX1 hS ha.2 hf56
      | some (N :: l), hR, ha, hK =>
        dsimp only [x_acc] at ha
        obtain ⟨-, -, -, hN1, hN2, hlN, hbl, -⟩ := hR
        by_cases e : l.length < N
        · rw [if_pos e] at ha
          have eu : e_up (some (N :: l)) σ j = (some (N :: (l ++ [j])), σ, 0) := if_pos e
          rw [eu] at hK
          rw [ha.1]
          refine Zv.icmp_eq (tgt := 31) hC d_D_uplink_26 (by decide) (fun z => absurd z (nI_m1 (by decide))) (fun _ => ?_)
          refine Zv.iload_n hC d_D_uplink_29 rfl ?_
          refine Zv.iret hC rfl d_D_uplink_30 (Nat.le_refl _) (Nat.le_refl _) ?_
          exact hK cm I1 P hX1 hS ha.2 hf56
        · rw [if_neg e] at ha
          have hNl : l.length = N := by omega
          by_cases e2 : j = e_chk 255 l
          · rw [if_pos e2] at ha
            have eu : e_up (some (N :: l)) σ j = (none, (e_frame (w_g σ 6 (s_g σ 6 + 1)) l).1, if (e_frame (w_g σ 6 (s_g σ 6 + 1)) l).2 = 0 then 2 else 1) := by
              unfold e_up
              dsimp only
              rw [if_neg e, if_pos e2]
            rw [eu] at hK
            rw [ha.1]
            refine Zv.icmp_eq (tgt := 31) hC d_D_uplink_26 (by decide) (fun _ => ?_) (fun z => absurd rfl z)
            refine Zv.aload_n hC d_D_uplink_31 rfl ?_
            refine Zv.callV0 hC d_D_uplink_32 ml_D_63 mk_D_obeyFrame rfl (Nat.le_of_ble_eq_true rfl) rfl (by decide) ?_
            refine sp_obeyFrame (σ := w_g σ 6 (s_g σ 6 + 1)) (l := l) (XR_g678 hX1 (by omega) _) (SI_g9 hS (by decide) _) (by omega) (by rw [hNl]; exact ha.2.2.1) ha.2.2.2 hbl (fun cm2 I2 P2 q1 q2 q3 => ?_)
            have hr : x_rcv I2 none (s_g (e_frame (w_g σ 6 (s_g σ 6 + 1)) l).1 6) (s_g (e_frame (w_g σ 6 (s_g σ 6 + 1)) l).1 7) (s_g (e_frame (w_g σ 6 (s_g σ 6 + 1)) l).1 8) := by
              rw [frame_g _ _ (by omega), frame_g _ _ (by omega), frame_g _ _ (by omega)]
              exact x_rcv_kept ha.2.1 (q3 1 (by omega)) (q3 2 (by omega))
            have h2 : (e_frame (w_g σ 6 (s_g σ 6 + 1)) l).2 < 2 := by
              unfold e_frame
              split
              · exact (by decide : (0 : Nat) < 2)
              · exact carry_2 _ _ _
            refine Zv.if_eq (tgt := 42) hC d_D_uplink_35 (by decide) (fun h35 => ?_) (fun h35 => ?_)
            · have g35 := q_e0 h35 (by omega)
              rw [if_pos g35] at hK
              refine Zv.iconst hC d_D_uplink_42 ic_2 ?_
              refine Zv.iret hC rfl d_D_uplink_43 (Nat.le_refl _) (Nat.le_refl _) ?_
              exact hK cm2 I2 P2 q1 q2 hr (fun a h => (q3 a (by omega)).trans (hf56 a h))
            · have g35 := q_n0 h35
              rw [if_neg g35] at hK
              refine Zv.iconst hC d_D_uplink_38 ic_1 ?_
              refine Zv.goto (tgt := 43) hC d_D_uplink_39 (by decide) ?_
              refine Zv.iret hC rfl d_D_uplink_43 (Nat.le_refl _) (Nat.le_refl _) ?_
              exact hK cm2 I2 P2 q1 q2 hr (fun a h => (q3 a (by omega)).trans (hf56 a h))
          · rw [if_neg e2] at ha
            have eu : e_up (some (N :: l)) σ j = (none, w_g σ 7 (s_g σ 7 + 1), 4) := by
              unfold e_up
              dsimp only
              rw [if_neg e, if_neg e2]
            rw [eu] at hK
            rw [ha.1]
            refine Zv.icmp_eq (tgt := 31) hC d_D_uplink_26 (by decide) (fun z => absurd z (nI_m1 (by decide))) (fun _ => ?_)
            refine Zv.iload_n hC d_D_uplink_29 rfl ?_
            refine Zv.iret hC rfl d_D_uplink_30 (Nat.le_refl _) (Nat.le_refl _) ?_
            exact hK cm I1 P (XR_g678 hX1 (by omega) _) (SI_g9 hS (by decide) _) ha.2 hf56
    · skip
      refine Zv.sipush hC d_D_uplink_11 sp_m1000 ?_
      refine Zv.iret hC rfl d_D_uplink_14 (Nat.le_refl _) (Nat.le_refl _) ?_
      exact hK0 (q_256 h8)
