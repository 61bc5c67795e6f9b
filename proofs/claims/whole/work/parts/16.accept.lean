theorem e_at_app {l : List Nat} {x i : Nat} (h : i < l.length) : e_at (l ++ [x]) i = e_at l i := by
  simp [e_at, List.getD, List.getElem?_append_left h]
theorem e_at_app2 {l : List Nat} {x : Nat} : e_at (l ++ [x]) l.length = x := by
  simp [e_at, List.getD]
set_option maxRecDepth 100000 in
set_option maxHeartbeats 4000000 in
theorem sp_accept {d x tk dr sk : Nat} {rx : Rx} {I : Fm} {P : Fr} {K : Option Fs → Fm → Fr → Prop} (hP : x_ref P) (h : x_rcv I rx tk dr sk) (hx : x < 256) (hK : ∀ (r : Int32) (I' : Fm), x_acc I' rx x tk dr sk r → (∀ a, a ≠ 1 → a ≠ 2 → I' a = I a) → K (some (.inr r)) I' P) : Fk (d + 1) m_Rc_accept 77 77 0 0 [rf 2, .inr (nI x)] I P K := by
  obtain ⟨htk, hdr, hsk, hr⟩ := h
  refine Fk.intro (by decide +kernel) (Nat.le_of_ble_eq_true rfl) (fun G hC => ?_)
  refine Zv.aload_n hC d_Rc_accept_0 rfl ?_
  match rx, hr, hK with
  | none, hr, hK =>
    refine Zv.geti hC d_Rc_accept_1 fl_Rc_15 rfl rfl (by decide) hr ?_
    refine Zv.tabOut (tgt := 50) hC d_Rc_accept_4 (by decide) (by decide) ?_
    refine Zv.aload_n hC d_Rc_accept_50 rfl ?_
    refine Zv.iload_n hC d_Rc_accept_51 rfl ?_
    refine Zv.callV1 hC d_Rc_accept_52 ml_Rc_29 mk_Rc_acceptBetweenFrames rfl (Nat.le_of_ble_eq_true rfl) rfl (by decide) ?_
    refine sp_accB hx hsk (fun e => ?_) (fun e => ?_)
    · refine Zv.iret hC rfl d_Rc_accept_55 (Nat.le_refl _) (Nat.le_refl _) ?_
      refine hK _ _ ?_ (fun a h1 h2 => f_u_ne h1)
      dsimp only [x_acc]
      rw [if_pos e]
      exact ⟨rfl, f_uc (by decide) htk, f_uc (by decide) hdr, f_uc (by decide) hsk, f_u_s⟩
    · refine Zv.iret hC rfl d_Rc_accept_55 (Nat.le_refl _) (Nat.le_refl _) ?_
      refine hK _ _ ?_ (fun a h1 h2 => f_u_ne h1)
      dsimp only [x_acc]
      rw [if_neg e]
      exact ⟨rfl, f_uc (by decide) htk, f_uc (by decide) hdr, f_u_s, f_uc (by decide) hr⟩
  | some [], hr, hK =>
    refine Zv.geti hC d_Rc_accept_1 fl_Rc_15 rfl rfl (by decide) hr ?_
    refine Zv.tabIn (tgt := 32) hC d_Rc_accept_4 (by decide) (by decide) rfl (by decide) ?_
    refine Zv.aload_n hC d_Rc_accept_32 rfl ?_
    refine Zv.iload_n hC d_Rc_accept_33 rfl ?_
    refine Zv.callV1 hC d_Rc_accept_34 ml_Rc_19 mk_Rc_acceptLength rfl (Nat.le_of_ble_eq_true rfl) rfl (by decide) ?_
    refine sp_accL hx hdr (fun e => ?_) (fun e => ?_)
    · refine Zv.iret hC rfl d_Rc_accept_37 (Nat.le_refl _) (Nat.le_refl _) ?_
      refine hK _ _ ?_ (fun a h1 h2 => by rw [f_u_ne h1, f_u_ne h1])
      dsimp only [x_acc]
      rw [if_pos e]
      exact ⟨rfl, f_uc (by decide) (f_uc (by decide) htk), f_u_s, f_uc (by decide) (f_uc (by decide) hsk), f_uc (by decide) f_u_s⟩
    · refine Zv.iret hC rfl d_Rc_accept_37 (Nat.le_refl _) (Nat.le_refl _) ?_
      refine hK _ _ ?_ (fun a h1 h2 => by rw [f_u_ne h1, f_u_ne h1, f_u_ne h1, f_u_ne h1])
      dsimp only [x_acc]
      rw [if_neg e]
      refine ⟨rfl, by simp [f_u, htk], by simp [f_u, hdr], by simp [f_u, hsk], by omega, by omega, Nat.zero_le _, fun y hy => absurd hy List.not_mem_nil, ?_, by simp [f_u], by simp [f_u], by simp [f_u, e_chk], fun i hi => absurd hi (Nat.not_lt_zero i)⟩
      rw [if_pos (show ([] : List Nat).length < x by simp; omega)]
      simp [f_u]
  | some (N :: l), hr, hK =>
    obtain ⟨hN1, hN2, hlN, hb, hst, hN, hf, hc, hcon⟩ := hr
    have hck : e_chk 255 l < 256 := chk_lt l 255 (by decide) hb
    by_cases hlt : l.length < N
    · rw [if_pos hlt] at hst
      refine Zv.geti hC d_Rc_accept_1 fl_Rc_15 rfl rfl (by decide) hst ?_
      refine Zv.tabIn (tgt := 38) hC d_Rc_accept_4 (by decide) (by decide) rfl (by decide) ?_
      refine Zv.aload_n hC d_Rc_accept_38 rfl ?_
      refine Zv.iload_n hC d_Rc_accept_39 rfl ?_
      refine Zv.callV1 hC d_Rc_accept_40 ml_Rc_23 mk_Rc_acceptContent rfl (Nat.le_of_ble_eq_true rfl) rfl (by decide) ?_
      have hrows : ∀ (J : Fm), J 2 = f_u I 2 l.length (nI x) 2 → ∀ i, i < (l ++ [x]).length → J 2 i = nI (e_at (l ++ [x]) i) := by
        intro J hJ i hi
        rw [List.length_append] at hi
        have hi : i < l.length + 1 := hi
        rw [hJ]
        by_cases e : i = l.length
        · subst e
          rw [f_u_s, e_at_app2]
        · rw [f_u_n (fun z => e z.2), e_at_app (by omega)]
          exact hcon i (by omega)
      have hbx : ∀ y ∈ l ++ [x], y < 256 := by
        intro y hy
        rcases List.mem_append.mp hy with h | h
        · exact hb y h
        · rw [List.mem_singleton.mp h]; exact hx
      refine sp_accN hP hx hck (by omega) (by omega) hN hf hc (fun e => ?_) (fun e => ?_)
      · refine Zv.iret hC rfl d_Rc_accept_43 (Nat.le_refl _) (Nat.le_refl _) ?_
        refine hK _ _ ?_ (fun a h1 h2 => by rw [f_u_ne h1, f_u_ne h1, f_u_ne h2])
        dsimp only [x_acc]
        rw [if_pos hlt]
        refine ⟨rfl, by simp [f_u, htk], by simp [f_u, hdr], by simp [f_u, hsk], hN1, hN2, by rw [List.length_append]; exact hlt, hbx, ?_, by simp [f_u, hN], ?_, ?_, hrows _ (by rw [f_u_ne (by decide), f_u_ne (by decide)])⟩
        · rw [List.length_append, if_pos (show l.length + [x].length < N from e)]
          simp [f_u, hst]
        · rw [List.length_append]; simp [f_u]
        · rw [chk_app]; simp [f_u]
      · refine Zv.iret hC rfl d_Rc_accept_43 (Nat.le_refl _) (Nat.le_refl _) ?_
        refine hK _ _ ?_ (fun a h1 h2 => by rw [f_u_ne h1, f_u_ne h1, f_u_ne h1, f_u_ne h2])
        dsimp only [x_acc]
        rw [if_pos hlt]
        refine ⟨rfl, by simp [f_u, htk], by simp [f_u, hdr], by simp [f_u, hsk], hN1, hN2, by rw [List.length_append]; exact hlt, hbx, ?_, by simp [f_u, hN], ?_, ?_, hrows _ (by rw [f_u_ne (by decide), f_u_ne (by decide), f_u_ne (by decide)])⟩
        · rw [List.length_append, if_neg (show ¬ l.length + [x].length < N from by show ¬ l.length + 1 < N; omega)]
          simp [f_u]
        · rw [List.length_append]; simp [f_u]
        · rw [chk_app]; simp [f_u]
    · rw [if_neg hlt] at hst
      refine Zv.geti hC d_Rc_accept_1 fl_Rc_15 rfl rfl (by decide) hst ?_
      refine Zv.tabIn (tgt := 44) hC d_Rc_accept_4 (by decide) (by decide) rfl (by decide) ?_
      refine Zv.aload_n hC d_Rc_accept_44 rfl ?_
      refine Zv.iload_n hC d_Rc_accept_45 rfl ?_
      refine Zv.callV1 hC d_Rc_accept_46 ml_Rc_26 mk_Rc_acceptCheck rfl (Nat.le_of_ble_eq_true rfl) rfl (by decide) ?_
      refine sp_accC hx hck hc htk hdr (fun e => ?_) (fun e => ?_)
      · refine Zv.iret hC rfl d_Rc_accept_49 (Nat.le_refl _) (Nat.le_refl _) ?_
        refine hK _ _ ?_ (fun a h1 h2 => by rw [f_u_ne h1, f_u_ne h1])
        dsimp only [x_acc]
        rw [if_neg hlt, if_pos e]
        refine ⟨rfl, ⟨by simp [f_u], by simp [f_u, hdr], by simp [f_u, hsk], by simp [f_u]⟩, by simp [f_u, hN], fun i hi => ?_⟩
        rw [f_u_ne (by decide), f_u_ne (by decide)]
        exact hcon i hi
      · refine Zv.iret hC rfl d_Rc_accept_49 (Nat.le_refl _) (Nat.le_refl _) ?_
        refine hK _ _ ?_ (fun a h1 h2 => by rw [f_u_ne h1, f_u_ne h1])
        dsimp only [x_acc]
        rw [if_neg hlt, if_neg e]
        exact ⟨rfl, by simp [f_u, htk], by simp [f_u], by simp [f_u, hsk], by simp [f_u]⟩
