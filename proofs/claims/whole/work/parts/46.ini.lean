def f_pcT : List (List Nat) := [[2, 4, 6, 34, 39, 40, 45, 54], [3], [], [5], [], [7, 8, 9], [], [], [], [11], [], [13], [], [15], [], [17], [], [19], [], [21], [], [23], [], [25], [], [27], [], [29], [], [31], [], [33], [], [35, 36, 37, 38], [], [], [], [], [], [41, 42, 43, 44], [], [], [], [], [46, 48, 50, 52], [47], [], [49], [], [51], [], [53], [], [55, 56], [], [], [58, 0, 59, 0, 60, 61, 62, 63, 0, 64, 65, 66, 67, 68, 69, 70, 71, 72, 73, 74, 75, 76, 77, 0, 0, 0, 0, 0, 0, 0, 0, 0], [], [], [], [], [], [], [], [], [], [], [], [], [], [], [], [], [], [], [], []]
/-! THE START: the new objects' cells, the document's first state -/
def I0 : Fm := fun _ _ => 0
def P0 : Fr := fun _ _ => 0
def I1 : Fm := IM (ID I0)
def P1 : Fr := PM (PD P0)
def s0 : Sg := (fun k => if k = 2 then 1 else 0, fun _ => nI 0, fun _ _ => 0, fun _ _ => nI 0, fun _ _ => 0, fun _ => [], [], [])
def c0 (i : Nat) : Nat := 9 + 4 * i
def u0 (i : Nat) : Nat := 11 + 4 * i
theorem P1_in : ∀ k, k < 77 → ∀ j, j < 32 → k ≠ 7 → k ≠ 8 → P1 k j = f_pc k j := by decide +kernel
set_option maxRecDepth 100000 in
set_option maxHeartbeats 4000000 in
theorem P1_out {k j : Nat} (h : 77 ≤ k ∨ 32 ≤ j) : P1 k j = 0 := by
  show PM (PD P0) k j = 0
  unfold PM PD P0
  exact (f_u_n (by omega)).trans ((f_u_n (by omega)).trans ((f_u_n (by omega)).trans ((f_u_n (by omega)).trans ((f_u_n (by omega)).trans ((f_u_n (by omega)).trans ((f_u_n (by omega)).trans ((f_u_n (by omega)).trans ((f_u_n (by omega)).trans ((f_u_n (by omega)).trans ((f_u_n (by omega)).trans ((f_u_n (by omega)).trans ((f_u_n (by omega)).trans ((f_u_n (by omega)).trans ((f_u_n (by omega)).trans ((f_u_n (by omega)).trans ((f_u_n (by omega)).trans ((f_u_n (by omega)).trans ((f_u_n (by omega)).trans ((f_u_n (by omega)).trans ((f_u_n (by omega)).trans ((f_u_n (by omega)).trans ((f_u_n (by omega)).trans ((f_u_n (by omega)).trans ((f_u_n (by omega)).trans ((f_u_n (by omega)).trans ((f_u_n (by omega)).trans ((f_u_n (by omega)).trans ((f_u_n (by omega)).trans ((f_u_n (by omega)).trans ((f_u_n (by omega)).trans ((f_u_n (by omega)).trans ((f_u_n (by omega)).trans ((f_u_n (by omega)).trans ((f_u_n (by omega)).trans ((f_u_n (by omega)).trans ((f_u_n (by omega)).trans ((f_u_n (by omega)).trans ((f_u_n (by omega)).trans ((f_u_n (by omega)).trans ((f_u_n (by omega)).trans ((f_u_n (by omega)).trans ((f_u_n (by omega)).trans ((f_u_n (by omega)).trans ((f_u_n (by omega)).trans ((f_u_n (by omega)).trans ((f_u_n (by omega)).trans ((f_u_n (by omega)).trans ((f_u_n (by omega)).trans ((f_u_n (by omega)).trans ((f_u_n (by omega)).trans ((f_u_n (by omega)).trans ((f_u_n (by omega)).trans ((f_u_n (by omega)).trans ((f_u_n (by omega)).trans ((f_u_n (by omega)).trans ((f_u_n (by omega)).trans ((f_u_n (by omega)).trans ((f_u_n (by omega)).trans ((f_u_n (by omega)).trans ((f_u_n (by omega)).trans ((f_u_n (by omega)).trans ((f_u_n (by omega)).trans ((f_u_n (by omega)).trans ((f_u_n (by omega)).trans ((f_u_n (by omega)).trans ((f_u_n (by omega)).trans ((f_u_n (by omega)).trans ((f_u_n (by omega)).trans ((f_u_n (by omega)).trans ((f_u_n (by omega)).trans ((f_u_n (by omega)).trans ((f_u_n (by omega)).trans ((f_u_n (by omega)).trans ((f_u_n (by omega)).trans (rfl)))))))))))))))))))))))))))))))))))))))))))))))))))))))))))))))))))))))))))
theorem f_pc_out {k j : Nat} (h : 77 ≤ k ∨ 32 ≤ j) : f_pc k j = 0 := by
  by_cases hk : k < 77
  · have hj : 32 ≤ j := by omega
    have h1 : ∀ r ∈ f_pcT, r.length ≤ 32 := by decide +kernel
    show (f_pcT.getD k []).getD j 0 = 0
    have h2 : (f_pcT.getD k []).length ≤ 32 := by
      rw [List.getD_eq_getElem?_getD]
      cases hq : f_pcT[k]? with
      | none => exact Nat.zero_le _
      | some r => exact h1 r (List.mem_of_getElem? hq)
    rw [List.getD_eq_getElem?_getD, List.getElem?_eq_none (by omega)]
    rfl
  · show (f_pcT.getD k []).getD j 0 = 0
    have h1 : f_pcT.length = 77 := by decide +kernel
    rw [List.getD_eq_getElem?_getD (l := f_pcT), List.getElem?_eq_none (by omega)]
    rfl
theorem P1_ref : x_ref P1 := fun k j h7 h8 => by
  by_cases h : 77 ≤ k ∨ 32 ≤ j
  · rw [P1_out h, f_pc_out h]
  · exact P1_in k (by omega) j (by omega) h7 h8
theorem I1_z {a : Nat} (j : Nat) (h1 : a ≠ 1) (h5 : a ≠ 5) (h56 : a ≠ 56) : I1 a j = nI 0 := (f_ur h56 (f_ur h5 (f_ur h1 rfl)) : f_u (f_u (f_u I0 1 1 (nI 0)) 5 4 (nI 1)) 56 1 (-1) a j = nI 0)
theorem P1_78 : ∀ i, i < 6 → P1 7 i = c0 i + 1 ∧ P1 8 i = u0 i + 1 := by decide +kernel
theorem XR_start : XR s0 c0 u0 I1 P1 := by
  refine ⟨P1_ref, ⟨fun i hi => ⟨(P1_78 i hi).1, (P1_78 i hi).2, ?_, ?_⟩, fun i j _ _ e => ?_, fun i j _ _ e => ?_, fun i j _ _ => ?_⟩, ⟨rfl, rfl, rfl⟩, ⟨rfl, by decide, fun i hi => absurd hi (Nat.not_lt_zero i)⟩, rfl, ⟨0, by decide, rfl, rfl, rfl, by decide, fun i hi => absurd hi (Nat.not_lt_zero i)⟩, fun p hp => I1_z p (by decide) (by decide) (by decide), fun m hm => ⟨I1_z _ (by omega) (by omega) (by omega), I1_z _ (by omega) (by omega) (by omega), I1_z _ (by omega) (by omega) (by omega), I1_z _ (by omega) (by omega) (by omega), I1_z _ (by omega) (by omega) (by omega), I1_z _ (by omega) (by omega) (by omega), I1_z _ (by omega) (by omega) (by omega)⟩, fun e he => ⟨I1_z _ (by omega) (by omega) (by omega), Nat.zero_le _, fun i hi => absurd hi (Nat.not_lt_zero i), fun x hx => absurd hx List.not_mem_nil⟩, fun s hs => ⟨I1_z _ (by omega) (by omega) (by omega), I1_z _ (by omega) (by omega) (by omega)⟩⟩
  · unfold isPC c0; omega
  · unfold isPC u0; omega
  · unfold c0 at e; omega
  · unfold u0 at e; omega
  · unfold c0 u0; omega
theorem RX_start : x_rcv I1 none 0 0 0 := ⟨rfl, rfl, rfl, rfl⟩
theorem MX_start : m_rcv I1 none := rfl
theorem SI_start : SI s0 := ⟨by decide, by decide, by decide, List.Pairwise.nil, fun e he => absurd he List.not_mem_nil, fun m _ => Or.inl rfl, fun m _ => ⟨Nat.succ_pos 1, Nat.succ_pos 7, Nat.succ_pos 3, Nat.succ_pos 3, Nat.le_refl _⟩, fun s _ => ⟨Nat.succ_pos 255, Nat.succ_pos 255⟩⟩
theorem MR_start : MR s0 [] 0 I1 := by
  refine ⟨⟨rfl, rfl, rfl, rfl, rfl, rfl, rfl, rfl⟩, ⟨rfl, Nat.zero_le _, fun i hi => absurd hi (Nat.not_lt_zero i)⟩, fun p hp => I1_z p (by decide) (by decide) (by decide), fun m hm => ⟨I1_z _ (by decide) (by decide) (by decide), I1_z _ (by decide) (by decide) (by decide), I1_z _ (by decide) (by decide) (by decide), I1_z _ (by decide) (by decide) (by decide), I1_z _ (by decide) (by decide) (by decide), I1_z _ (by decide) (by decide) (by decide), I1_z _ (by decide) (by decide) (by decide)⟩, fun s hs => ⟨I1_z _ (by decide) (by decide) (by decide), I1_z _ (by decide) (by decide) (by decide)⟩, fun e he => ⟨I1_z _ (by decide) (by decide) (by decide), Nat.zero_le _, fun i hi => absurd hi (Nat.not_lt_zero i), fun x hx => absurd hx List.not_mem_nil⟩, ⟨fun _ => 0, fun _ => 0, fun _ => [], [], [], 0, ⟨rfl, fun k hk => ?_, List.nodup_nil, fun k hk => absurd hk List.not_mem_nil, fun a b _ _ h => absurd rfl h, List.Pairwise.nil, List.Pairwise.nil⟩, Nat.le_refl _, rfl, rfl⟩⟩
  exact ⟨I1_z _ (by decide) (by decide) (by decide), I1_z _ (by decide) (by decide) (by decide), Nat.zero_le _, Nat.le_refl _, I1_z _ (by decide) (by decide) (by decide), ⟨fun z => absurd rfl z, fun z => z.elim (fun w => absurd w List.not_mem_nil) (fun w => absurd w List.not_mem_nil)⟩, fun z => absurd rfl z⟩
/-! what each side leaves of the other -/
theorem XR_low {σ : Sg} {cm du : Nat → Nat} {I I' : Fm} {P : Fr} (h : XR σ cm du I P) (hf : ∀ a, a < 56 → I' a = I a) : XR σ cm du I' P := by
  obtain ⟨h1, h2, h3, h4, h5, h6, h7, h8, h9, h10⟩ := h
  exact ⟨h1, h2, x_d_kept h3 (hf 0 (by decide)), x_pl_kept2 h2 h4 (fun a _ _ => hf a (by omega)), by rw [hf 5 (by decide)]; exact h5, x_sto_kept h6 (fun a _ _ => hf a (by omega)), x_pa_kept h7 (hf 38 (by decide)), x_ws_kept h8 (fun m _ => hf _ (by omega)), x_ac_kept h9 (fun m _ => hf _ (by omega)), x_li_kept h10 (fun m _ => hf _ (by omega))⟩
theorem MR_high {σ : Sg} {dl : List (Nat × List Nat)} {B : Nat} {I I' : Fm} (h : MR σ dl B I) (hf : ∀ a, 56 ≤ a → I' a = I a) : MR σ dl B I' := MR_kept h (fun j _ _ => by rw [hf 56 (by decide)]) (fun a ha => hf a (by omega))
theorem mrcv_high {rx : Rx} {I I' : Fm} (h : m_rcv I rx) (hf : ∀ a, 56 ≤ a → I' a = I a) : m_rcv I' rx := m_rcv_kept h (by rw [hf 56 (by decide)]) (hf 57 (by decide))
theorem carry_g {j : Nat} (hj : j = 6 ∨ j = 7 ∨ j = 8) (σ : Sg) (c : List Nat) (num : Nat) : s_g (e_carry σ c num).1 j = s_g σ j := by
  have hp : ∀ τ c, s_g (e_perf τ c) j = s_g τ j := by
    intro τ c
    have e : ∀ (τ : Sg) i v, i ≠ j → s_g (w_g τ i v) j = s_g τ j := fun τ i v h => if_neg (fun z => h z.symm)
    unfold e_perf
    split <;> first | rfl | (split <;> first | rfl | (rw [e _ _ _ (by omega)]; done) | (rw [e _ _ _ (by omega), e _ _ _ (by omega)]))
  unfold e_carry
  split
  · exact add_g _ _ _ _ (by omega)
  · dsimp only
    rw [add_g _ _ _ _ (by omega)]
    show s_u (s_g (e_perf _ _)) 9 _ j = _
    unfold s_u
    rw [if_neg (by omega), hp]
    split
    · exact add_g _ _ _ _ (by omega)
    · rfl
theorem carries_g {j : Nat} (hj : j = 6 ∨ j = 7 ∨ j = 8) : ∀ (l : List (Nat × List Nat)) (σ : Sg), s_g (e_carries σ l) j = s_g σ j
  | [], σ => rfl
  | e :: l, σ => by rw [e_carries, carries_g hj l, carry_g hj]
theorem look_g {j : Nat} (hj : j = 6 ∨ j = 7 ∨ j = 8) (σ : Sg) (m : Nat) : s_g (e_look σ m) j = s_g σ j := by
  unfold e_look
  dsimp only
  split
  · rfl
  · split
    · rfl
    · split
      · rfl
      · split
        · rfl
        · split
          · exact add_g _ _ _ _ (by omega)
          · rw [carry_g hj]; exact add_g _ _ _ _ (by omega)
theorem house_g {j : Nat} (hj : j = 6 ∨ j = 7 ∨ j = 8) (σ : Sg) (s : Nat) : s_g (e_house σ s) j = s_g σ j := by
  unfold e_house
  split
  · rfl
  · exact add_g _ _ _ _ (by omega)
theorem due_g {j : Nat} (hj : j = 6 ∨ j = 7 ∨ j = 8) (σ : Sg) : s_g (e_due σ) j = s_g σ j := by
  unfold e_due
  split
  · rfl
  · rw [carries_g hj]; rfl
theorem tick_g {j : Nat} (hj : j = 6 ∨ j = 7 ∨ j = 8) (σ : Sg) : s_g (e_tick σ) j = s_g σ j := by
  unfold e_tick
  rw [house_g hj, house_g hj, look_g hj, look_g hj, look_g hj, look_g hj, due_g hj]
  exact if_neg (by omega)
/-- both sides hold one state -/
def BO (σ : Sg) (rx : Rx) (B : Nat) (I : Fm) (P : Fr) : Prop := ∃ cm du, XR σ cm du I P ∧ SI σ ∧ x_rcv I rx (s_g σ 6) (s_g σ 7) (s_g σ 8) ∧ m_rcv I rx ∧ MR σ [] B I
theorem BO_start : BO s0 none 0 I1 P1 := ⟨c0, u0, XR_start, SI_start, RX_start, MX_start, MR_start⟩
