abbrev mL (nm : String) : Fy := (⟨"FlightDeskLaw", nm, "([I)Z"⟩, code, 4, some .boolean)
/-- the script, a cell that was there before -/
def FX (G : Fx) (a L : Nat) (xs : Nat → Int32) : Prop := match G with
  | (_, _, _, _, s, _, _, _, _, _, _, _, b, _) => va_X a L xs s s.heap ∧ a < s.heap.size ∧ s.heap.size = b
theorem Zv.aloadX {G : Fx} {Q : State → Prop} {M : Fy} {d mc ms n cells slots pc : Nat} {lv : Fl} {st : List Fs} {I : Fm} {P : Fr} {i : Fin 4} {a : Nat} (hC : Fc G M d mc ms) (hdg : decode M.2.1 pc = .ok (.aload_n i, 1)) (h : f_lk lv i = some (xf a)) (k : Zv G Q n cells slots (pc + 1) lv (xf a :: st) I P) : Zv G Q n cells slots pc lv st I P := by
  obtain ⟨p, l, e, R, s, m, args, below, meth, c, D, ta, b, nL⟩ := G
  intro H locs ls hW hS hl
  exact lv_aload_n hC.1 hC.2.1 hdg rfl (f_lk_at hl h) (k H locs ls hW hS hl)
theorem Zv.sld {G : Fx} {Q : State → Prop} {M : Fy} {d mc ms n cells slots pc : Nat} {lv : Fl} {st : List Fs} {I : Fm} {P : Fr} {a L j : Nat} {xs : Nat → Int32} {i : Int32} (hC : Fc G M d mc ms) (hX : FX G a L xs) (hL : L < 2 ^ 31) (hdg : decode M.2.1 pc = .ok (.iaload, 1)) (hi : i = nI j) (hj : j < L) (kk : Zv G Q n cells slots (pc + 1) lv (.inr (xs j) :: st) I P) : Zv G Q n cells slots pc lv (.inr i :: xf a :: st) I P := by
  subst hi
  obtain ⟨p, l, e, R, s, m, args, below, meth, c, D, ta, b, nL⟩ := G
  intro H locs ls hW hS hl
  obtain ⟨h1, h2, h3⟩ := hX
  have h := kk H locs ls hW hS hl
  have hc : (nI j).toNatClampNeg = j := nI_clamp (by omega)
  refine va_sld (A := fun q => b ≤ q) (i := nI j) hC.1 hC.2.1 h1 h2 (fun z => by omega) hS (nI_in hj hL) hdg ?_
  rw [hc]
  exact h
theorem Zv.slen {G : Fx} {Q : State → Prop} {M : Fy} {d mc ms n cells slots pc : Nat} {lv : Fl} {st : List Fs} {I : Fm} {P : Fr} {a L : Nat} {xs : Nat → Int32} (hC : Fc G M d mc ms) (hX : FX G a L xs) (hdg : decode M.2.1 pc = .ok (.arraylength, 1)) (kk : Zv G Q n cells slots (pc + 1) lv (.inr (nI L) :: st) I P) : Zv G Q n cells slots pc lv (xf a :: st) I P := by
  obtain ⟨p, l, e, R, s, m, args, below, meth, c, D, ta, b, nL⟩ := G
  intro H locs ls hW hS hl
  obtain ⟨h1, h2, h3⟩ := hX
  exact va_slen (A := fun q => b ≤ q) hC.1 hC.2.1 h1 h2 (fun z => by omega) hS hdg (kk H locs ls hW hS hl)
theorem Zv.callL0 {G : Fx} {Q : State → Prop} {M : Fy} {mc ms n cells slots pc : Nat} {lv : Fl} {I : Fm} {P : Fr} {d' idx k ci : Nat} {M' : Fy} {rest : List Fs} (hC : Fc G M (d' + 1) mc ms) (hdg : decode M.2.1 pc = .ok (.invokevirtual idx, 3)) (hL : f_LM M.1.cls idx M'.1) (hM : f_MV M' 0) (hci : (f_cl[ci]?).map (fun r => r.1) = some M'.1.cls) (hr8 : rest.length ≤ 8) (hk : f_shp k = .inr ci) (hkn : k < n) (hf : cells ≤ mc ∧ slots ≤ ms) (kk : Fk d' M' n n 0 0 (rf (k + 1) :: []) I P (fun v I' P' => Zv G Q n cells slots (pc + 3) lv (v.toList ++ rest) I' P')) : Zv G Q n cells slots pc lv (rf (k + 1) :: rest) I P :=
  Zv.callV (as := []) (n' := n) (mc' := 0) (ms' := 0) hC hdg hL hM hk hci hkn hr8 rfl (Nat.le_refl _) hf kk
theorem Zv.callL1 {G : Fx} {Q : State → Prop} {M : Fy} {mc ms n cells slots pc : Nat} {lv : Fl} {I : Fm} {P : Fr} {d' idx k ci : Nat} {M' : Fy} {rest : List Fs} {a1 : Fs} (hC : Fc G M (d' + 1) mc ms) (hdg : decode M.2.1 pc = .ok (.invokevirtual idx, 3)) (hL : f_LM M.1.cls idx M'.1) (hM : f_MV M' 1) (hci : (f_cl[ci]?).map (fun r => r.1) = some M'.1.cls) (hr8 : rest.length ≤ 8) (hk : f_shp k = .inr ci) (hkn : k < n) (hf : cells ≤ mc ∧ slots ≤ ms) (kk : Fk d' M' n n 0 0 (rf (k + 1) :: [a1]) I P (fun v I' P' => Zv G Q n cells slots (pc + 3) lv (v.toList ++ rest) I' P')) : Zv G Q n cells slots pc lv (a1 :: rf (k + 1) :: rest) I P :=
  Zv.callV (as := [a1]) (n' := n) (mc' := 0) (ms' := 0) hC hdg hL hM hk hci hkn hr8 rfl (Nat.le_refl _) hf kk
theorem Zv.callL2 {G : Fx} {Q : State → Prop} {M : Fy} {mc ms n cells slots pc : Nat} {lv : Fl} {I : Fm} {P : Fr} {d' idx k ci : Nat} {M' : Fy} {rest : List Fs} {a1 a2 : Fs} (hC : Fc G M (d' + 1) mc ms) (hdg : decode M.2.1 pc = .ok (.invokevirtual idx, 3)) (hL : f_LM M.1.cls idx M'.1) (hM : f_MV M' 2) (hci : (f_cl[ci]?).map (fun r => r.1) = some M'.1.cls) (hr8 : rest.length ≤ 8) (hk : f_shp k = .inr ci) (hkn : k < n) (hf : cells ≤ mc ∧ slots ≤ ms) (kk : Fk d' M' n n 0 0 (rf (k + 1) :: [a1, a2]) I P (fun v I' P' => Zv G Q n cells slots (pc + 3) lv (v.toList ++ rest) I' P')) : Zv G Q n cells slots pc lv (a2 :: a1 :: rf (k + 1) :: rest) I P :=
  Zv.callV (as := [a1, a2]) (n' := n) (mc' := 0) (ms' := 0) hC hdg hL hM hk hci hkn hr8 rfl (Nat.le_refl _) hf kk
theorem q_inc3 (n : Nat) : nI n + Int32.ofInt 3 = nI (n + 3) := by
  have h1 := nI_succ n
  have h2 := nI_succ (n + 1)
  have h3 := nI_succ (n + 2)
  rw [h3, h2, h1, Int32.add_assoc, Int32.add_assoc]
  rfl
theorem q_sub3 {L i : Nat} (hL : L < 2 ^ 30) (hi : i < 2 ^ 30) : (nI L - nI 3 < nI i) ↔ L < i + 3 := by
  rw [Int32.lt_iff_toInt_lt, Int32.toInt_sub, nI_toInt (by omega), nI_toInt (by omega), nI_toInt (by omega)]
  have : ((L : Int) - ((3 : Nat) : Int)).bmod (2 ^ 32) = (L : Int) - 3 := by
    apply Int.bmod_eq_of_le <;> omega
  rw [this]
  omega
theorem q_and15 (x : Int32) : ∃ v, v < 16 ∧ x &&& nI 15 = nI v := by
  refine ⟨(x &&& nI 15).toBitVec.toNat, ?_, ?_⟩
  · rw [Int32.toBitVec_and, BitVec.toNat_and]
    have h : (nI 15).toBitVec.toNat = 15 := by decide
    rw [h]
    exact Nat.lt_of_le_of_lt Nat.and_le_right (by decide)
  · apply Int32.toBitVec_inj.mp
    show _ = BitVec.ofNat 32 _
    rw [BitVec.ofNat_toNat, BitVec.setWidth_eq]
theorem sp_uplinkJ {d j : Nat} {x : Int32} {rx : Rx} {σ : Sg} {cm du : Nat → Nat} {I : Fm} {P : Fr} {K : Option Fs → Fm → Fr → Prop} (hX : XR σ cm du I P) (hS : SI σ) (hR : x_rcv I rx (s_g σ 6) (s_g σ 7) (s_g σ 8)) (hj : j < 256) (hx : x = nI j) (hK : ∀ (cm' : Nat → Nat) (I' : Fm) (P' : Fr), XR (e_up rx σ j).2.1 cm' du I' P' → SI (e_up rx σ j).2.1 → x_rcv I' (e_up rx σ j).1 (s_g (e_up rx σ j).2.1 6) (s_g (e_up rx σ j).2.1 7) (s_g (e_up rx σ j).2.1 8) → (∀ a, 56 ≤ a → I' a = I a) → K (some (.inr (nI (e_up rx σ j).2.2))) I' P') : Fk (d + 6) m_D_uplink 77 77 0 0 [rf 1, .inr x] I P K :=
  sp_uplink hX hS hR (fun j' hj' e => by
    have ej : j' = j := q_e (e.symm.trans hx) (by omega) (by omega)
    subst ej
    exact hK) (fun z => absurd ⟨j, hj, hx⟩ z)
theorem sp_uplinkN {d : Nat} {x : Int32} {rx : Rx} {σ : Sg} {cm du : Nat → Nat} {I : Fm} {P : Fr} {K : Option Fs → Fm → Fr → Prop} (hX : XR σ cm du I P) (hS : SI σ) (hR : x_rcv I rx (s_g σ 6) (s_g σ 7) (s_g σ 8)) (hn : ¬ ∃ j, j < 256 ∧ x = nI j) (hK : K (some (.inr (-1000))) I P) : Fk (d + 6) m_D_uplink 77 77 0 0 [rf 1, .inr x] I P K :=
  sp_uplink hX hS hR (fun j hj e => absurd ⟨j, hj, e⟩ hn) (fun _ => hK)
theorem sm_uplinkJ {d j : Nat} {x : Int32} {rx : Rx} {σ : Sg} {B : Nat} {I : Fm} {P : Fr} {K : Option Fs → Fm → Fr → Prop} (hP : x_ref P) (h : MR σ [] B I) (hS : SI σ) (hB : B < 2 ^ 30) (hr : m_rcv I rx) (hj : j < 256) (hx : x = nI j) (hK : ∀ I' : Fm, MR (e_up rx σ j).2.1 [] (B + 1) I' → m_rcv I' (e_up rx σ j).1 → (∀ a, a < 56 → I' a = I a) → K (some (.inr (nI (e_up rx σ j).2.2))) I' P) : Fk (d + 4) m_M_uplink 77 77 0 0 [rf 57, .inr x] I P K :=
  sm_uplink hP h hS hB hr (fun j' hj' e => by
    have ej : j' = j := q_e (e.symm.trans hx) (by omega) (by omega)
    subst ej
    exact hK) (fun z => absurd ⟨j, hj, hx⟩ z)
theorem sm_uplinkN {d : Nat} {x : Int32} {rx : Rx} {σ : Sg} {B : Nat} {I : Fm} {P : Fr} {K : Option Fs → Fm → Fr → Prop} (hP : x_ref P) (h : MR σ [] B I) (hS : SI σ) (hB : B < 2 ^ 30) (hr : m_rcv I rx) (hn : ¬ ∃ j, j < 256 ∧ x = nI j) (hK : K (some (.inr (-1000))) I P) : Fk (d + 4) m_M_uplink 77 77 0 0 [rf 57, .inr x] I P K :=
  sm_uplink hP h hS hB hr (fun j hj e => absurd ⟨j, hj, e⟩ hn) (fun _ => hK)
def rp_f (q : Q4) (j : Nat) : Int32 := match j with | 0 => q.1 | 1 => q.2.1 | 2 => q.2.2.1 | _ => q.2.2.2
theorem sp_reportC {d : Nat} {x : Int32} {q : Q4} {sr : List Q4} {σ : Sg} {cm du : Nat → Nat} {I : Fm} {P : Fr} {K : Option Fs → Fm → Fr → Prop} (hX : XR σ cm du I P) (hq : s_sr σ = q :: sr) (hK : ∀ r : Int32, A_ix 4 (rp_f q) x r → K (some (.inr r)) I P) : Fk (d + 1) m_D_report 77 77 0 0 [rf 1, .inr x] I P K :=
  sp_report hX (fun q' sr' e r hr => by
    obtain ⟨e1, e2⟩ := List.cons.inj (hq.symm.trans e)
    subst e1
    exact hK r hr) (fun e => by rw [hq] at e; cases e)
theorem sp_reportN {d : Nat} {x : Int32} {σ : Sg} {cm du : Nat → Nat} {I : Fm} {P : Fr} {K : Option Fs → Fm → Fr → Prop} (hX : XR σ cm du I P) (hq : s_sr σ = []) (hK : K (some (.inr (-1000))) I P) : Fk (d + 1) m_D_report 77 77 0 0 [rf 1, .inr x] I P K :=
  sp_report hX (fun q' sr' e r hr => by rw [hq] at e; cases e) (fun _ => hK)
theorem sm_reportC {d : Nat} {x : Int32} {q : Q4} {sr : List Q4} {σ : Sg} {B : Nat} {I : Fm} {P : Fr} {K : Option Fs → Fm → Fr → Prop} (hP : x_ref P) (h : MR σ [] B I) (hq : s_sr σ = q :: sr) (hK : ∀ r : Int32, A_ix 4 (rp_f q) x r → K (some (.inr r)) I P) : Fk d m_M_report 77 77 0 0 [rf 57, .inr x] I P K :=
  sm_report hP h (fun q' sr' e r hr => by
    obtain ⟨e1, e2⟩ := List.cons.inj (hq.symm.trans e)
    subst e1
    exact hK r hr) (fun e => by rw [hq] at e; cases e)
theorem sm_reportN {d : Nat} {x : Int32} {σ : Sg} {B : Nat} {I : Fm} {P : Fr} {K : Option Fs → Fm → Fr → Prop} (hP : x_ref P) (h : MR σ [] B I) (hq : s_sr σ = []) (hK : K (some (.inr (-1000))) I P) : Fk d m_M_report 77 77 0 0 [rf 57, .inr x] I P K :=
  sm_report hP h (fun q' sr' e r hr => by rw [hq] at e; cases e) (fun _ => hK)
set_option maxRecDepth 100000 in
set_option maxHeartbeats 4000000 in
theorem lw_c0 {G : Fx} {Q : State → Prop} {nm : String} {a L : Nat} {xs : Nat → Int32} (hC : Fc G (mL nm) 7 1000 10000) (hX : FX G a L xs) (hL : L ≤ 1536) {f : Nat} (ih : ∀ (i : Nat) (σ : Sg) (rx : Rx) (B : Nat) (I : Fm) (P : Fr), L < i + 3 * f → i ≤ L → B ≤ 16 * i → BO σ rx B I P → Zv G Q 77 77 662 18 [(0, xf a), (1, rf 1), (2, rf 57), (3, .inr (nI i))] [] I P) (i : Nat) (σ : Sg) (rx : Rx) (B : Nat) (I : Fm) (P : Fr) (hif : L < i + 3 * (f + 1)) (hi3 : i + 3 ≤ L) (hB : B ≤ 16 * i) (hBO : BO σ rx B I P) : Zv G Q 77 77 662 92 [(0, xf a), (1, rf 1), (2, rf 57), (3, .inr (nI i))] [] I P := by
  obtain ⟨cm, du, hXR, hS, hR, hm, hM⟩ := id hBO
  by_cases hx : ∃ j, j < 256 ∧ xs (i + 1) = nI j
  · obtain ⟨j, hj, ex⟩ := hx
    refine Zv.aload_n hC d_L_law_92 rfl ?_
    refine Zv.aloadX hC d_L_law_93 rfl ?_
    refine Zv.iload_n hC d_L_law_94 rfl ?_
    refine Zv.iconst hC d_L_law_95 ic_1 ?_
    refine Zv.iaddN hC d_L_law_96 ?_
    refine Zv.sld hC hX (by omega) d_L_law_97 rfl (by omega) ?_
    refine Zv.callL1 hC d_L_law_98 ml_L_13 mk_D_uplink rfl (Nat.le_of_ble_eq_true rfl) rfl (by decide) ⟨by decide, by decide⟩ ?_
    refine sp_uplinkJ hXR hS hR hj ex (fun cm' I' P' q1 q2 q3 q4 => ?_)
    refine Zv.aload_n hC d_L_law_101 rfl ?_
    refine Zv.aloadX hC d_L_law_102 rfl ?_
    refine Zv.iload_n hC d_L_law_103 rfl ?_
    refine Zv.iconst hC d_L_law_104 ic_1 ?_
    refine Zv.iaddN hC d_L_law_105 ?_
    refine Zv.sld hC hX (by omega) d_L_law_106 rfl (by omega) ?_
    refine Zv.callL1 hC d_L_law_107 ml_L_17 mk_M_uplink rfl (Nat.le_of_ble_eq_true rfl) rfl (by decide) ⟨by decide, by decide⟩ ?_
    refine sm_uplinkJ q1.1 (MR_high hM q4) hS (by omega) (mrcv_high hm q4) hj ex (fun I2 r1 r2 r3 => ?_)
    refine Zv.icmp_eq (tgt := 335) hC d_L_law_110 (by decide) (fun _ => ?_) (fun z => absurd (rfl) z)
    refine Zv.iinc hC d_L_law_335 rfl (Nat.lt_succ_self 3) (q_inc3 _) rfl ?_
    refine Zv.goto (tgt := 18) hC d_L_law_338 (by decide) ?_
    exact ih (i + 3) _ _ (B + 1) I2 P' (by omega) (by omega) (by omega) ⟨cm', du, XR_low q1 r3, q2, x_rcv_kept q3 (r3 1 (by decide)) (r3 2 (by decide)), r2, r1⟩
  · skip
    refine Zv.aload_n hC d_L_law_92 rfl ?_
    refine Zv.aloadX hC d_L_law_93 rfl ?_
    refine Zv.iload_n hC d_L_law_94 rfl ?_
    refine Zv.iconst hC d_L_law_95 ic_1 ?_
    refine Zv.iaddN hC d_L_law_96 ?_
    refine Zv.sld hC hX (by omega) d_L_law_97 rfl (by omega) ?_
    refine Zv.callL1 hC d_L_law_98 ml_L_13 mk_D_uplink rfl (Nat.le_of_ble_eq_true rfl) rfl (by decide) ⟨by decide, by decide⟩ ?_
    refine sp_uplinkN hXR hS hR hx ?_
    refine Zv.aload_n hC d_L_law_101 rfl ?_
    refine Zv.aloadX hC d_L_law_102 rfl ?_
    refine Zv.iload_n hC d_L_law_103 rfl ?_
    refine Zv.iconst hC d_L_law_104 ic_1 ?_
    refine Zv.iaddN hC d_L_law_105 ?_
    refine Zv.sld hC hX (by omega) d_L_law_106 rfl (by omega) ?_
    refine Zv.callL1 hC d_L_law_107 ml_L_17 mk_M_uplink rfl (Nat.le_of_ble_eq_true rfl) rfl (by decide) ⟨by decide, by decide⟩ ?_
    refine sm_uplinkN hXR.1 hM hS (by omega) hm hx ?_
    refine Zv.icmp_eq (tgt := 335) hC d_L_law_110 (by decide) (fun _ => ?_) (fun z => absurd (rfl) z)
    refine Zv.iinc hC d_L_law_335 rfl (Nat.lt_succ_self 3) (q_inc3 _) rfl ?_
    refine Zv.goto (tgt := 18) hC d_L_law_338 (by decide) ?_
    exact ih (i + 3) σ rx B I P (by omega) (by omega) (by omega) hBO
set_option maxRecDepth 100000 in
set_option maxHeartbeats 4000000 in
theorem lw_c1 {G : Fx} {Q : State → Prop} {nm : String} {a L : Nat} {xs : Nat → Int32} (hC : Fc G (mL nm) 7 1000 10000) (hX : FX G a L xs) (hL : L ≤ 1536) {f : Nat} (ih : ∀ (i : Nat) (σ : Sg) (rx : Rx) (B : Nat) (I : Fm) (P : Fr), L < i + 3 * f → i ≤ L → B ≤ 16 * i → BO σ rx B I P → Zv G Q 77 77 662 18 [(0, xf a), (1, rf 1), (2, rf 57), (3, .inr (nI i))] [] I P) (i : Nat) (σ : Sg) (rx : Rx) (B : Nat) (I : Fm) (P : Fr) (hif : L < i + 3 * (f + 1)) (hi3 : i + 3 ≤ L) (hB : B ≤ 16 * i) (hBO : BO σ rx B I P) : Zv G Q 77 77 662 115 [(0, xf a), (1, rf 1), (2, rf 57), (3, .inr (nI i))] [] I P := by
  obtain ⟨cm, du, hXR, hS, hR, hm, hM⟩ := id hBO
  by_cases hx : s_g σ 0 < 60000
  · skip
    refine Zv.aload_n hC d_L_law_115 rfl ?_
    refine Zv.callL0 hC d_L_law_116 ml_L_18 mk_D_tick rfl (Nat.le_of_ble_eq_true rfl) rfl (by decide) ⟨by decide, by decide⟩ ?_
    refine sp_tick hXR hS (fun _ cm' du' I' P' q1 q2 q3 => ?_) (fun z => absurd hx (by omega))
    refine Zv.aload_n hC d_L_law_119 rfl ?_
    refine Zv.callL0 hC d_L_law_120 ml_L_22 mk_M_tick rfl (Nat.le_of_ble_eq_true rfl) rfl (by decide) ⟨by decide, by decide⟩ ?_
    refine sm_tick q1.1 (MR_high hM (fun a ha => q3 a (Or.inr (Or.inr ha)))) hS (by omega) (fun _ I2 r1 r2 => ?_) (fun z => absurd hx (by omega))
    refine Zv.icmp_eq (tgt := 335) hC d_L_law_123 (by decide) (fun _ => ?_) (fun z => absurd (rfl) z)
    refine Zv.iinc hC d_L_law_335 rfl (Nat.lt_succ_self 3) (q_inc3 _) rfl ?_
    refine Zv.goto (tgt := 18) hC d_L_law_338 (by decide) ?_
    refine ih (i + 3) _ rx (B + 10) I2 P' (by omega) (by omega) (by omega) ⟨cm', du', XR_low q1 (fun a ha => r2.1 a (Or.inl ha)), q2, ?_, m_rcv_kept hm (r2.2.trans (by rw [q3 56 (by omega)])) ((r2.1 57 (Or.inr rfl)).trans (q3 57 (by omega))), r1⟩
    rw [tick_g (by omega), tick_g (by omega), tick_g (by omega)]
    exact x_rcv_kept hR ((r2.1 1 (by omega)).trans (q3 1 (by omega))) ((r2.1 2 (by omega)).trans (q3 2 (by omega)))
  · skip
    refine Zv.aload_n hC d_L_law_115 rfl ?_
    refine Zv.callL0 hC d_L_law_116 ml_L_18 mk_D_tick rfl (Nat.le_of_ble_eq_true rfl) rfl (by decide) ⟨by decide, by decide⟩ ?_
    refine sp_tick hXR hS (fun z => absurd z hx) (fun _ => ?_)
    refine Zv.aload_n hC d_L_law_119 rfl ?_
    refine Zv.callL0 hC d_L_law_120 ml_L_22 mk_M_tick rfl (Nat.le_of_ble_eq_true rfl) rfl (by decide) ⟨by decide, by decide⟩ ?_
    refine sm_tick hXR.1 hM hS (by omega) (fun z => absurd z hx) (fun _ => ?_)
    refine Zv.icmp_eq (tgt := 335) hC d_L_law_123 (by decide) (fun _ => ?_) (fun z => absurd (rfl) z)
    refine Zv.iinc hC d_L_law_335 rfl (Nat.lt_succ_self 3) (q_inc3 _) rfl ?_
    refine Zv.goto (tgt := 18) hC d_L_law_338 (by decide) ?_
    exact ih (i + 3) σ rx B I P (by omega) (by omega) (by omega) hBO
set_option maxRecDepth 100000 in
set_option maxHeartbeats 4000000 in
theorem lw_c2 {G : Fx} {Q : State → Prop} {nm : String} {a L : Nat} {xs : Nat → Int32} (hC : Fc G (mL nm) 7 1000 10000) (hX : FX G a L xs) (hL : L ≤ 1536) {f : Nat} (ih : ∀ (i : Nat) (σ : Sg) (rx : Rx) (B : Nat) (I : Fm) (P : Fr), L < i + 3 * f → i ≤ L → B ≤ 16 * i → BO σ rx B I P → Zv G Q 77 77 662 18 [(0, xf a), (1, rf 1), (2, rf 57), (3, .inr (nI i))] [] I P) (i : Nat) (σ : Sg) (rx : Rx) (B : Nat) (I : Fm) (P : Fr) (hif : L < i + 3 * (f + 1)) (hi3 : i + 3 ≤ L) (hB : B ≤ 16 * i) (hBO : BO σ rx B I P) : Zv G Q 77 77 662 128 [(0, xf a), (1, rf 1), (2, rf 57), (3, .inr (nI i))] [] I P := by
  obtain ⟨cm, du, hXR, hS, hR, hm, hM⟩ := id hBO
  by_cases hx : s_sr σ = []
  · skip
    refine Zv.aload_n hC d_L_law_128 rfl ?_
    refine Zv.aloadX hC d_L_law_129 rfl ?_
    refine Zv.iload_n hC d_L_law_130 rfl ?_
    refine Zv.iconst hC d_L_law_131 ic_1 ?_
    refine Zv.iaddN hC d_L_law_132 ?_
    refine Zv.sld hC hX (by omega) d_L_law_133 rfl (by omega) ?_
    refine Zv.callL1 hC d_L_law_134 ml_L_23 mk_D_report rfl (Nat.le_of_ble_eq_true rfl) rfl (by decide) ⟨by decide, by decide⟩ ?_
    refine sp_reportN hXR hx ?_
    refine Zv.aload_n hC d_L_law_137 rfl ?_
    refine Zv.aloadX hC d_L_law_138 rfl ?_
    refine Zv.iload_n hC d_L_law_139 rfl ?_
    refine Zv.iconst hC d_L_law_140 ic_1 ?_
    refine Zv.iaddN hC d_L_law_141 ?_
    refine Zv.sld hC hX (by omega) d_L_law_142 rfl (by omega) ?_
    refine Zv.callL1 hC d_L_law_143 ml_L_26 mk_M_report rfl (Nat.le_of_ble_eq_true rfl) rfl (by decide) ⟨by decide, by decide⟩ ?_
    refine sm_reportN hXR.1 hM hx ?_
    refine Zv.icmp_eq (tgt := 335) hC d_L_law_146 (by decide) (fun _ => ?_) (fun z => absurd (rfl) z)
    refine Zv.iinc hC d_L_law_335 rfl (Nat.lt_succ_self 3) (q_inc3 _) rfl ?_
    refine Zv.goto (tgt := 18) hC d_L_law_338 (by decide) ?_
    exact ih (i + 3) σ rx B I P (by omega) (by omega) (by omega) hBO
  · obtain ⟨q, sr, hq⟩ := List.exists_cons_of_ne_nil hx
    refine Zv.aload_n hC d_L_law_128 rfl ?_
    refine Zv.aloadX hC d_L_law_129 rfl ?_
    refine Zv.iload_n hC d_L_law_130 rfl ?_
    refine Zv.iconst hC d_L_law_131 ic_1 ?_
    refine Zv.iaddN hC d_L_law_132 ?_
    refine Zv.sld hC hX (by omega) d_L_law_133 rfl (by omega) ?_
    refine Zv.callL1 hC d_L_law_134 ml_L_23 mk_D_report rfl (Nat.le_of_ble_eq_true rfl) rfl (by decide) ⟨by decide, by decide⟩ ?_
    refine sp_reportC hXR hq (fun r1 hr1 => ?_)
    refine Zv.aload_n hC d_L_law_137 rfl ?_
    refine Zv.aloadX hC d_L_law_138 rfl ?_
    refine Zv.iload_n hC d_L_law_139 rfl ?_
    refine Zv.iconst hC d_L_law_140 ic_1 ?_
    refine Zv.iaddN hC d_L_law_141 ?_
    refine Zv.sld hC hX (by omega) d_L_law_142 rfl (by omega) ?_
    refine Zv.callL1 hC d_L_law_143 ml_L_26 mk_M_report rfl (Nat.le_of_ble_eq_true rfl) rfl (by decide) ⟨by decide, by decide⟩ ?_
    refine sm_reportC hXR.1 hM hq (fun r2 hr2 => ?_)
    refine Zv.icmp_eq (tgt := 335) hC d_L_law_146 (by decide) (fun _ => ?_) (fun z => absurd (A_ix_fun hr1 hr2 (fun _ _ => rfl)) z)
    refine Zv.iinc hC d_L_law_335 rfl (Nat.lt_succ_self 3) (q_inc3 _) rfl ?_
    refine Zv.goto (tgt := 18) hC d_L_law_338 (by decide) ?_
    exact ih (i + 3) σ rx B I P (by omega) (by omega) (by omega) hBO
set_option maxRecDepth 100000 in
set_option maxHeartbeats 4000000 in
theorem lw_c3 {G : Fx} {Q : State → Prop} {nm : String} {a L : Nat} {xs : Nat → Int32} (hC : Fc G (mL nm) 7 1000 10000) (hX : FX G a L xs) (hL : L ≤ 1536) {f : Nat} (ih : ∀ (i : Nat) (σ : Sg) (rx : Rx) (B : Nat) (I : Fm) (P : Fr), L < i + 3 * f → i ≤ L → B ≤ 16 * i → BO σ rx B I P → Zv G Q 77 77 662 18 [(0, xf a), (1, rf 1), (2, rf 57), (3, .inr (nI i))] [] I P) (i : Nat) (σ : Sg) (rx : Rx) (B : Nat) (I : Fm) (P : Fr) (hif : L < i + 3 * (f + 1)) (hi3 : i + 3 ≤ L) (hB : B ≤ 16 * i) (hBO : BO σ rx B I P) : Zv G Q 77 77 662 151 [(0, xf a), (1, rf 1), (2, rf 57), (3, .inr (nI i))] [] I P := by
  obtain ⟨cm, du, hXR, hS, hR, hm, hM⟩ := id hBO
  by_cases hx : s_sr σ = []
  · skip
    refine Zv.aload_n hC d_L_law_151 rfl ?_
    refine Zv.callL0 hC d_L_law_152 ml_L_27 mk_D_take rfl (Nat.le_of_ble_eq_true rfl) rfl (by decide) ⟨by decide, by decide⟩ ?_
    refine sp_take hXR (fun z => absurd hx z) (fun _ => ?_)
    refine Zv.aload_n hC d_L_law_155 rfl ?_
    refine Zv.callL0 hC d_L_law_156 ml_L_30 mk_M_take rfl (Nat.le_of_ble_eq_true rfl) rfl (by decide) ⟨by decide, by decide⟩ ?_
    refine sm_take hXR.1 hM (fun z => absurd hx z) (fun _ => ?_)
    refine Zv.icmp_eq (tgt := 335) hC d_L_law_159 (by decide) (fun _ => ?_) (fun z => absurd (rfl) z)
    refine Zv.iinc hC d_L_law_335 rfl (Nat.lt_succ_self 3) (q_inc3 _) rfl ?_
    refine Zv.goto (tgt := 18) hC d_L_law_338 (by decide) ?_
    exact ih (i + 3) σ rx B I P (by omega) (by omega) (by omega) hBO
  · skip
    refine Zv.aload_n hC d_L_law_151 rfl ?_
    refine Zv.callL0 hC d_L_law_152 ml_L_27 mk_D_take rfl (Nat.le_of_ble_eq_true rfl) rfl (by decide) ⟨by decide, by decide⟩ ?_
    refine sp_take hXR (fun _ I' q1 q2 => ?_) (fun z => absurd z hx)
    refine Zv.aload_n hC d_L_law_155 rfl ?_
    refine Zv.callL0 hC d_L_law_156 ml_L_30 mk_M_take rfl (Nat.le_of_ble_eq_true rfl) rfl (by decide) ⟨by decide, by decide⟩ ?_
    refine sm_take q1.1 (MR_high hM (fun a ha => q2 a (by omega))) (fun _ I2 r1 r2 => ?_) (fun z => absurd z hx)
    refine Zv.icmp_eq (tgt := 335) hC d_L_law_159 (by decide) (fun _ => ?_) (fun z => absurd (rfl) z)
    refine Zv.iinc hC d_L_law_335 rfl (Nat.lt_succ_self 3) (q_inc3 _) rfl ?_
    refine Zv.goto (tgt := 18) hC d_L_law_338 (by decide) ?_
    exact ih (i + 3) _ rx B I2 P (by omega) (by omega) (by omega) ⟨cm, du, XR_low q1 (fun a ha => r2.1 a (Or.inl ha)), hS, x_rcv_kept hR ((r2.1 1 (by omega)).trans (q2 1 (by decide))) ((r2.1 2 (by omega)).trans (q2 2 (by decide))), m_rcv_kept hm (r2.2.trans (by rw [q2 56 (by decide)])) ((r2.1 57 (Or.inr rfl)).trans (q2 57 (by decide))), r1⟩
set_option maxRecDepth 100000 in
set_option maxHeartbeats 4000000 in
theorem lw_c4 {G : Fx} {Q : State → Prop} {nm : String} {a L : Nat} {xs : Nat → Int32} (hC : Fc G (mL nm) 7 1000 10000) (hX : FX G a L xs) (hL : L ≤ 1536) {f : Nat} (ih : ∀ (i : Nat) (σ : Sg) (rx : Rx) (B : Nat) (I : Fm) (P : Fr), L < i + 3 * f → i ≤ L → B ≤ 16 * i → BO σ rx B I P → Zv G Q 77 77 662 18 [(0, xf a), (1, rf 1), (2, rf 57), (3, .inr (nI i))] [] I P) (i : Nat) (σ : Sg) (rx : Rx) (B : Nat) (I : Fm) (P : Fr) (hif : L < i + 3 * (f + 1)) (hi3 : i + 3 ≤ L) (hB : B ≤ 16 * i) (hBO : BO σ rx B I P) : Zv G Q 77 77 662 164 [(0, xf a), (1, rf 1), (2, rf 57), (3, .inr (nI i))] [] I P := by
  obtain ⟨cm, du, hXR, hS, hR, hm, hM⟩ := id hBO
  refine Zv.aload_n hC d_L_law_164 rfl ?_
  refine Zv.aloadX hC d_L_law_165 rfl ?_
  refine Zv.iload_n hC d_L_law_166 rfl ?_
  refine Zv.iconst hC d_L_law_167 ic_1 ?_
  refine Zv.iaddN hC d_L_law_168 ?_
  refine Zv.sld hC hX (by omega) d_L_law_169 rfl (by omega) ?_
  refine Zv.callL1 hC d_L_law_170 ml_L_31 mk_D_parameter rfl (Nat.le_of_ble_eq_true rfl) rfl (by decide) ⟨by decide, by decide⟩ ?_
  refine sp_parameter hXR (fun r1 hr1 => ?_)
  refine Zv.aload_n hC d_L_law_173 rfl ?_
  refine Zv.aloadX hC d_L_law_174 rfl ?_
  refine Zv.iload_n hC d_L_law_175 rfl ?_
  refine Zv.iconst hC d_L_law_176 ic_1 ?_
  refine Zv.iaddN hC d_L_law_177 ?_
  refine Zv.sld hC hX (by omega) d_L_law_178 rfl (by omega) ?_
  refine Zv.callL1 hC d_L_law_179 ml_L_34 mk_M_parameter rfl (Nat.le_of_ble_eq_true rfl) rfl (by decide) ⟨by decide, by decide⟩ ?_
  refine sm_parameter hXR.1 hM (fun r2 hr2 => ?_)
  refine Zv.icmp_eq (tgt := 335) hC d_L_law_182 (by decide) (fun _ => ?_) (fun z => absurd (A_ix_fun hr1 hr2 (fun _ _ => rfl)) z)
  refine Zv.iinc hC d_L_law_335 rfl (Nat.lt_succ_self 3) (q_inc3 _) rfl ?_
  refine Zv.goto (tgt := 18) hC d_L_law_338 (by decide) ?_
  exact ih (i + 3) σ rx B I P (by omega) (by omega) (by omega) hBO
set_option maxRecDepth 100000 in
set_option maxHeartbeats 4000000 in
theorem lw_c5 {G : Fx} {Q : State → Prop} {nm : String} {a L : Nat} {xs : Nat → Int32} (hC : Fc G (mL nm) 7 1000 10000) (hX : FX G a L xs) (hL : L ≤ 1536) {f : Nat} (ih : ∀ (i : Nat) (σ : Sg) (rx : Rx) (B : Nat) (I : Fm) (P : Fr), L < i + 3 * f → i ≤ L → B ≤ 16 * i → BO σ rx B I P → Zv G Q 77 77 662 18 [(0, xf a), (1, rf 1), (2, rf 57), (3, .inr (nI i))] [] I P) (i : Nat) (σ : Sg) (rx : Rx) (B : Nat) (I : Fm) (P : Fr) (hif : L < i + 3 * (f + 1)) (hi3 : i + 3 ≤ L) (hB : B ≤ 16 * i) (hBO : BO σ rx B I P) : Zv G Q 77 77 662 187 [(0, xf a), (1, rf 1), (2, rf 57), (3, .inr (nI i))] [] I P := by
  obtain ⟨cm, du, hXR, hS, hR, hm, hM⟩ := id hBO
  by_cases hx : (∃ j, j < 8 ∧ xs (i + 1) = nI j) ∧ (¬ xs (i + 2) < -128 ∧ xs (i + 2) ≤ nI 127)
  · obtain ⟨⟨j, hj, ex⟩, hy⟩ := hx
    refine Zv.aload_n hC d_L_law_187 rfl ?_
    refine Zv.aloadX hC d_L_law_188 rfl ?_
    refine Zv.iload_n hC d_L_law_189 rfl ?_
    refine Zv.iconst hC d_L_law_190 ic_1 ?_
    refine Zv.iaddN hC d_L_law_191 ?_
    refine Zv.sld hC hX (by omega) d_L_law_192 rfl (by omega) ?_
    refine Zv.aloadX hC d_L_law_193 rfl ?_
    refine Zv.iload_n hC d_L_law_194 rfl ?_
    refine Zv.iconst hC d_L_law_195 ic_2 ?_
    refine Zv.iaddN hC d_L_law_196 ?_
    refine Zv.sld hC hX (by omega) d_L_law_197 rfl (by omega) ?_
    refine Zv.callL2 hC d_L_law_198 ml_L_35 mk_D_sense rfl (Nat.le_of_ble_eq_true rfl) rfl (by decide) ⟨by decide, by decide⟩ ?_
    refine sp_sense hXR (fun j1 hj1 e1 _ => ?_) (fun z => z.elim (fun w => absurd ⟨j, hj, ex⟩ w) (fun w => absurd hy w))
    have e2 : j1 = j := q_e (e1.symm.trans ex) (by omega) (by omega)
    subst e2
    refine Zv.aload_n hC d_L_law_201 rfl ?_
    refine Zv.aloadX hC d_L_law_202 rfl ?_
    refine Zv.iload_n hC d_L_law_203 rfl ?_
    refine Zv.iconst hC d_L_law_204 ic_1 ?_
    refine Zv.iaddN hC d_L_law_205 ?_
    refine Zv.sld hC hX (by omega) d_L_law_206 rfl (by omega) ?_
    refine Zv.aloadX hC d_L_law_207 rfl ?_
    refine Zv.iload_n hC d_L_law_208 rfl ?_
    refine Zv.iconst hC d_L_law_209 ic_2 ?_
    refine Zv.iaddN hC d_L_law_210 ?_
    refine Zv.sld hC hX (by omega) d_L_law_211 rfl (by omega) ?_
    refine Zv.callL2 hC d_L_law_212 ml_L_39 mk_M_sense rfl (Nat.le_of_ble_eq_true rfl) rfl (by decide) ⟨by decide, by decide⟩ ?_
    refine sm_sense hXR.1 (MR_high hM (fun a ha => f_u_ne (by omega))) (fun j2 hj2 e2 _ => ?_) (fun z => z.elim (fun w => absurd ⟨j1, hj, ex⟩ w) (fun w => absurd hy w))
    have e3 : j2 = j1 := q_e (e2.symm.trans ex) (by omega) (by omega)
    subst e3
    refine Zv.icmp_eq (tgt := 335) hC d_L_law_215 (by decide) (fun _ => ?_) (fun z => absurd (rfl) z)
    refine Zv.iinc hC d_L_law_335 rfl (Nat.lt_succ_self 3) (q_inc3 _) rfl ?_
    refine Zv.goto (tgt := 18) hC d_L_law_338 (by decide) ?_
    exact ih (i + 3) (w_pa σ j2 (xs (i + 2))) rx B _ P (by omega) (by omega) (by omega) ⟨cm, du, XR_low (XR_par hXR _).1 (fun a ha => f_u_ne (by omega)), hS, x_rcv_kept hR (by rw [f_u_ne (by decide), f_u_ne (by decide)]) (by rw [f_u_ne (by decide), f_u_ne (by decide)]), m_rcv_kept hm (f_ur (by decide) (f_ur (by decide) rfl)) (by rw [f_u_ne (by decide), f_u_ne (by decide)]), MR_wpa (MR_high hM (fun a ha => f_u_ne (by omega))) _ _⟩
  · have hx2 : (¬ ∃ j, j < 8 ∧ xs (i + 1) = nI j) ∨ ¬ (¬ xs (i + 2) < -128 ∧ xs (i + 2) ≤ nI 127) := Classical.byContradiction fun z => hx ⟨Classical.byContradiction fun w => z (Or.inl w), Classical.byContradiction fun w => z (Or.inr w)⟩
    refine Zv.aload_n hC d_L_law_187 rfl ?_
    refine Zv.aloadX hC d_L_law_188 rfl ?_
    refine Zv.iload_n hC d_L_law_189 rfl ?_
    refine Zv.iconst hC d_L_law_190 ic_1 ?_
    refine Zv.iaddN hC d_L_law_191 ?_
    refine Zv.sld hC hX (by omega) d_L_law_192 rfl (by omega) ?_
    refine Zv.aloadX hC d_L_law_193 rfl ?_
    refine Zv.iload_n hC d_L_law_194 rfl ?_
    refine Zv.iconst hC d_L_law_195 ic_2 ?_
    refine Zv.iaddN hC d_L_law_196 ?_
    refine Zv.sld hC hX (by omega) d_L_law_197 rfl (by omega) ?_
    refine Zv.callL2 hC d_L_law_198 ml_L_35 mk_D_sense rfl (Nat.le_of_ble_eq_true rfl) rfl (by decide) ⟨by decide, by decide⟩ ?_
    refine sp_sense hXR (fun j1 hj1 e1 y1 => absurd (⟨⟨j1, hj1, e1⟩, y1⟩ : _ ∧ _) hx) (fun _ => ?_)
    refine Zv.aload_n hC d_L_law_201 rfl ?_
    refine Zv.aloadX hC d_L_law_202 rfl ?_
    refine Zv.iload_n hC d_L_law_203 rfl ?_
    refine Zv.iconst hC d_L_law_204 ic_1 ?_
    refine Zv.iaddN hC d_L_law_205 ?_
    refine Zv.sld hC hX (by omega) d_L_law_206 rfl (by omega) ?_
    refine Zv.aloadX hC d_L_law_207 rfl ?_
    refine Zv.iload_n hC d_L_law_208 rfl ?_
    refine Zv.iconst hC d_L_law_209 ic_2 ?_
    refine Zv.iaddN hC d_L_law_210 ?_
    refine Zv.sld hC hX (by omega) d_L_law_211 rfl (by omega) ?_
    refine Zv.callL2 hC d_L_law_212 ml_L_39 mk_M_sense rfl (Nat.le_of_ble_eq_true rfl) rfl (by decide) ⟨by decide, by decide⟩ ?_
    refine sm_sense hXR.1 hM (fun j1 hj1 e1 y1 => absurd (⟨⟨j1, hj1, e1⟩, y1⟩ : _ ∧ _) hx) (fun _ => ?_)
    refine Zv.icmp_eq (tgt := 335) hC d_L_law_215 (by decide) (fun _ => ?_) (fun z => absurd (rfl) z)
    refine Zv.iinc hC d_L_law_335 rfl (Nat.lt_succ_self 3) (q_inc3 _) rfl ?_
    refine Zv.goto (tgt := 18) hC d_L_law_338 (by decide) ?_
    exact ih (i + 3) σ rx B I P (by omega) (by omega) (by omega) hBO
set_option maxRecDepth 100000 in
set_option maxHeartbeats 4000000 in
theorem lw_c6 {G : Fx} {Q : State → Prop} {nm : String} {a L : Nat} {xs : Nat → Int32} (hC : Fc G (mL nm) 7 1000 10000) (hX : FX G a L xs) (hL : L ≤ 1536) {f : Nat} (ih : ∀ (i : Nat) (σ : Sg) (rx : Rx) (B : Nat) (I : Fm) (P : Fr), L < i + 3 * f → i ≤ L → B ≤ 16 * i → BO σ rx B I P → Zv G Q 77 77 662 18 [(0, xf a), (1, rf 1), (2, rf 57), (3, .inr (nI i))] [] I P) (i : Nat) (σ : Sg) (rx : Rx) (B : Nat) (I : Fm) (P : Fr) (hif : L < i + 3 * (f + 1)) (hi3 : i + 3 ≤ L) (hB : B ≤ 16 * i) (hBO : BO σ rx B I P) : Zv G Q 77 77 662 220 [(0, xf a), (1, rf 1), (2, rf 57), (3, .inr (nI i))] [] I P := by
  obtain ⟨cm, du, hXR, hS, hR, hm, hM⟩ := id hBO
  refine Zv.aload_n hC d_L_law_220 rfl ?_
  refine Zv.aloadX hC d_L_law_221 rfl ?_
  refine Zv.iload_n hC d_L_law_222 rfl ?_
  refine Zv.iconst hC d_L_law_223 ic_1 ?_
  refine Zv.iaddN hC d_L_law_224 ?_
  refine Zv.sld hC hX (by omega) d_L_law_225 rfl (by omega) ?_
  refine Zv.callL1 hC d_L_law_226 ml_L_40 mk_D_planned rfl (Nat.le_of_ble_eq_true rfl) rfl (by decide) ⟨by decide, by decide⟩ ?_
  refine sp_planned hXR (fun r1 hr1 => ?_)
  refine Zv.aload_n hC d_L_law_229 rfl ?_
  refine Zv.aloadX hC d_L_law_230 rfl ?_
  refine Zv.iload_n hC d_L_law_231 rfl ?_
  refine Zv.iconst hC d_L_law_232 ic_1 ?_
  refine Zv.iaddN hC d_L_law_233 ?_
  refine Zv.sld hC hX (by omega) d_L_law_234 rfl (by omega) ?_
  refine Zv.callL1 hC d_L_law_235 ml_L_43 mk_M_planned rfl (Nat.le_of_ble_eq_true rfl) rfl (by decide) ⟨by decide, by decide⟩ ?_
  refine sm_planned hXR.1 hM (by omega) (fun r2 hr2 => ?_)
  refine Zv.icmp_eq (tgt := 335) hC d_L_law_238 (by decide) (fun _ => ?_) (fun z => absurd (A_ix_fun hr1 hr2 (fun _ _ => rfl)) z)
  refine Zv.iinc hC d_L_law_335 rfl (Nat.lt_succ_self 3) (q_inc3 _) rfl ?_
  refine Zv.goto (tgt := 18) hC d_L_law_338 (by decide) ?_
  exact ih (i + 3) σ rx B I P (by omega) (by omega) (by omega) hBO
set_option maxRecDepth 100000 in
set_option maxHeartbeats 4000000 in
theorem lw_c7 {G : Fx} {Q : State → Prop} {nm : String} {a L : Nat} {xs : Nat → Int32} (hC : Fc G (mL nm) 7 1000 10000) (hX : FX G a L xs) (hL : L ≤ 1536) {f : Nat} (ih : ∀ (i : Nat) (σ : Sg) (rx : Rx) (B : Nat) (I : Fm) (P : Fr), L < i + 3 * f → i ≤ L → B ≤ 16 * i → BO σ rx B I P → Zv G Q 77 77 662 18 [(0, xf a), (1, rf 1), (2, rf 57), (3, .inr (nI i))] [] I P) (i : Nat) (σ : Sg) (rx : Rx) (B : Nat) (I : Fm) (P : Fr) (hif : L < i + 3 * (f + 1)) (hi3 : i + 3 ≤ L) (hB : B ≤ 16 * i) (hBO : BO σ rx B I P) : Zv G Q 77 77 662 243 [(0, xf a), (1, rf 1), (2, rf 57), (3, .inr (nI i))] [] I P := by
  obtain ⟨cm, du, hXR, hS, hR, hm, hM⟩ := id hBO
  refine Zv.aload_n hC d_L_law_243 rfl ?_
  refine Zv.aloadX hC d_L_law_244 rfl ?_
  refine Zv.iload_n hC d_L_law_245 rfl ?_
  refine Zv.iconst hC d_L_law_246 ic_1 ?_
  refine Zv.iaddN hC d_L_law_247 ?_
  refine Zv.sld hC hX (by omega) d_L_law_248 rfl (by omega) ?_
  refine Zv.callL1 hC d_L_law_249 ml_L_44 mk_D_plannedService rfl (Nat.le_of_ble_eq_true rfl) rfl (by decide) ⟨by decide, by decide⟩ ?_
  refine sp_plannedService hXR (fun r1 hr1 => ?_)
  refine Zv.aload_n hC d_L_law_252 rfl ?_
  refine Zv.aloadX hC d_L_law_253 rfl ?_
  refine Zv.iload_n hC d_L_law_254 rfl ?_
  refine Zv.iconst hC d_L_law_255 ic_1 ?_
  refine Zv.iaddN hC d_L_law_256 ?_
  refine Zv.sld hC hX (by omega) d_L_law_257 rfl (by omega) ?_
  refine Zv.callL1 hC d_L_law_258 ml_L_47 mk_M_plannedService rfl (Nat.le_of_ble_eq_true rfl) rfl (by decide) ⟨by decide, by decide⟩ ?_
  refine sm_plannedService hXR.1 hM hS (by omega) (fun r2 hr2 => ?_)
  refine Zv.icmp_eq (tgt := 335) hC d_L_law_261 (by decide) (fun _ => ?_) (fun z => absurd (A_ix_fun hr1 hr2 (fun _ _ => rfl)) z)
  refine Zv.iinc hC d_L_law_335 rfl (Nat.lt_succ_self 3) (q_inc3 _) rfl ?_
  refine Zv.goto (tgt := 18) hC d_L_law_338 (by decide) ?_
  exact ih (i + 3) σ rx B I P (by omega) (by omega) (by omega) hBO
set_option maxRecDepth 100000 in
set_option maxHeartbeats 4000000 in
theorem lw_c8 {G : Fx} {Q : State → Prop} {nm : String} {a L : Nat} {xs : Nat → Int32} (hC : Fc G (mL nm) 7 1000 10000) (hX : FX G a L xs) (hL : L ≤ 1536) {f : Nat} (ih : ∀ (i : Nat) (σ : Sg) (rx : Rx) (B : Nat) (I : Fm) (P : Fr), L < i + 3 * f → i ≤ L → B ≤ 16 * i → BO σ rx B I P → Zv G Q 77 77 662 18 [(0, xf a), (1, rf 1), (2, rf 57), (3, .inr (nI i))] [] I P) (i : Nat) (σ : Sg) (rx : Rx) (B : Nat) (I : Fm) (P : Fr) (hif : L < i + 3 * (f + 1)) (hi3 : i + 3 ≤ L) (hB : B ≤ 16 * i) (hBO : BO σ rx B I P) : Zv G Q 77 77 662 266 [(0, xf a), (1, rf 1), (2, rf 57), (3, .inr (nI i))] [] I P := by
  obtain ⟨cm, du, hXR, hS, hR, hm, hM⟩ := id hBO
  refine Zv.aload_n hC d_L_law_266 rfl ?_
  refine Zv.aloadX hC d_L_law_267 rfl ?_
  refine Zv.iload_n hC d_L_law_268 rfl ?_
  refine Zv.iconst hC d_L_law_269 ic_1 ?_
  refine Zv.iaddN hC d_L_law_270 ?_
  refine Zv.sld hC hX (by omega) d_L_law_271 rfl (by omega) ?_
  refine Zv.callL1 hC d_L_law_272 ml_L_48 mk_D_watch rfl (Nat.le_of_ble_eq_true rfl) rfl (by decide) ⟨by decide, by decide⟩ ?_
  refine sp_watch hXR (fun m hm => (hS.2.2.2.2.2.2.1 m hm).1) (fun r1 hr1 => ?_)
  refine Zv.aload_n hC d_L_law_275 rfl ?_
  refine Zv.aloadX hC d_L_law_276 rfl ?_
  refine Zv.iload_n hC d_L_law_277 rfl ?_
  refine Zv.iconst hC d_L_law_278 ic_1 ?_
  refine Zv.iaddN hC d_L_law_279 ?_
  refine Zv.sld hC hX (by omega) d_L_law_280 rfl (by omega) ?_
  refine Zv.callL1 hC d_L_law_281 ml_L_51 mk_M_watch rfl (Nat.le_of_ble_eq_true rfl) rfl (by decide) ⟨by decide, by decide⟩ ?_
  refine sm_watch hXR.1 hM (fun m hm => (hS.2.2.2.2.2.2.1 m hm).1) (fun r2 hr2 => ?_)
  refine Zv.icmp_eq (tgt := 335) hC d_L_law_284 (by decide) (fun _ => ?_) (fun z => absurd (A_ix_fun hr1 hr2 (fun _ _ => rfl)) z)
  refine Zv.iinc hC d_L_law_335 rfl (Nat.lt_succ_self 3) (q_inc3 _) rfl ?_
  refine Zv.goto (tgt := 18) hC d_L_law_338 (by decide) ?_
  exact ih (i + 3) σ rx B I P (by omega) (by omega) (by omega) hBO
set_option maxRecDepth 100000 in
set_option maxHeartbeats 4000000 in
theorem lw_c9 {G : Fx} {Q : State → Prop} {nm : String} {a L : Nat} {xs : Nat → Int32} (hC : Fc G (mL nm) 7 1000 10000) (hX : FX G a L xs) (hL : L ≤ 1536) {f : Nat} (ih : ∀ (i : Nat) (σ : Sg) (rx : Rx) (B : Nat) (I : Fm) (P : Fr), L < i + 3 * f → i ≤ L → B ≤ 16 * i → BO σ rx B I P → Zv G Q 77 77 662 18 [(0, xf a), (1, rf 1), (2, rf 57), (3, .inr (nI i))] [] I P) (i : Nat) (σ : Sg) (rx : Rx) (B : Nat) (I : Fm) (P : Fr) (hif : L < i + 3 * (f + 1)) (hi3 : i + 3 ≤ L) (hB : B ≤ 16 * i) (hBO : BO σ rx B I P) : Zv G Q 77 77 662 289 [(0, xf a), (1, rf 1), (2, rf 57), (3, .inr (nI i))] [] I P := by
  obtain ⟨cm, du, hXR, hS, hR, hm, hM⟩ := id hBO
  refine Zv.aload_n hC d_L_law_289 rfl ?_
  refine Zv.aloadX hC d_L_law_290 rfl ?_
  refine Zv.iload_n hC d_L_law_291 rfl ?_
  refine Zv.iconst hC d_L_law_292 ic_1 ?_
  refine Zv.iaddN hC d_L_law_293 ?_
  refine Zv.sld hC hX (by omega) d_L_law_294 rfl (by omega) ?_
  refine Zv.callL1 hC d_L_law_295 ml_L_52 mk_D_action rfl (Nat.le_of_ble_eq_true rfl) rfl (by decide) ⟨by decide, by decide⟩ ?_
  refine sp_action hXR (fun r1 hr1 => ?_)
  refine Zv.aload_n hC d_L_law_298 rfl ?_
  refine Zv.aloadX hC d_L_law_299 rfl ?_
  refine Zv.iload_n hC d_L_law_300 rfl ?_
  refine Zv.iconst hC d_L_law_301 ic_1 ?_
  refine Zv.iaddN hC d_L_law_302 ?_
  refine Zv.sld hC hX (by omega) d_L_law_303 rfl (by omega) ?_
  refine Zv.callL1 hC d_L_law_304 ml_L_55 mk_M_action rfl (Nat.le_of_ble_eq_true rfl) rfl (by decide) ⟨by decide, by decide⟩ ?_
  refine sm_action hXR.1 hM (fun r2 hr2 => ?_)
  refine Zv.icmp_eq (tgt := 335) hC d_L_law_307 (by decide) (fun _ => ?_) (fun z => absurd (A_ix_fun hr1 hr2 (fun _ _ => rfl)) z)
  refine Zv.iinc hC d_L_law_335 rfl (Nat.lt_succ_self 3) (q_inc3 _) rfl ?_
  refine Zv.goto (tgt := 18) hC d_L_law_338 (by decide) ?_
  exact ih (i + 3) σ rx B I P (by omega) (by omega) (by omega) hBO
set_option maxRecDepth 100000 in
set_option maxHeartbeats 4000000 in
theorem lw_c10 {G : Fx} {Q : State → Prop} {nm : String} {a L : Nat} {xs : Nat → Int32} (hC : Fc G (mL nm) 7 1000 10000) (hX : FX G a L xs) (hL : L ≤ 1536) {f : Nat} (ih : ∀ (i : Nat) (σ : Sg) (rx : Rx) (B : Nat) (I : Fm) (P : Fr), L < i + 3 * f → i ≤ L → B ≤ 16 * i → BO σ rx B I P → Zv G Q 77 77 662 18 [(0, xf a), (1, rf 1), (2, rf 57), (3, .inr (nI i))] [] I P) (i : Nat) (σ : Sg) (rx : Rx) (B : Nat) (I : Fm) (P : Fr) (hif : L < i + 3 * (f + 1)) (hi3 : i + 3 ≤ L) (hB : B ≤ 16 * i) (hBO : BO σ rx B I P) : Zv G Q 77 77 662 312 [(0, xf a), (1, rf 1), (2, rf 57), (3, .inr (nI i))] [] I P := by
  obtain ⟨cm, du, hXR, hS, hR, hm, hM⟩ := id hBO
  refine Zv.aload_n hC d_L_law_312 rfl ?_
  refine Zv.aloadX hC d_L_law_313 rfl ?_
  refine Zv.iload_n hC d_L_law_314 rfl ?_
  refine Zv.iconst hC d_L_law_315 ic_1 ?_
  refine Zv.iaddN hC d_L_law_316 ?_
  refine Zv.sld hC hX (by omega) d_L_law_317 rfl (by omega) ?_
  refine Zv.callL1 hC d_L_law_318 ml_L_56 mk_D_count rfl (Nat.le_of_ble_eq_true rfl) rfl (by decide) ⟨by decide, by decide⟩ ?_
  refine sp_count hXR hR hS.2.1 hS.2.2.1 (fun r1 hr1 => ?_)
  refine Zv.aload_n hC d_L_law_321 rfl ?_
  refine Zv.aloadX hC d_L_law_322 rfl ?_
  refine Zv.iload_n hC d_L_law_323 rfl ?_
  refine Zv.iconst hC d_L_law_324 ic_1 ?_
  refine Zv.iaddN hC d_L_law_325 ?_
  refine Zv.sld hC hX (by omega) d_L_law_326 rfl (by omega) ?_
  refine Zv.callL1 hC d_L_law_327 ml_L_59 mk_M_count rfl (Nat.le_of_ble_eq_true rfl) rfl (by decide) ⟨by decide, by decide⟩ ?_
  refine sm_count hXR.1 hM (by omega) hS.2.1 hS.2.2.1 (fun r2 hr2 => ?_)
  refine Zv.icmp_eq (tgt := 335) hC d_L_law_330 (by decide) (fun _ => ?_) (fun z => absurd (A_ix_fun hr1 hr2 (fun _ _ => rfl)) z)
  refine Zv.iinc hC d_L_law_335 rfl (Nat.lt_succ_self 3) (q_inc3 _) rfl ?_
  refine Zv.goto (tgt := 18) hC d_L_law_338 (by decide) ?_
  exact ih (i + 3) σ rx B I P (by omega) (by omega) (by omega) hBO
set_option maxRecDepth 100000 in
set_option maxHeartbeats 4000000 in
theorem lw_loop {G : Fx} {Q : State → Prop} {nm : String} {a L : Nat} {xs : Nat → Int32} (hC : Fc G (mL nm) 7 1000 10000) (hX : FX G a L xs) (hL : L ≤ 1536) (hend : ∀ (lv : Fl) (I : Fm) (P : Fr), Zv G Q 77 77 662 341 lv [] I P) : ∀ (f i : Nat) (σ : Sg) (rx : Rx) (B : Nat) (I : Fm) (P : Fr), L < i + 3 * f → i ≤ L → B ≤ 16 * i → BO σ rx B I P → Zv G Q 77 77 662 18 [(0, xf a), (1, rf 1), (2, rf 57), (3, .inr (nI i))] [] I P := by
  intro f
  induction f with
  | zero => intro i σ rx B I P h1 h2; omega
  | succ f ih =>
    intro i σ rx B I P hif hiL hB hBO
    refine Zv.iload_n hC d_L_law_18 rfl ?_
    refine Zv.aloadX hC d_L_law_19 rfl ?_
    refine Zv.slen hC hX d_L_law_20 ?_
    refine Zv.iconst hC d_L_law_21 ic_3 ?_
    refine Zv.isub hC d_L_law_22 ?_
    refine Zv.icmp_gt (tgt := 341) hC d_L_law_23 (by decide) (fun _ => hend _ I P) (fun h23 => ?_)
    have h23 : ¬ L < i + 3 := fun z => h23 ((q_sub3 (by omega) (by omega)).mpr z)
    refine Zv.aloadX hC d_L_law_26 rfl ?_
    refine Zv.iload_n hC d_L_law_27 rfl ?_
    refine Zv.sld hC hX (by omega) d_L_law_28 rfl (by omega) ?_
    refine Zv.bipush hC d_L_law_29 bp_15 ?_
    refine Zv.iand hC d_L_law_31 ?_
    obtain ⟨v, hv, ev⟩ := q_and15 (xs i)
    refine Zv.top ev ?_
    rcases (show v = 0 ∨ v = 1 ∨ v = 2 ∨ v = 3 ∨ v = 4 ∨ v = 5 ∨ v = 6 ∨ v = 7 ∨ v = 8 ∨ v = 9 ∨ v = 10 ∨ v = 11 ∨ v = 12 ∨ v = 13 ∨ v = 14 ∨ v = 15 by omega) with rfl | rfl | rfl | rfl | rfl | rfl | rfl | rfl | rfl | rfl | rfl | rfl | rfl | rfl | rfl | rfl
    · refine Zv.tabIn (tgt := 92) hC d_L_law_32 (by decide) (by decide) rfl (by decide) ?_
      exact lw_c0 hC hX hL ih i σ rx B I P hif (by omega) hB hBO
    · refine Zv.tabIn (tgt := 115) hC d_L_law_32 (by decide) (by decide) rfl (by decide) ?_
      exact lw_c1 hC hX hL ih i σ rx B I P hif (by omega) hB hBO
    · refine Zv.tabIn (tgt := 128) hC d_L_law_32 (by decide) (by decide) rfl (by decide) ?_
      exact lw_c2 hC hX hL ih i σ rx B I P hif (by omega) hB hBO
    · refine Zv.tabIn (tgt := 151) hC d_L_law_32 (by decide) (by decide) rfl (by decide) ?_
      exact lw_c3 hC hX hL ih i σ rx B I P hif (by omega) hB hBO
    · refine Zv.tabIn (tgt := 164) hC d_L_law_32 (by decide) (by decide) rfl (by decide) ?_
      exact lw_c4 hC hX hL ih i σ rx B I P hif (by omega) hB hBO
    · refine Zv.tabIn (tgt := 187) hC d_L_law_32 (by decide) (by decide) rfl (by decide) ?_
      exact lw_c5 hC hX hL ih i σ rx B I P hif (by omega) hB hBO
    · refine Zv.tabIn (tgt := 220) hC d_L_law_32 (by decide) (by decide) rfl (by decide) ?_
      exact lw_c6 hC hX hL ih i σ rx B I P hif (by omega) hB hBO
    · refine Zv.tabIn (tgt := 243) hC d_L_law_32 (by decide) (by decide) rfl (by decide) ?_
      exact lw_c7 hC hX hL ih i σ rx B I P hif (by omega) hB hBO
    · refine Zv.tabIn (tgt := 266) hC d_L_law_32 (by decide) (by decide) rfl (by decide) ?_
      exact lw_c8 hC hX hL ih i σ rx B I P hif (by omega) hB hBO
    · refine Zv.tabIn (tgt := 289) hC d_L_law_32 (by decide) (by decide) rfl (by decide) ?_
      exact lw_c9 hC hX hL ih i σ rx B I P hif (by omega) hB hBO
    · refine Zv.tabIn (tgt := 312) hC d_L_law_32 (by decide) (by decide) rfl (by decide) ?_
      exact lw_c10 hC hX hL ih i σ rx B I P hif (by omega) hB hBO
    · refine Zv.tabOut (tgt := 335) hC d_L_law_32 (by decide) (by decide) ?_
      refine Zv.iinc hC d_L_law_335 rfl (Nat.lt_succ_self 3) (q_inc3 _) rfl ?_
      refine Zv.goto (tgt := 18) hC d_L_law_338 (by decide) ?_
      exact ih (i + 3) σ rx B I P (by omega) (by omega) (by omega) hBO
    · refine Zv.tabOut (tgt := 335) hC d_L_law_32 (by decide) (by decide) ?_
      refine Zv.iinc hC d_L_law_335 rfl (Nat.lt_succ_self 3) (q_inc3 _) rfl ?_
      refine Zv.goto (tgt := 18) hC d_L_law_338 (by decide) ?_
      exact ih (i + 3) σ rx B I P (by omega) (by omega) (by omega) hBO
    · refine Zv.tabOut (tgt := 335) hC d_L_law_32 (by decide) (by decide) ?_
      refine Zv.iinc hC d_L_law_335 rfl (Nat.lt_succ_self 3) (q_inc3 _) rfl ?_
      refine Zv.goto (tgt := 18) hC d_L_law_338 (by decide) ?_
      exact ih (i + 3) σ rx B I P (by omega) (by omega) (by omega) hBO
    · refine Zv.tabOut (tgt := 335) hC d_L_law_32 (by decide) (by decide) ?_
      refine Zv.iinc hC d_L_law_335 rfl (Nat.lt_succ_self 3) (q_inc3 _) rfl ?_
      refine Zv.goto (tgt := 18) hC d_L_law_338 (by decide) ?_
      exact ih (i + 3) σ rx B I P (by omega) (by omega) (by omega) hBO
    · refine Zv.tabOut (tgt := 335) hC d_L_law_32 (by decide) (by decide) ?_
      refine Zv.iinc hC d_L_law_335 rfl (Nat.lt_succ_self 3) (q_inc3 _) rfl ?_
      refine Zv.goto (tgt := 18) hC d_L_law_338 (by decide) ?_
      exact ih (i + 3) σ rx B I P (by omega) (by omega) (by omega) hBO
