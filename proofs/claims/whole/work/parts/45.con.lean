theorem Zv.nx {G : Fx} {Q : State → Prop} {n n' cells cells' slots slots' pc : Nat} {lv : Fl} {st : List Fs} {I : Fm} {P : Fr} (h : n = n') (h2 : cells = cells') (h3 : slots = slots') (k : Zv G Q n' cells' slots' pc lv st I P) : Zv G Q n cells slots pc lv st I P := by subst h h2 h3; exact k
theorem nd_0 : ∀ j, j < 2 → defaultValue (tyX0 j) = if f_fk 0 j = true then .null else .int 0 := by
  intro j hj
  match j, hj with
  | 0, _ => rfl
  | 1, _ => rfl
  | j + 2, h => exact absurd h (by omega)
theorem nd_1 : ∀ j, j < 2 → defaultValue (tyX1 j) = if f_fk 1 j = true then .null else .int 0 := by
  intro j hj
  match j, hj with
  | 0, _ => rfl
  | 1, _ => rfl
  | j + 2, h => exact absurd h (by omega)
theorem nd_2 : ∀ j, j < 5 → defaultValue (tyX2 j) = if f_fk 2 j = true then .null else .int 0 := by
  intro j hj
  match j, hj with
  | 0, _ => rfl
  | 1, _ => rfl
  | 2, _ => rfl
  | 3, _ => rfl
  | 4, _ => rfl
  | j + 5, h => exact absurd h (by omega)
theorem nd_3 : ∀ j, j < 8 → defaultValue (tyX3 j) = if f_fk 3 j = true then .null else .int 0 := by
  intro j hj
  match j, hj with
  | 0, _ => rfl
  | 1, _ => rfl
  | 2, _ => rfl
  | 3, _ => rfl
  | 4, _ => rfl
  | 5, _ => rfl
  | 6, _ => rfl
  | 7, _ => rfl
  | j + 8, h => exact absurd h (by omega)
theorem nd_4 : ∀ j, j < 7 → defaultValue (tyX4 j) = if f_fk 4 j = true then .null else .int 0 := by
  intro j hj
  match j, hj with
  | 0, _ => rfl
  | 1, _ => rfl
  | 2, _ => rfl
  | 3, _ => rfl
  | 4, _ => rfl
  | 5, _ => rfl
  | 6, _ => rfl
  | j + 7, h => exact absurd h (by omega)
theorem nd_5 : ∀ j, j < 7 → defaultValue (tyX5 j) = if f_fk 5 j = true then .null else .int 0 := by
  intro j hj
  match j, hj with
  | 0, _ => rfl
  | 1, _ => rfl
  | 2, _ => rfl
  | 3, _ => rfl
  | 4, _ => rfl
  | 5, _ => rfl
  | 6, _ => rfl
  | j + 7, h => exact absurd h (by omega)
theorem nd_6 : ∀ j, j < 11 → defaultValue (tyX6 j) = if f_fk 6 j = true then .null else .int 0 := by
  intro j hj
  match j, hj with
  | 0, _ => rfl
  | 1, _ => rfl
  | 2, _ => rfl
  | 3, _ => rfl
  | 4, _ => rfl
  | 5, _ => rfl
  | 6, _ => rfl
  | 7, _ => rfl
  | 8, _ => rfl
  | 9, _ => rfl
  | 10, _ => rfl
  | j + 11, h => exact absurd h (by omega)
theorem nd_7 : ∀ j, j < 32 → defaultValue (tyX7 j) = if f_fk 7 j = true then .null else .int 0 := by
  intro j hj
  match j, hj with
  | 0, _ => rfl
  | 1, _ => rfl
  | 2, _ => rfl
  | 3, _ => rfl
  | 4, _ => rfl
  | 5, _ => rfl
  | 6, _ => rfl
  | 7, _ => rfl
  | 8, _ => rfl
  | 9, _ => rfl
  | 10, _ => rfl
  | 11, _ => rfl
  | 12, _ => rfl
  | 13, _ => rfl
  | 14, _ => rfl
  | 15, _ => rfl
  | 16, _ => rfl
  | 17, _ => rfl
  | 18, _ => rfl
  | 19, _ => rfl
  | 20, _ => rfl
  | 21, _ => rfl
  | 22, _ => rfl
  | 23, _ => rfl
  | 24, _ => rfl
  | 25, _ => rfl
  | 26, _ => rfl
  | 27, _ => rfl
  | 28, _ => rfl
  | 29, _ => rfl
  | 30, _ => rfl
  | 31, _ => rfl
  | j + 32, h => exact absurd h (by omega)
set_option maxRecDepth 100000 in
set_option maxHeartbeats 4000000 in
theorem sc_Cm {d k n : Nat} {I : Fm} {P : Fr} {K : Option Fs → Fm → Fr → Prop} (hk : f_shp k = .inr 0) (hkn : k < n) (hn : f_shp n = .inl (0, 11)) (hI : ∀ j, I n j = 0) (hK : K none I (f_u P k 0 (n + 1))) : Fk (d + 1) m_Cm_init n (n + 1) 1 11 [rf (k + 1)] I P K := by
  refine Fk.intro (by decide +kernel) (Nat.le_of_ble_eq_true rfl) (fun G hC => ?_)
  refine Zv.aload_n hC d_Cm_init_0 rfl ?_
  refine Zv.oinit hC d_Cm_init_1 oi_Cm_1 oi_a oi_b (Nat.le_of_ble_eq_true rfl) ?_
  refine Zv.aload_n hC d_Cm_init_4 rfl ?_
  refine Zv.bipush hC d_Cm_init_5 bp_11 ?_
  refine Zv.newarr (N := 11) hC d_Cm_init_7 ac_0 (fun _ => rfl) (fun s cA h => h) rfl (by decide) hn rfl (by decide) (by decide) hI (by decide) (by decide) ?_
  refine Zv.putF hC d_Cm_init_9 fl_Cm_9 rfl ck_0 rfl rfl rfl (fun _ => rfl) (fun _ => rfl) hk (by omega) ?_
  refine Zv.vret hC rfl d_Cm_init_12 (by decide) (by decide) ?_
  exact hK
set_option maxRecDepth 100000 in
set_option maxHeartbeats 4000000 in
theorem sc_Hl {d k n : Nat} {I : Fm} {P : Fr} {K : Option Fs → Fm → Fr → Prop} (hK : K none I P) : Fk (d + 1) m_Hl_init n n 0 0 [rf (k + 1)] I P K := by
  refine Fk.intro (by decide +kernel) (Nat.le_of_ble_eq_true rfl) (fun G hC => ?_)
  refine Zv.aload_n hC d_Hl_init_0 rfl ?_
  refine Zv.oinit hC d_Hl_init_1 oi_Hl_1 oi_a oi_b (Nat.le_of_ble_eq_true rfl) ?_
  refine Zv.vret hC rfl d_Hl_init_4 (by decide) (by decide) ?_
  exact hK
set_option maxRecDepth 100000 in
set_option maxHeartbeats 4000000 in
theorem sc_Wa {d k n : Nat} {I : Fm} {P : Fr} {K : Option Fs → Fm → Fr → Prop} (hK : K none I P) : Fk (d + 1) m_Wa_init n n 0 0 [rf (k + 1)] I P K := by
  refine Fk.intro (by decide +kernel) (Nat.le_of_ble_eq_true rfl) (fun G hC => ?_)
  refine Zv.aload_n hC d_Wa_init_0 rfl ?_
  refine Zv.oinit hC d_Wa_init_1 oi_Wa_1 oi_a oi_b (Nat.le_of_ble_eq_true rfl) ?_
  refine Zv.vret hC rfl d_Wa_init_4 (by decide) (by decide) ?_
  exact hK
def PRc (P : Fr) : Fr := (f_u P 1 0 3)
def IRc (I : Fm) : Fm := (f_u I 1 1 (nI 0))
set_option maxRecDepth 100000 in
set_option maxHeartbeats 4000000 in
theorem sc_Rc {d : Nat} {I : Fm} {P : Fr} {K : Option Fs → Fm → Fr → Prop} (hzI : ∀ a, 2 ≤ a → ∀ j, I a j = 0) (hzP : ∀ a, 2 ≤ a → ∀ j, P a j = 0) (hK : K none (IRc I) (PRc P)) : Fk (d + 1) m_Rc_init 2 3 1 12 [rf 2] I P K := by
  refine Fk.intro (by decide +kernel) (Nat.le_of_ble_eq_true rfl) (fun G hC => ?_)
  refine Zv.aload_n hC d_Rc_init_0 rfl ?_
  refine Zv.oinit hC d_Rc_init_1 oi_Rc_3 oi_a oi_b (Nat.le_of_ble_eq_true rfl) ?_
  refine Zv.aload_n hC d_Rc_init_4 rfl ?_
  refine Zv.bipush hC d_Rc_init_5 bp_12 ?_
  refine Zv.newarr (N := 12) hC d_Rc_init_7 ac_0 (fun _ => rfl) (fun s cA h => h) rfl (by decide) rfl rfl (by decide) (by decide) (fun j => hzI _ (by decide) j) (by decide) (by decide) ?_
  refine Zv.nx (n' := 3) (cells' := 1) (slots' := 12) rfl rfl rfl ?_
  refine Zv.putF hC d_Rc_init_9 fl_Rc_11 rfl ck_3 rfl rfl rfl (fun _ => rfl) (fun _ => rfl) rfl (by decide) ?_
  refine Zv.aload_n hC d_Rc_init_12 rfl ?_
  refine Zv.iconst hC d_Rc_init_13 ic_0 ?_
  refine Zv.puti hC d_Rc_init_14 fl_Rc_15 rfl ck_3 rfl rfl rfl rfl (by decide) ?_
  refine Zv.vret hC rfl d_Rc_init_17 (by decide) (by decide) ?_
  exact hK
def PPl (P : Fr) : Fr := (f_u (f_u (f_u (f_u (f_u (f_u (f_u (f_u (f_u (f_u (f_u (f_u (f_u (f_u (f_u (f_u (f_u (f_u (f_u (f_u (f_u (f_u (f_u (f_u (f_u (f_u (f_u P 5 0 7) 5 1 8) 5 2 9) 9 0 11) 7 0 10) 11 0 13) 8 0 12) 13 0 15) 7 1 14) 15 0 17) 8 1 16) 17 0 19) 7 2 18) 19 0 21) 8 2 20) 21 0 23) 7 3 22) 23 0 25) 8 3 24) 25 0 27) 7 4 26) 27 0 29) 8 4 28) 29 0 31) 7 5 30) 31 0 33) 8 5 32)
def IPl (I : Fm) : Fm := (f_u I 5 4 (nI 1))
set_option maxRecDepth 100000 in
set_option maxHeartbeats 4000000 in
theorem sc_Pl {d : Nat} {I : Fm} {P : Fr} {K : Option Fs → Fm → Fr → Prop} (hzI : ∀ a, 6 ≤ a → ∀ j, I a j = 0) (hzP : ∀ a, 6 ≤ a → ∀ j, P a j = 0) (hK : K none (IPl I) (PPl P)) : Fk (d + 2) m_Pl_init 6 33 27 174 [rf 6] I P K := by
  refine Fk.intro (by decide +kernel) (Nat.le_of_ble_eq_true rfl) (fun G hC => ?_)
  refine Zv.aload_n hC d_Pl_init_0 rfl ?_
  refine Zv.oinit hC d_Pl_init_1 oi_Pl_3 oi_a oi_b (Nat.le_of_ble_eq_true rfl) ?_
  refine Zv.aload_n hC d_Pl_init_4 rfl ?_
  refine Zv.bipush hC d_Pl_init_5 bp_6 ?_
  refine Zv.newarr (N := 6) hC d_Pl_init_7 ac_0 (fun _ => rfl) (fun s cA h => h) rfl (by decide) rfl rfl (by decide) (by decide) (fun j => hzI _ (by decide) j) (by decide) (by decide) ?_
  refine Zv.nx (n' := 7) (cells' := 1) (slots' := 6) rfl rfl rfl ?_
  refine Zv.putF hC d_Pl_init_9 fl_Pl_11 rfl ck_2 rfl rfl rfl (fun _ => rfl) (fun _ => rfl) rfl (by decide) ?_
  refine Zv.aload_n hC d_Pl_init_12 rfl ?_
  refine Zv.bipush hC d_Pl_init_13 bp_6 ?_
  refine Zv.anewarr (N := 6) (C := "FlightDesk$Command") hC d_Pl_init_15 cl_Pl_15 (by decide) (fun _ => rfl) (by decide) rfl rfl (by decide) (fun j => hzP _ (by decide) j) (by decide) (by decide) ?_
  refine Zv.nx (n' := 8) (cells' := 2) (slots' := 12) rfl rfl rfl ?_
  refine Zv.putF hC d_Pl_init_18 fl_Pl_17 rfl ck_2 rfl rfl rfl (fun _ => rfl) (fun _ => rfl) rfl (by decide) ?_
  refine Zv.aload_n hC d_Pl_init_21 rfl ?_
  refine Zv.bipush hC d_Pl_init_22 bp_6 ?_
  refine Zv.anewarr (N := 6) (C := "FlightDesk$Command") hC d_Pl_init_24 cl_Pl_15 (by decide) (fun _ => rfl) (by decide) rfl rfl (by decide) (fun j => hzP _ (by decide) j) (by decide) (by decide) ?_
  refine Zv.nx (n' := 9) (cells' := 3) (slots' := 18) rfl rfl rfl ?_
  refine Zv.putF hC d_Pl_init_27 fl_Pl_21 rfl ck_2 rfl rfl rfl (fun _ => rfl) (fun _ => rfl) rfl (by decide) ?_
  refine Zv.aload_n hC d_Pl_init_30 rfl ?_
  refine Zv.iconst hC d_Pl_init_31 ic_1 ?_
  refine Zv.puti hC d_Pl_init_32 fl_Pl_24 rfl ck_2 rfl rfl rfl rfl (by decide) ?_
  refine Zv.iconst hC d_Pl_init_35 ic_0 ?_
  refine Zv.istore_n hC d_Pl_init_36 (by decide) rfl ?_
  refine Zv.iload_n hC d_Pl_init_37 rfl ?_
  refine Zv.bipush hC d_Pl_init_38 bp_6 ?_
  refine Zv.icmp_ge (tgt := 75) hC d_Pl_init_40 (by decide) (fun h => absurd h (show ¬ nI 6 ≤ nI 0 by decide)) (fun _ => ?_)
  refine Zv.aload_n hC d_Pl_init_43 rfl ?_
  refine Zv.getr (q := 8) hC d_Pl_init_44 fl_Pl_17 rfl rfl (by decide) rfl ?_
  refine Zv.iload_n hC d_Pl_init_47 rfl ?_
  refine Zv.new hC d_Pl_init_48 ck_0 cl_Pl_15 in_0 ii_0 rfl nd_0 (fun j => hzI _ (by decide) j) (fun j => hzP _ (by decide) j) (by decide) (by decide) ?_
  refine Zv.nx (n' := 10) (cells' := 4) (slots' := 20) rfl rfl rfl ?_
  refine Zv.dup hC d_Pl_init_51 ?_
  refine Zv.callI (as := []) (n' := 11) (mc' := 1) (ms' := 11) hC d_Pl_init_52 ml_Pl_28 mk_Cm_init (Nat.le_of_ble_eq_true rfl) rfl (by decide) ⟨by decide, by decide⟩ ?_
  refine sc_Cm rfl (by decide) rfl (fun j => hzI _ (by decide) j) ?_
  refine Zv.nx (n' := 11) (cells' := 5) (slots' := 31) rfl rfl rfl ?_
  refine Zv.aast hC d_Pl_init_55 rfl (fun _ => rfl) (by decide) (by decide) rfl (by decide) (by decide) rfl (by decide) rfl ?_
  refine Zv.aload_n hC d_Pl_init_56 rfl ?_
  refine Zv.getr (q := 9) hC d_Pl_init_57 fl_Pl_21 rfl rfl (by decide) rfl ?_
  refine Zv.iload_n hC d_Pl_init_60 rfl ?_
  refine Zv.new hC d_Pl_init_61 ck_0 cl_Pl_15 in_0 ii_0 rfl nd_0 (fun j => hzI _ (by decide) j) (fun j => hzP _ (by decide) j) (by decide) (by decide) ?_
  refine Zv.nx (n' := 12) (cells' := 6) (slots' := 33) rfl rfl rfl ?_
  refine Zv.dup hC d_Pl_init_64 ?_
  refine Zv.callI (as := []) (n' := 13) (mc' := 1) (ms' := 11) hC d_Pl_init_65 ml_Pl_28 mk_Cm_init (Nat.le_of_ble_eq_true rfl) rfl (by decide) ⟨by decide, by decide⟩ ?_
  refine sc_Cm rfl (by decide) rfl (fun j => hzI _ (by decide) j) ?_
  refine Zv.nx (n' := 13) (cells' := 7) (slots' := 44) rfl rfl rfl ?_
  refine Zv.aast hC d_Pl_init_68 rfl (fun _ => rfl) (by decide) (by decide) rfl (by decide) (by decide) rfl (by decide) rfl ?_
  refine Zv.iinc hC d_Pl_init_69 rfl (by decide) (q_inc _) rfl ?_
  refine Zv.goto (tgt := 37) hC d_Pl_init_72 (by decide) ?_
  refine Zv.iload_n hC d_Pl_init_37 rfl ?_
  refine Zv.bipush hC d_Pl_init_38 bp_6 ?_
  refine Zv.icmp_ge (tgt := 75) hC d_Pl_init_40 (by decide) (fun h => absurd h (show ¬ nI 6 ≤ nI 1 by decide)) (fun _ => ?_)
  refine Zv.aload_n hC d_Pl_init_43 rfl ?_
  refine Zv.getr (q := 8) hC d_Pl_init_44 fl_Pl_17 rfl rfl (by decide) rfl ?_
  refine Zv.iload_n hC d_Pl_init_47 rfl ?_
  refine Zv.new hC d_Pl_init_48 ck_0 cl_Pl_15 in_0 ii_0 rfl nd_0 (fun j => hzI _ (by decide) j) (fun j => hzP _ (by decide) j) (by decide) (by decide) ?_
  refine Zv.nx (n' := 14) (cells' := 8) (slots' := 46) rfl rfl rfl ?_
  refine Zv.dup hC d_Pl_init_51 ?_
  refine Zv.callI (as := []) (n' := 15) (mc' := 1) (ms' := 11) hC d_Pl_init_52 ml_Pl_28 mk_Cm_init (Nat.le_of_ble_eq_true rfl) rfl (by decide) ⟨by decide, by decide⟩ ?_
  refine sc_Cm rfl (by decide) rfl (fun j => hzI _ (by decide) j) ?_
  refine Zv.nx (n' := 15) (cells' := 9) (slots' := 57) rfl rfl rfl ?_
  refine Zv.aast hC d_Pl_init_55 rfl (fun _ => rfl) (by decide) (by decide) rfl (by decide) (by decide) rfl (by decide) rfl ?_
  refine Zv.aload_n hC d_Pl_init_56 rfl ?_
  refine Zv.getr (q := 9) hC d_Pl_init_57 fl_Pl_21 rfl rfl (by decide) rfl ?_
  refine Zv.iload_n hC d_Pl_init_60 rfl ?_
  refine Zv.new hC d_Pl_init_61 ck_0 cl_Pl_15 in_0 ii_0 rfl nd_0 (fun j => hzI _ (by decide) j) (fun j => hzP _ (by decide) j) (by decide) (by decide) ?_
  refine Zv.nx (n' := 16) (cells' := 10) (slots' := 59) rfl rfl rfl ?_
  refine Zv.dup hC d_Pl_init_64 ?_
  refine Zv.callI (as := []) (n' := 17) (mc' := 1) (ms' := 11) hC d_Pl_init_65 ml_Pl_28 mk_Cm_init (Nat.le_of_ble_eq_true rfl) rfl (by decide) ⟨by decide, by decide⟩ ?_
  refine sc_Cm rfl (by decide) rfl (fun j => hzI _ (by decide) j) ?_
  refine Zv.nx (n' := 17) (cells' := 11) (slots' := 70) rfl rfl rfl ?_
  refine Zv.aast hC d_Pl_init_68 rfl (fun _ => rfl) (by decide) (by decide) rfl (by decide) (by decide) rfl (by decide) rfl ?_
  refine Zv.iinc hC d_Pl_init_69 rfl (by decide) (q_inc _) rfl ?_
  refine Zv.goto (tgt := 37) hC d_Pl_init_72 (by decide) ?_
  refine Zv.iload_n hC d_Pl_init_37 rfl ?_
  refine Zv.bipush hC d_Pl_init_38 bp_6 ?_
  refine Zv.icmp_ge (tgt := 75) hC d_Pl_init_40 (by decide) (fun h => absurd h (show ¬ nI 6 ≤ nI 2 by decide)) (fun _ => ?_)
  refine Zv.aload_n hC d_Pl_init_43 rfl ?_
  refine Zv.getr (q := 8) hC d_Pl_init_44 fl_Pl_17 rfl rfl (by decide) rfl ?_
  refine Zv.iload_n hC d_Pl_init_47 rfl ?_
  refine Zv.new hC d_Pl_init_48 ck_0 cl_Pl_15 in_0 ii_0 rfl nd_0 (fun j => hzI _ (by decide) j) (fun j => hzP _ (by decide) j) (by decide) (by decide) ?_
  refine Zv.nx (n' := 18) (cells' := 12) (slots' := 72) rfl rfl rfl ?_
  refine Zv.dup hC d_Pl_init_51 ?_
  refine Zv.callI (as := []) (n' := 19) (mc' := 1) (ms' := 11) hC d_Pl_init_52 ml_Pl_28 mk_Cm_init (Nat.le_of_ble_eq_true rfl) rfl (by decide) ⟨by decide, by decide⟩ ?_
  refine sc_Cm rfl (by decide) rfl (fun j => hzI _ (by decide) j) ?_
  refine Zv.nx (n' := 19) (cells' := 13) (slots' := 83) rfl rfl rfl ?_
  refine Zv.aast hC d_Pl_init_55 rfl (fun _ => rfl) (by decide) (by decide) rfl (by decide) (by decide) rfl (by decide) rfl ?_
  refine Zv.aload_n hC d_Pl_init_56 rfl ?_
  refine Zv.getr (q := 9) hC d_Pl_init_57 fl_Pl_21 rfl rfl (by decide) rfl ?_
  refine Zv.iload_n hC d_Pl_init_60 rfl ?_
  refine Zv.new hC d_Pl_init_61 ck_0 cl_Pl_15 in_0 ii_0 rfl nd_0 (fun j => hzI _ (by decide) j) (fun j => hzP _ (by decide) j) (by decide) (by decide) ?_
  refine Zv.nx (n' := 20) (cells' := 14) (slots' := 85) rfl rfl rfl ?_
  refine Zv.dup hC d_Pl_init_64 ?_
  refine Zv.callI (as := []) (n' := 21) (mc' := 1) (ms' := 11) hC d_Pl_init_65 ml_Pl_28 mk_Cm_init (Nat.le_of_ble_eq_true rfl) rfl (by decide) ⟨by decide, by decide⟩ ?_
  refine sc_Cm rfl (by decide) rfl (fun j => hzI _ (by decide) j) ?_
  refine Zv.nx (n' := 21) (cells' := 15) (slots' := 96) rfl rfl rfl ?_
  refine Zv.aast hC d_Pl_init_68 rfl (fun _ => rfl) (by decide) (by decide) rfl (by decide) (by decide) rfl (by decide) rfl ?_
  refine Zv.iinc hC d_Pl_init_69 rfl (by decide) (q_inc _) rfl ?_
  refine Zv.goto (tgt := 37) hC d_Pl_init_72 (by decide) ?_
  refine Zv.iload_n hC d_Pl_init_37 rfl ?_
  refine Zv.bipush hC d_Pl_init_38 bp_6 ?_
  refine Zv.icmp_ge (tgt := 75) hC d_Pl_init_40 (by decide) (fun h => absurd h (show ¬ nI 6 ≤ nI 3 by decide)) (fun _ => ?_)
  refine Zv.aload_n hC d_Pl_init_43 rfl ?_
  refine Zv.getr (q := 8) hC d_Pl_init_44 fl_Pl_17 rfl rfl (by decide) rfl ?_
  refine Zv.iload_n hC d_Pl_init_47 rfl ?_
  refine Zv.new hC d_Pl_init_48 ck_0 cl_Pl_15 in_0 ii_0 rfl nd_0 (fun j => hzI _ (by decide) j) (fun j => hzP _ (by decide) j) (by decide) (by decide) ?_
  refine Zv.nx (n' := 22) (cells' := 16) (slots' := 98) rfl rfl rfl ?_
  refine Zv.dup hC d_Pl_init_51 ?_
  refine Zv.callI (as := []) (n' := 23) (mc' := 1) (ms' := 11) hC d_Pl_init_52 ml_Pl_28 mk_Cm_init (Nat.le_of_ble_eq_true rfl) rfl (by decide) ⟨by decide, by decide⟩ ?_
  refine sc_Cm rfl (by decide) rfl (fun j => hzI _ (by decide) j) ?_
  refine Zv.nx (n' := 23) (cells' := 17) (slots' := 109) rfl rfl rfl ?_
  refine Zv.aast hC d_Pl_init_55 rfl (fun _ => rfl) (by decide) (by decide) rfl (by decide) (by decide) rfl (by decide) rfl ?_
  refine Zv.aload_n hC d_Pl_init_56 rfl ?_
  refine Zv.getr (q := 9) hC d_Pl_init_57 fl_Pl_21 rfl rfl (by decide) rfl ?_
  refine Zv.iload_n hC d_Pl_init_60 rfl ?_
  refine Zv.new hC d_Pl_init_61 ck_0 cl_Pl_15 in_0 ii_0 rfl nd_0 (fun j => hzI _ (by decide) j) (fun j => hzP _ (by decide) j) (by decide) (by decide) ?_
  refine Zv.nx (n' := 24) (cells' := 18) (slots' := 111) rfl rfl rfl ?_
  refine Zv.dup hC d_Pl_init_64 ?_
  refine Zv.callI (as := []) (n' := 25) (mc' := 1) (ms' := 11) hC d_Pl_init_65 ml_Pl_28 mk_Cm_init (Nat.le_of_ble_eq_true rfl) rfl (by decide) ⟨by decide, by decide⟩ ?_
  refine sc_Cm rfl (by decide) rfl (fun j => hzI _ (by decide) j) ?_
  refine Zv.nx (n' := 25) (cells' := 19) (slots' := 122) rfl rfl rfl ?_
  refine Zv.aast hC d_Pl_init_68 rfl (fun _ => rfl) (by decide) (by decide) rfl (by decide) (by decide) rfl (by decide) rfl ?_
  refine Zv.iinc hC d_Pl_init_69 rfl (by decide) (q_inc _) rfl ?_
  refine Zv.goto (tgt := 37) hC d_Pl_init_72 (by decide) ?_
  refine Zv.iload_n hC d_Pl_init_37 rfl ?_
  refine Zv.bipush hC d_Pl_init_38 bp_6 ?_
  refine Zv.icmp_ge (tgt := 75) hC d_Pl_init_40 (by decide) (fun h => absurd h (show ¬ nI 6 ≤ nI 4 by decide)) (fun _ => ?_)
  refine Zv.aload_n hC d_Pl_init_43 rfl ?_
  refine Zv.getr (q := 8) hC d_Pl_init_44 fl_Pl_17 rfl rfl (by decide) rfl ?_
  refine Zv.iload_n hC d_Pl_init_47 rfl ?_
  refine Zv.new hC d_Pl_init_48 ck_0 cl_Pl_15 in_0 ii_0 rfl nd_0 (fun j => hzI _ (by decide) j) (fun j => hzP _ (by decide) j) (by decide) (by decide) ?_
  refine Zv.nx (n' := 26) (cells' := 20) (slots' := 124) rfl rfl rfl ?_
  refine Zv.dup hC d_Pl_init_51 ?_
  refine Zv.callI (as := []) (n' := 27) (mc' := 1) (ms' := 11) hC d_Pl_init_52 ml_Pl_28 mk_Cm_init (Nat.le_of_ble_eq_true rfl) rfl (by decide) ⟨by decide, by decide⟩ ?_
  refine sc_Cm rfl (by decide) rfl (fun j => hzI _ (by decide) j) ?_
  refine Zv.nx (n' := 27) (cells' := 21) (slots' := 135) rfl rfl rfl ?_
  refine Zv.aast hC d_Pl_init_55 rfl (fun _ => rfl) (by decide) (by decide) rfl (by decide) (by decide) rfl (by decide) rfl ?_
  refine Zv.aload_n hC d_Pl_init_56 rfl ?_
  refine Zv.getr (q := 9) hC d_Pl_init_57 fl_Pl_21 rfl rfl (by decide) rfl ?_
  refine Zv.iload_n hC d_Pl_init_60 rfl ?_
  refine Zv.new hC d_Pl_init_61 ck_0 cl_Pl_15 in_0 ii_0 rfl nd_0 (fun j => hzI _ (by decide) j) (fun j => hzP _ (by decide) j) (by decide) (by decide) ?_
  refine Zv.nx (n' := 28) (cells' := 22) (slots' := 137) rfl rfl rfl ?_
  refine Zv.dup hC d_Pl_init_64 ?_
  refine Zv.callI (as := []) (n' := 29) (mc' := 1) (ms' := 11) hC d_Pl_init_65 ml_Pl_28 mk_Cm_init (Nat.le_of_ble_eq_true rfl) rfl (by decide) ⟨by decide, by decide⟩ ?_
  refine sc_Cm rfl (by decide) rfl (fun j => hzI _ (by decide) j) ?_
  refine Zv.nx (n' := 29) (cells' := 23) (slots' := 148) rfl rfl rfl ?_
  refine Zv.aast hC d_Pl_init_68 rfl (fun _ => rfl) (by decide) (by decide) rfl (by decide) (by decide) rfl (by decide) rfl ?_
  refine Zv.iinc hC d_Pl_init_69 rfl (by decide) (q_inc _) rfl ?_
  refine Zv.goto (tgt := 37) hC d_Pl_init_72 (by decide) ?_
  refine Zv.iload_n hC d_Pl_init_37 rfl ?_
  refine Zv.bipush hC d_Pl_init_38 bp_6 ?_
  refine Zv.icmp_ge (tgt := 75) hC d_Pl_init_40 (by decide) (fun h => absurd h (show ¬ nI 6 ≤ nI 5 by decide)) (fun _ => ?_)
  refine Zv.aload_n hC d_Pl_init_43 rfl ?_
  refine Zv.getr (q := 8) hC d_Pl_init_44 fl_Pl_17 rfl rfl (by decide) rfl ?_
  refine Zv.iload_n hC d_Pl_init_47 rfl ?_
  refine Zv.new hC d_Pl_init_48 ck_0 cl_Pl_15 in_0 ii_0 rfl nd_0 (fun j => hzI _ (by decide) j) (fun j => hzP _ (by decide) j) (by decide) (by decide) ?_
  refine Zv.nx (n' := 30) (cells' := 24) (slots' := 150) rfl rfl rfl ?_
  refine Zv.dup hC d_Pl_init_51 ?_
  refine Zv.callI (as := []) (n' := 31) (mc' := 1) (ms' := 11) hC d_Pl_init_52 ml_Pl_28 mk_Cm_init (Nat.le_of_ble_eq_true rfl) rfl (by decide) ⟨by decide, by decide⟩ ?_
  refine sc_Cm rfl (by decide) rfl (fun j => hzI _ (by decide) j) ?_
  refine Zv.nx (n' := 31) (cells' := 25) (slots' := 161) rfl rfl rfl ?_
  refine Zv.aast hC d_Pl_init_55 rfl (fun _ => rfl) (by decide) (by decide) rfl (by decide) (by decide) rfl (by decide) rfl ?_
  refine Zv.aload_n hC d_Pl_init_56 rfl ?_
  refine Zv.getr (q := 9) hC d_Pl_init_57 fl_Pl_21 rfl rfl (by decide) rfl ?_
  refine Zv.iload_n hC d_Pl_init_60 rfl ?_
  refine Zv.new hC d_Pl_init_61 ck_0 cl_Pl_15 in_0 ii_0 rfl nd_0 (fun j => hzI _ (by decide) j) (fun j => hzP _ (by decide) j) (by decide) (by decide) ?_
  refine Zv.nx (n' := 32) (cells' := 26) (slots' := 163) rfl rfl rfl ?_
  refine Zv.dup hC d_Pl_init_64 ?_
  refine Zv.callI (as := []) (n' := 33) (mc' := 1) (ms' := 11) hC d_Pl_init_65 ml_Pl_28 mk_Cm_init (Nat.le_of_ble_eq_true rfl) rfl (by decide) ⟨by decide, by decide⟩ ?_
  refine sc_Cm rfl (by decide) rfl (fun j => hzI _ (by decide) j) ?_
  refine Zv.nx (n' := 33) (cells' := 27) (slots' := 174) rfl rfl rfl ?_
  refine Zv.aast hC d_Pl_init_68 rfl (fun _ => rfl) (by decide) (by decide) rfl (by decide) (by decide) rfl (by decide) rfl ?_
  refine Zv.iinc hC d_Pl_init_69 rfl (by decide) (q_inc _) rfl ?_
  refine Zv.goto (tgt := 37) hC d_Pl_init_72 (by decide) ?_
  refine Zv.iload_n hC d_Pl_init_37 rfl ?_
  refine Zv.bipush hC d_Pl_init_38 bp_6 ?_
  refine Zv.icmp_ge (tgt := 75) hC d_Pl_init_40 (by decide) (fun _ => ?_) (fun h => absurd (show nI 6 ≤ nI 6 by decide) h)
  refine Zv.vret hC rfl d_Pl_init_75 (by decide) (by decide) ?_
  exact hK
def PSt (P : Fr) : Fr := (f_u (f_u (f_u (f_u P 33 0 35) 33 1 36) 33 2 37) 33 3 38)
def ISt (I : Fm) : Fm := I
set_option maxRecDepth 100000 in
set_option maxHeartbeats 4000000 in
theorem sc_St {d : Nat} {I : Fm} {P : Fr} {K : Option Fs → Fm → Fr → Prop} (hzI : ∀ a, 34 ≤ a → ∀ j, I a j = 0) (hzP : ∀ a, 34 ≤ a → ∀ j, P a j = 0) (hK : K none (ISt I) (PSt P)) : Fk (d + 1) m_St_init 34 38 4 40 [rf 34] I P K := by
  refine Fk.intro (by decide +kernel) (Nat.le_of_ble_eq_true rfl) (fun G hC => ?_)
  refine Zv.aload_n hC d_St_init_0 rfl ?_
  refine Zv.oinit hC d_St_init_1 oi_St_1 oi_a oi_b (Nat.le_of_ble_eq_true rfl) ?_
  refine Zv.aload_n hC d_St_init_4 rfl ?_
  refine Zv.bipush hC d_St_init_5 bp_10 ?_
  refine Zv.newarr (N := 10) hC d_St_init_7 ac_0 (fun _ => rfl) (fun s cA h => h) rfl (by decide) rfl rfl (by decide) (by decide) (fun j => hzI _ (by decide) j) (by decide) (by decide) ?_
  refine Zv.nx (n' := 35) (cells' := 1) (slots' := 10) rfl rfl rfl ?_
  refine Zv.putF hC d_St_init_9 fl_St_9 rfl ck_4 rfl rfl rfl (fun _ => rfl) (fun _ => rfl) rfl (by decide) ?_
  refine Zv.aload_n hC d_St_init_12 rfl ?_
  refine Zv.bipush hC d_St_init_13 bp_10 ?_
  refine Zv.newarr (N := 10) hC d_St_init_15 ac_0 (fun _ => rfl) (fun s cA h => h) rfl (by decide) rfl rfl (by decide) (by decide) (fun j => hzI _ (by decide) j) (by decide) (by decide) ?_
  refine Zv.nx (n' := 36) (cells' := 2) (slots' := 20) rfl rfl rfl ?_
  refine Zv.putF hC d_St_init_17 fl_St_13 rfl ck_4 rfl rfl rfl (fun _ => rfl) (fun _ => rfl) rfl (by decide) ?_
  refine Zv.aload_n hC d_St_init_20 rfl ?_
  refine Zv.bipush hC d_St_init_21 bp_10 ?_
  refine Zv.newarr (N := 10) hC d_St_init_23 ac_0 (fun _ => rfl) (fun s cA h => h) rfl (by decide) rfl rfl (by decide) (by decide) (fun j => hzI _ (by decide) j) (by decide) (by decide) ?_
  refine Zv.nx (n' := 37) (cells' := 3) (slots' := 30) rfl rfl rfl ?_
  refine Zv.putF hC d_St_init_25 fl_St_16 rfl ck_4 rfl rfl rfl (fun _ => rfl) (fun _ => rfl) rfl (by decide) ?_
  refine Zv.aload_n hC d_St_init_28 rfl ?_
  refine Zv.bipush hC d_St_init_29 bp_10 ?_
  refine Zv.newarr (N := 10) hC d_St_init_31 ac_0 (fun _ => rfl) (fun s cA h => h) rfl (by decide) rfl rfl (by decide) (by decide) (fun j => hzI _ (by decide) j) (by decide) (by decide) ?_
  refine Zv.nx (n' := 38) (cells' := 4) (slots' := 40) rfl rfl rfl ?_
  refine Zv.putF hC d_St_init_33 fl_St_19 rfl ck_4 rfl rfl rfl (fun _ => rfl) (fun _ => rfl) rfl (by decide) ?_
  refine Zv.vret hC rfl d_St_init_36 (by decide) (by decide) ?_
  exact hK
def PD (P : Fr) : Fr := (f_u (f_u (f_u (f_u (f_u (f_u (f_u (f_u (f_u (f_u (f_u (f_u (f_u (f_u (f_u (f_u (f_u (f_u (f_u (f_u (f_u (f_u (f_u (f_u (f_u (f_u (f_u (f_u (f_u (f_u (f_u (f_u (f_u (f_u (f_u (f_u (f_u (f_u (f_u (f_u (f_u (f_u (f_u (f_u (f_u (f_u (f_u (f_u (f_u (f_u (f_u (f_u (f_u (f_u (f_u P 1 0 3) 0 0 2) 3 0 5) 0 1 4) 5 0 7) 5 1 8) 5 2 9) 9 0 11) 7 0 10) 11 0 13) 8 0 12) 13 0 15) 7 1 14) 15 0 17) 8 1 16) 17 0 19) 7 2 18) 19 0 21) 8 2 20) 21 0 23) 7 3 22) 23 0 25) 8 3 24) 25 0 27) 7 4 26) 27 0 29) 8 4 28) 29 0 31) 7 5 30) 31 0 33) 8 5 32) 0 2 6) 33 0 35) 33 1 36) 33 2 37) 33 3 38) 0 3 34) 0 4 39) 0 5 40) 39 0 41) 39 1 42) 39 2 43) 39 3 44) 0 6 45) 45 0 47) 44 0 46) 47 0 49) 44 1 48) 49 0 51) 44 2 50) 51 0 53) 44 3 52) 0 7 54) 53 0 55) 53 1 56)
def ID (I : Fm) : Fm := (f_u (f_u I 1 1 (nI 0)) 5 4 (nI 1))
set_option maxRecDepth 100000 in
set_option maxHeartbeats 4000000 in
theorem sc_D {d : Nat} {I : Fm} {P : Fr} {K : Option Fs → Fm → Fr → Prop} (hzI : ∀ a, 1 ≤ a → ∀ j, I a j = 0) (hzP : ∀ a, 1 ≤ a → ∀ j, P a j = 0) (hK : K none (ID I) (PD P)) : Fk (d + 3) m_D_init 1 56 55 361 [rf 1] I P K := by
  refine Fk.intro (by decide +kernel) (Nat.le_of_ble_eq_true rfl) (fun G hC => ?_)
  refine Zv.aload_n hC d_D_init_0 rfl ?_
  refine Zv.oinit hC d_D_init_1 oi_D_1 oi_a oi_b (Nat.le_of_ble_eq_true rfl) ?_
  refine Zv.aload_n hC d_D_init_4 rfl ?_
  refine Zv.new hC d_D_init_5 ck_3 cl_D_7 in_3 ii_3 rfl nd_3 (fun j => hzI _ (by decide) j) (fun j => hzP _ (by decide) j) (by decide) (by decide) ?_
  refine Zv.nx (n' := 2) (cells' := 1) (slots' := 8) rfl rfl rfl ?_
  refine Zv.dup hC d_D_init_8 ?_
  refine Zv.callI (as := []) (n' := 3) (mc' := 1) (ms' := 12) hC d_D_init_9 ml_D_9 mk_Rc_init (Nat.le_of_ble_eq_true rfl) rfl (by decide) ⟨by decide, by decide⟩ ?_
  refine sc_Rc (fun a h j => hzI a (by omega) j) (fun a h j => hzP a (by omega) j) ?_
  refine Zv.nx (n' := 3) (cells' := 2) (slots' := 20) rfl rfl rfl ?_
  refine Zv.putF hC d_D_init_12 fl_D_10 rfl ck_6 rfl rfl rfl (fun _ => rfl) (fun _ => rfl) rfl (by decide) ?_
  refine Zv.aload_n hC d_D_init_15 rfl ?_
  refine Zv.new hC d_D_init_16 ck_0 cl_D_16 in_0 ii_0 rfl nd_0 (fun j => hzI _ (by decide) j) (fun j => hzP _ (by decide) j) (by decide) (by decide) ?_
  refine Zv.nx (n' := 4) (cells' := 3) (slots' := 22) rfl rfl rfl ?_
  refine Zv.dup hC d_D_init_19 ?_
  refine Zv.callI (as := []) (n' := 5) (mc' := 1) (ms' := 11) hC d_D_init_20 ml_D_18 mk_Cm_init (Nat.le_of_ble_eq_true rfl) rfl (by decide) ⟨by decide, by decide⟩ ?_
  refine sc_Cm rfl (by decide) rfl (fun j => hzI _ (by decide) j) ?_
  refine Zv.nx (n' := 5) (cells' := 4) (slots' := 33) rfl rfl rfl ?_
  refine Zv.putF hC d_D_init_23 fl_D_19 rfl ck_6 rfl rfl rfl (fun _ => rfl) (fun _ => rfl) rfl (by decide) ?_
  refine Zv.aload_n hC d_D_init_26 rfl ?_
  refine Zv.new hC d_D_init_27 ck_2 cl_D_23 in_2 ii_2 rfl nd_2 (fun j => hzI _ (by decide) j) (fun j => hzP _ (by decide) j) (by decide) (by decide) ?_
  refine Zv.nx (n' := 6) (cells' := 5) (slots' := 38) rfl rfl rfl ?_
  refine Zv.dup hC d_D_init_30 ?_
  refine Zv.callI (as := []) (n' := 33) (mc' := 27) (ms' := 174) hC d_D_init_31 ml_D_25 mk_Pl_init (Nat.le_of_ble_eq_true rfl) rfl (by decide) ⟨by decide, by decide⟩ ?_
  refine sc_Pl (fun a h j => f_ur (by omega) (hzI a (by omega) j)) (fun a h j => f_ur (by omega) (f_ur (by omega) (f_ur (by omega) (f_ur (by omega) (hzP a (by omega) j))))) ?_
  refine Zv.nx (n' := 33) (cells' := 32) (slots' := 212) rfl rfl rfl ?_
  refine Zv.putF hC d_D_init_34 fl_D_26 rfl ck_6 rfl rfl rfl (fun _ => rfl) (fun _ => rfl) rfl (by decide) ?_
  refine Zv.aload_n hC d_D_init_37 rfl ?_
  refine Zv.new hC d_D_init_38 ck_4 cl_D_30 in_4 ii_4 rfl nd_4 (fun j => hzI _ (by decide) j) (fun j => hzP _ (by decide) j) (by decide) (by decide) ?_
  refine Zv.nx (n' := 34) (cells' := 33) (slots' := 219) rfl rfl rfl ?_
  refine Zv.dup hC d_D_init_41 ?_
  refine Zv.callI (as := []) (n' := 38) (mc' := 4) (ms' := 40) hC d_D_init_42 ml_D_32 mk_St_init (Nat.le_of_ble_eq_true rfl) rfl (by decide) ⟨by decide, by decide⟩ ?_
  refine sc_St (fun a h j => f_ur (by omega) (f_ur (by omega) (hzI a (by omega) j))) (fun a h j => f_ur (by omega) (f_ur (by omega) (f_ur (by omega) (f_ur (by omega) (f_ur (by omega) (f_ur (by omega) (f_ur (by omega) (f_ur (by omega) (f_ur (by omega) (f_ur (by omega) (f_ur (by omega) (f_ur (by omega) (f_ur (by omega) (f_ur (by omega) (f_ur (by omega) (f_ur (by omega) (f_ur (by omega) (f_ur (by omega) (f_ur (by omega) (f_ur (by omega) (f_ur (by omega) (f_ur (by omega) (f_ur (by omega) (f_ur (by omega) (f_ur (by omega) (f_ur (by omega) (f_ur (by omega) (f_ur (by omega) (f_ur (by omega) (f_ur (by omega) (f_ur (by omega) (f_ur (by omega) (hzP a (by omega) j))))))))))))))))))))))))))))))))) ?_
  refine Zv.nx (n' := 38) (cells' := 37) (slots' := 259) rfl rfl rfl ?_
  refine Zv.putF hC d_D_init_45 fl_D_33 rfl ck_6 rfl rfl rfl (fun _ => rfl) (fun _ => rfl) rfl (by decide) ?_
  refine Zv.aload_n hC d_D_init_48 rfl ?_
  refine Zv.bipush hC d_D_init_49 bp_8 ?_
  refine Zv.newarr (N := 8) hC d_D_init_51 ac_0 (fun _ => rfl) (fun s cA h => h) rfl (by decide) rfl rfl (by decide) (by decide) (fun j => hzI _ (by decide) j) (by decide) (by decide) ?_
  refine Zv.nx (n' := 39) (cells' := 38) (slots' := 267) rfl rfl rfl ?_
  refine Zv.putF hC d_D_init_53 fl_D_37 rfl ck_6 rfl rfl rfl (fun _ => rfl) (fun _ => rfl) rfl (by decide) ?_
  refine Zv.aload_n hC d_D_init_56 rfl ?_
  refine Zv.iconst hC d_D_init_57 ic_4 ?_
  refine Zv.anewarr (N := 4) (C := "FlightDesk$Watch") hC d_D_init_58 cl_D_41 (by decide) (fun _ => rfl) (by decide) rfl rfl (by decide) (fun j => hzP _ (by decide) j) (by decide) (by decide) ?_
  refine Zv.nx (n' := 40) (cells' := 39) (slots' := 271) rfl rfl rfl ?_
  refine Zv.putF hC d_D_init_61 fl_D_43 rfl ck_6 rfl rfl rfl (fun _ => rfl) (fun _ => rfl) rfl (by decide) ?_
  refine Zv.iconst hC d_D_init_64 ic_0 ?_
  refine Zv.istore_n hC d_D_init_65 (by decide) rfl ?_
  refine Zv.iload_n hC d_D_init_66 rfl ?_
  refine Zv.iconst hC d_D_init_67 ic_4 ?_
  refine Zv.icmp_ge (tgt := 90) hC d_D_init_68 (by decide) (fun h => absurd h (show ¬ nI 4 ≤ nI 0 by decide)) (fun _ => ?_)
  refine Zv.aload_n hC d_D_init_71 rfl ?_
  refine Zv.getr (q := 40) hC d_D_init_72 fl_D_43 rfl rfl (by decide) rfl ?_
  refine Zv.iload_n hC d_D_init_75 rfl ?_
  refine Zv.new hC d_D_init_76 ck_5 cl_D_41 in_5 ii_5 rfl nd_5 (fun j => hzI _ (by decide) j) (fun j => hzP _ (by decide) j) (by decide) (by decide) ?_
  refine Zv.nx (n' := 41) (cells' := 40) (slots' := 278) rfl rfl rfl ?_
  refine Zv.dup hC d_D_init_79 ?_
  refine Zv.callI (as := []) (n' := 41) (mc' := 0) (ms' := 0) hC d_D_init_80 ml_D_47 mk_Wa_init (Nat.le_of_ble_eq_true rfl) rfl (by decide) ⟨by decide, by decide⟩ ?_
  refine sc_Wa ?_
  refine Zv.aast hC d_D_init_83 rfl (fun _ => rfl) (by decide) (by decide) rfl (by decide) (by decide) rfl (by decide) rfl ?_
  refine Zv.iinc hC d_D_init_84 rfl (by decide) (q_inc _) rfl ?_
  refine Zv.goto (tgt := 66) hC d_D_init_87 (by decide) ?_
  refine Zv.iload_n hC d_D_init_66 rfl ?_
  refine Zv.iconst hC d_D_init_67 ic_4 ?_
  refine Zv.icmp_ge (tgt := 90) hC d_D_init_68 (by decide) (fun h => absurd h (show ¬ nI 4 ≤ nI 1 by decide)) (fun _ => ?_)
  refine Zv.aload_n hC d_D_init_71 rfl ?_
  refine Zv.getr (q := 40) hC d_D_init_72 fl_D_43 rfl rfl (by decide) rfl ?_
  refine Zv.iload_n hC d_D_init_75 rfl ?_
  refine Zv.new hC d_D_init_76 ck_5 cl_D_41 in_5 ii_5 rfl nd_5 (fun j => hzI _ (by decide) j) (fun j => hzP _ (by decide) j) (by decide) (by decide) ?_
  refine Zv.nx (n' := 42) (cells' := 41) (slots' := 285) rfl rfl rfl ?_
  refine Zv.dup hC d_D_init_79 ?_
  refine Zv.callI (as := []) (n' := 42) (mc' := 0) (ms' := 0) hC d_D_init_80 ml_D_47 mk_Wa_init (Nat.le_of_ble_eq_true rfl) rfl (by decide) ⟨by decide, by decide⟩ ?_
  refine sc_Wa ?_
  refine Zv.aast hC d_D_init_83 rfl (fun _ => rfl) (by decide) (by decide) rfl (by decide) (by decide) rfl (by decide) rfl ?_
  refine Zv.iinc hC d_D_init_84 rfl (by decide) (q_inc _) rfl ?_
  refine Zv.goto (tgt := 66) hC d_D_init_87 (by decide) ?_
  refine Zv.iload_n hC d_D_init_66 rfl ?_
  refine Zv.iconst hC d_D_init_67 ic_4 ?_
  refine Zv.icmp_ge (tgt := 90) hC d_D_init_68 (by decide) (fun h => absurd h (show ¬ nI 4 ≤ nI 2 by decide)) (fun _ => ?_)
  refine Zv.aload_n hC d_D_init_71 rfl ?_
  refine Zv.getr (q := 40) hC d_D_init_72 fl_D_43 rfl rfl (by decide) rfl ?_
  refine Zv.iload_n hC d_D_init_75 rfl ?_
  refine Zv.new hC d_D_init_76 ck_5 cl_D_41 in_5 ii_5 rfl nd_5 (fun j => hzI _ (by decide) j) (fun j => hzP _ (by decide) j) (by decide) (by decide) ?_
  refine Zv.nx (n' := 43) (cells' := 42) (slots' := 292) rfl rfl rfl ?_
  refine Zv.dup hC d_D_init_79 ?_
  refine Zv.callI (as := []) (n' := 43) (mc' := 0) (ms' := 0) hC d_D_init_80 ml_D_47 mk_Wa_init (Nat.le_of_ble_eq_true rfl) rfl (by decide) ⟨by decide, by decide⟩ ?_
  refine sc_Wa ?_
  refine Zv.aast hC d_D_init_83 rfl (fun _ => rfl) (by decide) (by decide) rfl (by decide) (by decide) rfl (by decide) rfl ?_
  refine Zv.iinc hC d_D_init_84 rfl (by decide) (q_inc _) rfl ?_
  refine Zv.goto (tgt := 66) hC d_D_init_87 (by decide) ?_
  refine Zv.iload_n hC d_D_init_66 rfl ?_
  refine Zv.iconst hC d_D_init_67 ic_4 ?_
  refine Zv.icmp_ge (tgt := 90) hC d_D_init_68 (by decide) (fun h => absurd h (show ¬ nI 4 ≤ nI 3 by decide)) (fun _ => ?_)
  refine Zv.aload_n hC d_D_init_71 rfl ?_
  refine Zv.getr (q := 40) hC d_D_init_72 fl_D_43 rfl rfl (by decide) rfl ?_
  refine Zv.iload_n hC d_D_init_75 rfl ?_
  refine Zv.new hC d_D_init_76 ck_5 cl_D_41 in_5 ii_5 rfl nd_5 (fun j => hzI _ (by decide) j) (fun j => hzP _ (by decide) j) (by decide) (by decide) ?_
  refine Zv.nx (n' := 44) (cells' := 43) (slots' := 299) rfl rfl rfl ?_
  refine Zv.dup hC d_D_init_79 ?_
  refine Zv.callI (as := []) (n' := 44) (mc' := 0) (ms' := 0) hC d_D_init_80 ml_D_47 mk_Wa_init (Nat.le_of_ble_eq_true rfl) rfl (by decide) ⟨by decide, by decide⟩ ?_
  refine sc_Wa ?_
  refine Zv.aast hC d_D_init_83 rfl (fun _ => rfl) (by decide) (by decide) rfl (by decide) (by decide) rfl (by decide) rfl ?_
  refine Zv.iinc hC d_D_init_84 rfl (by decide) (q_inc _) rfl ?_
  refine Zv.goto (tgt := 66) hC d_D_init_87 (by decide) ?_
  refine Zv.iload_n hC d_D_init_66 rfl ?_
  refine Zv.iconst hC d_D_init_67 ic_4 ?_
  refine Zv.icmp_ge (tgt := 90) hC d_D_init_68 (by decide) (fun _ => ?_) (fun h => absurd (show nI 4 ≤ nI 4 by decide) h)
  refine Zv.aload_n hC d_D_init_90 rfl ?_
  refine Zv.iconst hC d_D_init_91 ic_4 ?_
  refine Zv.anewarr (N := 4) (C := "FlightDesk$Command") hC d_D_init_92 cl_D_16 (by decide) (fun _ => rfl) (by decide) rfl rfl (by decide) (fun j => hzP _ (by decide) j) (by decide) (by decide) ?_
  refine Zv.nx (n' := 45) (cells' := 44) (slots' := 303) rfl rfl rfl ?_
  refine Zv.putF hC d_D_init_95 fl_D_48 rfl ck_6 rfl rfl rfl (fun _ => rfl) (fun _ => rfl) rfl (by decide) ?_
  refine Zv.iconst hC d_D_init_98 ic_0 ?_
  refine Zv.istore_n hC d_D_init_99 (by decide) rfl ?_
  refine Zv.iload_n hC d_D_init_100 rfl ?_
  refine Zv.iconst hC d_D_init_101 ic_4 ?_
  refine Zv.icmp_ge (tgt := 124) hC d_D_init_102 (by decide) (fun h => absurd h (show ¬ nI 4 ≤ nI 0 by decide)) (fun _ => ?_)
  refine Zv.aload_n hC d_D_init_105 rfl ?_
  refine Zv.getr (q := 45) hC d_D_init_106 fl_D_48 rfl rfl (by decide) rfl ?_
  refine Zv.iload_n hC d_D_init_109 rfl ?_
  refine Zv.new hC d_D_init_110 ck_0 cl_D_16 in_0 ii_0 rfl nd_0 (fun j => hzI _ (by decide) j) (fun j => hzP _ (by decide) j) (by decide) (by decide) ?_
  refine Zv.nx (n' := 46) (cells' := 45) (slots' := 305) rfl rfl rfl ?_
  refine Zv.dup hC d_D_init_113 ?_
  refine Zv.callI (as := []) (n' := 47) (mc' := 1) (ms' := 11) hC d_D_init_114 ml_D_18 mk_Cm_init (Nat.le_of_ble_eq_true rfl) rfl (by decide) ⟨by decide, by decide⟩ ?_
  refine sc_Cm rfl (by decide) rfl (fun j => hzI _ (by decide) j) ?_
  refine Zv.nx (n' := 47) (cells' := 46) (slots' := 316) rfl rfl rfl ?_
  refine Zv.aast hC d_D_init_117 rfl (fun _ => rfl) (by decide) (by decide) rfl (by decide) (by decide) rfl (by decide) rfl ?_
  refine Zv.iinc hC d_D_init_118 rfl (by decide) (q_inc _) rfl ?_
  refine Zv.goto (tgt := 100) hC d_D_init_121 (by decide) ?_
  refine Zv.iload_n hC d_D_init_100 rfl ?_
  refine Zv.iconst hC d_D_init_101 ic_4 ?_
  refine Zv.icmp_ge (tgt := 124) hC d_D_init_102 (by decide) (fun h => absurd h (show ¬ nI 4 ≤ nI 1 by decide)) (fun _ => ?_)
  refine Zv.aload_n hC d_D_init_105 rfl ?_
  refine Zv.getr (q := 45) hC d_D_init_106 fl_D_48 rfl rfl (by decide) rfl ?_
  refine Zv.iload_n hC d_D_init_109 rfl ?_
  refine Zv.new hC d_D_init_110 ck_0 cl_D_16 in_0 ii_0 rfl nd_0 (fun j => hzI _ (by decide) j) (fun j => hzP _ (by decide) j) (by decide) (by decide) ?_
  refine Zv.nx (n' := 48) (cells' := 47) (slots' := 318) rfl rfl rfl ?_
  refine Zv.dup hC d_D_init_113 ?_
  refine Zv.callI (as := []) (n' := 49) (mc' := 1) (ms' := 11) hC d_D_init_114 ml_D_18 mk_Cm_init (Nat.le_of_ble_eq_true rfl) rfl (by decide) ⟨by decide, by decide⟩ ?_
  refine sc_Cm rfl (by decide) rfl (fun j => hzI _ (by decide) j) ?_
  refine Zv.nx (n' := 49) (cells' := 48) (slots' := 329) rfl rfl rfl ?_
  refine Zv.aast hC d_D_init_117 rfl (fun _ => rfl) (by decide) (by decide) rfl (by decide) (by decide) rfl (by decide) rfl ?_
  refine Zv.iinc hC d_D_init_118 rfl (by decide) (q_inc _) rfl ?_
  refine Zv.goto (tgt := 100) hC d_D_init_121 (by decide) ?_
  refine Zv.iload_n hC d_D_init_100 rfl ?_
  refine Zv.iconst hC d_D_init_101 ic_4 ?_
  refine Zv.icmp_ge (tgt := 124) hC d_D_init_102 (by decide) (fun h => absurd h (show ¬ nI 4 ≤ nI 2 by decide)) (fun _ => ?_)
  refine Zv.aload_n hC d_D_init_105 rfl ?_
  refine Zv.getr (q := 45) hC d_D_init_106 fl_D_48 rfl rfl (by decide) rfl ?_
  refine Zv.iload_n hC d_D_init_109 rfl ?_
  refine Zv.new hC d_D_init_110 ck_0 cl_D_16 in_0 ii_0 rfl nd_0 (fun j => hzI _ (by decide) j) (fun j => hzP _ (by decide) j) (by decide) (by decide) ?_
  refine Zv.nx (n' := 50) (cells' := 49) (slots' := 331) rfl rfl rfl ?_
  refine Zv.dup hC d_D_init_113 ?_
  refine Zv.callI (as := []) (n' := 51) (mc' := 1) (ms' := 11) hC d_D_init_114 ml_D_18 mk_Cm_init (Nat.le_of_ble_eq_true rfl) rfl (by decide) ⟨by decide, by decide⟩ ?_
  refine sc_Cm rfl (by decide) rfl (fun j => hzI _ (by decide) j) ?_
  refine Zv.nx (n' := 51) (cells' := 50) (slots' := 342) rfl rfl rfl ?_
  refine Zv.aast hC d_D_init_117 rfl (fun _ => rfl) (by decide) (by decide) rfl (by decide) (by decide) rfl (by decide) rfl ?_
  refine Zv.iinc hC d_D_init_118 rfl (by decide) (q_inc _) rfl ?_
  refine Zv.goto (tgt := 100) hC d_D_init_121 (by decide) ?_
  refine Zv.iload_n hC d_D_init_100 rfl ?_
  refine Zv.iconst hC d_D_init_101 ic_4 ?_
  refine Zv.icmp_ge (tgt := 124) hC d_D_init_102 (by decide) (fun h => absurd h (show ¬ nI 4 ≤ nI 3 by decide)) (fun _ => ?_)
  refine Zv.aload_n hC d_D_init_105 rfl ?_
  refine Zv.getr (q := 45) hC d_D_init_106 fl_D_48 rfl rfl (by decide) rfl ?_
  refine Zv.iload_n hC d_D_init_109 rfl ?_
  refine Zv.new hC d_D_init_110 ck_0 cl_D_16 in_0 ii_0 rfl nd_0 (fun j => hzI _ (by decide) j) (fun j => hzP _ (by decide) j) (by decide) (by decide) ?_
  refine Zv.nx (n' := 52) (cells' := 51) (slots' := 344) rfl rfl rfl ?_
  refine Zv.dup hC d_D_init_113 ?_
  refine Zv.callI (as := []) (n' := 53) (mc' := 1) (ms' := 11) hC d_D_init_114 ml_D_18 mk_Cm_init (Nat.le_of_ble_eq_true rfl) rfl (by decide) ⟨by decide, by decide⟩ ?_
  refine sc_Cm rfl (by decide) rfl (fun j => hzI _ (by decide) j) ?_
  refine Zv.nx (n' := 53) (cells' := 52) (slots' := 355) rfl rfl rfl ?_
  refine Zv.aast hC d_D_init_117 rfl (fun _ => rfl) (by decide) (by decide) rfl (by decide) (by decide) rfl (by decide) rfl ?_
  refine Zv.iinc hC d_D_init_118 rfl (by decide) (q_inc _) rfl ?_
  refine Zv.goto (tgt := 100) hC d_D_init_121 (by decide) ?_
  refine Zv.iload_n hC d_D_init_100 rfl ?_
  refine Zv.iconst hC d_D_init_101 ic_4 ?_
  refine Zv.icmp_ge (tgt := 124) hC d_D_init_102 (by decide) (fun _ => ?_) (fun h => absurd (show nI 4 ≤ nI 4 by decide) h)
  refine Zv.aload_n hC d_D_init_124 rfl ?_
  refine Zv.iconst hC d_D_init_125 ic_2 ?_
  refine Zv.anewarr (N := 2) (C := "FlightDesk$HouseList") hC d_D_init_126 cl_D_52 (by decide) (fun _ => rfl) (by decide) rfl rfl (by decide) (fun j => hzP _ (by decide) j) (by decide) (by decide) ?_
  refine Zv.nx (n' := 54) (cells' := 53) (slots' := 357) rfl rfl rfl ?_
  refine Zv.putF hC d_D_init_129 fl_D_54 rfl ck_6 rfl rfl rfl (fun _ => rfl) (fun _ => rfl) rfl (by decide) ?_
  refine Zv.iconst hC d_D_init_132 ic_0 ?_
  refine Zv.istore_n hC d_D_init_133 (by decide) rfl ?_
  refine Zv.iload_n hC d_D_init_134 rfl ?_
  refine Zv.iconst hC d_D_init_135 ic_2 ?_
  refine Zv.icmp_ge (tgt := 158) hC d_D_init_136 (by decide) (fun h => absurd h (show ¬ nI 2 ≤ nI 0 by decide)) (fun _ => ?_)
  refine Zv.aload_n hC d_D_init_139 rfl ?_
  refine Zv.getr (q := 54) hC d_D_init_140 fl_D_54 rfl rfl (by decide) rfl ?_
  refine Zv.iload_n hC d_D_init_143 rfl ?_
  refine Zv.new hC d_D_init_144 ck_1 cl_D_52 in_1 ii_1 rfl nd_1 (fun j => hzI _ (by decide) j) (fun j => hzP _ (by decide) j) (by decide) (by decide) ?_
  refine Zv.nx (n' := 55) (cells' := 54) (slots' := 359) rfl rfl rfl ?_
  refine Zv.dup hC d_D_init_147 ?_
  refine Zv.callI (as := []) (n' := 55) (mc' := 0) (ms' := 0) hC d_D_init_148 ml_D_58 mk_Hl_init (Nat.le_of_ble_eq_true rfl) rfl (by decide) ⟨by decide, by decide⟩ ?_
  refine sc_Hl ?_
  refine Zv.aast hC d_D_init_151 rfl (fun _ => rfl) (by decide) (by decide) rfl (by decide) (by decide) rfl (by decide) rfl ?_
  refine Zv.iinc hC d_D_init_152 rfl (by decide) (q_inc _) rfl ?_
  refine Zv.goto (tgt := 134) hC d_D_init_155 (by decide) ?_
  refine Zv.iload_n hC d_D_init_134 rfl ?_
  refine Zv.iconst hC d_D_init_135 ic_2 ?_
  refine Zv.icmp_ge (tgt := 158) hC d_D_init_136 (by decide) (fun h => absurd h (show ¬ nI 2 ≤ nI 1 by decide)) (fun _ => ?_)
  refine Zv.aload_n hC d_D_init_139 rfl ?_
  refine Zv.getr (q := 54) hC d_D_init_140 fl_D_54 rfl rfl (by decide) rfl ?_
  refine Zv.iload_n hC d_D_init_143 rfl ?_
  refine Zv.new hC d_D_init_144 ck_1 cl_D_52 in_1 ii_1 rfl nd_1 (fun j => hzI _ (by decide) j) (fun j => hzP _ (by decide) j) (by decide) (by decide) ?_
  refine Zv.nx (n' := 56) (cells' := 55) (slots' := 361) rfl rfl rfl ?_
  refine Zv.dup hC d_D_init_147 ?_
  refine Zv.callI (as := []) (n' := 56) (mc' := 0) (ms' := 0) hC d_D_init_148 ml_D_58 mk_Hl_init (Nat.le_of_ble_eq_true rfl) rfl (by decide) ⟨by decide, by decide⟩ ?_
  refine sc_Hl ?_
  refine Zv.aast hC d_D_init_151 rfl (fun _ => rfl) (by decide) (by decide) rfl (by decide) (by decide) rfl (by decide) rfl ?_
  refine Zv.iinc hC d_D_init_152 rfl (by decide) (q_inc _) rfl ?_
  refine Zv.goto (tgt := 134) hC d_D_init_155 (by decide) ?_
  refine Zv.iload_n hC d_D_init_134 rfl ?_
  refine Zv.iconst hC d_D_init_135 ic_2 ?_
  refine Zv.icmp_ge (tgt := 158) hC d_D_init_136 (by decide) (fun _ => ?_) (fun h => absurd (show nI 2 ≤ nI 2 by decide) h)
  refine Zv.vret hC rfl d_D_init_158 (by decide) (by decide) ?_
  exact hK
def PM (P : Fr) : Fr := (f_u (f_u (f_u (f_u (f_u (f_u (f_u (f_u (f_u (f_u (f_u (f_u (f_u (f_u (f_u (f_u (f_u (f_u (f_u (f_u P 56 0 58) 56 2 59) 56 4 60) 56 5 61) 56 6 62) 56 7 63) 56 9 64) 56 10 65) 56 11 66) 56 12 67) 56 13 68) 56 14 69) 56 15 70) 56 16 71) 56 17 72) 56 18 73) 56 19 74) 56 20 75) 56 21 76) 56 22 77)
def IM (I : Fm) : Fm := (f_u I 56 1 (-1))
set_option maxRecDepth 100000 in
set_option maxHeartbeats 4000000 in
theorem sc_M {d : Nat} {I : Fm} {P : Fr} {K : Option Fs → Fm → Fr → Prop} (hzI : ∀ a, 57 ≤ a → ∀ j, I a j = 0) (hzP : ∀ a, 57 ≤ a → ∀ j, P a j = 0) (hK : K none (IM I) (PM P)) : Fk (d + 1) m_M_init 57 77 20 258 [rf 57] I P K := by
  refine Fk.intro (by decide +kernel) (Nat.le_of_ble_eq_true rfl) (fun G hC => ?_)
  refine Zv.aload_n hC d_M_init_0 rfl ?_
  refine Zv.oinit hC d_M_init_1 oi_M_1 oi_a oi_b (Nat.le_of_ble_eq_true rfl) ?_
  refine Zv.aload_n hC d_M_init_4 rfl ?_
  refine Zv.bipush hC d_M_init_5 bp_16 ?_
  refine Zv.newarr (N := 16) hC d_M_init_7 ac_0 (fun _ => rfl) (fun s cA h => h) rfl (by decide) rfl rfl (by decide) (by decide) (fun j => hzI _ (by decide) j) (by decide) (by decide) ?_
  refine Zv.nx (n' := 58) (cells' := 1) (slots' := 16) rfl rfl rfl ?_
  refine Zv.putF hC d_M_init_9 fl_M_7 rfl ck_7 rfl rfl rfl (fun _ => rfl) (fun _ => rfl) rfl (by decide) ?_
  refine Zv.aload_n hC d_M_init_12 rfl ?_
  refine Zv.iconst hC d_M_init_13 ic_m1 ?_
  refine Zv.puti hC d_M_init_14 fl_M_13 rfl ck_7 rfl rfl rfl rfl (by decide) ?_
  refine Zv.aload_n hC d_M_init_17 rfl ?_
  refine Zv.bipush hC d_M_init_18 bp_14 ?_
  refine Zv.newarr (N := 14) hC d_M_init_20 ac_0 (fun _ => rfl) (fun s cA h => h) rfl (by decide) rfl rfl (by decide) (by decide) (fun j => hzI _ (by decide) j) (by decide) (by decide) ?_
  refine Zv.nx (n' := 59) (cells' := 2) (slots' := 30) rfl rfl rfl ?_
  refine Zv.putF hC d_M_init_22 fl_M_17 rfl ck_7 rfl rfl rfl (fun _ => rfl) (fun _ => rfl) rfl (by decide) ?_
  refine Zv.aload_n hC d_M_init_25 rfl ?_
  refine Zv.bipush hC d_M_init_26 bp_72 ?_
  refine Zv.newarr (N := 72) hC d_M_init_28 ac_0 (fun _ => rfl) (fun s cA h => h) rfl (by decide) rfl rfl (by decide) (by decide) (fun j => hzI _ (by decide) j) (by decide) (by decide) ?_
  refine Zv.nx (n' := 60) (cells' := 3) (slots' := 102) rfl rfl rfl ?_
  refine Zv.putF hC d_M_init_30 fl_M_20 rfl ck_7 rfl rfl rfl (fun _ => rfl) (fun _ => rfl) rfl (by decide) ?_
  refine Zv.aload_n hC d_M_init_33 rfl ?_
  refine Zv.bipush hC d_M_init_34 bp_6 ?_
  refine Zv.newarr (N := 6) hC d_M_init_36 ac_0 (fun _ => rfl) (fun s cA h => h) rfl (by decide) rfl rfl (by decide) (by decide) (fun j => hzI _ (by decide) j) (by decide) (by decide) ?_
  refine Zv.nx (n' := 61) (cells' := 4) (slots' := 108) rfl rfl rfl ?_
  refine Zv.putF hC d_M_init_38 fl_M_23 rfl ck_7 rfl rfl rfl (fun _ => rfl) (fun _ => rfl) rfl (by decide) ?_
  refine Zv.aload_n hC d_M_init_41 rfl ?_
  refine Zv.bipush hC d_M_init_42 bp_6 ?_
  refine Zv.newarr (N := 6) hC d_M_init_44 ac_0 (fun _ => rfl) (fun s cA h => h) rfl (by decide) rfl rfl (by decide) (by decide) (fun j => hzI _ (by decide) j) (by decide) (by decide) ?_
  refine Zv.nx (n' := 62) (cells' := 5) (slots' := 114) rfl rfl rfl ?_
  refine Zv.putF hC d_M_init_46 fl_M_26 rfl ck_7 rfl rfl rfl (fun _ => rfl) (fun _ => rfl) rfl (by decide) ?_
  refine Zv.aload_n hC d_M_init_49 rfl ?_
  refine Zv.bipush hC d_M_init_50 bp_6 ?_
  refine Zv.newarr (N := 6) hC d_M_init_52 ac_0 (fun _ => rfl) (fun s cA h => h) rfl (by decide) rfl rfl (by decide) (by decide) (fun j => hzI _ (by decide) j) (by decide) (by decide) ?_
  refine Zv.nx (n' := 63) (cells' := 6) (slots' := 120) rfl rfl rfl ?_
  refine Zv.putF hC d_M_init_54 fl_M_29 rfl ck_7 rfl rfl rfl (fun _ => rfl) (fun _ => rfl) rfl (by decide) ?_
  refine Zv.aload_n hC d_M_init_57 rfl ?_
  refine Zv.bipush hC d_M_init_58 bp_6 ?_
  refine Zv.newarr (N := 6) hC d_M_init_60 ac_1 (fun _ => rfl) (fun s cA h => h) rfl (by decide) rfl rfl (by decide) (by decide) (fun j => hzI _ (by decide) j) (by decide) (by decide) ?_
  refine Zv.nx (n' := 64) (cells' := 7) (slots' := 126) rfl rfl rfl ?_
  refine Zv.putF hC d_M_init_62 fl_M_32 rfl ck_7 rfl rfl rfl (fun _ => rfl) (fun _ => rfl) rfl (by decide) ?_
  refine Zv.aload_n hC d_M_init_65 rfl ?_
  refine Zv.bipush hC d_M_init_66 bp_48 ?_
  refine Zv.newarr (N := 48) hC d_M_init_68 ac_0 (fun _ => rfl) (fun s cA h => h) rfl (by decide) rfl rfl (by decide) (by decide) (fun j => hzI _ (by decide) j) (by decide) (by decide) ?_
  refine Zv.nx (n' := 65) (cells' := 8) (slots' := 174) rfl rfl rfl ?_
  refine Zv.putF hC d_M_init_70 fl_M_36 rfl ck_7 rfl rfl rfl (fun _ => rfl) (fun _ => rfl) rfl (by decide) ?_
  refine Zv.aload_n hC d_M_init_73 rfl ?_
  refine Zv.iconst hC d_M_init_74 ic_4 ?_
  refine Zv.newarr (N := 4) hC d_M_init_75 ac_0 (fun _ => rfl) (fun s cA h => h) rfl (by decide) rfl rfl (by decide) (by decide) (fun j => hzI _ (by decide) j) (by decide) (by decide) ?_
  refine Zv.nx (n' := 66) (cells' := 9) (slots' := 178) rfl rfl rfl ?_
  refine Zv.putF hC d_M_init_77 fl_M_39 rfl ck_7 rfl rfl rfl (fun _ => rfl) (fun _ => rfl) rfl (by decide) ?_
  refine Zv.aload_n hC d_M_init_80 rfl ?_
  refine Zv.iconst hC d_M_init_81 ic_4 ?_
  refine Zv.newarr (N := 4) hC d_M_init_82 ac_1 (fun _ => rfl) (fun s cA h => h) rfl (by decide) rfl rfl (by decide) (by decide) (fun j => hzI _ (by decide) j) (by decide) (by decide) ?_
  refine Zv.nx (n' := 67) (cells' := 10) (slots' := 182) rfl rfl rfl ?_
  refine Zv.putF hC d_M_init_84 fl_M_42 rfl ck_7 rfl rfl rfl (fun _ => rfl) (fun _ => rfl) rfl (by decide) ?_
  refine Zv.aload_n hC d_M_init_87 rfl ?_
  refine Zv.iconst hC d_M_init_88 ic_4 ?_
  refine Zv.newarr (N := 4) hC d_M_init_89 ac_0 (fun _ => rfl) (fun s cA h => h) rfl (by decide) rfl rfl (by decide) (by decide) (fun j => hzI _ (by decide) j) (by decide) (by decide) ?_
  refine Zv.nx (n' := 68) (cells' := 11) (slots' := 186) rfl rfl rfl ?_
  refine Zv.putF hC d_M_init_91 fl_M_45 rfl ck_7 rfl rfl rfl (fun _ => rfl) (fun _ => rfl) rfl (by decide) ?_
  refine Zv.aload_n hC d_M_init_94 rfl ?_
  refine Zv.iconst hC d_M_init_95 ic_4 ?_
  refine Zv.newarr (N := 4) hC d_M_init_96 ac_0 (fun _ => rfl) (fun s cA h => h) rfl (by decide) rfl rfl (by decide) (by decide) (fun j => hzI _ (by decide) j) (by decide) (by decide) ?_
  refine Zv.nx (n' := 69) (cells' := 12) (slots' := 190) rfl rfl rfl ?_
  refine Zv.putF hC d_M_init_98 fl_M_48 rfl ck_7 rfl rfl rfl (fun _ => rfl) (fun _ => rfl) rfl (by decide) ?_
  refine Zv.aload_n hC d_M_init_101 rfl ?_
  refine Zv.iconst hC d_M_init_102 ic_4 ?_
  refine Zv.newarr (N := 4) hC d_M_init_103 ac_0 (fun _ => rfl) (fun s cA h => h) rfl (by decide) rfl rfl (by decide) (by decide) (fun j => hzI _ (by decide) j) (by decide) (by decide) ?_
  refine Zv.nx (n' := 70) (cells' := 13) (slots' := 194) rfl rfl rfl ?_
  refine Zv.putF hC d_M_init_105 fl_M_51 rfl ck_7 rfl rfl rfl (fun _ => rfl) (fun _ => rfl) rfl (by decide) ?_
  refine Zv.aload_n hC d_M_init_108 rfl ?_
  refine Zv.iconst hC d_M_init_109 ic_4 ?_
  refine Zv.newarr (N := 4) hC d_M_init_110 ac_0 (fun _ => rfl) (fun s cA h => h) rfl (by decide) rfl rfl (by decide) (by decide) (fun j => hzI _ (by decide) j) (by decide) (by decide) ?_
  refine Zv.nx (n' := 71) (cells' := 14) (slots' := 198) rfl rfl rfl ?_
  refine Zv.putF hC d_M_init_112 fl_M_54 rfl ck_7 rfl rfl rfl (fun _ => rfl) (fun _ => rfl) rfl (by decide) ?_
  refine Zv.aload_n hC d_M_init_115 rfl ?_
  refine Zv.iconst hC d_M_init_116 ic_4 ?_
  refine Zv.newarr (N := 4) hC d_M_init_117 ac_0 (fun _ => rfl) (fun s cA h => h) rfl (by decide) rfl rfl (by decide) (by decide) (fun j => hzI _ (by decide) j) (by decide) (by decide) ?_
  refine Zv.nx (n' := 72) (cells' := 15) (slots' := 202) rfl rfl rfl ?_
  refine Zv.putF hC d_M_init_119 fl_M_57 rfl ck_7 rfl rfl rfl (fun _ => rfl) (fun _ => rfl) rfl (by decide) ?_
  refine Zv.aload_n hC d_M_init_122 rfl ?_
  refine Zv.iconst hC d_M_init_123 ic_4 ?_
  refine Zv.newarr (N := 4) hC d_M_init_124 ac_0 (fun _ => rfl) (fun s cA h => h) rfl (by decide) rfl rfl (by decide) (by decide) (fun j => hzI _ (by decide) j) (by decide) (by decide) ?_
  refine Zv.nx (n' := 73) (cells' := 16) (slots' := 206) rfl rfl rfl ?_
  refine Zv.putF hC d_M_init_126 fl_M_60 rfl ck_7 rfl rfl rfl (fun _ => rfl) (fun _ => rfl) rfl (by decide) ?_
  refine Zv.aload_n hC d_M_init_129 rfl ?_
  refine Zv.iconst hC d_M_init_130 ic_2 ?_
  refine Zv.newarr (N := 2) hC d_M_init_131 ac_0 (fun _ => rfl) (fun s cA h => h) rfl (by decide) rfl rfl (by decide) (by decide) (fun j => hzI _ (by decide) j) (by decide) (by decide) ?_
  refine Zv.nx (n' := 74) (cells' := 17) (slots' := 208) rfl rfl rfl ?_
  refine Zv.putF hC d_M_init_133 fl_M_63 rfl ck_7 rfl rfl rfl (fun _ => rfl) (fun _ => rfl) rfl (by decide) ?_
  refine Zv.aload_n hC d_M_init_136 rfl ?_
  refine Zv.iconst hC d_M_init_137 ic_2 ?_
  refine Zv.newarr (N := 2) hC d_M_init_138 ac_0 (fun _ => rfl) (fun s cA h => h) rfl (by decide) rfl rfl (by decide) (by decide) (fun j => hzI _ (by decide) j) (by decide) (by decide) ?_
  refine Zv.nx (n' := 75) (cells' := 18) (slots' := 210) rfl rfl rfl ?_
  refine Zv.putF hC d_M_init_140 fl_M_66 rfl ck_7 rfl rfl rfl (fun _ => rfl) (fun _ => rfl) rfl (by decide) ?_
  refine Zv.aload_n hC d_M_init_143 rfl ?_
  refine Zv.bipush hC d_M_init_144 bp_8 ?_
  refine Zv.newarr (N := 8) hC d_M_init_146 ac_0 (fun _ => rfl) (fun s cA h => h) rfl (by decide) rfl rfl (by decide) (by decide) (fun j => hzI _ (by decide) j) (by decide) (by decide) ?_
  refine Zv.nx (n' := 76) (cells' := 19) (slots' := 218) rfl rfl rfl ?_
  refine Zv.putF hC d_M_init_148 fl_M_69 rfl ck_7 rfl rfl rfl (fun _ => rfl) (fun _ => rfl) rfl (by decide) ?_
  refine Zv.aload_n hC d_M_init_151 rfl ?_
  refine Zv.bipush hC d_M_init_152 bp_40 ?_
  refine Zv.newarr (N := 40) hC d_M_init_154 ac_0 (fun _ => rfl) (fun s cA h => h) rfl (by decide) rfl rfl (by decide) (by decide) (fun j => hzI _ (by decide) j) (by decide) (by decide) ?_
  refine Zv.nx (n' := 77) (cells' := 20) (slots' := 258) rfl rfl rfl ?_
  refine Zv.putF hC d_M_init_156 fl_M_72 rfl ck_7 rfl rfl rfl (fun _ => rfl) (fun _ => rfl) rfl (by decide) ?_
  refine Zv.vret hC rfl d_M_init_159 (by decide) (by decide) ?_
  exact hK
