set_option maxRecDepth 100000 in
set_option maxHeartbeats 4000000 in
theorem sp_part {d k j : Nat} {i : Int32} {c : List Nat} {I : Fm} {P : Fr} {K : Option Fs → Fm → Fr → Prop} (hk : isCm k) (hP : x_ref P) (hc : x_cmd I k c) (hi : i = nI j) (hj : j < 2 ^ 30) (hK : K (some (.inr (nI (e_at c j)))) I P) : Fk d m_Cm_part 77 77 0 0 [rf (k + 1), .inr i] I P K := by
  subst hi
  have hcl := hc.2.1
  refine Fk.intro (by decide +kernel) (Nat.le_of_ble_eq_true rfl) (fun G hC => ?_)
  refine Zv.iload_n hC d_Cm_part_0 rfl ?_
  refine Zv.if_lt (tgt := 21) hC d_Cm_part_1 (by decide) (fun h1 => ?_) (fun h1 => ?_)
  · try have g1 := q_l0 h1 (by omega)
    exact absurd h1 (nI_pos (by omega))
  · skip
    refine Zv.iload_n hC d_Cm_part_4 rfl ?_
    refine Zv.aload_n hC d_Cm_part_5 rfl ?_
    refine Zv.geti hC d_Cm_part_6 fl_Cm_13 rfl hk.1 (by have := hk.2.2.1; omega) hc.1 ?_
    refine Zv.icmp_ge (tgt := 21) hC d_Cm_part_9 (by decide) (fun h9 => ?_) (fun h9 => ?_)
    · try have g9 := q_le h9 (by omega) (by omega)
      have he : e_at c j = 0 := e_at_ge ((nI_leI (by omega) (by omega)).mp h9)
      refine Zv.iconst hC d_Cm_part_21 ic_0 ?_
      refine Zv.iret hC rfl d_Cm_part_22 (Nat.le_refl _) (Nat.le_refl _) ?_
      first | exact hK | (rw [he] at hK; exact hK)
    · try have g9 := q_nle h9 (by omega) (by omega)
      have hlt : j < c.length := Nat.lt_of_not_le fun z => h9 (nI_le z (by omega))
      refine Zv.aload_n hC d_Cm_part_12 rfl ?_
      refine Zv.getr (q := ((k + 1)) + 1) hC d_Cm_part_13 fl_Cm_9 rfl hk.1 (by have := hk.2.2.1; omega) (x_ref_cm hP hk) ?_
      refine Zv.iload_n hC d_Cm_part_16 rfl ?_
      refine Zv.iald hC d_Cm_part_17 hk.2.1 hk.2.2.1 rfl (by omega) (by first | decide | omega) (hc.2.2.1 j hlt) ?_
      refine Zv.goto (tgt := 22) hC d_Cm_part_18 (by decide) ?_
      refine Zv.iret hC rfl d_Cm_part_22 (Nat.le_refl _) (Nat.le_refl _) ?_
      first | exact hK | (rw [he] at hK; exact hK)
set_option maxRecDepth 100000 in
set_option maxHeartbeats 4000000 in
theorem sp_service {d k : Nat} {c : List Nat} {I : Fm} {P : Fr} {K : Option Fs → Fm → Fr → Prop} (hk : isCm k) (hP : x_ref P) (hc : x_cmd I k c) (hK : K (some (.inr (nI (e_at c 0)))) I P) : Fk (d + 1) m_Cm_service 77 77 0 0 [rf (k + 1)] I P K := by
  refine Fk.intro (by decide +kernel) (Nat.le_of_ble_eq_true rfl) (fun G hC => ?_)
  refine Zv.aload_n hC d_Cm_service_0 rfl ?_
  refine Zv.iconst hC d_Cm_service_1 ic_0 ?_
  refine Zv.callV1 hC d_Cm_service_2 ml_Cm_17 mk_Cm_part rfl (Nat.le_of_ble_eq_true rfl) hk.1 (by have := hk.2.2.1; omega) ?_
  refine sp_part hk hP hc rfl (by decide) ?_
  refine Zv.iret hC rfl d_Cm_service_5 (Nat.le_refl _) (Nat.le_refl _) ?_
  exact hK
set_option maxRecDepth 100000 in
set_option maxHeartbeats 4000000 in
theorem sp_cisEmpty {d k : Nat} {c : List Nat} {I : Fm} {P : Fr} {K : Option Fs → Fm → Fr → Prop} (hk : isCm k) (hP : x_ref P) (hc : x_cmd I k c) (hK : K (some (.inr (if c = [] then nI 1 else nI 0))) I P) : Fk d m_Cm_isEmpty 77 77 0 0 [rf (k + 1)] I P K := by
  have hcl := hc.2.1
  refine Fk.intro (by decide +kernel) (Nat.le_of_ble_eq_true rfl) (fun G hC => ?_)
  refine Zv.aload_n hC d_Cm_isEmpty_0 rfl ?_
  refine Zv.geti hC d_Cm_isEmpty_1 fl_Cm_13 rfl hk.1 (by have := hk.2.2.1; omega) hc.1 ?_
  refine Zv.if_ne (tgt := 11) hC d_Cm_isEmpty_4 (by decide) (fun h4 => ?_) (fun h4 => ?_)
  · try have g4 := q_n0 h4
    have he : ¬ c = [] := fun z => h4 (by rw [z]; rfl)
    refine Zv.iconst hC d_Cm_isEmpty_11 ic_0 ?_
    refine Zv.zret hC rfl d_Cm_isEmpty_12 rfl (Nat.le_refl _) (Nat.le_refl _) ?_
    first | (rw [if_neg he] at hK; exact hK) | (rw [if_pos he] at hK; exact hK)
  · try have g4 := q_e0 h4 (by omega)
    have he : c = [] := List.length_eq_zero_iff.mp (Classical.byContradiction fun z => nI_ne0 (Nat.pos_of_ne_zero z) (by omega) h4)
    refine Zv.iconst hC d_Cm_isEmpty_7 ic_1 ?_
    refine Zv.goto (tgt := 12) hC d_Cm_isEmpty_8 (by decide) ?_
    refine Zv.zret hC rfl d_Cm_isEmpty_12 rfl (Nat.le_refl _) (Nat.le_refl _) ?_
    first | (rw [if_neg he] at hK; exact hK) | (rw [if_pos he] at hK; exact hK)
set_option maxRecDepth 100000 in
set_option maxHeartbeats 4000000 in
theorem sp_clear {d k : Nat} {I : Fm} {P : Fr} {K : Option Fs → Fm → Fr → Prop} (hk : isCm k) (hK : K none (f_u I k 1 (nI 0)) P) : Fk d m_Cm_clear 77 77 0 0 [rf (k + 1)] I P K := by
  refine Fk.intro (by decide +kernel) (Nat.le_of_ble_eq_true rfl) (fun G hC => ?_)
  refine Zv.aload_n hC d_Cm_clear_0 rfl ?_
  refine Zv.iconst hC d_Cm_clear_1 ic_0 ?_
  refine Zv.puti hC d_Cm_clear_2 fl_Cm_13 rfl ck_0 rfl rfl rfl hk.1 (by have := hk.2.2.1; omega) ?_
  refine Zv.vret hC rfl d_Cm_clear_5 (Nat.le_refl _) (Nat.le_refl _) ?_
  exact hK
set_option maxRecDepth 100000 in
set_option maxHeartbeats 4000000 in
theorem lp_load {G : Fx} {d k a La f : Nat} {src : List Nat} {I : Fm} {P : Fr} {K : Option Fs → Fm → Fr → Prop} (hC : Fc G m_Cm_load d 0 0) (hk : isCm k) (hP : x_ref P) (ha : f_shp a = .inl (0, La)) (han : a < 77) (hak : a ≠ k + 1) (hLa : La < 2 ^ 31) (hs : ∀ i, i < src.length → I a i = nI (e_at src i)) (hb : ∀ x ∈ src, x < 256) (hl : src.length ≤ La) (hf : f ≤ src.length) (h11 : src.length - f ≤ 11) (hK : ∀ I' : Fm, x_cmd I' k (src.drop f) → (∀ x, x ≠ k → x ≠ k + 1 → I' x = I x) → K none I' P) :
    ∀ (n s : Nat) (J : Fm), s + n = src.length - f → J k 1 = nI s → (∀ i, i < s → J (k + 1) i = nI (e_at src (f + i))) → (∀ x, x ≠ k → x ≠ k + 1 → J x = I x) → Zv G (f_R G K 77 0 0) 77 0 0 8 [(0, rf (k + 1)), (1, rf (a + 1)), (2, .inr (nI f)), (3, .inr (nI src.length)), (4, .inr (nI (f + s)))] [] J P := by
  have hka : a ≠ k := by
    intro e
    rw [e, hk.1] at ha
    cases ha
  intro n
  induction n with
  | zero =>
    intro s J hn hJ1 hJ2 hJ3
    have hJa : ∀ i, i < src.length → J a i = nI (e_at src i) := fun i hi => by rw [hJ3 a hka hak]; exact hs i hi
    refine Zv.iload hC d_Cm_load_8 rfl ?_
    refine Zv.if_lt (tgt := 64) hC d_Cm_load_10 (by decide) (fun h10 => absurd h10 (nI_pos (by omega))) (fun _ => ?_)
    refine Zv.iload hC d_Cm_load_13 rfl ?_
    refine Zv.iload_n hC d_Cm_load_15 rfl ?_
    refine Zv.icmp_ge (tgt := 64) hC d_Cm_load_16 (by decide) (fun _ => ?_) (fun h16 => absurd (nI_le (by omega) (by omega)) h16)
    have he : s = src.length - f := by omega
    refine Zv.vret hC rfl d_Cm_load_64 (Nat.le_refl _) (Nat.le_refl _) ?_
    refine hK J ⟨?_, ?_, ?_, ?_⟩ hJ3
    · rw [hJ1, List.length_drop, he]
    · rw [List.length_drop]; omega
    · intro i hi
      rw [List.length_drop] at hi
      rw [e_at_drop]
      exact hJ2 i (by omega)
    · exact fun x hx => hb x (List.mem_of_mem_drop hx)
  | succ n ih =>
    intro s J hn hJ1 hJ2 hJ3
    have hJa : ∀ i, i < src.length → J a i = nI (e_at src i) := fun i hi => by rw [hJ3 a hka hak]; exact hs i hi
    refine Zv.iload hC d_Cm_load_8 rfl ?_
    refine Zv.if_lt (tgt := 64) hC d_Cm_load_10 (by decide) (fun h10 => ?_) (fun h10 => ?_)
    · try have g10 := q_l0 h10 (by omega)
      exact absurd h10 (nI_pos (by omega))
    · skip
      refine Zv.iload hC d_Cm_load_13 rfl ?_
      refine Zv.iload_n hC d_Cm_load_15 rfl ?_
      refine Zv.icmp_ge (tgt := 64) hC d_Cm_load_16 (by decide) (fun h16 => ?_) (fun h16 => ?_)
      · try have g16 := q_le h16 (by omega) (by omega)
        have he : s = src.length - f := by have := (nI_leI (by omega) (by omega)).mp h16; omega
        refine Zv.vret hC rfl d_Cm_load_64 (Nat.le_refl _) (Nat.le_refl _) ?_
        refine hK J ⟨?_, ?_, ?_, ?_⟩ hJ3
        · rw [hJ1, List.length_drop, he]
        · rw [List.length_drop]; omega
        · intro i hi
          rw [List.length_drop] at hi
          rw [e_at_drop]
          exact hJ2 i (by omega)
        · exact fun x hx => hb x (List.mem_of_mem_drop hx)
      · try have g16 := q_nle h16 (by omega) (by omega)
        have hlt : f + s < src.length := Nat.lt_of_not_le fun z => h16 (nI_le z (by omega))
        refine Zv.iload hC d_Cm_load_19 rfl ?_
        refine Zv.aload_n hC d_Cm_load_21 rfl ?_
        refine Zv.alen hC d_Cm_load_22 ha (fun _ => rfl) han ?_
        refine Zv.icmp_ge (tgt := 64) hC d_Cm_load_23 (by decide) (fun h23 => ?_) (fun h23 => ?_)
        · try have g23 := q_le h23 (by omega) (by omega)
          exact absurd h23 (nI_ge (by omega) (by omega))
        · try have g23 := q_nle h23 (by omega) (by omega)
          refine Zv.aload_n hC d_Cm_load_26 rfl ?_
          refine Zv.geti hC d_Cm_load_27 fl_Cm_13 rfl hk.1 (by have := hk.2.2.1; omega) hJ1 ?_
          refine Zv.bipush hC d_Cm_load_30 bp_11 ?_
          refine Zv.icmp_ge (tgt := 64) hC d_Cm_load_32 (by decide) (fun h32 => ?_) (fun h32 => ?_)
          · try have g32 := q_le h32 (by omega) (by omega)
            exact absurd h32 (nI_ge (by omega) (by omega))
          · try have g32 := q_nle h32 (by omega) (by omega)
            refine Zv.aload_n hC d_Cm_load_35 rfl ?_
            refine Zv.getr (q := ((k + 1)) + 1) hC d_Cm_load_36 fl_Cm_9 rfl hk.1 (by have := hk.2.2.1; omega) (x_ref_cm hP hk) ?_
            refine Zv.aload_n hC d_Cm_load_39 rfl ?_
            refine Zv.geti hC d_Cm_load_40 fl_Cm_13 rfl hk.1 (by have := hk.2.2.1; omega) hJ1 ?_
            refine Zv.aload_n hC d_Cm_load_43 rfl ?_
            refine Zv.iload hC d_Cm_load_44 rfl ?_
            refine Zv.iald hC d_Cm_load_46 ha han rfl (by omega) (by first | decide | omega) (hJa (f + s) (by omega)) ?_
            refine Zv.iast hC d_Cm_load_47 hk.2.1 hk.2.2.1 rfl (by omega) (by first | decide | omega) ?_
            refine Zv.aload_n hC d_Cm_load_48 rfl ?_
            refine Zv.dup hC d_Cm_load_49 ?_
            refine Zv.geti hC d_Cm_load_50 fl_Cm_13 rfl hk.1 (by have := hk.2.2.1; omega) (f_ur (by omega) hJ1) ?_
            refine Zv.iconst hC d_Cm_load_53 ic_1 ?_
            first | refine Zv.iaddN hC d_Cm_load_54 ?_ | refine Zv.iadd hC d_Cm_load_54 ?_
            refine Zv.puti hC d_Cm_load_55 fl_Cm_13 rfl ck_0 rfl rfl rfl hk.1 (by have := hk.2.2.1; omega) ?_
            refine Zv.iinc hC d_Cm_load_58 rfl (by decide) (q_inc _) rfl ?_
            refine Zv.goto (tgt := 8) hC d_Cm_load_61 (by decide) ?_
            refine ih (s + 1) _ (by omega) f_u_s (fun i hi => ?_) (fun x h1 h2 => ?_)
            · rw [f_u_ne (by omega)]
              by_cases e : i = s
              · subst e
                rw [f_u_s]
              · rw [f_u_n (fun z => e z.2)]
                exact hJ2 i (by omega)
            · rw [f_u_ne h1, f_u_ne h2]
              exact hJ3 x h1 h2
set_option maxRecDepth 100000 in
set_option maxHeartbeats 4000000 in
theorem sp_load {d k a La f : Nat} {src : List Nat} {x y : Int32} {I : Fm} {P : Fr} {K : Option Fs → Fm → Fr → Prop} (hk : isCm k) (hP : x_ref P) (ha : f_shp a = .inl (0, La)) (han : a < 77) (hak : a ≠ k + 1) (hLa : La < 2 ^ 31) (hs : ∀ i, i < src.length → I a i = nI (e_at src i)) (hb : ∀ x ∈ src, x < 256) (hl : src.length ≤ La) (hf : f ≤ src.length) (h11 : src.length - f ≤ 11) (hx : x = nI f) (hy : y = nI src.length) (hK : ∀ I' : Fm, x_cmd I' k (src.drop f) → (∀ x, x ≠ k → x ≠ k + 1 → I' x = I x) → K none I' P) : Fk d m_Cm_load 77 77 0 0 [rf (k + 1), rf (a + 1), .inr x, .inr y] I P K := by
  subst hx
  subst hy
  refine Fk.intro (by decide +kernel) (Nat.le_of_ble_eq_true rfl) (fun G hC => ?_)
  refine Zv.aload_n hC d_Cm_load_0 rfl ?_
  refine Zv.iconst hC d_Cm_load_1 ic_0 ?_
  refine Zv.puti hC d_Cm_load_2 fl_Cm_13 rfl ck_0 rfl rfl rfl hk.1 (by have := hk.2.2.1; omega) ?_
  refine Zv.iload_n hC d_Cm_load_5 rfl ?_
  refine Zv.istore hC d_Cm_load_6 (by decide) rfl ?_
  exact lp_load hC hk hP ha han hak hLa hs hb hl hf h11 hK (src.length - f) 0 _ (by omega) (by rw [f_u_s]) (fun i hi => absurd hi (Nat.not_lt_zero i)) (fun x h1 _ => f_u_ne h1)
