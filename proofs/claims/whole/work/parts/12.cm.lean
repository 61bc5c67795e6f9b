set_option maxRecDepth 100000 in
set_option maxHeartbeats 4000000 in
theorem sp_part {d k j : Nat} {i : Int32} {c : List Nat} {I : Fm} {P : Fr} {K : Option Fs → Fm → Fr → Prop} (hk : isCm k) (hP : x_ref P) (hc : x_cmd I k c) (hi : i = nI j) (hj : j < 2 ^ 30) (hK : K (some (.inr (nI (e_at c j)))) I P) : Fk d m_Cm_part 77 77 0 0 [rf (k + 1), .inr i] I P K := by
  subst hi
  have hcl := hc.2.1
  refine Fk.intro (by decide +kernel) (by decide) (fun G hC => ?_)
  refine Zv.iload_n hC d_Cm_part_0 rfl ?_
  refine Zv.if_lt (tgt := 21) hC d_Cm_part_1 (by decide) (fun h1 => ?_) (fun h1 => ?_)
  · exact absurd h1 (nI_pos (by omega))
  · refine Zv.iload_n hC d_Cm_part_4 rfl ?_
    refine Zv.aload_n hC d_Cm_part_5 rfl ?_
    refine Zv.geti hC d_Cm_part_6 fl_Cm_13 rfl hk.1 (by have := hk.2.2.1; omega) hc.1 ?_
    refine Zv.icmp_ge (tgt := 21) hC d_Cm_part_9 (by decide) (fun h9 => ?_) (fun h9 => ?_)
    · have he : e_at c j = 0 := e_at_ge ((nI_leI (by omega) (by omega)).mp h9)
      refine Zv.iconst hC d_Cm_part_21 ic_0 ?_
      refine Zv.iret hC rfl d_Cm_part_22 (Nat.le_refl _) (Nat.le_refl _) ?_
      first | exact hK | (rw [he] at hK; exact hK)
    · have hlt : j < c.length := Nat.lt_of_not_le fun z => h9 (nI_le z (by omega))
      refine Zv.aload_n hC d_Cm_part_12 rfl ?_
      refine Zv.getr (q := ((k + 1)) + 1) hC d_Cm_part_13 fl_Cm_9 rfl hk.1 (by have := hk.2.2.1; omega) (x_ref_cm hP hk) ?_
      refine Zv.iload_n hC d_Cm_part_16 rfl ?_
      refine Zv.iald hC d_Cm_part_17 hk.2.1 hk.2.2.1 rfl (by omega) (by decide) (hc.2.2.1 j hlt) ?_
      refine Zv.goto (tgt := 22) hC d_Cm_part_18 (by decide) ?_
      refine Zv.iret hC rfl d_Cm_part_22 (Nat.le_refl _) (Nat.le_refl _) ?_
      first | exact hK | (rw [he] at hK; exact hK)
set_option maxRecDepth 100000 in
set_option maxHeartbeats 4000000 in
theorem sp_service {d k : Nat} {c : List Nat} {I : Fm} {P : Fr} {K : Option Fs → Fm → Fr → Prop} (hk : isCm k) (hP : x_ref P) (hc : x_cmd I k c) (hK : K (some (.inr (nI (e_at c 0)))) I P) : Fk (d + 1) m_Cm_service 77 77 0 0 [rf (k + 1)] I P K := by
  refine Fk.intro (by decide +kernel) (by decide) (fun G hC => ?_)
  refine Zv.aload_n hC d_Cm_service_0 rfl ?_
  refine Zv.iconst hC d_Cm_service_1 ic_0 ?_
  refine Zv.callV1 hC d_Cm_service_2 ml_Cm_17 mk_Cm_part rfl (Nat.le_of_ble_eq_true rfl) hk.1 (by have := hk.2.2.1; omega) ?_
  refine sp_part hk hP hc rfl (by decide) ?_
  refine Zv.iret hC rfl d_Cm_service_5 (Nat.le_refl _) (Nat.le_refl _) ?_
  exact hK
set_option maxRecDepth 100000 in
set_option maxHeartbeats 4000000 in
theorem sp_cisEmpty {d k : Nat} {c : List Nat} {I : Fm} {P : Fr} {K : Option Fs → Fm → Fr → Prop} (hk : isCm k) (hP : x_ref P) (hc : x_cmd I k c) (hK : K (some (.inr (if c = [] then nI 1 else nI 0))) I P) : Fk d m_Cm_isEmpty 77 77 0 0 [rf (k + 1)] I P K := by
  have hcl := hc.2.1
  refine Fk.intro (by decide +kernel) (by decide) (fun G hC => ?_)
  refine Zv.aload_n hC d_Cm_isEmpty_0 rfl ?_
  refine Zv.geti hC d_Cm_isEmpty_1 fl_Cm_13 rfl hk.1 (by have := hk.2.2.1; omega) hc.1 ?_
  refine Zv.if_ne (tgt := 11) hC d_Cm_isEmpty_4 (by decide) (fun h4 => ?_) (fun h4 => ?_)
  · have he : ¬ c = [] := fun z => h4 (by rw [z]; rfl)
    refine Zv.iconst hC d_Cm_isEmpty_11 ic_0 ?_
    refine Zv.zret hC rfl d_Cm_isEmpty_12 rfl (Nat.le_refl _) (Nat.le_refl _) ?_
    first | (rw [if_neg he] at hK; exact hK) | (rw [if_pos he] at hK; exact hK)
  · have he : c = [] := List.length_eq_zero_iff.mp (Classical.byContradiction fun z => h4 (nI_ne0 (by omega) (by omega)))
    refine Zv.iconst hC d_Cm_isEmpty_7 ic_1 ?_
    refine Zv.goto (tgt := 12) hC d_Cm_isEmpty_8 (by decide) ?_
    refine Zv.zret hC rfl d_Cm_isEmpty_12 rfl (Nat.le_refl _) (Nat.le_refl _) ?_
    first | (rw [if_neg he] at hK; exact hK) | (rw [if_pos he] at hK; exact hK)
set_option maxRecDepth 100000 in
set_option maxHeartbeats 4000000 in
theorem sp_clear {d k : Nat} {I : Fm} {P : Fr} {K : Option Fs → Fm → Fr → Prop} (hk : isCm k) (hK : K none (f_u I k 1 (nI 0)) P) : Fk d m_Cm_clear 77 77 0 0 [rf (k + 1)] I P K := by
  refine Fk.intro (by decide +kernel) (by decide) (fun G hC => ?_)
  refine Zv.aload_n hC d_Cm_clear_0 rfl ?_
  refine Zv.iconst hC d_Cm_clear_1 ic_0 ?_
  refine Zv.puti hC d_Cm_clear_2 fl_Cm_13 rfl ck_0 rfl rfl rfl hk.1 (by have := hk.2.2.1; omega) ?_
  refine Zv.vret hC rfl d_Cm_clear_5 (Nat.le_refl _) (Nat.le_refl _) ?_
  exact hK
