theorem Zv.take {G : Fx} {Q : State → Prop} {n cells slots pc : Nat} {lv : Fl} {st : List Fs} {I : Fm} {P : Fr} (m : Nat) (k : Zv G Q n cells slots pc (lv.take m) st I P) : Zv G Q n cells slots pc lv st I P := Zv.weak (fun _ h => List.mem_of_mem_take h) k
theorem nb_2 {r : Nat} (h : r < 2) : narrow .boolean (.int (nI r)) = .int (nI r) := by
  rcases (show r = 0 ∨ r = 1 by omega) with rfl | rfl <;> rfl
theorem sp_isParameterN {d a : Nat} {x : Int32} {I : Fm} {P : Fr} {K : Option Fs → Fm → Fr → Prop} (hx : x = nI a) (ha : a < 2 ^ 31) (hK : ∀ r : Nat, r < 2 → (r ≠ 0 ↔ a < 8) → K (some (.inr (nI r))) I P) : Fk d m_D_isParameter 77 77 0 0 [.inr x] I P K :=
  sp_isParameter (fun j hj e => hK 1 (by decide) ⟨fun _ => by have := q_e (hx.symm.trans e) ha (by omega); omega, fun _ => by decide⟩) (fun hn => hK 0 (by decide) ⟨fun z => absurd rfl z, fun z => absurd ⟨a, z, hx⟩ hn⟩)
theorem sp_isWatchN {d a : Nat} {x : Int32} {I : Fm} {P : Fr} {K : Option Fs → Fm → Fr → Prop} (hx : x = nI a) (ha : a < 2 ^ 31) (hK : ∀ r : Nat, r < 2 → (r ≠ 0 ↔ a < 4) → K (some (.inr (nI r))) I P) : Fk d m_D_isWatch 77 77 0 0 [.inr x] I P K :=
  sp_isWatch (fun j hj e => hK 1 (by decide) ⟨fun _ => by have := q_e (hx.symm.trans e) ha (by omega); omega, fun _ => by decide⟩) (fun hn => hK 0 (by decide) ⟨fun z => absurd rfl z, fun z => absurd ⟨a, z, hx⟩ hn⟩)
theorem sp_isEventN {d a : Nat} {x : Int32} {I : Fm} {P : Fr} {K : Option Fs → Fm → Fr → Prop} (hx : x = nI a) (ha : a < 2 ^ 31) (hK : ∀ r : Nat, r < 2 → (r ≠ 0 ↔ a < 4) → K (some (.inr (nI r))) I P) : Fk d m_D_isEvent 77 77 0 0 [.inr x] I P K :=
  sp_isEvent (fun j hj e => hK 1 (by decide) ⟨fun _ => by have := q_e (hx.symm.trans e) ha (by omega); omega, fun _ => by decide⟩) (fun hn => hK 0 (by decide) ⟨fun z => absurd rfl z, fun z => absurd ⟨a, z, hx⟩ hn⟩)
theorem sp_isListN {d a : Nat} {x : Int32} {I : Fm} {P : Fr} {K : Option Fs → Fm → Fr → Prop} (hx : x = nI a) (ha : a < 2 ^ 31) (hK : ∀ r : Nat, r < 2 → (r ≠ 0 ↔ a < 2) → K (some (.inr (nI r))) I P) : Fk d m_D_isList 77 77 0 0 [.inr x] I P K :=
  sp_isList (fun j hj e => hK 1 (by decide) ⟨fun _ => by have := q_e (hx.symm.trans e) ha (by omega); omega, fun _ => by decide⟩) (fun hn => hK 0 (by decide) ⟨fun z => absurd rfl z, fun z => absurd ⟨a, z, hx⟩ hn⟩)
theorem sp_holdsN {d x : Nat} {y : Int32} {I : Fm} {P : Fr} {K : Option Fs → Fm → Fr → Prop} (hy : y = nI x) (hx : x < 256) (hK : ∀ r : Nat, r < 2 → (r ≠ 0 ↔ e_holds x = true) → K (some (.inr (nI r))) I P) : Fk d m_D_holdsCommand 77 77 0 0 [.inr y] I P K :=
  sp_holds hy hx (fun h => hK 1 (by decide) ⟨fun _ => h, fun _ => by decide⟩) (fun h => hK 0 (by decide) ⟨fun z => absurd rfl z, fun z => by rw [h] at z; cases z⟩)
theorem sp_mayStandN {d a c : Nat} {x y : Int32} {I : Fm} {P : Fr} {K : Option Fs → Fm → Fr → Prop} (hx : x = nI a) (hy : y = nI c) (ha : a < 256) (hc : c < 256) (hK : ∀ r : Nat, r < 2 → (r ≠ 0 ↔ (c ≠ 3 ∧ (a = 3 ∨ c ≠ 8))) → K (some (.inr (nI r))) I P) : Fk d m_D_mayStandInside 77 77 0 0 [.inr x, .inr y] I P K :=
  sp_mayStand hx hy ha hc (fun h => hK 1 (by decide) ⟨fun _ => h, fun _ => by decide⟩) (fun h => hK 0 (by decide) ⟨fun z => absurd rfl z, fun z => absurd z h⟩)
theorem sp_allowedN {d a : Nat} {x : Int32} {I : Fm} {P : Fr} {K : Option Fs → Fm → Fr → Prop} (hx : x = nI a) (ha : a < 256) (hK : ∀ r : Nat, r < 2 → (r ≠ 0 ↔ (a = 1 ∨ a = 2 ∨ a = 7 ∨ a = 11)) → K (some (.inr (nI r))) I P) : Fk d m_D_isAllowedWhenSafe 77 77 0 0 [.inr x] I P K :=
  sp_allowed hx ha (fun h => hK 1 (by decide) ⟨fun _ => h, fun _ => by decide⟩) (fun h => hK 0 (by decide) ⟨fun z => absurd rfl z, fun z => absurd z h⟩)
/-- the arguments of the command at s0, but for what is inside -/
def e_wr (c : List Nat) (s : Nat) : Prop := e_at c (s + 1) < 4 ∧ e_at c (s + 2) < 8 ∧ e_sgn (e_at c (s + 3)) ≤ e_sgn (e_at c (s + 4)) ∧ 1 ≤ e_at c (s + 5) ∧ e_at c (s + 5) ≤ 3 ∧ e_at c (s + 6) < 4
def e_ar (c : List Nat) (s : Nat) : Prop := match e_at c s with
  | 2 => e_at c (s + 1) < 8
  | 4 => e_at c (s + 1) < 3
  | 6 => e_wr c s
  | 7 => e_at c (s + 1) < 4
  | 8 => e_at c (s + 1) < 4
  | 9 => e_at c (s + 1) < 4
  | 10 => e_at c (s + 1) < 2
  | 11 => e_at c (s + 1) < 2
  | _ => True
set_option maxRecDepth 100000 in
set_option maxHeartbeats 4000000 in
theorem sp_watchIR {d k s : Nat} {c : List Nat} {I : Fm} {P : Fr} {K : Option Fs → Fm → Fr → Prop} (hk : isCm k) (hP : x_ref P) (hc : x_cmd I k c) (hs : s < 100) (hK : ∀ r : Nat, r < 2 → (r ≠ 0 ↔ e_wr c s) → K (some (.inr (nI r))) I P) : Fk (d + 1) m_D_watchInRange 77 77 0 0 [rf (k + 1), .inr (nI s)] I P K := by
  refine Fk.intro (by decide +kernel) (Nat.le_of_ble_eq_true rfl) (fun G hC => ?_)
  refine Zv.aload_n hC d_D_watchInRange_0 rfl ?_
  refine Zv.iload_n hC d_D_watchInRange_1 rfl ?_
  refine Zv.iconst hC d_D_watchInRange_2 ic_3 ?_
  first | refine Zv.iaddN hC d_D_watchInRange_3 ?_ | refine Zv.iadd hC d_D_watchInRange_3 ?_
  refine Zv.callV1 hC d_D_watchInRange_4 ml_D_190 mk_Cm_part rfl (Nat.le_of_ble_eq_true rfl) hk.1 (by have := hk.2.2.1; omega) ?_
  refine sp_part hk hP hc rfl (by omega) ?_
  refine Zv.callS1 hC d_D_watchInRange_7 ml_D_213 mk_D_signed (Nat.le_of_ble_eq_true rfl) ?_
  refine sp_signed rfl (e_at_lt hc.2.2.2 _) ?_
  refine Zv.istore_n hC d_D_watchInRange_10 (by decide) rfl ?_
  refine Zv.aload_n hC d_D_watchInRange_11 rfl ?_
  refine Zv.iload_n hC d_D_watchInRange_12 rfl ?_
  refine Zv.iconst hC d_D_watchInRange_13 ic_4 ?_
  first | refine Zv.iaddN hC d_D_watchInRange_14 ?_ | refine Zv.iadd hC d_D_watchInRange_14 ?_
  refine Zv.callV1 hC d_D_watchInRange_15 ml_D_190 mk_Cm_part rfl (Nat.le_of_ble_eq_true rfl) hk.1 (by have := hk.2.2.1; omega) ?_
  refine sp_part hk hP hc rfl (by omega) ?_
  refine Zv.callS1 hC d_D_watchInRange_18 ml_D_213 mk_D_signed (Nat.le_of_ble_eq_true rfl) ?_
  refine sp_signed rfl (e_at_lt hc.2.2.2 _) ?_
  refine Zv.istore_n hC d_D_watchInRange_21 (by decide) rfl ?_
  refine Zv.aload_n hC d_D_watchInRange_22 rfl ?_
  refine Zv.iload_n hC d_D_watchInRange_23 rfl ?_
  refine Zv.iconst hC d_D_watchInRange_24 ic_5 ?_
  first | refine Zv.iaddN hC d_D_watchInRange_25 ?_ | refine Zv.iadd hC d_D_watchInRange_25 ?_
  refine Zv.callV1 hC d_D_watchInRange_26 ml_D_190 mk_Cm_part rfl (Nat.le_of_ble_eq_true rfl) hk.1 (by have := hk.2.2.1; omega) ?_
  refine sp_part hk hP hc rfl (by omega) ?_
  refine Zv.istore hC d_D_watchInRange_29 (by decide) rfl ?_
  refine Zv.aload_n hC d_D_watchInRange_31 rfl ?_
  refine Zv.iload_n hC d_D_watchInRange_32 rfl ?_
  refine Zv.iconst hC d_D_watchInRange_33 ic_1 ?_
  first | refine Zv.iaddN hC d_D_watchInRange_34 ?_ | refine Zv.iadd hC d_D_watchInRange_34 ?_
  refine Zv.callV1 hC d_D_watchInRange_35 ml_D_190 mk_Cm_part rfl (Nat.le_of_ble_eq_true rfl) hk.1 (by have := hk.2.2.1; omega) ?_
  refine sp_part hk hP hc rfl (by omega) ?_
  refine Zv.callS1 hC d_D_watchInRange_38 ml_D_137 mk_D_isWatch (Nat.le_of_ble_eq_true rfl) ?_
  refine sp_isWatchN rfl (by have := e_at_lt hc.2.2.2 (s + 1); omega) (fun r38 hr38 he38 => ?_)
  refine Zv.if_eq (tgt := 92) hC d_D_watchInRange_41 (by decide) (fun h41 => ?_) (fun h41 => ?_)
  · try have g41 := q_e0 h41 (by omega)
    refine Zv.iconst hC d_D_watchInRange_92 ic_0 ?_
    refine Zv.zret hC rfl d_D_watchInRange_93 rfl (Nat.le_refl _) (Nat.le_refl _) ?_
    exact hK 0 (by decide) ⟨fun z => absurd rfl z, fun z => absurd (he38.mpr z.1) (by omega)⟩
  · try have g41 := q_n0 h41
    refine Zv.aload_n hC d_D_watchInRange_44 rfl ?_
    refine Zv.iload_n hC d_D_watchInRange_45 rfl ?_
    refine Zv.iconst hC d_D_watchInRange_46 ic_2 ?_
    first | refine Zv.iaddN hC d_D_watchInRange_47 ?_ | refine Zv.iadd hC d_D_watchInRange_47 ?_
    refine Zv.callV1 hC d_D_watchInRange_48 ml_D_190 mk_Cm_part rfl (Nat.le_of_ble_eq_true rfl) hk.1 (by have := hk.2.2.1; omega) ?_
    refine sp_part hk hP hc rfl (by omega) ?_
    refine Zv.callS1 hC d_D_watchInRange_51 ml_D_122 mk_D_isParameter (Nat.le_of_ble_eq_true rfl) ?_
    refine sp_isParameterN rfl (by have := e_at_lt hc.2.2.2 (s + 2); omega) (fun r51 hr51 he51 => ?_)
    refine Zv.if_eq (tgt := 92) hC d_D_watchInRange_54 (by decide) (fun h54 => ?_) (fun h54 => ?_)
    · try have g54 := q_e0 h54 (by omega)
      refine Zv.iconst hC d_D_watchInRange_92 ic_0 ?_
      refine Zv.zret hC rfl d_D_watchInRange_93 rfl (Nat.le_refl _) (Nat.le_refl _) ?_
      exact hK 0 (by decide) ⟨fun z => absurd rfl z, fun z => absurd (he51.mpr z.2.1) (by omega)⟩
    · try have g54 := q_n0 h54
      refine Zv.iload_n hC d_D_watchInRange_57 rfl ?_
      refine Zv.iload_n hC d_D_watchInRange_58 rfl ?_
      refine Zv.icmp_lt (tgt := 92) hC d_D_watchInRange_59 (by decide) (fun h59 => ?_) (fun h59 => ?_)
      · skip
        refine Zv.iconst hC d_D_watchInRange_92 ic_0 ?_
        refine Zv.zret hC rfl d_D_watchInRange_93 rfl (Nat.le_refl _) (Nat.le_refl _) ?_
        exact hK 0 (by decide) ⟨fun z => absurd rfl z, fun z => absurd h59 (Int32.not_lt.mpr z.2.2.1)⟩
      · skip
        have hb5 := e_at_lt hc.2.2.2 (s + 5)
        refine Zv.iload hC d_D_watchInRange_62 rfl ?_
        refine Zv.iconst hC d_D_watchInRange_64 ic_1 ?_
        refine Zv.icmp_lt (tgt := 92) hC d_D_watchInRange_65 (by decide) (fun h65 => ?_) (fun h65 => ?_)
        · try have g65 := q_l h65 (by omega) (by omega)
          refine Zv.iconst hC d_D_watchInRange_92 ic_0 ?_
          refine Zv.zret hC rfl d_D_watchInRange_93 rfl (Nat.le_refl _) (Nat.le_refl _) ?_
          exact hK 0 (by decide) ⟨fun z => absurd rfl z, fun z => absurd z.2.2.2.1 (by omega)⟩
        · try have g65 := q_nl h65 (by omega) (by omega)
          refine Zv.iload hC d_D_watchInRange_68 rfl ?_
          refine Zv.iconst hC d_D_watchInRange_70 ic_3 ?_
          refine Zv.icmp_gt (tgt := 92) hC d_D_watchInRange_71 (by decide) (fun h71 => ?_) (fun h71 => ?_)
          · try have g71 := q_l h71 (by omega) (by omega)
            refine Zv.iconst hC d_D_watchInRange_92 ic_0 ?_
            refine Zv.zret hC rfl d_D_watchInRange_93 rfl (Nat.le_refl _) (Nat.le_refl _) ?_
            exact hK 0 (by decide) ⟨fun z => absurd rfl z, fun z => absurd z.2.2.2.2.1 (by omega)⟩
          · try have g71 := q_nl h71 (by omega) (by omega)
            refine Zv.aload_n hC d_D_watchInRange_74 rfl ?_
            refine Zv.iload_n hC d_D_watchInRange_75 rfl ?_
            refine Zv.bipush hC d_D_watchInRange_76 bp_6 ?_
            first | refine Zv.iaddN hC d_D_watchInRange_78 ?_ | refine Zv.iadd hC d_D_watchInRange_78 ?_
            refine Zv.callV1 hC d_D_watchInRange_79 ml_D_190 mk_Cm_part rfl (Nat.le_of_ble_eq_true rfl) hk.1 (by have := hk.2.2.1; omega) ?_
            refine sp_part hk hP hc rfl (by omega) ?_
            refine Zv.callS1 hC d_D_watchInRange_82 ml_D_143 mk_D_isEvent (Nat.le_of_ble_eq_true rfl) ?_
            refine sp_isEventN rfl (by have := e_at_lt hc.2.2.2 (s + 6); omega) (fun r82 hr82 he82 => ?_)
            refine Zv.if_eq (tgt := 92) hC d_D_watchInRange_85 (by decide) (fun h85 => ?_) (fun h85 => ?_)
            · try have g85 := q_e0 h85 (by omega)
              refine Zv.iconst hC d_D_watchInRange_92 ic_0 ?_
              refine Zv.zret hC rfl d_D_watchInRange_93 rfl (Nat.le_refl _) (Nat.le_refl _) ?_
              exact hK 0 (by decide) ⟨fun z => absurd rfl z, fun z => absurd (he82.mpr z.2.2.2.2.2) (by omega)⟩
            · try have g85 := q_n0 h85
              refine Zv.iconst hC d_D_watchInRange_88 ic_1 ?_
              refine Zv.goto (tgt := 93) hC d_D_watchInRange_89 (by decide) ?_
              refine Zv.zret hC rfl d_D_watchInRange_93 rfl (Nat.le_refl _) (Nat.le_refl _) ?_
              exact hK 1 (by decide) ⟨fun _ => ⟨he38.mp g41, he51.mp g54, Int32.not_lt.mp h59, by omega, by omega, he82.mp g85⟩, fun _ => by decide⟩
set_option maxRecDepth 100000 in
set_option maxHeartbeats 4000000 in
theorem sp_argsIR {d k s : Nat} {c : List Nat} {I : Fm} {P : Fr} {K : Option Fs → Fm → Fr → Prop} (hk : isCm k) (hP : x_ref P) (hc : x_cmd I k c) (hs : s < 100) (hsv : e_at c s = 1 ∨ e_at c s = 2 ∨ e_at c s = 3 ∨ e_at c s = 4 ∨ e_at c s = 5 ∨ e_at c s = 6 ∨ e_at c s = 7 ∨ e_at c s = 8 ∨ e_at c s = 9 ∨ e_at c s = 10 ∨ e_at c s = 11) (hK : ∀ r : Nat, r < 2 → (r ≠ 0 ↔ e_ar c s) → K (some (.inr (nI r))) I P) : Fk (d + 2) m_D_argumentsInRange 77 77 0 0 [rf (k + 1), .inr (nI s)] I P K := by
  refine Fk.intro (by decide +kernel) (Nat.le_of_ble_eq_true rfl) (fun G hC => ?_)
  refine Zv.aload_n hC d_D_argumentsInRange_0 rfl ?_
  refine Zv.iload_n hC d_D_argumentsInRange_1 rfl ?_
  refine Zv.iconst hC d_D_argumentsInRange_2 ic_1 ?_
  first | refine Zv.iaddN hC d_D_argumentsInRange_3 ?_ | refine Zv.iadd hC d_D_argumentsInRange_3 ?_
  refine Zv.callV1 hC d_D_argumentsInRange_4 ml_D_190 mk_Cm_part rfl (Nat.le_of_ble_eq_true rfl) hk.1 (by have := hk.2.2.1; omega) ?_
  refine sp_part hk hP hc rfl (by omega) ?_
  refine Zv.istore_n hC d_D_argumentsInRange_7 (by decide) rfl ?_
  have hb1 := e_at_lt hc.2.2.2 (s + 1)
  refine Zv.aload_n hC d_D_argumentsInRange_8 rfl ?_
  refine Zv.iload_n hC d_D_argumentsInRange_9 rfl ?_
  refine Zv.callV1 hC d_D_argumentsInRange_10 ml_D_190 mk_Cm_part rfl (Nat.le_of_ble_eq_true rfl) hk.1 (by have := hk.2.2.1; omega) ?_
  refine sp_part hk hP hc rfl (by omega) ?_
  rcases hsv with e | e | e | e | e | e | e | e | e | e | e
  · refine Zv.top (show _ = nI 1 by rw [e]) ?_
    refine Zv.tabOut (tgt := 121) hC d_D_argumentsInRange_13 (by decide) (by decide) ?_
    unfold e_ar at hK
    rw [e] at hK
    refine Zv.iconst hC d_D_argumentsInRange_121 ic_1 ?_
    refine Zv.zret hC rfl d_D_argumentsInRange_122 rfl (Nat.le_refl _) (Nat.le_refl _) ?_
    exact hK 1 (by decide) ⟨fun _ => trivial, fun _ => by decide⟩
  · refine Zv.top (show _ = nI 2 by rw [e]) ?_
    refine Zv.tabIn (tgt := 68) hC d_D_argumentsInRange_13 (by decide) (by decide) rfl (by decide) ?_
    unfold e_ar at hK
    rw [e] at hK
    refine Zv.iload_n hC d_D_argumentsInRange_68 rfl ?_
    refine Zv.callS1 hC d_D_argumentsInRange_69 ml_D_122 mk_D_isParameter (Nat.le_of_ble_eq_true rfl) ?_
    refine sp_isParameterN rfl (by have := e_at_lt hc.2.2.2 (s + 1); omega) (fun r hr he => ?_)
    refine Zv.zret hC rfl d_D_argumentsInRange_72 (nb_2 (by omega)) (Nat.le_refl _) (Nat.le_refl _) ?_
    exact hK r hr he
  · refine Zv.top (show _ = nI 3 by rw [e]) ?_
    refine Zv.tabIn (tgt := 121) hC d_D_argumentsInRange_13 (by decide) (by decide) rfl (by decide) ?_
    unfold e_ar at hK
    rw [e] at hK
    refine Zv.iconst hC d_D_argumentsInRange_121 ic_1 ?_
    refine Zv.zret hC rfl d_D_argumentsInRange_122 rfl (Nat.le_refl _) (Nat.le_refl _) ?_
    exact hK 1 (by decide) ⟨fun _ => trivial, fun _ => by decide⟩
  · refine Zv.top (show _ = nI 4 by rw [e]) ?_
    refine Zv.tabIn (tgt := 73) hC d_D_argumentsInRange_13 (by decide) (by decide) rfl (by decide) ?_
    unfold e_ar at hK
    rw [e] at hK
    refine Zv.iload_n hC d_D_argumentsInRange_73 rfl ?_
    refine Zv.iconst hC d_D_argumentsInRange_74 ic_3 ?_
    refine Zv.icmp_ge (tgt := 82) hC d_D_argumentsInRange_75 (by decide) (fun h75 => ?_) (fun h75 => ?_)
    · try have g75 := q_le h75 (by omega) (by omega)
      refine Zv.iconst hC d_D_argumentsInRange_82 ic_0 ?_
      refine Zv.zret hC rfl d_D_argumentsInRange_83 rfl (Nat.le_refl _) (Nat.le_refl _) ?_
      exact hK 0 (by decide) ⟨fun z => absurd rfl z, fun z => absurd z (show ¬ e_at c (s + 1) < 3 by omega)⟩
    · try have g75 := q_nle h75 (by omega) (by omega)
      refine Zv.iconst hC d_D_argumentsInRange_78 ic_1 ?_
      refine Zv.goto (tgt := 83) hC d_D_argumentsInRange_79 (by decide) ?_
      refine Zv.zret hC rfl d_D_argumentsInRange_83 rfl (Nat.le_refl _) (Nat.le_refl _) ?_
      exact hK 1 (by decide) ⟨fun _ => by omega, fun _ => by decide⟩
  · refine Zv.top (show _ = nI 5 by rw [e]) ?_
    refine Zv.tabIn (tgt := 121) hC d_D_argumentsInRange_13 (by decide) (by decide) rfl (by decide) ?_
    unfold e_ar at hK
    rw [e] at hK
    refine Zv.iconst hC d_D_argumentsInRange_121 ic_1 ?_
    refine Zv.zret hC rfl d_D_argumentsInRange_122 rfl (Nat.le_refl _) (Nat.le_refl _) ?_
    exact hK 1 (by decide) ⟨fun _ => trivial, fun _ => by decide⟩
  · refine Zv.top (show _ = nI 6 by rw [e]) ?_
    refine Zv.tabIn (tgt := 84) hC d_D_argumentsInRange_13 (by decide) (by decide) rfl (by decide) ?_
    unfold e_ar at hK
    rw [e] at hK
    refine Zv.aload_n hC d_D_argumentsInRange_84 rfl ?_
    refine Zv.iload_n hC d_D_argumentsInRange_85 rfl ?_
    refine Zv.callS2 hC d_D_argumentsInRange_86 ml_D_207 mk_D_watchInRange (Nat.le_of_ble_eq_true rfl) ?_
    refine sp_watchIR hk hP hc hs (fun r hr he => ?_)
    refine Zv.zret hC rfl d_D_argumentsInRange_89 (nb_2 (by omega)) (Nat.le_refl _) (Nat.le_refl _) ?_
    exact hK r hr he
  · refine Zv.top (show _ = nI 7 by rw [e]) ?_
    refine Zv.tabIn (tgt := 90) hC d_D_argumentsInRange_13 (by decide) (by decide) rfl (by decide) ?_
    unfold e_ar at hK
    rw [e] at hK
    refine Zv.iload_n hC d_D_argumentsInRange_90 rfl ?_
    refine Zv.callS1 hC d_D_argumentsInRange_91 ml_D_137 mk_D_isWatch (Nat.le_of_ble_eq_true rfl) ?_
    refine sp_isWatchN rfl (by have := e_at_lt hc.2.2.2 (s + 1); omega) (fun r hr he => ?_)
    refine Zv.zret hC rfl d_D_argumentsInRange_94 (nb_2 (by omega)) (Nat.le_refl _) (Nat.le_refl _) ?_
    exact hK r hr he
  · refine Zv.top (show _ = nI 8 by rw [e]) ?_
    refine Zv.tabIn (tgt := 95) hC d_D_argumentsInRange_13 (by decide) (by decide) rfl (by decide) ?_
    unfold e_ar at hK
    rw [e] at hK
    refine Zv.iload_n hC d_D_argumentsInRange_95 rfl ?_
    refine Zv.callS1 hC d_D_argumentsInRange_96 ml_D_143 mk_D_isEvent (Nat.le_of_ble_eq_true rfl) ?_
    refine sp_isEventN rfl (by have := e_at_lt hc.2.2.2 (s + 1); omega) (fun r hr he => ?_)
    refine Zv.zret hC rfl d_D_argumentsInRange_99 (nb_2 (by omega)) (Nat.le_refl _) (Nat.le_refl _) ?_
    exact hK r hr he
  · refine Zv.top (show _ = nI 9 by rw [e]) ?_
    refine Zv.tabIn (tgt := 100) hC d_D_argumentsInRange_13 (by decide) (by decide) rfl (by decide) ?_
    unfold e_ar at hK
    rw [e] at hK
    refine Zv.iload_n hC d_D_argumentsInRange_100 rfl ?_
    refine Zv.callS1 hC d_D_argumentsInRange_101 ml_D_143 mk_D_isEvent (Nat.le_of_ble_eq_true rfl) ?_
    refine sp_isEventN rfl (by have := e_at_lt hc.2.2.2 (s + 1); omega) (fun r hr he => ?_)
    refine Zv.zret hC rfl d_D_argumentsInRange_104 (nb_2 (by omega)) (Nat.le_refl _) (Nat.le_refl _) ?_
    exact hK r hr he
  · refine Zv.top (show _ = nI 10 by rw [e]) ?_
    refine Zv.tabIn (tgt := 105) hC d_D_argumentsInRange_13 (by decide) (by decide) rfl (by decide) ?_
    unfold e_ar at hK
    rw [e] at hK
    refine Zv.iload_n hC d_D_argumentsInRange_105 rfl ?_
    refine Zv.callS1 hC d_D_argumentsInRange_106 ml_D_210 mk_D_isList (Nat.le_of_ble_eq_true rfl) ?_
    refine sp_isListN rfl (by have := e_at_lt hc.2.2.2 (s + 1); omega) (fun r hr he => ?_)
    refine Zv.zret hC rfl d_D_argumentsInRange_109 (nb_2 (by omega)) (Nat.le_refl _) (Nat.le_refl _) ?_
    exact hK r hr he
  · refine Zv.top (show _ = nI 11 by rw [e]) ?_
    refine Zv.tabIn (tgt := 110) hC d_D_argumentsInRange_13 (by decide) (by decide) rfl (by decide) ?_
    unfold e_ar at hK
    rw [e] at hK
    refine Zv.iload_n hC d_D_argumentsInRange_110 rfl ?_
    refine Zv.iconst hC d_D_argumentsInRange_111 ic_2 ?_
    refine Zv.icmp_ge (tgt := 119) hC d_D_argumentsInRange_112 (by decide) (fun h112 => ?_) (fun h112 => ?_)
    · try have g112 := q_le h112 (by omega) (by omega)
      refine Zv.iconst hC d_D_argumentsInRange_119 ic_0 ?_
      refine Zv.zret hC rfl d_D_argumentsInRange_120 rfl (Nat.le_refl _) (Nat.le_refl _) ?_
      exact hK 0 (by decide) ⟨fun z => absurd rfl z, fun z => absurd z (show ¬ e_at c (s + 1) < 2 by omega)⟩
    · try have g112 := q_nle h112 (by omega) (by omega)
      refine Zv.iconst hC d_D_argumentsInRange_115 ic_1 ?_
      refine Zv.goto (tgt := 120) hC d_D_argumentsInRange_116 (by decide) ?_
      refine Zv.zret hC rfl d_D_argumentsInRange_120 rfl (Nat.le_refl _) (Nat.le_refl _) ?_
      exact hK 1 (by decide) ⟨fun _ => by omega, fun _ => by decide⟩
theorem e_one_unk {c : List Nat} (h : e_at c 0 < 1 ∨ 11 < e_at c 0) : e_one c = 1 := if_pos h
theorem e_one_num {c : List Nat} (h : ¬ (e_at c 0 < 1 ∨ 11 < e_at c 0)) (h2 : if e_holds (e_at c 0) = true then c.length - 1 ≤ e_want (e_at c 0) else c.length - 1 ≠ e_want (e_at c 0)) : e_one c = 2 := by
  unfold e_one
  rw [if_neg h, if_pos h2]
theorem e_one_rng {c : List Nat} (h : ¬ (e_at c 0 < 1 ∨ 11 < e_at c 0)) (h2 : ¬ if e_holds (e_at c 0) = true then c.length - 1 ≤ e_want (e_at c 0) else c.length - 1 ≠ e_want (e_at c 0)) (h3 : e_rng c = false) : e_one c = 3 := by
  unfold e_one
  rw [if_neg h, if_neg h2, if_pos h3]
theorem e_one_ok {c : List Nat} (h : ¬ (e_at c 0 < 1 ∨ 11 < e_at c 0)) (h2 : ¬ if e_holds (e_at c 0) = true then c.length - 1 ≤ e_want (e_at c 0) else c.length - 1 ≠ e_want (e_at c 0)) (h3 : e_rng c = true) : e_one c = 0 := by
  unfold e_one
  rw [if_neg h, if_neg h2, if_neg (by rw [h3]; decide)]
/-- the ranges, with what may be inside -/
theorem e_rng_iff {c : List Nat} {s : Nat} (hsv : e_at c s = 1 ∨ e_at c s = 2 ∨ e_at c s = 3 ∨ e_at c s = 4 ∨ e_at c s = 5 ∨ e_at c s = 6 ∨ e_at c s = 7 ∨ e_at c s = 8 ∨ e_at c s = 9 ∨ e_at c s = 10 ∨ e_at c s = 11) : e_rng (c.drop s) = true ↔ (e_ar c s ∧ (e_at c s = 3 → e_at c (s + 3) ≠ 3) ∧ (e_at c s = 8 → e_at c (s + 2) ≠ 3 ∧ e_at c (s + 2) ≠ 8)) := by
  unfold e_rng e_ar e_wr
  simp only [e_at_drop, Nat.add_zero]
  rcases hsv with e | e | e | e | e | e | e | e | e | e | e <;> simp [e]
theorem e_holds_iff {s : Nat} : e_holds s = true ↔ (s = 3 ∨ s = 8) := by simp [e_holds]
abbrev e_sv (c : List Nat) (s : Nat) : Prop := e_at c s = 1 ∨ e_at c s = 2 ∨ e_at c s = 3 ∨ e_at c s = 4 ∨ e_at c s = 5 ∨ e_at c s = 6 ∨ e_at c s = 7 ∨ e_at c s = 8 ∨ e_at c s = 9 ∨ e_at c s = 10 ∨ e_at c s = 11
theorem rng_ok1 {c : List Nat} {s : Nat} (hsv : e_sv c s) (ha : e_ar c s) (hh : ¬ e_holds (e_at c s) = true) : e_rng (c.drop s) = true := by
  rw [e_holds_iff] at hh
  exact (e_rng_iff hsv).mpr ⟨ha, fun z => absurd (Or.inl z) hh, fun z => absurd (Or.inr z) hh⟩
theorem rng_ok2 {c : List Nat} {s : Nat} (hsv : e_sv c s) (ha : e_ar c s) (hm : e_at c (s + if e_at c s = 3 then 3 else 2) ≠ 3 ∧ (e_at c s = 3 ∨ e_at c (s + if e_at c s = 3 then 3 else 2) ≠ 8)) : e_rng (c.drop s) = true := by
  refine (e_rng_iff hsv).mpr ⟨ha, fun z => ?_, fun z => ?_⟩
  · rw [if_pos z] at hm; exact hm.1
  · rw [if_neg (by omega)] at hm
    exact ⟨hm.1, by rcases hm.2 with h | h; omega; exact h⟩
theorem rng_no1 {c : List Nat} {s : Nat} (hsv : e_sv c s) (ha : ¬ e_ar c s) : e_rng (c.drop s) = false := by
  cases h : e_rng (c.drop s) with
  | false => rfl
  | true => exact absurd ((e_rng_iff hsv).mp h).1 ha
theorem rng_no2 {c : List Nat} {s : Nat} (hsv : e_sv c s) (hh : e_holds (e_at c s) = true) (hm : ¬ (e_at c (s + if e_at c s = 3 then 3 else 2) ≠ 3 ∧ (e_at c s = 3 ∨ e_at c (s + if e_at c s = 3 then 3 else 2) ≠ 8))) : e_rng (c.drop s) = false := by
  cases h : e_rng (c.drop s) with
  | false => rfl
  | true =>
    obtain ⟨-, h1, h2⟩ := (e_rng_iff hsv).mp h
    exfalso
    apply hm
    rcases e_holds_iff.mp hh with e | e
    · rw [if_pos e]; exact ⟨h1 e, Or.inl e⟩
    · rw [if_neg (by omega)]; exact ⟨(h2 e).1, Or.inr (h2 e).2⟩
/-- the number of arguments is wrong -/
abbrev e_nw (c : List Nat) : Prop := if e_holds (e_at c 0) = true then c.length - 1 ≤ e_want (e_at c 0) else c.length - 1 ≠ e_want (e_at c 0)
set_option maxRecDepth 100000 in
set_option maxHeartbeats 4000000 in
theorem lp_bw {G : Fx} {d k s r : Nat} {c : List Nat} {x3 x4 : Int32} {I : Fm} {P : Fr} {K : Option Fs → Fm → Fr → Prop} (hC : Fc G m_D_brokenCodeWithoutInside (d + 3) 0 0) (hk : isCm k) (hP : x_ref P) (hc : x_cmd I k c) (hs : s < 50) (hb0 : e_at c s < 256) (hu : ¬ (e_at (c.drop s) 0 < 1 ∨ 11 < e_at (c.drop s) 0)) (hsv : e_sv c s) (hr : r < 2) (he : r ≠ 0 ↔ ¬ e_nw (c.drop s)) (hK : K (some (.inr (nI (e_one (c.drop s))))) I P) : Zv G (f_R G K 77 0 0) 77 0 0 67 [(0, rf (k + 1)), (1, .inr (nI s)), (2, .inr (nI (e_at c s))), (3, .inr x3), (4, .inr x4)] [.inr (nI r)] I P := by
  have hs : s < 100 := by omega
  refine Zv.istore hC d_D_brokenCodeWithoutInside_67 (by decide) rfl ?_
  refine Zv.iload hC d_D_brokenCodeWithoutInside_69 rfl ?_
  refine Zv.if_ne (tgt := 76) hC d_D_brokenCodeWithoutInside_71 (by decide) (fun h71 => ?_) (fun h71 => ?_)
  · try have g71 := q_n0 h71
    refine Zv.aload_n hC d_D_brokenCodeWithoutInside_76 rfl ?_
    refine Zv.iload_n hC d_D_brokenCodeWithoutInside_77 rfl ?_
    refine Zv.callS2 hC d_D_brokenCodeWithoutInside_78 ml_D_200 mk_D_argumentsInRange (Nat.le_of_ble_eq_true rfl) ?_
    refine sp_argsIR hk hP hc hs hsv (fun r78 hr78 he78 => ?_)
    refine Zv.if_ne (tgt := 86) hC d_D_brokenCodeWithoutInside_81 (by decide) (fun h81 => ?_) (fun h81 => ?_)
    · try have g81 := q_n0 h81
      refine Zv.iload_n hC d_D_brokenCodeWithoutInside_86 rfl ?_
      refine Zv.callS1 hC d_D_brokenCodeWithoutInside_87 ml_D_193 mk_D_holdsCommand (Nat.le_of_ble_eq_true rfl) ?_
      refine sp_holdsN rfl hb0 (fun r87 hr87 he87 => ?_)
      refine Zv.if_eq (tgt := 112) hC d_D_brokenCodeWithoutInside_90 (by decide) (fun h90 => ?_) (fun h90 => ?_)
      · try have g90 := q_e0 h90 (by omega)
        refine Zv.iconst hC d_D_brokenCodeWithoutInside_112 ic_0 ?_
        refine Zv.iret hC rfl d_D_brokenCodeWithoutInside_113 (Nat.le_refl _) (Nat.le_refl _) ?_
        rw [e_one_ok hu (he.mp g71) (rng_ok1 hsv (he78.mp g81) (fun z => absurd (he87.mpr z) (by omega)))] at hK
        exact hK
      · try have g90 := q_n0 h90
        refine Zv.iload_n hC d_D_brokenCodeWithoutInside_93 rfl ?_
        refine Zv.aload_n hC d_D_brokenCodeWithoutInside_94 rfl ?_
        refine Zv.iload_n hC d_D_brokenCodeWithoutInside_95 rfl ?_
        refine Zv.iload_n hC d_D_brokenCodeWithoutInside_96 rfl ?_
        refine Zv.callS1 hC d_D_brokenCodeWithoutInside_97 ml_D_196 mk_D_insideOf (Nat.le_of_ble_eq_true rfl) ?_
        refine sp_insideOf rfl hb0 ?_
        first | refine Zv.iaddN hC d_D_brokenCodeWithoutInside_100 ?_ | refine Zv.iadd hC d_D_brokenCodeWithoutInside_100 ?_
        refine Zv.callV1 hC d_D_brokenCodeWithoutInside_101 ml_D_190 mk_Cm_part rfl (Nat.le_of_ble_eq_true rfl) hk.1 (by have := hk.2.2.1; omega) ?_
        refine sp_part hk hP hc rfl (by split <;> omega) ?_
        refine Zv.callS2 hC d_D_brokenCodeWithoutInside_104 ml_D_203 mk_D_mayStandInside (Nat.le_of_ble_eq_true rfl) ?_
        refine sp_mayStandN rfl rfl hb0 (e_at_lt hc.2.2.2 _) (fun r104 hr104 he104 => ?_)
        refine Zv.if_ne (tgt := 112) hC d_D_brokenCodeWithoutInside_107 (by decide) (fun h107 => ?_) (fun h107 => ?_)
        · try have g107 := q_n0 h107
          refine Zv.iconst hC d_D_brokenCodeWithoutInside_112 ic_0 ?_
          refine Zv.iret hC rfl d_D_brokenCodeWithoutInside_113 (Nat.le_refl _) (Nat.le_refl _) ?_
          rw [e_one_ok hu (he.mp g71) (rng_ok2 hsv (he78.mp g81) (he104.mp g107))] at hK
          exact hK
        · try have g107 := q_e0 h107 (by omega)
          refine Zv.iconst hC d_D_brokenCodeWithoutInside_110 ic_3 ?_
          refine Zv.iret hC rfl d_D_brokenCodeWithoutInside_111 (Nat.le_refl _) (Nat.le_refl _) ?_
          rw [e_one_rng hu (he.mp g71) (rng_no2 hsv (he87.mp g90) (fun z => absurd (he104.mpr z) (by omega)))] at hK
          exact hK
    · try have g81 := q_e0 h81 (by omega)
      refine Zv.iconst hC d_D_brokenCodeWithoutInside_84 ic_3 ?_
      refine Zv.iret hC rfl d_D_brokenCodeWithoutInside_85 (Nat.le_refl _) (Nat.le_refl _) ?_
      rw [e_one_rng hu (he.mp g71) (rng_no1 hsv (fun z => absurd (he78.mpr z) (by omega)))] at hK
      exact hK
  · try have g71 := q_e0 h71 (by omega)
    refine Zv.iconst hC d_D_brokenCodeWithoutInside_74 ic_2 ?_
    refine Zv.iret hC rfl d_D_brokenCodeWithoutInside_75 (Nat.le_refl _) (Nat.le_refl _) ?_
    rw [e_one_num hu (Classical.byContradiction fun z => absurd (he.mpr z) (by omega))] at hK
    exact hK
set_option maxRecDepth 100000 in
set_option maxHeartbeats 4000000 in
theorem sp_bw {d k s : Nat} {c : List Nat} {I : Fm} {P : Fr} {K : Option Fs → Fm → Fr → Prop} (hk : isCm k) (hP : x_ref P) (hc : x_cmd I k c) (hs : s < 50) (hK : K (some (.inr (nI (e_one (c.drop s))))) I P) : Fk (d + 3) m_D_brokenCodeWithoutInside 77 77 0 0 [rf (k + 1), .inr (nI s)] I P K := by
  refine Fk.intro (by decide +kernel) (Nat.le_of_ble_eq_true rfl) (fun G hC => ?_)
  refine Zv.aload_n hC d_D_brokenCodeWithoutInside_0 rfl ?_
  refine Zv.iload_n hC d_D_brokenCodeWithoutInside_1 rfl ?_
  refine Zv.callV1 hC d_D_brokenCodeWithoutInside_2 ml_D_190 mk_Cm_part rfl (Nat.le_of_ble_eq_true rfl) hk.1 (by have := hk.2.2.1; omega) ?_
  refine sp_part hk hP hc rfl (by omega) ?_
  refine Zv.istore_n hC d_D_brokenCodeWithoutInside_5 (by decide) rfl ?_
  have hb0 := e_at_lt hc.2.2.2 s
  have e0 : e_at (c.drop s) 0 = e_at c s := e_at_drop c s 0
  refine Zv.iload_n hC d_D_brokenCodeWithoutInside_6 rfl ?_
  refine Zv.iconst hC d_D_brokenCodeWithoutInside_7 ic_1 ?_
  refine Zv.icmp_lt (tgt := 17) hC d_D_brokenCodeWithoutInside_8 (by decide) (fun h8 => ?_) (fun h8 => ?_)
  · try have g8 := q_l h8 (by omega) (by omega)
    refine Zv.iconst hC d_D_brokenCodeWithoutInside_17 ic_1 ?_
    refine Zv.iret hC rfl d_D_brokenCodeWithoutInside_18 (Nat.le_refl _) (Nat.le_refl _) ?_
    rw [e_one_unk (by rw [e0]; omega)] at hK
    exact hK
  · try have g8 := q_nl h8 (by omega) (by omega)
    refine Zv.iload_n hC d_D_brokenCodeWithoutInside_11 rfl ?_
    refine Zv.bipush hC d_D_brokenCodeWithoutInside_12 bp_11 ?_
    refine Zv.icmp_le (tgt := 19) hC d_D_brokenCodeWithoutInside_14 (by decide) (fun h14 => ?_) (fun h14 => ?_)
    · try have g14 := q_le h14 (by omega) (by omega)
      have hu : ¬ (e_at (c.drop s) 0 < 1 ∨ 11 < e_at (c.drop s) 0) := by rw [e0]; omega
      have hsl : s < c.length := Nat.lt_of_not_le fun z => by rw [e_at_ge z] at g8; omega
      have hcl := hc.2.1
      have hsv : e_sv c s := by unfold e_sv; omega
      have hl : (c.drop s).length - 1 = c.length - s - 1 := by rw [List.length_drop]
      have hw2 : e_want (e_at c s) ≤ 6 := by rcases hsv with e | e | e | e | e | e | e | e | e | e | e <;> rw [e] <;> decide
      refine Zv.aload_n hC d_D_brokenCodeWithoutInside_19 rfl ?_
      refine Zv.geti hC d_D_brokenCodeWithoutInside_20 fl_D_199 rfl hk.1 (by have := hk.2.2.1; omega) hc.1 ?_
      refine Zv.iload_n hC d_D_brokenCodeWithoutInside_23 rfl ?_
      refine Zv.isubN hC d_D_brokenCodeWithoutInside_24 (by omega) ?_
      refine Zv.iconst hC d_D_brokenCodeWithoutInside_25 ic_1 ?_
      refine Zv.isubN hC d_D_brokenCodeWithoutInside_26 (by omega) ?_
      refine Zv.istore_n hC d_D_brokenCodeWithoutInside_27 (by decide) rfl ?_
      refine Zv.gst_iload_n hC d_D_brokenCodeWithoutInside_28 d_D_brokenCodeWithoutInside_31 d_D_brokenCodeWithoutInside_32 fs_D_165 rfl rfl (by show _ < 12; omega) ?_
      refine Zv.top (show _ = nI (e_want (e_at c s)) from rfl) ?_
      refine Zv.istore hC d_D_brokenCodeWithoutInside_33 (by decide) rfl ?_
      refine Zv.iload_n hC d_D_brokenCodeWithoutInside_35 rfl ?_
      refine Zv.callS1 hC d_D_brokenCodeWithoutInside_36 ml_D_193 mk_D_holdsCommand (Nat.le_of_ble_eq_true rfl) ?_
      refine sp_holdsN rfl hb0 (fun r36 hr36 he36 => ?_)
      refine Zv.if_eq (tgt := 56) hC d_D_brokenCodeWithoutInside_39 (by decide) (fun h39 => ?_) (fun h39 => ?_)
      · try have g39 := q_e0 h39 (by omega)
        refine Zv.iload_n hC d_D_brokenCodeWithoutInside_56 rfl ?_
        refine Zv.iload hC d_D_brokenCodeWithoutInside_57 rfl ?_
        refine Zv.icmp_ne (tgt := 66) hC d_D_brokenCodeWithoutInside_59 (by decide) (fun h59 => ?_) (fun h59 => ?_)
        · try have g59 := q_n h59
          refine Zv.iconst hC d_D_brokenCodeWithoutInside_66 ic_0 ?_
          exact lp_bw hC hk hP hc hs hb0 hu hsv (by decide) ⟨fun z => absurd rfl z, fun z => absurd (show e_nw (c.drop s) from by unfold e_nw; rw [e0, if_neg (fun z => absurd (he36.mpr z) (by omega)), hl]; omega) z⟩ hK
        · try have g59 := q_e h59 (by omega) (by omega)
          refine Zv.iconst hC d_D_brokenCodeWithoutInside_62 ic_1 ?_
          refine Zv.goto (tgt := 67) hC d_D_brokenCodeWithoutInside_63 (by decide) ?_
          exact lp_bw hC hk hP hc hs hb0 hu hsv (by decide) ⟨fun z => by unfold e_nw; rw [e0, if_neg (fun z => absurd (he36.mpr z) (by omega)), hl]; omega, fun z => by decide⟩ hK
      · try have g39 := q_n0 h39
        refine Zv.iload_n hC d_D_brokenCodeWithoutInside_42 rfl ?_
        refine Zv.iload hC d_D_brokenCodeWithoutInside_43 rfl ?_
        refine Zv.icmp_le (tgt := 52) hC d_D_brokenCodeWithoutInside_45 (by decide) (fun h45 => ?_) (fun h45 => ?_)
        · try have g45 := q_le h45 (by omega) (by omega)
          refine Zv.iconst hC d_D_brokenCodeWithoutInside_52 ic_0 ?_
          refine Zv.goto (tgt := 67) hC d_D_brokenCodeWithoutInside_53 (by decide) ?_
          exact lp_bw hC hk hP hc hs hb0 hu hsv (by decide) ⟨fun z => absurd rfl z, fun z => absurd (show e_nw (c.drop s) from by unfold e_nw; rw [e0, if_pos (he36.mp g39), hl]; omega) z⟩ hK
        · try have g45 := q_nle h45 (by omega) (by omega)
          refine Zv.iconst hC d_D_brokenCodeWithoutInside_48 ic_1 ?_
          refine Zv.goto (tgt := 67) hC d_D_brokenCodeWithoutInside_49 (by decide) ?_
          exact lp_bw hC hk hP hc hs hb0 hu hsv (by decide) ⟨fun z => by unfold e_nw; rw [e0, if_pos (he36.mp g39), hl]; omega, fun z => by decide⟩ hK
    · try have g14 := q_nle h14 (by omega) (by omega)
      refine Zv.iconst hC d_D_brokenCodeWithoutInside_17 ic_1 ?_
      refine Zv.iret hC rfl d_D_brokenCodeWithoutInside_18 (Nat.le_refl _) (Nat.le_refl _) ?_
      rw [e_one_unk (by rw [e0]; omega)] at hK
      exact hK
/-- f levels are enough for c -/
def e_okd : Nat → List Nat → Prop
  | 0, _ => False
  | f + 1, c => e_one c = 0 → e_holds (e_at c 0) = true → e_okd f (c.drop (e_want (e_at c 0) + 1))
theorem e_one_rng0 {c : List Nat} (h : e_one c = 0) : e_rng c = true := by
  by_cases h1 : (e_at c 0 < 1 ∨ 11 < e_at c 0)
  · rw [e_one_unk h1] at h; cases h
  · by_cases h2 : e_nw c
    · rw [e_one_num h1 h2] at h; cases h
    · cases hq : e_rng c with
      | true => rfl
      | false => rw [e_one_rng h1 h2 hq] at h; cases h
theorem e_one_le (c : List Nat) : e_one c ≤ 3 := by
  by_cases h1 : (e_at c 0 < 1 ∨ 11 < e_at c 0)
  · rw [e_one_unk h1]; decide
  · by_cases h2 : e_nw c
    · rw [e_one_num h1 h2]; decide
    · cases hq : e_rng c with
      | true => rw [e_one_ok h1 h2 hq]; decide
      | false => rw [e_one_rng h1 h2 hq]; decide
theorem e_okd3 (c : List Nat) : e_okd 3 c := by
  intro h1 hh1 h2 hh2 h3 hh3
  exfalso
  have r1 := e_one_rng0 h1
  have r2 := e_one_rng0 h2
  have r3 := e_holds_iff.mp hh3
  have r4 := e_holds_iff.mp hh2
  have r5 := e_holds_iff.mp hh1
  simp only [e_at_drop, Nat.add_zero] at r3 r4 r5
  unfold e_rng at r1 r2
  simp only [e_at_drop, Nat.add_zero] at r2
  rcases r5 with e | e
  · rw [e] at r1 r2 r3 r4
    have w3 : e_want 3 + 1 = 3 := rfl
    rw [w3] at r2 r3 r4
    simp only [decide_eq_true_eq] at r1
    rcases r4 with e2 | e2
    · exact r1 e2
    · rw [e2] at r2 r3
      have w8 : e_want 8 + 1 = 2 := rfl
      rw [w8] at r3
      simp only [decide_eq_true_eq] at r2
      omega
  · rw [e] at r1 r4
    have w8 : e_want 8 + 1 = 2 := rfl
    rw [w8] at r4
    simp only [decide_eq_true_eq] at r1
    omega
theorem e_in_want {s : Nat} (h : e_holds s = true) : (if s = 3 then 3 else 2) = e_want s + 1 := by
  rcases e_holds_iff.mp h with e | e <;> rw [e] <;> rfl
set_option maxRecDepth 100000 in
set_option maxHeartbeats 4000000 in
theorem lp_brk {G : Fx} {d k : Nat} {c : List Nat} {I : Fm} {P : Fr} {K : Option Fs → Fm → Fr → Prop} (hC : Fc G m_D_brokenCode (d + 4) 0 0) (hk : isCm k) (hP : x_ref P) (hc : x_cmd I k c) : ∀ (f s L : Nat), L + f = 3 → s + 3 * f ≤ 9 → e_okd f (c.drop s) → K (some (.inr (nI (e_brk f (c.drop s))))) I P → Zv G (f_R G K 77 0 0) 77 0 0 4 [(0, rf (k + 1)), (1, .inr (nI s)), (2, .inr (nI L))] [] I P := by
  intro f
  induction f with
  | zero => intro s L _ _ h; exact absurd h id
  | succ f ih =>
    intro s L hL hs9 hok hK
    have e0 : e_at (c.drop s) 0 = e_at c s := e_at_drop c s 0
    refine Zv.iload_n hC d_D_brokenCode_4 rfl ?_
    refine Zv.iconst hC d_D_brokenCode_5 ic_3 ?_
    refine Zv.icmp_ge (tgt := 49) hC d_D_brokenCode_6 (by decide) (fun h6 => ?_) (fun h6 => ?_)
    · try have g6 := q_le h6 (by omega) (by omega)
      exact absurd g6 (by omega)
    · try have g6 := q_nle h6 (by omega) (by omega)
      refine Zv.aload_n hC d_D_brokenCode_9 rfl ?_
      refine Zv.iload_n hC d_D_brokenCode_10 rfl ?_
      refine Zv.callS2 hC d_D_brokenCode_11 ml_D_186 mk_D_brokenCodeWithoutInside (Nat.le_of_ble_eq_true rfl) ?_
      refine sp_bw hk hP hc (by omega) ?_
      refine Zv.istore_n hC d_D_brokenCode_14 (by decide) rfl ?_
      have h1le := e_one_le (c.drop s)
      refine Zv.iload_n hC d_D_brokenCode_15 rfl ?_
      refine Zv.if_ne (tgt := 30) hC d_D_brokenCode_16 (by decide) (fun h16 => ?_) (fun h16 => ?_)
      · try have g16 := q_n0 h16
        refine Zv.iload_n hC d_D_brokenCode_30 rfl ?_
        refine Zv.iret hC rfl d_D_brokenCode_31 (Nat.le_refl _) (Nat.le_refl _) ?_
        rw [show e_brk (f + 1) (c.drop s) = e_one (c.drop s) from if_pos g16] at hK
        exact hK
      · try have g16 := q_e0 h16 (by omega)
        refine Zv.aload_n hC d_D_brokenCode_19 rfl ?_
        refine Zv.iload_n hC d_D_brokenCode_20 rfl ?_
        refine Zv.callV1 hC d_D_brokenCode_21 ml_D_190 mk_Cm_part rfl (Nat.le_of_ble_eq_true rfl) hk.1 (by have := hk.2.2.1; omega) ?_
        refine sp_part hk hP hc rfl (by omega) ?_
        refine Zv.callS1 hC d_D_brokenCode_24 ml_D_193 mk_D_holdsCommand (Nat.le_of_ble_eq_true rfl) ?_
        refine sp_holdsN rfl (e_at_lt hc.2.2.2 _) (fun r24 hr24 he24 => ?_)
        refine Zv.if_ne (tgt := 32) hC d_D_brokenCode_27 (by decide) (fun h27 => ?_) (fun h27 => ?_)
        · try have g27 := q_n0 h27
          refine Zv.iload_n hC d_D_brokenCode_32 rfl ?_
          refine Zv.aload_n hC d_D_brokenCode_33 rfl ?_
          refine Zv.iload_n hC d_D_brokenCode_34 rfl ?_
          refine Zv.callV1 hC d_D_brokenCode_35 ml_D_190 mk_Cm_part rfl (Nat.le_of_ble_eq_true rfl) hk.1 (by have := hk.2.2.1; omega) ?_
          refine sp_part hk hP hc rfl (by omega) ?_
          refine Zv.callS1 hC d_D_brokenCode_38 ml_D_196 mk_D_insideOf (Nat.le_of_ble_eq_true rfl) ?_
          refine sp_insideOf rfl (e_at_lt hc.2.2.2 _) ?_
          first | refine Zv.iaddN hC d_D_brokenCode_41 ?_ | refine Zv.iadd hC d_D_brokenCode_41 ?_
          refine Zv.istore_n hC d_D_brokenCode_42 (by decide) rfl ?_
          refine Zv.iinc hC d_D_brokenCode_43 rfl (by decide) (q_inc _) rfl ?_
          refine Zv.goto (tgt := 4) hC d_D_brokenCode_46 (by decide) ?_
          refine Zv.take 3 ?_
          have hh := he24.mp g27
          have e1 : s + (if e_at c s = 3 then 3 else 2) = s + (e_want (e_at c s) + 1) := by rw [e_in_want hh]
          have hd : c.drop (s + (if e_at c s = 3 then 3 else 2)) = (c.drop s).drop (e_want (e_at (c.drop s) 0) + 1) := by rw [List.drop_drop, e0, e1]
          refine ih _ (L + 1) (by omega) (by split <;> omega) ?_ ?_
          · rw [hd]; exact hok g16 (by rw [e0]; exact hh)
          · rw [hd]
            rw [show e_brk (f + 1) (c.drop s) = e_brk f ((c.drop s).drop (e_want (e_at (c.drop s) 0) + 1)) from by rw [e_brk, if_neg (by omega), if_pos (by rw [e0]; exact hh)]] at hK
            exact hK
        · try have g27 := q_e0 h27 (by omega)
          refine Zv.iload_n hC d_D_brokenCode_30 rfl ?_
          refine Zv.iret hC rfl d_D_brokenCode_31 (Nat.le_refl _) (Nat.le_refl _) ?_
          rw [show e_brk (f + 1) (c.drop s) = 0 from by unfold e_brk; rw [if_neg (by omega), if_neg (by rw [e0]; exact fun z => absurd (he24.mpr z) (by omega))]] at hK
          rw [g16]
          exact hK
set_option maxRecDepth 100000 in
set_option maxHeartbeats 4000000 in
theorem sp_brokenCode {d k : Nat} {c : List Nat} {I : Fm} {P : Fr} {K : Option Fs → Fm → Fr → Prop} (hk : isCm k) (hP : x_ref P) (hc : x_cmd I k c) (hK : K (some (.inr (nI (e_brk 3 c)))) I P) : Fk (d + 4) m_D_brokenCode 77 77 0 0 [rf (k + 1)] I P K := by
  refine Fk.intro (by decide +kernel) (Nat.le_of_ble_eq_true rfl) (fun G hC => ?_)
  refine Zv.iconst hC d_D_brokenCode_0 ic_0 ?_
  refine Zv.istore_n hC d_D_brokenCode_1 (by decide) rfl ?_
  refine Zv.iconst hC d_D_brokenCode_2 ic_0 ?_
  refine Zv.istore_n hC d_D_brokenCode_3 (by decide) rfl ?_
  exact lp_brk hC hk hP hc 3 0 0 rfl (by decide) (e_okd3 c) hK
