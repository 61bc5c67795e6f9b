def R_law : String := "FlightDeskLaw"
def lw_P (b : Addr) (xs : List Int32) (args : Array Value) (s : State) : Prop := args = #[.ref b] ∧ s.IntsAt b xs ∧ xs.length ≤ 1536 ∧ (Jvm.Cond.and given_1 narrow_1).before args s = true
def lw_Q (_ : Array Value) (s : State) (o : Outcome) (t : State) : Prop := o = .returned (some (.int 1)) ∧ Framed s o t [] 600000 7302250
def lw_Z (below : List Frame) (a : Array Value) (s : State) : State → Prop := fun t => ∃ o, t.status = .running ∧ Ended t below o ∧ lw_Q a s o t
/-- the law's own end, with 1 on the stack, nothing written that was there before, its room as the claim has it -/
theorem lw_ret {p : Program} {l : Launch} {e : Env} {s : State} {m : MethodId} {below : List Frame} {meth : Method} {c : Code} {b : Nat} (hx : p.tables.exec = Jvm.exec) (hb : c.code = code) (hr : meth.sig.returnType = ret) (hlocks : meth.locks = false) {pc : Nat} {H : Heap} {ls : Array Slot} (hdg : decode code pc = .ok (.ireturn, 1)) : W p l e room_1 s m #[Value.ref b] below meth c H [] 600000 7302250 (lw_Z below #[Value.ref b] s) (F0 m pc ls [.int 1]) := by
  intro T hT X
  obtain ⟨fs, hret, hrun, hended, hW, hframe⟩ := X.leave (v := some (.int 1)) (hlocks := hlocks) (fun h => by rw [hr] at h; cases h)
  have hmeth' : T.vm.method? m = some meth := X.method'
  refine ⟨T.setFrames fs, ?_, .returned (some (.int 1)), hrun, hended, rfl, ⟨_, rfl⟩, hW, hframe⟩
  jvm_step X.here [X.here.top, hx, hb, hdg, hmeth', hr, ret, narrow_b1]
  (try refine ⟨rfl, ?_⟩); (try refine ⟨rfl, ?_⟩)
  first | (intro acts; rw [hret _ acts rfl rfl rfl]) | rw [hret _ _ rfl rfl rfl]
  exact Steps.refl _
/-- what holds at the law's entry: the machine, the code, the tables' words (any of lw_tbl by 'hts w (by decide +kernel)'), the script of L ints xs at the cell b, what the Statement gives of the start (any of its parts by flat_of_before) -/
def lw_At (p : Program) (s : State) (m : MethodId) (meth : Method) (c : Code) (b L : Nat) (xs : Nat → Int32) : Prop :=
  p.tables.exec = Jvm.exec ∧ c.code = code ∧ meth.sig.returnType = ret ∧ c.maxLocals = 4 ∧ s.vm.findClass R_law = some m.cls ∧ (∀ w ∈ lw_tbl, w.before #[Value.ref b] s = true) ∧ va_X b L xs s s.heap ∧ b < s.heap.size ∧ meth.locks = false ∧ (Jvm.Cond.and given_1 narrow_1).before #[Value.ref b] s = true
set_option maxRecDepth 100000 in
set_option maxHeartbeats 4000000 in
theorem lw_body {G : Fx} {Q : State → Prop} {nm : String} {a L : Nat} {xs : Nat → Int32} (hC : Fc G (mL nm) 7 1000 10000) (hX : FX G a L xs) (hL : L ≤ 1536) (hend : ∀ (lv : Fl) (I : Fm) (P : Fr), Zv G Q 77 77 662 341 lv [] I P) : Zv G Q 0 0 0 0 [(0, xf a)] [] I0 P0 := by
  refine Zv.new hC d_L_law_0 ck_6 cl_L_7 in_6 ii_6 rfl nd_6 (fun _ => rfl) (fun _ => rfl) (by decide) (by decide) ?_
  refine Zv.nx (n' := 1) (cells' := 1) (slots' := 11) rfl rfl rfl ?_
  refine Zv.dup hC d_L_law_3 ?_
  refine Zv.callI (as := []) (n' := 56) (mc' := 55) (ms' := 361) hC d_L_law_4 ml_L_9 mk_D_init (Nat.le_of_ble_eq_true rfl) rfl (by decide) ⟨by decide, by decide⟩ ?_
  refine sc_D (fun _ _ _ => rfl) (fun _ _ _ => rfl) ?_
  refine Zv.nx (n' := 56) (cells' := 56) (slots' := 372) rfl rfl rfl ?_
  refine Zv.astore_n hC d_L_law_7 (show 1 < 4 by decide) rfl ?_
  refine Zv.new hC d_L_law_8 ck_7 cl_L_10 in_7 ii_7 rfl nd_7 (fun _ => rfl) (fun _ => rfl) (by decide) (by decide) ?_
  refine Zv.nx (n' := 57) (cells' := 57) (slots' := 404) rfl rfl rfl ?_
  refine Zv.dup hC d_L_law_11 ?_
  refine Zv.callI (as := []) (n' := 77) (mc' := 20) (ms' := 258) hC d_L_law_12 ml_L_12 mk_M_init (Nat.le_of_ble_eq_true rfl) rfl (by decide) ⟨by decide, by decide⟩ ?_
  refine sc_M (fun a h j => (f_ur (by omega) (f_ur (by omega) (rfl)) : ID I0 a j = 0)) (fun a h j => (f_ur (by omega) (f_ur (by omega) (f_ur (by omega) (f_ur (by omega) (f_ur (by omega) (f_ur (by omega) (f_ur (by omega) (f_ur (by omega) (f_ur (by omega) (f_ur (by omega) (f_ur (by omega) (f_ur (by omega) (f_ur (by omega) (f_ur (by omega) (f_ur (by omega) (f_ur (by omega) (f_ur (by omega) (f_ur (by omega) (f_ur (by omega) (f_ur (by omega) (f_ur (by omega) (f_ur (by omega) (f_ur (by omega) (f_ur (by omega) (f_ur (by omega) (f_ur (by omega) (f_ur (by omega) (f_ur (by omega) (f_ur (by omega) (f_ur (by omega) (f_ur (by omega) (f_ur (by omega) (f_ur (by omega) (f_ur (by omega) (f_ur (by omega) (f_ur (by omega) (f_ur (by omega) (f_ur (by omega) (f_ur (by omega) (f_ur (by omega) (f_ur (by omega) (f_ur (by omega) (f_ur (by omega) (f_ur (by omega) (f_ur (by omega) (f_ur (by omega) (f_ur (by omega) (f_ur (by omega) (f_ur (by omega) (f_ur (by omega) (f_ur (by omega) (f_ur (by omega) (f_ur (by omega) (f_ur (by omega) (f_ur (by omega) (rfl))))))))))))))))))))))))))))))))))))))))))))))))))))))) : PD P0 a j = 0)) ?_
  refine Zv.nx (n' := 77) (cells' := 77) (slots' := 662) rfl rfl rfl ?_
  refine Zv.astore_n hC d_L_law_15 (show 2 < 4 by decide) rfl ?_
  refine Zv.iconst hC d_L_law_16 ic_0 ?_
  refine Zv.istore_n hC d_L_law_17 (show 3 < 4 by decide) rfl ?_
  exact lw_loop hC hX hL hend (L + 1) 0 s0 none 0 I1 P1 (by omega) (Nat.zero_le _) (Nat.zero_le _) BO_start
theorem f_Z_at {s : State} {args : Array Value} (hts : ∀ w ∈ lw_tbl, w.before args s = true) (hgv : (Jvm.Cond.and given_1 narrow_1).before args s = true) : f_Z s.heap.size s s.heap := by
  have hs := flat_of_before _ hgv
  have harr : (Cond.arrayOf (.static "FlightDesk" "ARGUMENTS_WANTED" "[I") .int).before args s = true := hs _ (by decide +kernel)
  have hlen := va_eqt (hs (Cond.eq (.length (.static "FlightDesk" "ARGUMENTS_WANTED" "[I")) (.int 12)) (by decide +kernel))
  have e0 := va_eqt (hs (Cond.eq (.elem (.static "FlightDesk" "ARGUMENTS_WANTED" "[I") (.int 0)) (.int 0)) (by decide +kernel))
  have e1 := va_eqt (hs (Cond.eq (.elem (.static "FlightDesk" "ARGUMENTS_WANTED" "[I") (.int 1)) (.int 0)) (by decide +kernel))
  have e2 := va_eqt (hs (Cond.eq (.elem (.static "FlightDesk" "ARGUMENTS_WANTED" "[I") (.int 2)) (.int 2)) (by decide +kernel))
  have e3 := va_eqt (hs (Cond.eq (.elem (.static "FlightDesk" "ARGUMENTS_WANTED" "[I") (.int 3)) (.int 2)) (by decide +kernel))
  have e4 := va_eqt (hs (Cond.eq (.elem (.static "FlightDesk" "ARGUMENTS_WANTED" "[I") (.int 4)) (.int 1)) (by decide +kernel))
  have e5 := va_eqt (hs (Cond.eq (.elem (.static "FlightDesk" "ARGUMENTS_WANTED" "[I") (.int 5)) (.int 1)) (by decide +kernel))
  have e6 := va_eqt (hs (Cond.eq (.elem (.static "FlightDesk" "ARGUMENTS_WANTED" "[I") (.int 6)) (.int 6)) (by decide +kernel))
  have e7 := va_eqt (hs (Cond.eq (.elem (.static "FlightDesk" "ARGUMENTS_WANTED" "[I") (.int 7)) (.int 1)) (by decide +kernel))
  have e8 := va_eqt (hs (Cond.eq (.elem (.static "FlightDesk" "ARGUMENTS_WANTED" "[I") (.int 8)) (.int 1)) (by decide +kernel))
  have e9 := va_eqt (hs (Cond.eq (.elem (.static "FlightDesk" "ARGUMENTS_WANTED" "[I") (.int 9)) (.int 1)) (by decide +kernel))
  have e10 := va_eqt (hs (Cond.eq (.elem (.static "FlightDesk" "ARGUMENTS_WANTED" "[I") (.int 10)) (.int 3)) (by decide +kernel))
  have e11 := va_eqt (hs (Cond.eq (.elem (.static "FlightDesk" "ARGUMENTS_WANTED" "[I") (.int 11)) (.int 1)) (by decide +kernel))
  obtain ⟨t, ht, hT⟩ := va_Tof (N := 12) (f := fun j => .int (f_zt j)) (A := fun q => s.heap.size ≤ q) (by decide) harr hlen (fun j hj => by
    rcases (show j = 0 ∨ j = 1 ∨ j = 2 ∨ j = 3 ∨ j = 4 ∨ j = 5 ∨ j = 6 ∨ j = 7 ∨ j = 8 ∨ j = 9 ∨ j = 10 ∨ j = 11 by omega) with rfl | rfl | rfl | rfl | rfl | rfl | rfl | rfl | rfl | rfl | rfl | rfl
    · exact e0
    · exact e1
    · exact e2
    · exact e3
    · exact e4
    · exact e5
    · exact e6
    · exact e7
    · exact e8
    · exact e9
    · exact e10
    · exact e11) (fun a h z => by omega)
  have htl : t < s.heap.size := by
    obtain ⟨cell, h1, -⟩ := hT
    exact (Array.getElem?_eq_some_iff.mp h1).1
  exact ⟨t, va_Zof (hts (.laysStatic "FlightDesk" "ARGUMENTS_WANTED" "[I") (List.mem_append_right _ (by decide +kernel))) (hts (.initialized "FlightDesk") (List.mem_append_right _ (by decide +kernel))) ht (fun a h z => by omega), hT, htl⟩
theorem f_K_at {s : State} {args : Array Value} (hts : ∀ w ∈ lw_tbl, w.before args s = true) (hgv : (Jvm.Cond.and given_1 narrow_1).before args s = true) : ∃ (D : va_G) (ta : Nat → ClassId), f_K D ta s.heap.size s := by
  have hT : ∀ w ∈ f_T, w.before args s = true := fun w hw => hts w (List.mem_filter.mp hw).1
  obtain ⟨c0, i0, h0⟩ := u_known hT wk_0 (hT _ in_0)
  obtain ⟨c1, i1, h1⟩ := u_known hT wk_1 (hT _ in_1)
  obtain ⟨c2, i2, h2⟩ := u_known hT wk_2 (hT _ in_2)
  obtain ⟨c3, i3, h3⟩ := u_known hT wk_3 (hT _ in_3)
  obtain ⟨c4, i4, h4⟩ := u_known hT wk_4 (hT _ in_4)
  obtain ⟨c5, i5, h5⟩ := u_known hT wk_5 (hT _ in_5)
  obtain ⟨c6, i6, h6⟩ := u_known hT wk_6 (hT _ in_6)
  obtain ⟨c7, i7, h7⟩ := u_known hT wk_7 (hT _ in_7)
  obtain ⟨t0, k0, m0, a0, b0, d0⟩ := Cond.arrayClass_spec (hT _ ac_0)
  obtain ⟨t1, k1, m1, a1, b1, d1⟩ := Cond.arrayClass_spec (hT _ ac_1)
  have w2 : (Cond.arrayOver (.object "FlightDesk$Command")).before args s = true := hts _ (List.mem_append_right _ (by decide +kernel))
  obtain ⟨m2, t2, k2, f2, g2, b2, d2, a2⟩ := Cond.arrayOver_spec w2
  have w3 : (Cond.arrayOver (.object "FlightDesk$Watch")).before args s = true := hts _ (List.mem_append_right _ (by decide +kernel))
  obtain ⟨m3, t3, k3, f3, g3, b3, d3, a3⟩ := Cond.arrayOver_spec w3
  have w4 : (Cond.arrayOver (.object "FlightDesk$HouseList")).before args s = true := hts _ (List.mem_append_right _ (by decide +kernel))
  obtain ⟨m4, t4, k4, f4, g4, b4, d4, a4⟩ := Cond.arrayOver_spec w4
  refine ⟨(fun c => match c with | 0 => c0 | 1 => c1 | 2 => c2 | 3 => c3 | 4 => c4 | 5 => c5 | 6 => c6 | _ => c7, fun c => match c with | 0 => i0 | 1 => i1 | 2 => i2 | 3 => i3 | 4 => i4 | 5 => i5 | 6 => i6 | _ => i7), (fun t => match t with | 0 => t0 | 1 => t1 | 2 => t2 | 3 => t3 | _ => t4), ⟨fun c q hq => ?_, fun k q hq => ?_⟩, fun w hw => va_Nw.of (f_N_on hw) (hts w (List.mem_filter.mp hw).1), fun C hC => ?_, f_Z_at hts hgv⟩
  · match c, hq with
    | 0, hq => cases hq; exact h0
    | 1, hq => cases hq; exact h1
    | 2, hq => cases hq; exact h2
    | 3, hq => cases hq; exact h3
    | 4, hq => cases hq; exact h4
    | 5, hq => cases hq; exact h5
    | 6, hq => cases hq; exact h6
    | 7, hq => cases hq; exact h7
    | c + 8, hq => cases hq
  · match k, hq with
    | 0, hq => cases hq; exact ⟨fun N z => ⟨fun k h => (by cases h), k0, b0, m0, d0⟩, a0⟩
    | 1, hq => cases hq; exact ⟨fun N z => ⟨fun k h => (by cases h), k1, b1, m1, d1⟩, a1⟩
    | 2, hq => cases hq; exact ⟨fun N z => ⟨fun k h => (by cases h), k2, b2, m2, d2⟩, k2, m2, b2, d2, f2, a2⟩
    | 3, hq => cases hq; exact ⟨fun N z => ⟨fun k h => (by cases h), k3, b3, m3, d3⟩, k3, m3, b3, d3, f3, a3⟩
    | 4, hq => cases hq; exact ⟨fun N z => ⟨fun k h => (by cases h), k4, b4, m4, d4⟩, k4, m4, b4, d4, f4, a4⟩
    | k + 5, hq => cases hq
  · rcases List.mem_cons.mp hC with rfl | hC
    · exact va_AO.of w2
    · rcases List.mem_cons.mp hC with rfl | hC
      · exact va_AO.of w3
      · rcases List.mem_cons.mp hC with rfl | hC
        · exact va_AO.of w4
        · exact absurd hC List.not_mem_nil
set_option maxRecDepth 100000 in
set_option maxHeartbeats 4000000 in
theorem whole_start {p : Program} {e : Env} {s : State} {m : MethodId} {below : List Frame} {meth : Method} {c : Code} (l : Launch) {b L : Nat} {xs : Nat → Int32} (hL : L ≤ 1536) (C0 : lw_At p s m meth c b L xs) : W p l e room_1 s m #[Value.ref b] below meth c s.heap [] 0 0 (lw_Z below #[Value.ref b] s) (entryFrame m ([Value.ref b] : List Value).toArray 4) := by
  obtain ⟨hx, hb, hr, hml, hown, hts, hX, hbl, hlocks, hgv⟩ := C0
  obtain ⟨D, ta, hK⟩ := f_K_at hts hgv
  have hT : ∀ w ∈ f_T, w.before #[Value.ref b] s = true := fun w hw => hts w (List.mem_filter.mp hw).1
  have hC : Fc (p, l, e, room_1, s, m, #[Value.ref b], below, meth, c, D, ta, s.heap.size, 4) (mL meth.name) 7 1000 10000 := ⟨hx, hb, hml, hown, hT, hlocks, hr, rfl, hK, Nat.le_refl _, rfl, by decide, by decide, by decide, by decide⟩
  have hFX : FX (p, l, e, room_1, s, m, #[Value.ref b], below, meth, c, D, ta, s.heap.size, 4) b L xs := ⟨hX, hbl, rfl⟩
  have hend : ∀ (lv : Fl) (I : Fm) (P : Fr), Zv (p, l, e, room_1, s, m, #[Value.ref b], below, meth, c, D, ta, s.heap.size, 4) (lw_Z below #[Value.ref b] s) 77 77 662 341 lv [] I P := by
    intro lv I P
    refine Zv.iconst hC d_L_law_341 ic_1 ?_
    intro H locs ls hW hS hl
    exact va_forget hS.2.2 (W.widen (by decide) (by decide) (lw_ret hx hb hr hlocks d_L_law_342))
  have hz := lw_body hC hFX hL hend
  have hl := lv_entry (([xf b] : List Fs).map (f_v s.heap.size)) (n := 4) (Nat.le_of_ble_eq_true rfl)
  rw [← f_en_args] at hl
  rw [lg_entry_eq]
  exact hz s.heap [] _ ⟨rfl, fun k hk => absurd hk (Nat.not_lt_zero k)⟩ va_S.rf hl
