theorem f_K_same {D : va_G} {ta : Nat → ClassId} {b : Nat} {u U : State} (h : f_K D ta b u) (hv : u.vm = U.vm) (hh : U.heap = u.heap) : f_K D ta b U := by
  have ha : u.vm.Alike U.vm := hv ▸ Vm.Alike.refl u.vm
  obtain ⟨h1, h2, h3, t, h4, h5, h6⟩ := h
  refine ⟨va_K.moved ha h1, fun w hw => va_Nw.same (f_N_on hw) hv (h2 w hw), fun C hC => va_AO.moved ha (h3 C hC), t, ?_, ?_, h6⟩
  · rw [hh]; exact h4.moved ha
  · rw [hh]; exact h5.moved ha
theorem f_run {p : Program} {l : Launch} {e : Env} {R : Room} {s : State} {m : MethodId} {args a : Array Value} {below : List Frame} {meth : Method} {c : Code} {D : va_G} {ta : Nat → ClassId} {b nL n n' cells slots mc' ms' pc : Nat} {H : Heap} {locs : List Loc} {ls : Array Slot} {st0 : List Value} {rest : List Fs} {lv : Fl} {Q : State → Prop} {K : Option Fs → Fm → Fr → Prop}
    (hr : va_Run p l e R s m args below meth c H locs cells slots mc' ms' (F0 m pc ls st0) (rest.map (f_v b)) (f_Q D ta b n' K a) (fun q => b ≤ q)) (hH : H.size = b + n) (hnn : n ≤ n') (hS : va_S (fun q => b ≤ q) s.heap H locs) (hsz : b ≤ s.heap.size) (hl : lv_has ls nL (f_lv b lv))
    (hK : ∀ v I P, K v I P → Zv (p, l, e, R, s, m, args, below, meth, c, D, ta, b, nL) Q n' (cells + mc') (slots + ms') (pc + 3) lv (v.toList ++ rest) I P) : W p l e R s m args below meth c H locs cells slots Q (F0 m pc ls st0) := by
  intro T hT X
  obtain ⟨v, st₀, t, T', L, h0, X', hL, e1, e2, ⟨v', I', P', hv, hk, hW', hq⟩, st⟩ := hr T hT X
  cases hv
  have hS' : va_S (fun q => b ≤ q) s.heap T'.heap (locs ++ L) := by
    refine ⟨Nat.le_trans hS.1 (by rw [e1, hW'.1, hH]; omega), fun q h1 h2 => ?_, fun q hq => ?_⟩
    · rw [e1, hq q (Nat.not_le.mp h2), h0]
      exact hS.2.1 q h1 h2
    · rcases List.mem_append.mp hq with h | h
      · exact hS.2.2 q h
      · exact hL q h
  obtain ⟨t2, a1, b1⟩ := hK v' I' P' hk T'.heap (locs ++ L) ls (by rw [e1]; exact hW') hS' hl T' rfl X'
  refine ⟨t2, st t2 ?_, b1⟩
  cases v' <;> exact a1
section FCall
variable {G : Fx} {Q : State → Prop} {M M' : Fy} {d' mc ms mc' ms' n n' cells slots pc idx : Nat} {lv : Fl} {st as rest : List Fs} {I : Fm} {P : Fr}
theorem Zv.callV {k ci : Nat} (hC : Fc G M (d' + 1) mc ms) (hdg : decode M.2.1 pc = .ok (.invokevirtual idx, 3)) (hL : f_LM M.1.cls idx M'.1) (hM : f_MV M' as.length) (hk : f_shp k = .inr ci) (hci : (f_cl[ci]?).map (fun r => r.1) = some M'.1.cls) (hkn : k < n) (hr8 : rest.length ≤ 8) (hst : st = as.reverse ++ rf (k + 1) :: rest) (hnn : n ≤ n') (hf : cells + mc' ≤ mc ∧ slots + ms' ≤ ms) (kk : Fk d' M' n n' mc' ms' (rf (k + 1) :: as) I P (fun v I' P' => Zv G Q n' (cells + mc') (slots + ms') (pc + 3) lv (v.toList ++ rest) I' P')) : Zv G Q n cells slots pc lv st I P := by
  subst hst
  obtain ⟨y, cc', mL', ret'⟩ := M'
  obtain ⟨p, l, e, R, s, m, args, below, meth, c, D, ta, b, nL⟩ := G
  intro H locs ls hW hS hl
  obtain ⟨hx, hb, hml, hown, hts, hlk, hrt, hnm, hK, hsz, hnL, hfr, hlo, hce, hsl⟩ := hC
  have hMet := kk l D ta b
  obtain ⟨⟨hcode, hini, hd, hml'⟩, hinst, hsel⟩ := hM
  have hgood : GoodIn f_T (f_ws (y, cc', mL', ret')) := fun w hw => by
    rcases List.mem_cons.mp hw with rfl | h
    · exact f_T_good hcode
    · exact f_T_good h
  have hR : (f_rm d' mc' ms').frames + 1 ≤ R.frames ∧ 8 + (mL' + 11) + (f_rm d' mc' ms').locals ≤ R.locals := ⟨hfr, by
    show 8 + (mL' + 11) + 40 * d' ≤ R.locals
    have : mL' ≤ 21 := hml'
    omega⟩
  have hfs : cells + mc' ≤ R.cells ∧ slots + ms' ≤ R.slots := ⟨by omega, by omega⟩
  have hroom : 2 * (F0 m pc ls ((as.reverse ++ rf (k + 1) :: rest).map (f_v b))).monitorRoom + ((rest.map (f_v b)).map fun v => v.category).sum ≤ 8 := lv_room (by rw [f_cat_sum]; exact hr8)
  have hblind : FrameBlind (va_Pc ((rf (k + 1) :: as).map (f_v b)) (fun U => f_W D ta b n I P U.heap ∧ f_K D ta b U)) := fun a U g mk q => ⟨q.1, q.2.1, f_K_same q.2.2 rfl rfl⟩
  have hpre : ∀ U : State, U.heap = H → s.WarmedH U.vm → va_Pc ((rf (k + 1) :: as).map (f_v b)) (fun U => f_W D ta b n I P U.heap ∧ f_K D ta b U) ((rf (k + 1) :: as).map (f_v b)).toArray U := fun U hU hWm => ⟨rfl, by rw [hU]; exact hW, f_K_moved hK hWm hsz (fun q hq => by rw [hU]; exact hS.2.1 q (Nat.lt_of_lt_of_le hq hsz) (Nat.not_le.mpr hq))⟩
  have hrecv : ∃ cellB : Cell, H[b + k]? = some cellB ∧ cellB.vm.isStatics = false ∧ s.vm.findClass y.cls = some cellB.cls := by
    obtain ⟨r, h1, cell, g1, g2, g3, -⟩ := f_at_obj (hW.2 k hkn) hk
    have e : r.1 = y.cls := by rw [h1] at hci; exact Option.some.inj hci
    exact ⟨cell, g1, by rw [g3]; rfl, by rw [g2, ← e]; exact (hK.1.1 ci r h1).2.1⟩
  have hstk : (F0 m pc ls ((as.reverse ++ rf (k + 1) :: rest).map (f_v b))).stack = (as.map (f_v b)).reverse ++ .ref (b + k) :: rest.map (f_v b) := by simp [f_v]
  rcases hL with hL | ⟨host, hL⟩
  · refine f_run (va_runV (As := as.map (f_v b)) (rest := rest.map (f_v b)) (C := y.cls) (b := b + k) (bytes := cc') (maxL := mL') (ret := ret') ⟨hx, hb, hml, hown, hts⟩ hMet (cwV as.length hts ?_ rfl rfl rfl ⟨rfl, hd⟩ hR) ⟨hblind, hrecv, hpre⟩ rfl (by simp) hl.1 hstk hroom hdg hfs) hW.1 hnn hS hsz hl (fun v I P h => h)
    intro w hw
    rcases List.mem_append.mp hw with h | h
    · simp only [List.mem_cons, List.not_mem_nil, or_false] at h
      rcases h with rfl | rfl | rfl | rfl
      · exact f_T_good hL
      · exact f_T_good hinst
      · exact f_T_good hsel
      · exact f_T_good hini
    · exact hgood w h
  · exact f_run (va_runVN (As := as.map (f_v b)) (rest := rest.map (f_v b)) (C := y.cls) (b := b + k) (bytes := cc') (maxL := mL') (ret := ret') ⟨hx, hb, hml, hown, hts⟩ hMet ⟨va_cnB as.length hts hgood rfl rfl rfl (hK.2.1 _ hL) (hts _ hini) hd hR, hts _ hinst, hts _ hsel⟩ ⟨hblind, hrecv, hpre⟩ rfl (by simp) hl.1 hstk hroom hdg hfs) hW.1 hnn hS hsz hl (fun v I P h => h)
theorem Zv.callS (hC : Fc G M (d' + 1) mc ms) (hdg : decode M.2.1 pc = .ok (.invokestatic idx, 3)) (hL : f_LM M.1.cls idx M'.1) (hM : f_MS M' as.length) (hr8 : rest.length ≤ 8) (hst : st = as.reverse ++ rest) (hnn : n ≤ n') (hf : cells + mc' ≤ mc ∧ slots + ms' ≤ ms) (kk : Fk d' M' n n' mc' ms' as I P (fun v I' P' => Zv G Q n' (cells + mc') (slots + ms') (pc + 3) lv (v.toList ++ rest) I' P')) : Zv G Q n cells slots pc lv st I P := by
  subst hst
  obtain ⟨y, cc', mL', ret'⟩ := M'
  obtain ⟨p, l, e, R, s, m, args, below, meth, c, D, ta, b, nL⟩ := G
  intro H locs ls hW hS hl
  obtain ⟨hx, hb, hml, hown, hts, hlk, hrt, hnm, hK, hsz, hnL, hfr, hlo, hce, hsl⟩ := hC
  have hMet := kk l D ta b
  obtain ⟨⟨hcode, hini, hd, hml'⟩, hstat⟩ := hM
  have hgood : GoodIn f_T (f_ws (y, cc', mL', ret')) := fun w hw => by
    rcases List.mem_cons.mp hw with rfl | h
    · exact f_T_good hcode
    · exact f_T_good h
  have hR : (f_rm d' mc' ms').frames + 1 ≤ R.frames ∧ 8 + (mL' + 11) + (f_rm d' mc' ms').locals ≤ R.locals := ⟨hfr, by
    show 8 + (mL' + 11) + 40 * d' ≤ R.locals
    have : mL' ≤ 21 := hml'
    omega⟩
  have hfs : cells + mc' ≤ R.cells ∧ slots + ms' ≤ R.slots := ⟨by omega, by omega⟩
  have hroom : 2 * (F0 m pc ls ((as.reverse ++ rest).map (f_v b))).monitorRoom + ((rest.map (f_v b)).map fun v => v.category).sum ≤ 8 := lv_room (by rw [f_cat_sum]; exact hr8)
  have hblind : FrameBlind (va_Pc (as.map (f_v b)) (fun U => f_W D ta b n I P U.heap ∧ f_K D ta b U)) := fun a U g mk q => ⟨q.1, q.2.1, f_K_same q.2.2 rfl rfl⟩
  have hpre : ∀ U : State, U.heap = H → s.WarmedH U.vm → va_Pc (as.map (f_v b)) (fun U => f_W D ta b n I P U.heap ∧ f_K D ta b U) (as.map (f_v b)).toArray U := fun U hU hWm => ⟨rfl, by rw [hU]; exact hW, f_K_moved hK hWm hsz (fun q hq => by rw [hU]; exact hS.2.1 q (Nat.lt_of_lt_of_le hq hsz) (Nat.not_le.mpr hq))⟩
  have hstk : (F0 m pc ls ((as.reverse ++ rest).map (f_v b))).stack = (as.map (f_v b)).reverse ++ rest.map (f_v b) := by simp
  rcases hL with hL | ⟨host, hL⟩
  · refine f_run (va_runS (As := as.map (f_v b)) (rest := rest.map (f_v b)) (bytes := cc') (maxL := mL') (ret := ret') ⟨hx, hb, hml, hown, hts⟩ hMet (va_cwS as.length hts ?_ rfl rfl rfl hd hR) ⟨hblind, hpre⟩ rfl (by simp) hl.1 hstk hroom hdg hfs) hW.1 hnn hS hsz hl (fun v I P h => h)
    intro w hw
    rcases List.mem_append.mp hw with h | h
    · simp only [List.mem_cons, List.not_mem_nil, or_false] at h
      rcases h with rfl | rfl | rfl
      · exact f_T_good hL
      · exact f_T_good hstat
      · exact f_T_good hini
    · exact hgood w h
  · exact f_run (va_runSN (As := as.map (f_v b)) (rest := rest.map (f_v b)) (bytes := cc') (maxL := mL') (ret := ret') ⟨hx, hb, hml, hown, hts⟩ hMet ⟨va_cnB as.length hts hgood rfl rfl rfl (hK.2.1 _ hL) (hts _ hini) hd hR, hts _ hstat, trivial⟩ ⟨hblind, hpre⟩ rfl (by simp) hl.1 hstk hroom hdg hfs) hW.1 hnn hS hsz hl (fun v I P h => h)
theorem Zv.callI {k : Nat} (hC : Fc G M (d' + 1) mc ms) (hdg : decode M.2.1 pc = .ok (.invokespecial idx, 3)) (hL : f_LM M.1.cls idx M'.1) (hM : f_MI M' as.length) (hr8 : rest.length ≤ 8) (hst : st = as.reverse ++ rf (k + 1) :: rest) (hnn : n ≤ n') (hf : cells + mc' ≤ mc ∧ slots + ms' ≤ ms) (kk : Fk d' M' n n' mc' ms' (rf (k + 1) :: as) I P (fun v I' P' => Zv G Q n' (cells + mc') (slots + ms') (pc + 3) lv (v.toList ++ rest) I' P')) : Zv G Q n cells slots pc lv st I P := by
  subst hst
  obtain ⟨y, cc', mL', ret'⟩ := M'
  obtain ⟨p, l, e, R, s, m, args, below, meth, c, D, ta, b, nL⟩ := G
  intro H locs ls hW hS hl
  obtain ⟨hx, hb, hml, hown, hts, hlk, hrt, hnm, hK, hsz, hnL, hfr, hlo, hce, hsl⟩ := hC
  have hMet := kk l D ta b
  obtain ⟨⟨hcode, hini, hd, hml'⟩, hy1, hret, hinst⟩ := hM
  dsimp only at hret hy1 hcode hini hd hml' hinst hMet
  subst hret
  have hgood : GoodIn f_T (f_ws (y, cc', mL', none)) := fun w hw => by
    rcases List.mem_cons.mp hw with rfl | h
    · exact f_T_good hcode
    · exact f_T_good h
  have hR : (f_rm d' mc' ms').frames + 1 ≤ R.frames ∧ 8 + (mL' + 11) + (f_rm d' mc' ms').locals ≤ R.locals := ⟨hfr, by
    show 8 + (mL' + 11) + 40 * d' ≤ R.locals
    have : mL' ≤ 21 := hml'
    omega⟩
  have hfs : cells + mc' ≤ R.cells ∧ slots + ms' ≤ R.slots := ⟨by omega, by omega⟩
  have hroom : 2 * (F0 m pc ls ((as.reverse ++ rf (k + 1) :: rest).map (f_v b))).monitorRoom + ((rest.map (f_v b)).map fun v => v.category).sum ≤ 8 := lv_room (by rw [f_cat_sum]; exact hr8)
  have hblind : FrameBlind (va_Pc ((rf (k + 1) :: as).map (f_v b)) (fun U => f_W D ta b n I P U.heap ∧ f_K D ta b U)) := fun a U g mk q => ⟨q.1, q.2.1, f_K_same q.2.2 rfl rfl⟩
  have hpre : ∀ U : State, U.heap = H → s.WarmedH U.vm → va_Pc ((rf (k + 1) :: as).map (f_v b)) (fun U => f_W D ta b n I P U.heap ∧ f_K D ta b U) ((rf (k + 1) :: as).map (f_v b)).toArray U := fun U hU hWm => ⟨rfl, by rw [hU]; exact hW, f_K_moved hK hWm hsz (fun q hq => by rw [hU]; exact hS.2.1 q (Nat.lt_of_lt_of_le hq hsz) (Nat.not_le.mpr hq))⟩
  have hstk : (F0 m pc ls ((as.reverse ++ rf (k + 1) :: rest).map (f_v b))).stack = (as.map (f_v b)).reverse ++ .ref (b + k) :: rest.map (f_v b) := by simp [f_v]
  rcases hL with hL | ⟨host, hL⟩
  · exact f_run (va_runI (As := as.map (f_v b)) (rest := rest.map (f_v b)) (b := b + k) (bytes := cc') (maxL := mL') ⟨hx, hb, hml, hown, hts⟩ hMet (cwI as.length hts hgood rfl rfl rfl (hts _ hini) (hts _ hL) (hts _ hinst) hy1 hd hR) ⟨hblind, hpre⟩ rfl (by simp) hl.1 hstk hroom hdg hfs) hW.1 hnn hS hsz hl (fun v I P h => h)
  · exact f_run (va_runIN (As := as.map (f_v b)) (rest := rest.map (f_v b)) (b := b + k) (bytes := cc') (maxL := mL') ⟨hx, hb, hml, hown, hts⟩ hMet ⟨va_cnB as.length hts hgood rfl rfl rfl (hK.2.1 _ hL) (hts _ hini) hd hR, hy1, hts _ hinst⟩ ⟨hblind, hpre⟩ rfl (by simp) hl.1 hstk hroom hdg hfs) hW.1 hnn hS hsz hl (fun v I P h => h)
theorem Zv.callV0 {k ci : Nat} (hC : Fc G M (d' + 1) mc ms) (hdg : decode M.2.1 pc = .ok (.invokevirtual idx, 3)) (hL : f_LM M.1.cls idx M'.1) (hM : f_MV M' 0) (hci : (f_cl[ci]?).map (fun r => r.1) = some M'.1.cls) (hr8 : rest.length ≤ 8) (hk : f_shp k = .inr ci) (hkn : k < n) (kk : Fk d' M' n n 0 0 (rf (k + 1) :: []) I P (fun v I' P' => Zv G Q n 0 0 (pc + 3) lv (v.toList ++ rest) I' P')) : Zv G Q n 0 0 pc lv (rf (k + 1) :: rest) I P :=
  Zv.callV (as := []) (rest := rest) (mc' := 0) (ms' := 0) hC hdg hL hM hk hci hkn hr8 rfl (Nat.le_refl _) ⟨Nat.zero_le _, Nat.zero_le _⟩ kk
theorem Zv.callV1 {k ci : Nat} {a1 : Fs} (hC : Fc G M (d' + 1) mc ms) (hdg : decode M.2.1 pc = .ok (.invokevirtual idx, 3)) (hL : f_LM M.1.cls idx M'.1) (hM : f_MV M' 1) (hci : (f_cl[ci]?).map (fun r => r.1) = some M'.1.cls) (hr8 : rest.length ≤ 8) (hk : f_shp k = .inr ci) (hkn : k < n) (kk : Fk d' M' n n 0 0 (rf (k + 1) :: [a1]) I P (fun v I' P' => Zv G Q n 0 0 (pc + 3) lv (v.toList ++ rest) I' P')) : Zv G Q n 0 0 pc lv (a1 :: rf (k + 1) :: rest) I P :=
  Zv.callV (as := [a1]) (rest := rest) (mc' := 0) (ms' := 0) hC hdg hL hM hk hci hkn hr8 rfl (Nat.le_refl _) ⟨Nat.zero_le _, Nat.zero_le _⟩ kk
theorem Zv.callS1 {a1 : Fs} (hC : Fc G M (d' + 1) mc ms) (hdg : decode M.2.1 pc = .ok (.invokestatic idx, 3)) (hL : f_LM M.1.cls idx M'.1) (hM : f_MS M' 1) (hr8 : rest.length ≤ 8) (kk : Fk d' M' n n 0 0 [a1] I P (fun v I' P' => Zv G Q n 0 0 (pc + 3) lv (v.toList ++ rest) I' P')) : Zv G Q n 0 0 pc lv (a1 :: rest) I P :=
  Zv.callS (as := [a1]) (rest := rest) (mc' := 0) (ms' := 0) hC hdg hL hM hr8 rfl (Nat.le_refl _) ⟨Nat.zero_le _, Nat.zero_le _⟩ kk
theorem Zv.callV2 {k ci : Nat} {a1 a2 : Fs} (hC : Fc G M (d' + 1) mc ms) (hdg : decode M.2.1 pc = .ok (.invokevirtual idx, 3)) (hL : f_LM M.1.cls idx M'.1) (hM : f_MV M' 2) (hci : (f_cl[ci]?).map (fun r => r.1) = some M'.1.cls) (hr8 : rest.length ≤ 8) (hk : f_shp k = .inr ci) (hkn : k < n) (kk : Fk d' M' n n 0 0 (rf (k + 1) :: [a1, a2]) I P (fun v I' P' => Zv G Q n 0 0 (pc + 3) lv (v.toList ++ rest) I' P')) : Zv G Q n 0 0 pc lv (a2 :: a1 :: rf (k + 1) :: rest) I P :=
  Zv.callV (as := [a1, a2]) (rest := rest) (mc' := 0) (ms' := 0) hC hdg hL hM hk hci hkn hr8 rfl (Nat.le_refl _) ⟨Nat.zero_le _, Nat.zero_le _⟩ kk
theorem Zv.callS2 {a1 a2 : Fs} (hC : Fc G M (d' + 1) mc ms) (hdg : decode M.2.1 pc = .ok (.invokestatic idx, 3)) (hL : f_LM M.1.cls idx M'.1) (hM : f_MS M' 2) (hr8 : rest.length ≤ 8) (kk : Fk d' M' n n 0 0 [a1, a2] I P (fun v I' P' => Zv G Q n 0 0 (pc + 3) lv (v.toList ++ rest) I' P')) : Zv G Q n 0 0 pc lv (a2 :: a1 :: rest) I P :=
  Zv.callS (as := [a1, a2]) (rest := rest) (mc' := 0) (ms' := 0) hC hdg hL hM hr8 rfl (Nat.le_refl _) ⟨Nat.zero_le _, Nat.zero_le _⟩ kk
theorem Zv.callV3 {k ci : Nat} {a1 a2 a3 : Fs} (hC : Fc G M (d' + 1) mc ms) (hdg : decode M.2.1 pc = .ok (.invokevirtual idx, 3)) (hL : f_LM M.1.cls idx M'.1) (hM : f_MV M' 3) (hci : (f_cl[ci]?).map (fun r => r.1) = some M'.1.cls) (hr8 : rest.length ≤ 8) (hk : f_shp k = .inr ci) (hkn : k < n) (kk : Fk d' M' n n 0 0 (rf (k + 1) :: [a1, a2, a3]) I P (fun v I' P' => Zv G Q n 0 0 (pc + 3) lv (v.toList ++ rest) I' P')) : Zv G Q n 0 0 pc lv (a3 :: a2 :: a1 :: rf (k + 1) :: rest) I P :=
  Zv.callV (as := [a1, a2, a3]) (rest := rest) (mc' := 0) (ms' := 0) hC hdg hL hM hk hci hkn hr8 rfl (Nat.le_refl _) ⟨Nat.zero_le _, Nat.zero_le _⟩ kk
theorem Zv.callS3 {a1 a2 a3 : Fs} (hC : Fc G M (d' + 1) mc ms) (hdg : decode M.2.1 pc = .ok (.invokestatic idx, 3)) (hL : f_LM M.1.cls idx M'.1) (hM : f_MS M' 3) (hr8 : rest.length ≤ 8) (kk : Fk d' M' n n 0 0 [a1, a2, a3] I P (fun v I' P' => Zv G Q n 0 0 (pc + 3) lv (v.toList ++ rest) I' P')) : Zv G Q n 0 0 pc lv (a3 :: a2 :: a1 :: rest) I P :=
  Zv.callS (as := [a1, a2, a3]) (rest := rest) (mc' := 0) (ms' := 0) hC hdg hL hM hr8 rfl (Nat.le_refl _) ⟨Nat.zero_le _, Nat.zero_le _⟩ kk
theorem Zv.callV4 {k ci : Nat} {a1 a2 a3 a4 : Fs} (hC : Fc G M (d' + 1) mc ms) (hdg : decode M.2.1 pc = .ok (.invokevirtual idx, 3)) (hL : f_LM M.1.cls idx M'.1) (hM : f_MV M' 4) (hci : (f_cl[ci]?).map (fun r => r.1) = some M'.1.cls) (hr8 : rest.length ≤ 8) (hk : f_shp k = .inr ci) (hkn : k < n) (kk : Fk d' M' n n 0 0 (rf (k + 1) :: [a1, a2, a3, a4]) I P (fun v I' P' => Zv G Q n 0 0 (pc + 3) lv (v.toList ++ rest) I' P')) : Zv G Q n 0 0 pc lv (a4 :: a3 :: a2 :: a1 :: rf (k + 1) :: rest) I P :=
  Zv.callV (as := [a1, a2, a3, a4]) (rest := rest) (mc' := 0) (ms' := 0) hC hdg hL hM hk hci hkn hr8 rfl (Nat.le_refl _) ⟨Nat.zero_le _, Nat.zero_le _⟩ kk
theorem Zv.callS4 {a1 a2 a3 a4 : Fs} (hC : Fc G M (d' + 1) mc ms) (hdg : decode M.2.1 pc = .ok (.invokestatic idx, 3)) (hL : f_LM M.1.cls idx M'.1) (hM : f_MS M' 4) (hr8 : rest.length ≤ 8) (kk : Fk d' M' n n 0 0 [a1, a2, a3, a4] I P (fun v I' P' => Zv G Q n 0 0 (pc + 3) lv (v.toList ++ rest) I' P')) : Zv G Q n 0 0 pc lv (a4 :: a3 :: a2 :: a1 :: rest) I P :=
  Zv.callS (as := [a1, a2, a3, a4]) (rest := rest) (mc' := 0) (ms' := 0) hC hdg hL hM hr8 rfl (Nat.le_refl _) ⟨Nat.zero_le _, Nat.zero_le _⟩ kk
theorem Zv.callV5 {k ci : Nat} {a1 a2 a3 a4 a5 : Fs} (hC : Fc G M (d' + 1) mc ms) (hdg : decode M.2.1 pc = .ok (.invokevirtual idx, 3)) (hL : f_LM M.1.cls idx M'.1) (hM : f_MV M' 5) (hci : (f_cl[ci]?).map (fun r => r.1) = some M'.1.cls) (hr8 : rest.length ≤ 8) (hk : f_shp k = .inr ci) (hkn : k < n) (kk : Fk d' M' n n 0 0 (rf (k + 1) :: [a1, a2, a3, a4, a5]) I P (fun v I' P' => Zv G Q n 0 0 (pc + 3) lv (v.toList ++ rest) I' P')) : Zv G Q n 0 0 pc lv (a5 :: a4 :: a3 :: a2 :: a1 :: rf (k + 1) :: rest) I P :=
  Zv.callV (as := [a1, a2, a3, a4, a5]) (rest := rest) (mc' := 0) (ms' := 0) hC hdg hL hM hk hci hkn hr8 rfl (Nat.le_refl _) ⟨Nat.zero_le _, Nat.zero_le _⟩ kk
theorem Zv.callS5 {a1 a2 a3 a4 a5 : Fs} (hC : Fc G M (d' + 1) mc ms) (hdg : decode M.2.1 pc = .ok (.invokestatic idx, 3)) (hL : f_LM M.1.cls idx M'.1) (hM : f_MS M' 5) (hr8 : rest.length ≤ 8) (kk : Fk d' M' n n 0 0 [a1, a2, a3, a4, a5] I P (fun v I' P' => Zv G Q n 0 0 (pc + 3) lv (v.toList ++ rest) I' P')) : Zv G Q n 0 0 pc lv (a5 :: a4 :: a3 :: a2 :: a1 :: rest) I P :=
  Zv.callS (as := [a1, a2, a3, a4, a5]) (rest := rest) (mc' := 0) (ms' := 0) hC hdg hL hM hr8 rfl (Nat.le_refl _) ⟨Nat.zero_le _, Nat.zero_le _⟩ kk
end FCall
