section FR
variable {G : Fx} {Q : State → Prop} {M : Fy} {d mc ms n cells slots pc : Nat} {lv : Fl} {st : List Fs} {I : Fm} {P : Fr}
theorem Zv.weak {lv' : Fl} (h : ∀ q ∈ lv', q ∈ lv) (k : Zv G Q n cells slots pc lv' st I P) : Zv G Q n cells slots pc lv st I P := by
  obtain ⟨p, l, e, R, s, m, args, below, meth, c, D, ta, b, nL⟩ := G
  intro H locs ls hW hS hl
  refine k H locs ls hW hS ⟨hl.1, hl.2.1, fun q hq => hl.2.2 q ?_⟩
  obtain ⟨q0, h0, rfl⟩ := List.mem_map.mp hq
  exact List.mem_map.mpr ⟨q0, h q0 h0, rfl⟩
theorem Zv.pcx {pc' : Nat} (h : pc = pc') (k : Zv G Q n cells slots pc' lv st I P) : Zv G Q n cells slots pc lv st I P := h ▸ k
theorem Zv.mem {I' : Fm} {P' : Fr} (h : I = I') (h2 : P = P') (k : Zv G Q n cells slots pc lv st I' P') : Zv G Q n cells slots pc lv st I P := h ▸ h2 ▸ k
theorem Zv.iconst {z : Int} {v : Int32} (hC : Fc G M d mc ms) (hdg : decode M.2.1 pc = .ok (.iconst z, 1)) (hv : Int32.ofInt z = v) (k : Zv G Q n cells slots (pc + 1) lv (.inr v :: st) I P) : Zv G Q n cells slots pc lv st I P := by
  obtain ⟨p, l, e, R, s, m, args, below, meth, c, D, ta, b, nL⟩ := G
  intro H locs ls hW hS hl
  exact lv_iconst hC.1 hC.2.1 hdg hv (k H locs ls hW hS hl)
theorem Zv.bipush {z : Int} {v : Int32} (hC : Fc G M d mc ms) (hdg : decode M.2.1 pc = .ok (.bipush z, 2)) (hv : (Int8.ofInt z).toInt32 = v) (k : Zv G Q n cells slots (pc + 2) lv (.inr v :: st) I P) : Zv G Q n cells slots pc lv st I P := by
  obtain ⟨p, l, e, R, s, m, args, below, meth, c, D, ta, b, nL⟩ := G
  intro H locs ls hW hS hl
  exact lv_bipush hC.1 hC.2.1 hdg hv (k H locs ls hW hS hl)
theorem Zv.sipush {z : Int} {v : Int32} (hC : Fc G M d mc ms) (hdg : decode M.2.1 pc = .ok (.sipush z, 3)) (hv : (Int16.ofInt z).toInt32 = v) (k : Zv G Q n cells slots (pc + 3) lv (.inr v :: st) I P) : Zv G Q n cells slots pc lv st I P := by
  obtain ⟨p, l, e, R, s, m, args, below, meth, c, D, ta, b, nL⟩ := G
  intro H locs ls hW hS hl
  exact lv_sipush hC.1 hC.2.1 hdg hv (k H locs ls hW hS hl)
theorem Zv.iload_n {i : Fin 4} {x : Int32} (hC : Fc G M d mc ms) (hdg : decode M.2.1 pc = .ok (.iload_n i, 1)) (h : f_lk lv i = some (.inr x)) (k : Zv G Q n cells slots (pc + 1) lv (.inr x :: st) I P) : Zv G Q n cells slots pc lv st I P := by
  obtain ⟨p, l, e, R, s, m, args, below, meth, c, D, ta, b, nL⟩ := G
  intro H locs ls hW hS hl
  exact lv_iload_n hC.1 hC.2.1 hdg rfl (f_lk_at hl h) (k H locs ls hW hS hl)
theorem Zv.iload {i : Nat} {x : Int32} (hC : Fc G M d mc ms) (hdg : decode M.2.1 pc = .ok (.iload i, 2)) (h : f_lk lv i = some (.inr x)) (k : Zv G Q n cells slots (pc + 2) lv (.inr x :: st) I P) : Zv G Q n cells slots pc lv st I P := by
  obtain ⟨p, l, e, R, s, m, args, below, meth, c, D, ta, b, nL⟩ := G
  intro H locs ls hW hS hl
  exact lv_iload hC.1 hC.2.1 hdg (f_lk_at hl h) (k H locs ls hW hS hl)
theorem Zv.aload_n {i : Fin 4} {x : Nat} (hC : Fc G M d mc ms) (hdg : decode M.2.1 pc = .ok (.aload_n i, 1)) (h : f_lk lv i = some (rf (x + 1))) (k : Zv G Q n cells slots (pc + 1) lv (rf (x + 1) :: st) I P) : Zv G Q n cells slots pc lv st I P := by
  obtain ⟨p, l, e, R, s, m, args, below, meth, c, D, ta, b, nL⟩ := G
  intro H locs ls hW hS hl
  exact lv_aload_n hC.1 hC.2.1 hdg rfl (f_lk_at hl h) (k H locs ls hW hS hl)
theorem Zv.aload {i x : Nat} (hC : Fc G M d mc ms) (hdg : decode M.2.1 pc = .ok (.aload i, 2)) (h : f_lk lv i = some (rf (x + 1))) (k : Zv G Q n cells slots (pc + 2) lv (rf (x + 1) :: st) I P) : Zv G Q n cells slots pc lv st I P := by
  obtain ⟨p, l, e, R, s, m, args, below, meth, c, D, ta, b, nL⟩ := G
  intro H locs ls hW hS hl
  exact lv_aload hC.1 hC.2.1 hdg (f_lk_at hl h) (k H locs ls hW hS hl)
theorem Zv.iadd {x y : Int32} (hC : Fc G M d mc ms) (hdg : decode M.2.1 pc = .ok (.iadd, 1)) (k : Zv G Q n cells slots (pc + 1) lv (.inr (x + y) :: st) I P) : Zv G Q n cells slots pc lv (.inr y :: .inr x :: st) I P := by
  obtain ⟨p, l, e, R, s, m, args, below, meth, c, D, ta, b, nL⟩ := G
  intro H locs ls hW hS hl
  exact lv_iadd hC.1 hC.2.1 hdg (k H locs ls hW hS hl)
theorem Zv.isub {x y : Int32} (hC : Fc G M d mc ms) (hdg : decode M.2.1 pc = .ok (.isub, 1)) (k : Zv G Q n cells slots (pc + 1) lv (.inr (x - y) :: st) I P) : Zv G Q n cells slots pc lv (.inr y :: .inr x :: st) I P := by
  obtain ⟨p, l, e, R, s, m, args, below, meth, c, D, ta, b, nL⟩ := G
  intro H locs ls hW hS hl
  exact lv_isub hC.1 hC.2.1 hdg (k H locs ls hW hS hl)
theorem Zv.imul {x y : Int32} (hC : Fc G M d mc ms) (hdg : decode M.2.1 pc = .ok (.imul, 1)) (k : Zv G Q n cells slots (pc + 1) lv (.inr (x * y) :: st) I P) : Zv G Q n cells slots pc lv (.inr y :: .inr x :: st) I P := by
  obtain ⟨p, l, e, R, s, m, args, below, meth, c, D, ta, b, nL⟩ := G
  intro H locs ls hW hS hl
  exact lv_imul hC.1 hC.2.1 hdg (k H locs ls hW hS hl)
theorem Zv.iand {x y : Int32} (hC : Fc G M d mc ms) (hdg : decode M.2.1 pc = .ok (.iand, 1)) (k : Zv G Q n cells slots (pc + 1) lv (.inr (x &&& y) :: st) I P) : Zv G Q n cells slots pc lv (.inr y :: .inr x :: st) I P := by
  obtain ⟨p, l, e, R, s, m, args, below, meth, c, D, ta, b, nL⟩ := G
  intro H locs ls hW hS hl
  exact lv_iand hC.1 hC.2.1 hdg (k H locs ls hW hS hl)
theorem Zv.ior {x y : Int32} (hC : Fc G M d mc ms) (hdg : decode M.2.1 pc = .ok (.ior, 1)) (k : Zv G Q n cells slots (pc + 1) lv (.inr (x ||| y) :: st) I P) : Zv G Q n cells slots pc lv (.inr y :: .inr x :: st) I P := by
  obtain ⟨p, l, e, R, s, m, args, below, meth, c, D, ta, b, nL⟩ := G
  intro H locs ls hW hS hl
  exact lv_ior hC.1 hC.2.1 hdg (k H locs ls hW hS hl)
theorem Zv.ixor {x y : Int32} (hC : Fc G M d mc ms) (hdg : decode M.2.1 pc = .ok (.ixor, 1)) (k : Zv G Q n cells slots (pc + 1) lv (.inr (x ^^^ y) :: st) I P) : Zv G Q n cells slots pc lv (.inr y :: .inr x :: st) I P := by
  obtain ⟨p, l, e, R, s, m, args, below, meth, c, D, ta, b, nL⟩ := G
  intro H locs ls hW hS hl
  exact lv_ixor hC.1 hC.2.1 hdg (k H locs ls hW hS hl)
theorem Zv.ishl {x y : Int32} (hC : Fc G M d mc ms) (hdg : decode M.2.1 pc = .ok (.ishl, 1)) (k : Zv G Q n cells slots (pc + 1) lv (.inr (x <<< (y &&& 31)) :: st) I P) : Zv G Q n cells slots pc lv (.inr y :: .inr x :: st) I P := by
  obtain ⟨p, l, e, R, s, m, args, below, meth, c, D, ta, b, nL⟩ := G
  intro H locs ls hW hS hl
  exact lv_ishl hC.1 hC.2.1 hdg (k H locs ls hW hS hl)
theorem Zv.ishr {x y : Int32} (hC : Fc G M d mc ms) (hdg : decode M.2.1 pc = .ok (.ishr, 1)) (k : Zv G Q n cells slots (pc + 1) lv (.inr (x >>> (y &&& 31)) :: st) I P) : Zv G Q n cells slots pc lv (.inr y :: .inr x :: st) I P := by
  obtain ⟨p, l, e, R, s, m, args, below, meth, c, D, ta, b, nL⟩ := G
  intro H locs ls hW hS hl
  exact lv_ishr hC.1 hC.2.1 hdg (k H locs ls hW hS hl)
theorem Zv.idiv {x y : Int32} (hC : Fc G M d mc ms) (hdg : decode M.2.1 pc = .ok (.idiv, 1)) (hne : ¬ y = 0) (k : Zv G Q n cells slots (pc + 1) lv (.inr (x / y) :: st) I P) : Zv G Q n cells slots pc lv (.inr y :: .inr x :: st) I P := by
  obtain ⟨p, l, e, R, s, m, args, below, meth, c, D, ta, b, nL⟩ := G
  intro H locs ls hW hS hl
  exact lv_idiv hC.1 hC.2.1 hdg hne (k H locs ls hW hS hl)
theorem Zv.irem {x y : Int32} (hC : Fc G M d mc ms) (hdg : decode M.2.1 pc = .ok (.irem, 1)) (hne : ¬ y = 0) (k : Zv G Q n cells slots (pc + 1) lv (.inr (x - x / y * y) :: st) I P) : Zv G Q n cells slots pc lv (.inr y :: .inr x :: st) I P := by
  obtain ⟨p, l, e, R, s, m, args, below, meth, c, D, ta, b, nL⟩ := G
  intro H locs ls hW hS hl
  exact lv_irem hC.1 hC.2.1 hdg hne (k H locs ls hW hS hl)
theorem Zv.ineg {x : Int32} (hC : Fc G M d mc ms) (hdg : decode M.2.1 pc = .ok (.ineg, 1)) (k : Zv G Q n cells slots (pc + 1) lv (.inr (-x) :: st) I P) : Zv G Q n cells slots pc lv (.inr x :: st) I P := by
  obtain ⟨p, l, e, R, s, m, args, below, meth, c, D, ta, b, nL⟩ := G
  intro H locs ls hW hS hl
  exact lv_ineg hC.1 hC.2.1 hdg (k H locs ls hW hS hl)
theorem Zv.dup {v : Fs} (hC : Fc G M d mc ms) (hdg : decode M.2.1 pc = .ok (.dup, 1)) (k : Zv G Q n cells slots (pc + 1) lv (v :: v :: st) I P) : Zv G Q n cells slots pc lv (v :: st) I P := by
  obtain ⟨p, l, e, R, s, m, args, below, meth, c, D, ta, b, nL⟩ := G
  intro H locs ls hW hS hl
  exact lv_dup hC.1 hC.2.1 hdg (f_v_cat b v) (k H locs ls hW hS hl)
theorem Zv.pop {v : Fs} (hC : Fc G M d mc ms) (hdg : decode M.2.1 pc = .ok (.pop, 1)) (k : Zv G Q n cells slots (pc + 1) lv st I P) : Zv G Q n cells slots pc lv (v :: st) I P := by
  obtain ⟨p, l, e, R, s, m, args, below, meth, c, D, ta, b, nL⟩ := G
  intro H locs ls hW hS hl
  exact lv_pop hC.1 hC.2.1 hdg (f_v_cat b v) (k H locs ls hW hS hl)
theorem Zv.dup_x1 {v w : Fs} (hC : Fc G M d mc ms) (hdg : decode M.2.1 pc = .ok (.dup_x1, 1)) (k : Zv G Q n cells slots (pc + 1) lv (v :: w :: v :: st) I P) : Zv G Q n cells slots pc lv (v :: w :: st) I P := by
  obtain ⟨p, l, e, R, s, m, args, below, meth, c, D, ta, b, nL⟩ := G
  intro H locs ls hW hS hl
  exact lv_dup_x1 hC.1 hC.2.1 hdg (f_v_cat b v) (f_v_cat b w) (k H locs ls hW hS hl)
theorem Zv.dup_x2 {v w u : Fs} (hC : Fc G M d mc ms) (hdg : decode M.2.1 pc = .ok (.dup_x2, 1)) (k : Zv G Q n cells slots (pc + 1) lv (v :: w :: u :: v :: st) I P) : Zv G Q n cells slots pc lv (v :: w :: u :: st) I P := by
  obtain ⟨p, l, e, R, s, m, args, below, meth, c, D, ta, b, nL⟩ := G
  intro H locs ls hW hS hl
  exact lv_dup_x2 hC.1 hC.2.1 hdg (f_v_cat b v) (f_v_cat b w) (f_v_cat b u) (k H locs ls hW hS hl)
theorem Zv.dup2 {v w : Fs} (hC : Fc G M d mc ms) (hdg : decode M.2.1 pc = .ok (.dup2, 1)) (k : Zv G Q n cells slots (pc + 1) lv (v :: w :: v :: w :: st) I P) : Zv G Q n cells slots pc lv (v :: w :: st) I P := by
  obtain ⟨p, l, e, R, s, m, args, below, meth, c, D, ta, b, nL⟩ := G
  intro H locs ls hW hS hl
  exact lv_dup2_11 hC.1 hC.2.1 hdg (f_v_cat b v) (f_v_cat b w) (k H locs ls hW hS hl)
theorem Zv.goto {off : Int} {tgt : Nat} (hC : Fc G M d mc ms) (hdg : decode M.2.1 pc = .ok (.goto off, 3)) (ht : (pc : Int) + off = (tgt : Int)) (k : Zv G Q n cells slots (tgt) lv st I P) : Zv G Q n cells slots pc lv st I P := by
  obtain ⟨p, l, e, R, s, m, args, below, meth, c, D, ta, b, nL⟩ := G
  intro H locs ls hW hS hl
  exact lv_goto hC.1 hC.2.1 hdg ht (k H locs ls hW hS hl)
theorem Zv.ldc {idx : Nat} {v : Int32} (hC : Fc G M d mc ms) (hdg : decode M.2.1 pc = .ok (.ldc idx, 2)) (hw : Cond.constant M.1.cls idx v ∈ f_T) (k : Zv G Q n cells slots (pc + 2) lv (.inr v :: st) I P) : Zv G Q n cells slots pc lv st I P := by
  obtain ⟨p, l, e, R, s, m, args, below, meth, c, D, ta, b, nL⟩ := G
  intro H locs ls hW hS hl
  exact lv_ldc hC.1 hC.2.1 hC.2.2.2.1 (hC.2.2.2.2.1 _ hw) hdg (k H locs ls hW hS hl)
theorem Zv.istore_n {i : Fin 4} {x : Int32} {lv' : Fl} (hC : Fc G M d mc ms) (hdg : decode M.2.1 pc = .ok (.istore_n i, 1)) (hi : (i : Nat) < M.2.2.1) (hv : f_st lv i (.inr x) = lv') (k : Zv G Q n cells slots (pc + 1) lv' st I P) : Zv G Q n cells slots pc lv (.inr x :: st) I P := by
  subst hv
  obtain ⟨p, l, e, R, s, m, args, below, meth, c, D, ta, b, nL⟩ := G
  intro H locs ls hW hS hl
  exact lv_istore_n hC.1 hC.2.1 hdg rfl hl (by rw [hC.2.2.2.2.2.2.2.2.2.2.1]; exact hi) rfl (fun ls' h' => k H locs ls' hW hS (f_st_has h'))
theorem Zv.istore {i : Nat} {x : Int32} {lv' : Fl} (hC : Fc G M d mc ms) (hdg : decode M.2.1 pc = .ok (.istore i, 2)) (hi : (i : Nat) < M.2.2.1) (hv : f_st lv i (.inr x) = lv') (k : Zv G Q n cells slots (pc + 2) lv' st I P) : Zv G Q n cells slots pc lv (.inr x :: st) I P := by
  subst hv
  obtain ⟨p, l, e, R, s, m, args, below, meth, c, D, ta, b, nL⟩ := G
  intro H locs ls hW hS hl
  exact lv_istore hC.1 hC.2.1 hdg hl (by rw [hC.2.2.2.2.2.2.2.2.2.2.1]; exact hi) rfl (fun ls' h' => k H locs ls' hW hS (f_st_has h'))
theorem Zv.astore_n {i : Fin 4} {x : Nat} {lv' : Fl} (hC : Fc G M d mc ms) (hdg : decode M.2.1 pc = .ok (.astore_n i, 1)) (hi : (i : Nat) < M.2.2.1) (hv : f_st lv i (rf (x + 1)) = lv') (k : Zv G Q n cells slots (pc + 1) lv' st I P) : Zv G Q n cells slots pc lv (rf (x + 1) :: st) I P := by
  subst hv
  obtain ⟨p, l, e, R, s, m, args, below, meth, c, D, ta, b, nL⟩ := G
  intro H locs ls hW hS hl
  exact lv_astore_n hC.1 hC.2.1 hdg rfl hl (by rw [hC.2.2.2.2.2.2.2.2.2.2.1]; exact hi) rfl (fun ls' h' => k H locs ls' hW hS (f_st_has h'))
theorem Zv.astore {i : Nat} {x : Nat} {lv' : Fl} (hC : Fc G M d mc ms) (hdg : decode M.2.1 pc = .ok (.astore i, 2)) (hi : (i : Nat) < M.2.2.1) (hv : f_st lv i (rf (x + 1)) = lv') (k : Zv G Q n cells slots (pc + 2) lv' st I P) : Zv G Q n cells slots pc lv (rf (x + 1) :: st) I P := by
  subst hv
  obtain ⟨p, l, e, R, s, m, args, below, meth, c, D, ta, b, nL⟩ := G
  intro H locs ls hW hS hl
  exact lv_astore hC.1 hC.2.1 hdg hl (by rw [hC.2.2.2.2.2.2.2.2.2.2.1]; exact hi) rfl (fun ls' h' => k H locs ls' hW hS (f_st_has h'))
theorem Zv.iinc {i : Nat} {z : Int} {x v : Int32} {lv' : Fl} (hC : Fc G M d mc ms) (hdg : decode M.2.1 pc = .ok (.iinc i z, 3)) (h : f_lk lv i = some (.inr x)) (hi : i < M.2.2.1) (hx : x + Int32.ofInt z = v) (hv : f_st lv i (.inr v) = lv') (k : Zv G Q n cells slots (pc + 3) lv' st I P) : Zv G Q n cells slots pc lv st I P := by
  subst hv
  obtain ⟨p, l, e, R, s, m, args, below, meth, c, D, ta, b, nL⟩ := G
  intro H locs ls hW hS hl
  obtain ⟨j, hj⟩ := List.getElem?_of_mem (List.mem_map.mpr ⟨(i, (.inr x : Fs)), f_lk_mem lv i _ h, rfl⟩ : (i, f_v b (.inr x)) ∈ f_lv b lv)
  exact lv_iinc hC.1 hC.2.1 hdg hl (k := j) (x := x) hj hx (by rw [hC.2.2.2.2.2.2.2.2.2.2.1]; exact hi) rfl (fun ls' h' => k H locs ls' hW hS (f_st_has h'))
theorem Zv.if_eq {x : Int32} {off : Int} {tgt : Nat} (hC : Fc G M d mc ms) (hdg : decode M.2.1 pc = .ok (.ifCond .eq off, 3)) (ht : (pc : Int) + off = (tgt : Int)) (kt : x = 0 → Zv G Q n cells slots tgt lv st I P) (kf : ¬ x = 0 → Zv G Q n cells slots (pc + 3) lv st I P) : Zv G Q n cells slots pc lv (.inr x :: st) I P := by
  obtain ⟨p, l, e, R, s, m, args, below, meth, c, D, ta, b, nL⟩ := G
  intro H locs ls hW hS hl
  exact lv_if_eq hC.1 hC.2.1 hdg ht (fun h => kt h H locs ls hW hS hl) (fun h => kf h H locs ls hW hS hl)
theorem Zv.icmp_eq {x y : Int32} {off : Int} {tgt : Nat} (hC : Fc G M d mc ms) (hdg : decode M.2.1 pc = .ok (.if_icmp .eq off, 3)) (ht : (pc : Int) + off = (tgt : Int)) (kt : x = y → Zv G Q n cells slots tgt lv st I P) (kf : ¬ x = y → Zv G Q n cells slots (pc + 3) lv st I P) : Zv G Q n cells slots pc lv (.inr y :: .inr x :: st) I P := by
  obtain ⟨p, l, e, R, s, m, args, below, meth, c, D, ta, b, nL⟩ := G
  intro H locs ls hW hS hl
  exact lv_icmp_eq hC.1 hC.2.1 hdg ht (fun h => kt h H locs ls hW hS hl) (fun h => kf h H locs ls hW hS hl)
theorem Zv.if_ne {x : Int32} {off : Int} {tgt : Nat} (hC : Fc G M d mc ms) (hdg : decode M.2.1 pc = .ok (.ifCond .ne off, 3)) (ht : (pc : Int) + off = (tgt : Int)) (kt : ¬ x = 0 → Zv G Q n cells slots tgt lv st I P) (kf : x = 0 → Zv G Q n cells slots (pc + 3) lv st I P) : Zv G Q n cells slots pc lv (.inr x :: st) I P := by
  obtain ⟨p, l, e, R, s, m, args, below, meth, c, D, ta, b, nL⟩ := G
  intro H locs ls hW hS hl
  exact lv_if_ne hC.1 hC.2.1 hdg ht (fun h => kt h H locs ls hW hS hl) (fun h => kf h H locs ls hW hS hl)
theorem Zv.icmp_ne {x y : Int32} {off : Int} {tgt : Nat} (hC : Fc G M d mc ms) (hdg : decode M.2.1 pc = .ok (.if_icmp .ne off, 3)) (ht : (pc : Int) + off = (tgt : Int)) (kt : ¬ x = y → Zv G Q n cells slots tgt lv st I P) (kf : x = y → Zv G Q n cells slots (pc + 3) lv st I P) : Zv G Q n cells slots pc lv (.inr y :: .inr x :: st) I P := by
  obtain ⟨p, l, e, R, s, m, args, below, meth, c, D, ta, b, nL⟩ := G
  intro H locs ls hW hS hl
  exact lv_icmp_ne hC.1 hC.2.1 hdg ht (fun h => kt h H locs ls hW hS hl) (fun h => kf h H locs ls hW hS hl)
theorem Zv.if_lt {x : Int32} {off : Int} {tgt : Nat} (hC : Fc G M d mc ms) (hdg : decode M.2.1 pc = .ok (.ifCond .lt off, 3)) (ht : (pc : Int) + off = (tgt : Int)) (kt : x < 0 → Zv G Q n cells slots tgt lv st I P) (kf : ¬ x < 0 → Zv G Q n cells slots (pc + 3) lv st I P) : Zv G Q n cells slots pc lv (.inr x :: st) I P := by
  obtain ⟨p, l, e, R, s, m, args, below, meth, c, D, ta, b, nL⟩ := G
  intro H locs ls hW hS hl
  exact lv_if_lt hC.1 hC.2.1 hdg ht (fun h => kt h H locs ls hW hS hl) (fun h => kf h H locs ls hW hS hl)
theorem Zv.icmp_lt {x y : Int32} {off : Int} {tgt : Nat} (hC : Fc G M d mc ms) (hdg : decode M.2.1 pc = .ok (.if_icmp .lt off, 3)) (ht : (pc : Int) + off = (tgt : Int)) (kt : x < y → Zv G Q n cells slots tgt lv st I P) (kf : ¬ x < y → Zv G Q n cells slots (pc + 3) lv st I P) : Zv G Q n cells slots pc lv (.inr y :: .inr x :: st) I P := by
  obtain ⟨p, l, e, R, s, m, args, below, meth, c, D, ta, b, nL⟩ := G
  intro H locs ls hW hS hl
  exact lv_icmp_lt hC.1 hC.2.1 hdg ht (fun h => kt h H locs ls hW hS hl) (fun h => kf h H locs ls hW hS hl)
theorem Zv.if_ge {x : Int32} {off : Int} {tgt : Nat} (hC : Fc G M d mc ms) (hdg : decode M.2.1 pc = .ok (.ifCond .ge off, 3)) (ht : (pc : Int) + off = (tgt : Int)) (kt : 0 ≤ x → Zv G Q n cells slots tgt lv st I P) (kf : ¬ 0 ≤ x → Zv G Q n cells slots (pc + 3) lv st I P) : Zv G Q n cells slots pc lv (.inr x :: st) I P := by
  obtain ⟨p, l, e, R, s, m, args, below, meth, c, D, ta, b, nL⟩ := G
  intro H locs ls hW hS hl
  exact lv_if_ge hC.1 hC.2.1 hdg ht (fun h => kt h H locs ls hW hS hl) (fun h => kf h H locs ls hW hS hl)
theorem Zv.icmp_ge {x y : Int32} {off : Int} {tgt : Nat} (hC : Fc G M d mc ms) (hdg : decode M.2.1 pc = .ok (.if_icmp .ge off, 3)) (ht : (pc : Int) + off = (tgt : Int)) (kt : y ≤ x → Zv G Q n cells slots tgt lv st I P) (kf : ¬ y ≤ x → Zv G Q n cells slots (pc + 3) lv st I P) : Zv G Q n cells slots pc lv (.inr y :: .inr x :: st) I P := by
  obtain ⟨p, l, e, R, s, m, args, below, meth, c, D, ta, b, nL⟩ := G
  intro H locs ls hW hS hl
  exact lv_icmp_ge hC.1 hC.2.1 hdg ht (fun h => kt h H locs ls hW hS hl) (fun h => kf h H locs ls hW hS hl)
theorem Zv.if_gt {x : Int32} {off : Int} {tgt : Nat} (hC : Fc G M d mc ms) (hdg : decode M.2.1 pc = .ok (.ifCond .gt off, 3)) (ht : (pc : Int) + off = (tgt : Int)) (kt : 0 < x → Zv G Q n cells slots tgt lv st I P) (kf : ¬ 0 < x → Zv G Q n cells slots (pc + 3) lv st I P) : Zv G Q n cells slots pc lv (.inr x :: st) I P := by
  obtain ⟨p, l, e, R, s, m, args, below, meth, c, D, ta, b, nL⟩ := G
  intro H locs ls hW hS hl
  exact lv_if_gt hC.1 hC.2.1 hdg ht (fun h => kt h H locs ls hW hS hl) (fun h => kf h H locs ls hW hS hl)
theorem Zv.icmp_gt {x y : Int32} {off : Int} {tgt : Nat} (hC : Fc G M d mc ms) (hdg : decode M.2.1 pc = .ok (.if_icmp .gt off, 3)) (ht : (pc : Int) + off = (tgt : Int)) (kt : y < x → Zv G Q n cells slots tgt lv st I P) (kf : ¬ y < x → Zv G Q n cells slots (pc + 3) lv st I P) : Zv G Q n cells slots pc lv (.inr y :: .inr x :: st) I P := by
  obtain ⟨p, l, e, R, s, m, args, below, meth, c, D, ta, b, nL⟩ := G
  intro H locs ls hW hS hl
  exact lv_icmp_gt hC.1 hC.2.1 hdg ht (fun h => kt h H locs ls hW hS hl) (fun h => kf h H locs ls hW hS hl)
theorem Zv.if_le {x : Int32} {off : Int} {tgt : Nat} (hC : Fc G M d mc ms) (hdg : decode M.2.1 pc = .ok (.ifCond .le off, 3)) (ht : (pc : Int) + off = (tgt : Int)) (kt : x ≤ 0 → Zv G Q n cells slots tgt lv st I P) (kf : ¬ x ≤ 0 → Zv G Q n cells slots (pc + 3) lv st I P) : Zv G Q n cells slots pc lv (.inr x :: st) I P := by
  obtain ⟨p, l, e, R, s, m, args, below, meth, c, D, ta, b, nL⟩ := G
  intro H locs ls hW hS hl
  exact lv_if_le hC.1 hC.2.1 hdg ht (fun h => kt h H locs ls hW hS hl) (fun h => kf h H locs ls hW hS hl)
theorem Zv.icmp_le {x y : Int32} {off : Int} {tgt : Nat} (hC : Fc G M d mc ms) (hdg : decode M.2.1 pc = .ok (.if_icmp .le off, 3)) (ht : (pc : Int) + off = (tgt : Int)) (kt : x ≤ y → Zv G Q n cells slots tgt lv st I P) (kf : ¬ x ≤ y → Zv G Q n cells slots (pc + 3) lv st I P) : Zv G Q n cells slots pc lv (.inr y :: .inr x :: st) I P := by
  obtain ⟨p, l, e, R, s, m, args, below, meth, c, D, ta, b, nL⟩ := G
  intro H locs ls hW hS hl
  exact lv_icmp_le hC.1 hC.2.1 hdg ht (fun h => kt h H locs ls hW hS hl) (fun h => kf h H locs ls hW hS hl)
theorem Zv.tabOut {dflt lo hi : Int} {offs : Array Int} {len tgt : Nat} {x : Int32} (hC : Fc G M d mc ms) (hdg : decode M.2.1 pc = .ok (.tableswitch dflt lo hi offs, len)) (h : x.toInt < lo ∨ hi < x.toInt) (ht : (pc : Int) + dflt = (tgt : Int)) (k : Zv G Q n cells slots tgt lv st I P) : Zv G Q n cells slots pc lv (.inr x :: st) I P := by
  obtain ⟨p, l, e, R, s, m, args, below, meth, c, D, ta, b, nL⟩ := G
  intro H locs ls hW hS hl
  exact lv_tableOut hC.1 hC.2.1 hdg h ht (k H locs ls hW hS hl)
theorem Zv.tabIn {dflt lo hi : Int} {offs : Array Int} {len tgt : Nat} {x : Int32} {off : Int} (hC : Fc G M d mc ms) (hdg : decode M.2.1 pc = .ok (.tableswitch dflt lo hi offs, len)) (h1 : ¬ x.toInt < lo) (h2 : ¬ hi < x.toInt) (ho : offs[(x.toInt - lo).toNat]? = some off) (ht : (pc : Int) + off = (tgt : Int)) (k : Zv G Q n cells slots tgt lv st I P) : Zv G Q n cells slots pc lv (.inr x :: st) I P := by
  obtain ⟨p, l, e, R, s, m, args, below, meth, c, D, ta, b, nL⟩ := G
  intro H locs ls hW hS hl
  exact lv_tableIn hC.1 hC.2.1 hdg h1 h2 ho ht (k H locs ls hW hS hl)
theorem Zv.lookup {dflt : Int} {ps : Array (Int × Int)} {len tgt : Nat} {x : Int32} {off : Int} (hC : Fc G M d mc ms) (hdg : decode M.2.1 pc = .ok (.lookupswitch dflt ps, len)) (hp : (ps.toList.zip (ps.toList.drop 1)).all (fun (a, next) => a.1 < next.1) = true) (ho : Op.lookupswitch.offset ps.toList dflt x.toInt = off) (ht : (pc : Int) + off = (tgt : Int)) (k : Zv G Q n cells slots tgt lv st I P) : Zv G Q n cells slots pc lv (.inr x :: st) I P := by
  obtain ⟨p, l, e, R, s, m, args, below, meth, c, D, ta, b, nL⟩ := G
  intro H locs ls hW hS hl
  exact lv_lookup hC.1 hC.2.1 hdg hp ho ht (k H locs ls hW hS hl)
/-- of a class: its fields' types, their names apart, their words -/
def f_CK (ci : Nat) (r : vw_C) (ty : Nat → FieldType) : Prop := f_cl[ci]? = some r ∧ (∀ k, k < r.2.2 → parseFieldDescriptor (r.2.1 k).2.2.1 = some (ty k)) ∧ (∀ a, a < r.2.2 → ∀ b, b < r.2.2 → a ≠ b → (r.2.1 a).2.1 ≠ (r.2.1 b).2.1) ∧ ∀ w ∈ u_ws r.1 r.2.1 r.2.2, w ∈ f_T
theorem Zv.geti {idx ci j k : Nat} {v : Int32} (hC : Fc G M d mc ms) (hdg : decode M.2.1 pc = .ok (.getfield idx, 3)) (hF : f_FD M.1.cls idx ci j) (hf : f_fk ci j = false) (hk : f_shp k = .inr ci) (hn : k < n) (hv : I k j = v) (kk : Zv G Q n cells slots (pc + 3) lv (.inr v :: st) I P) : Zv G Q n cells slots pc lv (rf (k + 1) :: st) I P := by
  obtain ⟨p, l, e, R, s, m, args, below, meth, c, D, ta, b, nL⟩ := G
  intro H locs ls hW hS hl
  obtain ⟨hx, hb, hml, hown, hts, hlk, hrt, hnm, hK, hsz, hnL, hfr, hlo, hce, hsl⟩ := hC
  obtain ⟨r, hr, hj, hL, hin⟩ := hF
  obtain ⟨r', hr', cell, q1, q2, q3, q4⟩ := f_at_obj (hW.2 k hn) hk
  obtain rfl : r' = r := Option.some.inj (hr'.symm.trans hr)
  obtain ⟨hS', hfc, kC, hkC, hkind⟩ := hK.1.1 ci _ hr
  obtain ⟨cf, kf, fi, f, hi, hsl'⟩ := hS' j hj
  have hst := (u_facts hfc hkC (u_lays hts hin hj) hi).1
  have hval : cell.slots[f.slot]? = some (.int v) := by
    rw [hsl', q4 j hj]
    simp [f_ov, hf, hv]
  rcases hL with hL | ⟨host, hL⟩
  · exact W.getf hx hb hown (hts _ hL) hi hst q1 (by rw [q3]; exact fun h => by cases h) hval rfl rfl hdg (kk H locs ls hW hS hl)
  · exact va_Wgetf hx hb hown (va_Nw.use (f_N_on hL) (hK.2.1 _ hL)) hi hst q1 (by rw [q3]; exact fun h => by cases h) hval rfl rfl hdg (kk H locs ls hW hS hl)
theorem Zv.getr {idx ci j k q : Nat} (hC : Fc G M d mc ms) (hdg : decode M.2.1 pc = .ok (.getfield idx, 3)) (hF : f_FD M.1.cls idx ci j) (hf : f_fk ci j = true) (hk : f_shp k = .inr ci) (hn : k < n) (hv : P k j = q) (kk : Zv G Q n cells slots (pc + 3) lv (rf q :: st) I P) : Zv G Q n cells slots pc lv (rf (k + 1) :: st) I P := by
  obtain ⟨p, l, e, R, s, m, args, below, meth, c, D, ta, b, nL⟩ := G
  intro H locs ls hW hS hl
  obtain ⟨hx, hb, hml, hown, hts, hlk, hrt, hnm, hK, hsz, hnL, hfr, hlo, hce, hsl⟩ := hC
  obtain ⟨r, hr, hj, hL, hin⟩ := hF
  obtain ⟨r', hr', cell, q1, q2, q3, q4⟩ := f_at_obj (hW.2 k hn) hk
  obtain rfl : r' = r := Option.some.inj (hr'.symm.trans hr)
  obtain ⟨hS', hfc, kC, hkC, hkind⟩ := hK.1.1 ci _ hr
  obtain ⟨cf, kf, fi, f, hi, hsl'⟩ := hS' j hj
  have hst := (u_facts hfc hkC (u_lays hts hin hj) hi).1
  have hval : cell.slots[f.slot]? = some (f_v b (rf q)) := by
    rw [hsl', q4 j hj]
    simp [f_ov, hf, hv]
  rcases hL with hL | ⟨host, hL⟩
  · exact W.getf hx hb hown (hts _ hL) hi hst q1 (by rw [q3]; exact fun h => by cases h) hval rfl rfl hdg (kk H locs ls hW hS hl)
  · exact va_Wgetf hx hb hown (va_Nw.use (f_N_on hL) (hK.2.1 _ hL)) hi hst q1 (by rw [q3]; exact fun h => by cases h) hval rfl rfl hdg (kk H locs ls hW hS hl)
theorem Zv.puti {idx ci j k : Nat} {v : Int32} {r : vw_C} {ty0 : Nat → FieldType} (hC : Fc G M d mc ms) (hdg : decode M.2.1 pc = .ok (.putfield idx, 3)) (hF : f_FD M.1.cls idx ci j) (hf : f_fk ci j = false) (hc : f_CK ci r ty0) (hfin : (r.2.1 j).2.2.2 = false) (hnr : narrow (ty0 j) (.int v) = .int v) (hft : fits (ty0 j) (.int v) = true) (hk : f_shp k = .inr ci) (hn : k < n) (kk : Zv G Q n cells slots (pc + 3) lv st (f_u I k j v) P) : Zv G Q n cells slots pc lv (.inr v :: rf (k + 1) :: st) I P := by
  obtain ⟨p, l, e, R, s, m, args, below, meth, c, D, ta, b, nL⟩ := G
  intro H locs ls hW hS hl
  obtain ⟨hx, hb, hml, hown, hts, hlk, hrt, hnm, hK, hsz, hnL, hfr, hlo, hce, hsl⟩ := hC
  obtain ⟨r0, hr0, hj, hL, -⟩ := hF
  obtain ⟨hr, hty, hnm2, hin⟩ := hc
  obtain rfl : r0 = r := Option.some.inj (hr0.symm.trans hr)
  obtain ⟨r', hr', cell, q1, q2, q3, q4⟩ := f_at_obj (hW.2 k hn) hk
  obtain rfl : r' = r0 := Option.some.inj (hr'.symm.trans hr)
  have hap := va_apart (own := M.1.cls) hts hin ty0 hty hnm2 hK.1 hr
  obtain ⟨hS', hfc, kC, hkC, hkind⟩ := hK.1.1 ci _ hr
  obtain ⟨cf, kf, fi, f, hi, hsl'⟩ := hS' j hj
  have hst := (u_facts hfc hkC (u_lays hts hin hj) hi).1
  have hlay := hts _ (hin _ (u_in_lay hj))
  unfold u_lay at hlay
  rw [if_neg (by rw [hfin]; decide)] at hlay
  have h6 := u_store hfc hkC hkind hlay hi (hty j hj) hnr hft
  have fin : ∀ H' : Heap, H'[b + k]? = some (cell.setSlot f.slot (.int v)) → H'.size = H.size → (∀ q, q ≠ b + k → H'[q]? = H[q]?) → W p l e R s m args below meth c H' (locs ++ [⟨b + k, f.slot⟩]) cells slots Q (F0 m (pc + 3) ls (st.map (f_v b))) := by
    intro H' e1 e2 e3
    rw [hsl'] at e1
    refine kk H' _ ls (f_W_set hW e2 e3 (fun a ha => f_u_ne ha) (fun _ _ => rfl) (f_obj_at hk hr (t_OB.to (V := updV (f_ov b ci I P k) j (.int v)) ⟨_, e1, q2, q3, t_set q4 hap hj _⟩ (fun a _ => ?_)))) (hS.put e2 e3 (Nat.le_add_right b k)) hl
    by_cases ha : a = j
    · subst ha
      simp [updV, f_ov, f_u, hf]
    · simp [updV, f_ov, f_u, ha]
  rcases hL with hL | ⟨host, hL⟩
  · exact W.putK hx hb (f := f) ⟨hown, hts _ hL, ⟨_, _, _, hi⟩, hst⟩ (by rw [q2]; exact h6) q1 q3 (by rw [hsl']; exact k2_hasslot (q4 j hj)) rfl rfl hdg fin
  · exact va_WputK hx hb (f := f) hown (va_Nw.use (f_N_on hL) (hK.2.1 _ hL)) hi hst (by rw [q2]; exact h6) q1 q3 (by rw [hsl']; exact k2_hasslot (q4 j hj)) rfl rfl hdg fin
/-- a final reference field, in its class's constructor -/
theorem Zv.putF {idx ci j k q : Nat} {r : vw_C} {ty0 : Nat → FieldType} (hC : Fc G M d mc ms) (hdg : decode M.2.1 pc = .ok (.putfield idx, 3)) (hF : f_FD M.1.cls idx ci j) (hf : f_fk ci j = true) (hc : f_CK ci r ty0) (hfin : (r.2.1 j).2.2.2 = true) (hdecl : (r.2.1 j).1 = M.1.cls) (hin2 : M.1.name = "<init>") (hnr : ∀ a, narrow (ty0 j) (.ref a) = .ref a) (hft : ∀ a, fits (ty0 j) (.ref a) = true) (hk : f_shp k = .inr ci) (hn : k < n) (kk : Zv G Q n cells slots (pc + 3) lv st I (f_u P k j (q + 1))) : Zv G Q n cells slots pc lv (rf (q + 1) :: rf (k + 1) :: st) I P := by
  obtain ⟨p, l, e, R, s, m, args, below, meth, c, D, ta, b, nL⟩ := G
  intro H locs ls hW hS hl
  obtain ⟨hx, hb, hml, hown, hts, hlk, hrt, hnm, hK, hsz, hnL, hfr, hlo, hce, hsl⟩ := hC
  obtain ⟨r0, hr0, hj, hL, -⟩ := hF
  obtain ⟨hr, hty, hnm2, hin⟩ := hc
  obtain rfl : r0 = r := Option.some.inj (hr0.symm.trans hr)
  obtain ⟨r', hr', cell, q1, q2, q3, q4⟩ := f_at_obj (hW.2 k hn) hk
  obtain rfl : r' = r0 := Option.some.inj (hr'.symm.trans hr)
  have hap := va_apart (own := M.1.cls) hts hin ty0 hty hnm2 hK.1 hr
  obtain ⟨hS', hfc, kC, hkC, hkind⟩ := hK.1.1 ci _ hr
  obtain ⟨cf, kf, fi, f, hi, hsl'⟩ := hS' j hj
  have hst := (u_facts hfc hkC (u_lays hts hin hj) hi).1
  have hlay := hts _ (hin _ (u_in_lay hj))
  unfold u_lay at hlay
  rw [if_pos hfin] at hlay
  have hcf : m.cls = cf := by
    obtain ⟨_, _, c', _, _, _, -, -, hf', -, -, -, hown2, -⟩ := Cond.laysFinal_spec hlay
    have e1 : c' = cf := by have := hi.symm.trans hf'; simp at this; exact this.1.symm
    rw [hdecl] at hown2
    rw [← e1]; exact Option.some.inj (hown.symm.trans hown2)
  have h6 := u_fits hfc hkC hkind (Or.inr hlay) hi (hty j hj) (hnr (b + q)) (hft (b + q))
  have fin : ∀ H' : Heap, H'[b + k]? = some (cell.setSlot f.slot (.ref (b + q))) → H'.size = H.size → (∀ q, q ≠ b + k → H'[q]? = H[q]?) → W p l e R s m args below meth c H' (locs ++ [⟨b + k, f.slot⟩]) cells slots Q (F0 m (pc + 3) ls (st.map (f_v b))) := by
    intro H' e1 e2 e3
    rw [hsl'] at e1
    refine kk H' _ ls (f_W_set hW e2 e3 (fun _ _ => rfl) (fun a ha => f_u_ne ha) (f_obj_at hk hr (t_OB.to (V := updV (f_ov b ci I P k) j (.ref (b + q))) ⟨_, e1, q2, q3, t_set q4 hap hj _⟩ (fun a _ => ?_)))) (hS.put e2 e3 (Nat.le_add_right b k)) hl
    by_cases ha : a = j
    · subst ha
      simp [updV, f_ov, f_u, hf, f_v]
    · simp [updV, f_ov, f_u, ha]
  rcases hL with hL | ⟨host, hL⟩
  · exact W.putFinK hx hb hown (hts _ hL) hi hst hcf (hnm.trans hin2) (by rw [q2]; exact h6) q1 q3 (by rw [hsl']; exact k2_hasslot (q4 j hj)) rfl rfl hdg fin
  · have ha : b + k < H.size := (Array.getElem?_eq_some_iff.mp q1).1
    refine va_Wputf hx hb hown (va_Nw.use (f_N_on hL) (hK.2.1 _ hL)) hi hst (Or.inr ⟨hcf, hnm.trans hin2⟩) q1 (by rw [q3]; exact fun h => by cases h) (by rw [hsl']; exact k2_hasslot (q4 j hj)) h6.1 (by rw [q3, q2]; exact h6.2) rfl rfl hdg (fin _ ?_ ?_ ?_)
    · simp [Array.getElem?_setIfInBounds, ha]
    · simp
    · intro q hq
      simp [Array.getElem?_setIfInBounds, Ne.symm hq]
theorem Zv.iald {k N j : Nat} {i v : Int32} (hC : Fc G M d mc ms) (hdg : decode M.2.1 pc = .ok (.iaload, 1)) (hk : f_shp k = .inl (0, N)) (hn : k < n) (hi : i = nI j) (hj : j < N) (hN : N < 2 ^ 31) (hv : I k j = v) (kk : Zv G Q n cells slots (pc + 1) lv (.inr v :: st) I P) : Zv G Q n cells slots pc lv (.inr i :: rf (k + 1) :: st) I P := by
  subst hi
  obtain ⟨p, l, e, R, s, m, args, below, meth, c, D, ta, b, nL⟩ := G
  intro H locs ls hW hS hl
  obtain ⟨hx, hb, hml, hown, hts, hlk, hrt, hnm, hK, hsz, hnL, hfr, hlo, hce, hsl⟩ := hC
  exact W.iald (v := .int v) hx hb (f_at_arr (hW.2 k hn) hk) ((hK.1.2 0 _ rfl).1 N _) (fun q => by cases q) (by rw [arrV_size]; exact nI_in hj hN) (by rw [nI_clamp (by omega), arrV_read _ _ hj]; simp [f_av, hv]) rfl rfl hdg (kk H locs ls hW hS hl)
theorem Zv.zald {k N j : Nat} {i v : Int32} (hC : Fc G M d mc ms) (hdg : decode M.2.1 pc = .ok (.baload, 1)) (hk : f_shp k = .inl (1, N)) (hn : k < n) (hi : i = nI j) (hj : j < N) (hN : N < 2 ^ 31) (hv : I k j = v) (kk : Zv G Q n cells slots (pc + 1) lv (.inr v :: st) I P) : Zv G Q n cells slots pc lv (.inr i :: rf (k + 1) :: st) I P := by
  subst hi
  obtain ⟨p, l, e, R, s, m, args, below, meth, c, D, ta, b, nL⟩ := G
  intro H locs ls hW hS hl
  obtain ⟨hx, hb, hml, hown, hts, hlk, hrt, hnm, hK, hsz, hnL, hfr, hlo, hce, hsl⟩ := hC
  exact W.zald (v := .int v) hx hb (f_at_arr (hW.2 k hn) hk) ((hK.1.2 1 _ rfl).1 N _) (fun q => by cases q) (by rw [arrV_size]; exact nI_in hj hN) (by rw [nI_clamp (by omega), arrV_read _ _ hj]; simp [f_av, hv]) rfl rfl hdg (kk H locs ls hW hS hl)
theorem Zv.aald {k t N j q : Nat} {i : Int32} {C : String} (hC : Fc G M d mc ms) (hdg : decode M.2.1 pc = .ok (.aaload, 1)) (hk : f_shp k = .inl (t, N)) (ht : ∀ ta, (f_tys ta)[t]? = some (ta t, .object C)) (ht2 : 2 ≤ t) (hn : k < n) (hi : i = nI j) (hj : j < N) (hN : N < 2 ^ 31) (hv : P k j = q) (kk : Zv G Q n cells slots (pc + 1) lv (rf q :: st) I P) : Zv G Q n cells slots pc lv (.inr i :: rf (k + 1) :: st) I P := by
  subst hi
  obtain ⟨p, l, e, R, s, m, args, below, meth, c, D, ta, b, nL⟩ := G
  intro H locs ls hW hS hl
  obtain ⟨hx, hb, hml, hown, hts, hlk, hrt, hnm, hK, hsz, hnL, hfr, hlo, hce, hsl⟩ := hC
  exact W.aald (v := f_v b (rf q)) (ty := .object C) hx hb (f_at_arr (hW.2 k hn) hk) ((hK.1.2 t _ (ht ta)).1 N _) rfl (fun q => by cases q) (by rw [arrV_size]; exact nI_in hj hN) (by rw [nI_clamp (by omega), arrV_read _ _ hj]; simp [f_av, hv, Nat.not_lt.mpr ht2]) rfl rfl hdg (kk H locs ls hW hS hl)
theorem f_arr_set {D : va_G} {ta : Nat → ClassId} {b k t N j : Nat} {I I' : Fm} {P P' : Fr} {H H' : Heap} {x : Value} (hW : f_W D ta b n I P H) (hk : f_shp k = .inl (t, N)) (e1 : H'[b + k]? = some ((arrV (ta t) N (f_av b t I P k)).setSlot j x)) (e2 : H'.size = H.size) (e3 : ∀ q, q ≠ b + k → H'[q]? = H[q]?) (hI : ∀ a, a ≠ k → I' a = I a) (hP : ∀ a, a ≠ k → P' a = P a) (hx : updV (f_av b t I P k) j x = f_av b t I' P' k) : f_W D ta b n I' P' H' := by
  refine f_W_set hW e2 e3 hI hP (f_arr_at hk ?_)
  rw [e1, arrV_store, hx]
theorem Zv.iast {k N j : Nat} {i v : Int32} (hC : Fc G M d mc ms) (hdg : decode M.2.1 pc = .ok (.iastore, 1)) (hk : f_shp k = .inl (0, N)) (hn : k < n) (hi : i = nI j) (hj : j < N) (hN : N < 2 ^ 31) (kk : Zv G Q n cells slots (pc + 1) lv st (f_u I k j v) P) : Zv G Q n cells slots pc lv (.inr v :: .inr i :: rf (k + 1) :: st) I P := by
  subst hi
  obtain ⟨p, l, e, R, s, m, args, below, meth, c, D, ta, b, nL⟩ := G
  intro H locs ls hW hS hl
  obtain ⟨hx, hb, hml, hown, hts, hlk, hrt, hnm, hK, hsz, hnL, hfr, hlo, hce, hsl⟩ := hC
  refine W.iast (x := v) hx hb (f_at_arr (hW.2 k hn) hk) ((hK.1.2 0 _ rfl).1 N _) (fun q => by cases q) (by rw [arrV_size]; exact nI_in hj hN) rfl rfl hdg fun H' e1 e2 e3 => ?_
  rw [nI_clamp (by omega)] at e1 ⊢
  refine kk H' _ ls (f_arr_set hW hk e1 e2 e3 (fun a ha => f_u_ne ha) (fun _ _ => rfl) ?_) (hS.put e2 e3 (Nat.le_add_right b k)) hl
  funext a
  by_cases ha : a = j
  · subst ha
    simp [updV, f_av, f_u]
  · simp [updV, f_av, f_u, ha]
theorem Zv.zast {k N j : Nat} {i v : Int32} (hC : Fc G M d mc ms) (hdg : decode M.2.1 pc = .ok (.bastore, 1)) (hk : f_shp k = .inl (1, N)) (hn : k < n) (hi : i = nI j) (hj : j < N) (hN : N < 2 ^ 31) (hnr : narrow .boolean (.int v) = .int v) (kk : Zv G Q n cells slots (pc + 1) lv st (f_u I k j v) P) : Zv G Q n cells slots pc lv (.inr v :: .inr i :: rf (k + 1) :: st) I P := by
  subst hi
  obtain ⟨p, l, e, R, s, m, args, below, meth, c, D, ta, b, nL⟩ := G
  intro H locs ls hW hS hl
  obtain ⟨hx, hb, hml, hown, hts, hlk, hrt, hnm, hK, hsz, hnL, hfr, hlo, hce, hsl⟩ := hC
  refine W.zast (x := v) hx hb (f_at_arr (hW.2 k hn) hk) ((hK.1.2 1 _ rfl).1 N _) (fun q => by cases q) (by rw [arrV_size]; exact nI_in hj hN) rfl rfl hdg fun H' e1 e2 e3 => ?_
  rw [nI_clamp (by omega)] at e1 ⊢
  rw [hnr] at e1
  refine kk H' _ ls (f_arr_set hW hk e1 e2 e3 (fun a ha => f_u_ne ha) (fun _ _ => rfl) ?_) (hS.put e2 e3 (Nat.le_add_right b k)) hl
  funext a
  by_cases ha : a = j
  · subst ha
    simp [updV, f_av, f_u]
  · simp [updV, f_av, f_u, ha]
theorem Zv.aast {k t N j q ci : Nat} {i : Int32} {r : vw_C} (hC : Fc G M d mc ms) (hdg : decode M.2.1 pc = .ok (.aastore, 1)) (hk : f_shp k = .inl (t, N)) (ht : ∀ ta, (f_tys ta)[t]? = some (ta t, .object r.1)) (ht2 : 2 ≤ t) (hn : k < n) (hi : i = nI j) (hj : j < N) (hN : N < 2 ^ 31) (hq : f_shp q = .inr ci) (hqn : q < n) (hr : f_cl[ci]? = some r) (kk : Zv G Q n cells slots (pc + 1) lv st I (f_u P k j (q + 1))) : Zv G Q n cells slots pc lv (rf (q + 1) :: .inr i :: rf (k + 1) :: st) I P := by
  subst hi
  obtain ⟨p, l, e, R, s, m, args, below, meth, c, D, ta, b, nL⟩ := G
  intro H locs ls hW hS hl
  obtain ⟨hx, hb, hml, hown, hts, hlk, hrt, hnm, hK, hsz, hnL, hfr, hlo, hce, hsl⟩ := hC
  obtain ⟨r', hr', cellV, g1, g2, g3, -⟩ := f_at_obj (hW.2 q hqn) hq
  have hcls := (hK.1.1 ci r hr).2
  obtain ⟨kA, comp, k1, k2, k3, -⟩ := (hK.1.2 t _ (ht ta)).2
  have hcomp : comp = D.1 ci := Option.some.inj (k3.symm.trans hcls.1)
  subst hcomp
  obtain ⟨kC, hkC, -⟩ := hcls.2
  refine W.aast hx hb (f_at_arr (hW.2 k hn) hk) (fun q h => by cases h) (fun h => by cases h) k1 k2 rfl hkC ⟨nI_pos (by omega), by rw [nI_clamp (by omega), arrV_size]; exact hj⟩ g1 (fun q h => by rw [g3] at h; cases h) (by rw [g2]; exact hkC) (by rw [g2]; exact va_assign hcls) rfl rfl hdg fun H' e1 e2 e3 => ?_
  rw [nI_clamp (by omega)] at e1 ⊢
  refine kk H' _ ls (f_arr_set hW hk e1 e2 e3 (fun _ _ => rfl) (fun a ha => f_u_ne ha) ?_) (hS.put e2 e3 (Nat.le_add_right b k)) hl
  funext a
  by_cases ha : a = j
  · subst ha
    simp [updV, f_av, f_u, f_v, Nat.not_lt.mpr ht2]
  · simp [updV, f_av, f_u, ha]
theorem Zv.alen {k t N : Nat} (hC : Fc G M d mc ms) (hdg : decode M.2.1 pc = .ok (.arraylength, 1)) (hk : f_shp k = .inl (t, N)) {ty : FieldType} (ht : ∀ ta, (f_tys ta)[t]? = some (ta t, ty)) (hn : k < n) (kk : Zv G Q n cells slots (pc + 1) lv (.inr (nI N) :: st) I P) : Zv G Q n cells slots pc lv (rf (k + 1) :: st) I P := by
  obtain ⟨p, l, e, R, s, m, args, below, meth, c, D, ta, b, nL⟩ := G
  intro H locs ls hW hS hl
  obtain ⟨hx, hb, hml, hown, hts, hlk, hrt, hnm, hK, hsz, hnL, hfr, hlo, hce, hsl⟩ := hC
  exact W.alen (n := nI N) hx hb (f_at_arr (hW.2 k hn) hk) ((hK.1.2 t _ (ht ta)).1 N _) (by rw [arrV_size]; rfl) rfl rfl hdg (kk H locs ls hW hS hl)
/-! the static table, read at an int: getstatic, the index, iaload -/
theorem Zv.gst_iload_n {idx j : Nat} {i : Fin 4} {x : Int32} (hC : Fc G M d mc ms) (h1 : decode M.2.1 pc = .ok (.getstatic idx, 3)) (h2 : decode M.2.1 (pc + 3) = .ok (.iload_n i, 1)) (h3 : decode M.2.1 (pc + 3 + 1) = .ok (.iaload, 1)) (hL : Cond.fieldLink M.1.cls idx f_zc f_zn "[I" ∈ f_T) (h : f_lk lv i = some (.inr x)) (hxj : x = nI j) (hj : j < f_zl) (kk : Zv G Q n cells slots (pc + 3 + 1 + 1) lv (.inr (f_zt j) :: st) I P) : Zv G Q n cells slots pc lv st I P := by
  subst hxj
  obtain ⟨p, l, e, R, s, m, args, below, meth, c, D, ta, b, nL⟩ := G
  intro H locs ls hW hS hl
  obtain ⟨hx, hb, hml, hown, hts, hlk, hrt, hnm, hK, hsz, hnL, hfr, hlo, hce, hsl⟩ := hC
  obtain ⟨t, hZ, hT, htb⟩ := hK.2.2.2
  have hz : f_zl < 2 ^ 31 := by decide
  refine va_gets hx hb hZ hS hown (hts _ hL) (fun _ h => h) h1 ?_
  refine lv_iload_n hx hb h2 rfl (f_lk_at hl h) ?_
  exact va_ti hx hb hT hS (i := nI j) (vp_in_nI hj hz) (v := .int (f_zt j)) (by rw [nI_clamp (by omega)]) h3 (kk H locs ls hW hS hl)
theorem Zv.gst_iconst {idx j : Nat} {z : Int} {x : Int32} (hC : Fc G M d mc ms) (h1 : decode M.2.1 pc = .ok (.getstatic idx, 3)) (h2 : decode M.2.1 (pc + 3) = .ok (.iconst z, 1)) (h3 : decode M.2.1 (pc + 3 + 1) = .ok (.iaload, 1)) (hL : Cond.fieldLink M.1.cls idx f_zc f_zn "[I" ∈ f_T) (h : Int32.ofInt z = x) (hxj : x = nI j) (hj : j < f_zl) (kk : Zv G Q n cells slots (pc + 3 + 1 + 1) lv (.inr (f_zt j) :: st) I P) : Zv G Q n cells slots pc lv st I P := by
  subst hxj
  obtain ⟨p, l, e, R, s, m, args, below, meth, c, D, ta, b, nL⟩ := G
  intro H locs ls hW hS hl
  obtain ⟨hx, hb, hml, hown, hts, hlk, hrt, hnm, hK, hsz, hnL, hfr, hlo, hce, hsl⟩ := hC
  obtain ⟨t, hZ, hT, htb⟩ := hK.2.2.2
  have hz : f_zl < 2 ^ 31 := by decide
  refine va_gets hx hb hZ hS hown (hts _ hL) (fun _ h => h) h1 ?_
  refine lv_iconst hx hb h2 h ?_
  exact va_ti hx hb hT hS (i := nI j) (vp_in_nI hj hz) (v := .int (f_zt j)) (by rw [nI_clamp (by omega)]) h3 (kk H locs ls hW hS hl)
theorem Zv.gst_bipush {idx j : Nat} {z : Int} {x : Int32} (hC : Fc G M d mc ms) (h1 : decode M.2.1 pc = .ok (.getstatic idx, 3)) (h2 : decode M.2.1 (pc + 3) = .ok (.bipush z, 2)) (h3 : decode M.2.1 (pc + 3 + 2) = .ok (.iaload, 1)) (hL : Cond.fieldLink M.1.cls idx f_zc f_zn "[I" ∈ f_T) (h : (Int8.ofInt z).toInt32 = x) (hxj : x = nI j) (hj : j < f_zl) (kk : Zv G Q n cells slots (pc + 3 + 2 + 1) lv (.inr (f_zt j) :: st) I P) : Zv G Q n cells slots pc lv st I P := by
  subst hxj
  obtain ⟨p, l, e, R, s, m, args, below, meth, c, D, ta, b, nL⟩ := G
  intro H locs ls hW hS hl
  obtain ⟨hx, hb, hml, hown, hts, hlk, hrt, hnm, hK, hsz, hnL, hfr, hlo, hce, hsl⟩ := hC
  obtain ⟨t, hZ, hT, htb⟩ := hK.2.2.2
  have hz : f_zl < 2 ^ 31 := by decide
  refine va_gets hx hb hZ hS hown (hts _ hL) (fun _ h => h) h1 ?_
  refine lv_bipush hx hb h2 h ?_
  exact va_ti hx hb hT hS (i := nI j) (vp_in_nI hj hz) (v := .int (f_zt j)) (by rw [nI_clamp (by omega)]) h3 (kk H locs ls hW hS hl)
/-! makings -/
theorem Zv.new {idx ci : Nat} {r : vw_C} {ty0 : Nat → FieldType} (hC : Fc G M d mc ms) (hdg : decode M.2.1 pc = .ok (.new idx, 3)) (hc : f_CK ci r ty0) (hw : Cond.classLink M.1.cls idx r.1 ∈ f_T) (hi : Cond.instantiable r.1 r.2.2 ∈ f_T) (hini : Cond.initialized r.1 ∈ f_T) (hs : f_shp n = .inr ci) (hdef : ∀ j, j < r.2.2 → defaultValue (ty0 j) = if f_fk ci j = true then .null else .int 0) (hI : ∀ j, I n j = 0) (hP : ∀ j, P n j = 0) (hc1 : cells + 1 ≤ mc) (hs1 : slots + r.2.2 ≤ ms) (kk : Zv G Q (n + 1) (cells + 1) (slots + r.2.2) (pc + 3) lv (rf (n + 1) :: st) I P) : Zv G Q n cells slots pc lv st I P := by
  obtain ⟨p, l, e, R, s, m, args, below, meth, c, D, ta, b, nL⟩ := G
  intro H locs ls hW hS hl
  obtain ⟨hx, hb, hml, hown, hts, hlk, hrt, hnm, hK, hsz, hnL, hfr, hlo, hce, hsl⟩ := hC
  obtain ⟨hr, hty, hnm2, hin⟩ := hc
  have hKn := hK.1.1 ci _ hr
  refine W.newcK hx hb hown (hts _ hw) (hts _ hi) (hts _ hini) rfl hdg (by omega) (by omega) hKn.2.1 hW.1 fun H1 kC hkC e1 z1 o1 => ?_
  refine kk H1 locs ls (f_W_push hW z1 o1 (f_obj_at hs hr ((u_born ty0 hts hin hKn hkC e1 hty).to (fun j hj => ?_)))) ⟨Nat.le_trans hS.1 (by rw [z1, hW.1]; omega), fun q h1 h2 => (o1 q (by have := hS.1; rw [hW.1] at this; omega)).trans (hS.2.1 q h1 h2), hS.2.2⟩ hl
  rw [hdef j hj]
  unfold f_ov
  rw [hI, hP]
  rfl
theorem Zv.newarr {t N : Nat} {v : Int32} {atype : ArrayType} (hC : Fc G M d mc ms) (hdg : decode M.2.1 pc = .ok (.newarray atype, 2)) (hw : Cond.arrayClass (newarray.typeOf atype) ∈ f_T) (ht : ∀ ta, (f_tys ta)[t]? = some (ta t, newarray.typeOf atype)) (hra : ∀ (s : State) (cA : ClassId), va_RA s cA (newarray.typeOf atype) → s.vm.findClass ("[" ++ (newarray.typeOf atype).toString) = some cA) (hdf : defaultValue (newarray.typeOf atype) = .int 0) (ht2 : t < 2) (hs : f_shp n = .inl (t, N)) (hv : v = nI N) (hN : N < 2 ^ 31) (hby : N * componentBytes (newarray.typeOf atype) ≤ 536870912) (hI : ∀ j, I n j = 0) (hc1 : cells + 1 ≤ mc) (hs1 : slots + N ≤ ms) (kk : Zv G Q (n + 1) (cells + 1) (slots + N) (pc + 2) lv (rf (n + 1) :: st) I P) : Zv G Q n cells slots pc lv (.inr v :: st) I P := by
  subst hv
  obtain ⟨p, l, e, R, s, m, args, below, meth, c, D, ta, b, nL⟩ := G
  intro H locs ls hW hS hl
  obtain ⟨hx, hb, hml, hown, hts, hlk, hrt, hnm, hK, hsz, hnL, hfr, hlo, hce, hsl⟩ := hC
  refine va_newaK (n := nI N) hx hb (hts _ hw) rfl hdg rfl (nI_pos hN) (nI_clamp hN) hby (by omega) (by omega) hW.1 fun H1 cA e1 z1 o1 _ h1 => ?_
  have hcA : cA = ta t := Option.some.inj (h1.symm.trans (hra s _ (hK.1.2 t _ (ht ta)).2))
  subst hcA
  refine kk H1 locs ls (f_W_push hW z1 o1 (f_arr_at hs ?_)) ⟨Nat.le_trans hS.1 (by rw [z1, hW.1]; omega), fun q h1 h2 => (o1 q (by have := hS.1; rw [hW.1] at this; omega)).trans (hS.2.1 q h1 h2), hS.2.2⟩ hl
  rw [e1, hdf]
  congr 2
  funext j
  simp [f_av, ht2, hI]
theorem Zv.anewarr {t N idx : Nat} {v : Int32} {C : String} (hC : Fc G M d mc ms) (hdg : decode M.2.1 pc = .ok (.anewarray idx, 3)) (hw : Cond.classLink M.1.cls idx C ∈ f_T) (ha : C ∈ f_ao) (ht : ∀ ta, (f_tys ta)[t]? = some (ta t, .object C)) (ht2 : 2 ≤ t) (hs : f_shp n = .inl (t, N)) (hv : v = nI N) (hN : N * 4 ≤ 536870912) (hP : ∀ j, P n j = 0) (hc1 : cells + 1 ≤ mc) (hs1 : slots + N ≤ ms) (kk : Zv G Q (n + 1) (cells + 1) (slots + N) (pc + 3) lv (rf (n + 1) :: st) I P) : Zv G Q n cells slots pc lv (.inr v :: st) I P := by
  subst hv
  obtain ⟨p, l, e, R, s, m, args, below, meth, c, D, ta, b, nL⟩ := G
  intro H locs ls hW hS hl
  obtain ⟨hx, hb, hml, hown, hts, hlk, hrt, hnm, hK, hsz, hnL, hfr, hlo, hce, hsl⟩ := hC
  have hcl : (nI N).toNatClampNeg = N := nI_clamp (by omega)
  refine W.anew (n := nI N) hx hb hown (hts _ hw) (va_AO.use (hK.2.2.1 C ha)) rfl hdg rfl (nI_pos (by omega)) (by rw [hcl]; exact hN) (by omega) (by rw [hcl]; omega) fun cA kA comp f1 f2 f3 f4 => ?_
  rw [hcl]
  obtain ⟨kA', comp', k1, k2, k3, k4⟩ := (hK.1.2 t _ (ht ta)).2
  have hcA : cA = ta t := Option.some.inj (f1.symm.trans k4)
  subst hcA
  generalize hH1 : H.push ({ cls := ta t, slots := Array.replicate N .null, vm := .none } : Cell) = H1
  have z1 : H1.size = b + n + 1 := by rw [← hH1, Array.size_push, hW.1]
  have e1 : H1[b + n]? = some (arrV (ta t) N (fun _ => .null)) := by rw [← hH1, ← hW.1, Array.getElem?_push_size, ← arrV_new]
  have o1 : ∀ q : Nat, q < b + n → H1[q]? = H[q]? := fun q hq => by rw [← hH1, Array.getElem?_push, if_neg (by rw [hW.1]; exact Nat.ne_of_lt hq)]
  have hz : H.size = b + n := hW.1
  have := kk H1 locs ls (f_W_push hW z1 o1 (f_arr_at hs (by
    rw [e1]
    congr 2
    funext j
    simp [f_av, Nat.not_lt.mpr ht2, hP, f_v]))) ⟨Nat.le_trans hS.1 (by rw [z1, hW.1]; omega), fun q h1 h2 => (o1 q (by have := hS.1; rw [hW.1] at this; omega)).trans (hS.2.1 q h1 h2), hS.2.2⟩ hl
  rw [hz]
  exact this
theorem Zv.oinit {idx k : Nat} (hC : Fc G M (d + 1) mc ms) (hdg : decode M.2.1 pc = .ok (.invokespecial idx, 3)) (hw : Cond.methodLink M.1.cls idx Lib.objectInit ∈ f_T) (hw2 : Cond.instanceMethod Lib.objectInit ∈ f_T) (hw3 : Cond.code Lib.objectInit ⟨#[0xb1]⟩ 1 none ∈ f_T) (hst : st.length ≤ 8) (kk : Zv G Q n cells slots (pc + 3) lv st I P) : Zv G Q n cells slots pc lv (rf (k + 1) :: st) I P := by
  obtain ⟨p, l, e, R, s, m, args, below, meth, c, D, ta, b, nL⟩ := G
  intro H locs ls hW hS hl
  obtain ⟨hx, hb, hml, hown, hts, hlk, hrt, hnm, hK, hsz, hnL, hfr, hlo, hce, hsl⟩ := hC
  refine W.objInit hx hb hown (hts _ hw) (hts _ hw2) (hts _ hw3) rfl (by rw [hml]; exact hl.1) rfl hdg (by omega) ?_ (kk H locs ls hW hS hl)
  have e1 := f_cat_sum b st
  have e2 : 2 * (F0 m pc ls ((rf (k + 1) :: st).map (f_v b))).monitorRoom + ((st.map (f_v b)).map fun v => v.category).sum ≤ 8 := lv_room (by rw [e1]; exact hst)
  omega
/-! returns -/
theorem Zv.iret {K : Option Fs → Fm → Fr → Prop} {v : Int32} (hC : Fc G M d mc ms) (hr : M.2.2.2 = some .int) (hdg : decode M.2.1 pc = .ok (.ireturn, 1)) (hc1 : cells ≤ mc) (hs1 : slots ≤ ms) (hK : K (some (.inr v)) I P) : Zv G (f_R G K n mc ms) n cells slots pc lv [.inr v] I P := by
  obtain ⟨p, l, e, R, s, m, args, below, meth, c, D, ta, b, nL⟩ := G
  intro H locs ls hW hS hl
  obtain ⟨hx, hb, hml, hown, hts, hlk, hrt, hnm, hK', hsz, hnL, hfr, hlo, hce, hsl⟩ := hC
  refine W.widen hc1 hs1 ?_
  exact W.iret (v := v) hx hb (hrt.trans hr) (fun t ht hWm => ⟨some (.inr v), I, P, rfl, hK, by rw [ht]; exact hW, fun q hq => by rw [ht]; exact hS.2.1 q (Nat.lt_of_lt_of_le hq hsz) (Nat.not_le.mpr hq)⟩) hS.2.2 hdg
theorem Zv.zret {K : Option Fs → Fm → Fr → Prop} {v : Int32} (hC : Fc G M d mc ms) (hr : M.2.2.2 = some .boolean) (hdg : decode M.2.1 pc = .ok (.ireturn, 1)) (hnr : narrow .boolean (.int v) = .int v) (hc1 : cells ≤ mc) (hs1 : slots ≤ ms) (hK : K (some (.inr v)) I P) : Zv G (f_R G K n mc ms) n cells slots pc lv [.inr v] I P := by
  obtain ⟨p, l, e, R, s, m, args, below, meth, c, D, ta, b, nL⟩ := G
  intro H locs ls hW hS hl
  obtain ⟨hx, hb, hml, hown, hts, hlk, hrt, hnm, hK', hsz, hnL, hfr, hlo, hce, hsl⟩ := hC
  refine W.widen hc1 hs1 ?_
  exact W.zret (v := v) hx hb (hrt.trans hr) hnr (fun t ht hWm => ⟨some (.inr v), I, P, rfl, hK, by rw [ht]; exact hW, fun q hq => by rw [ht]; exact hS.2.1 q (Nat.lt_of_lt_of_le hq hsz) (Nat.not_le.mpr hq)⟩) hS.2.2 hdg
theorem Zv.vret {K : Option Fs → Fm → Fr → Prop} (hC : Fc G M d mc ms) (hr : M.2.2.2 = none) (hdg : decode M.2.1 pc = .ok (.return_, 1)) (hc1 : cells ≤ mc) (hs1 : slots ≤ ms) (hK : K none I P) : Zv G (f_R G K n mc ms) n cells slots pc lv [] I P := by
  obtain ⟨p, l, e, R, s, m, args, below, meth, c, D, ta, b, nL⟩ := G
  intro H locs ls hW hS hl
  obtain ⟨hx, hb, hml, hown, hts, hlk, hrt, hnm, hK', hsz, hnL, hfr, hlo, hce, hsl⟩ := hC
  refine W.widen hc1 hs1 ?_
  exact W.vret hx hb (hrt.trans hr) (fun t ht hWm => ⟨none, I, P, rfl, hK, by rw [ht]; exact hW, fun q hq => by rw [ht]; exact hS.2.1 q (Nat.lt_of_lt_of_le hq hsz) (Nat.not_le.mpr hq)⟩) hS.2.2 hdg
end FR
