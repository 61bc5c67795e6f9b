/-! MEMORY AS NUMBERS. All cells of the class and of the reference lie at b, b + 1 ..: cell k at b + k. I k j: the int in slot j of cell k; P k j: the reference there (0 null, q + 1 the cell q). A value on the stack or in a local: .inl (a reference so coded) or .inr (an int). -/
abbrev Fm : Type := Nat → Nat → Int32
abbrev Fr : Type := Nat → Nat → Nat
abbrev Fs : Type := (Nat ⊕ Nat) ⊕ Int32
/-- a reference: 0 null, q + 1 the cell q -/
abbrev rf (q : Nat) : Fs := .inl (.inl q)
/-- an address of the world outside -/
abbrev xf (a : Nat) : Fs := .inl (.inr a)
abbrev Fl : Type := List (Nat × Fs)
abbrev Fy : Type := MethodName × ByteArray × Nat × Option FieldType
def f_v (b : Nat) : Fs → Value
  | .inl (.inl 0) => .null
  | .inl (.inl (q + 1)) => .ref (b + q)
  | .inl (.inr a) => .ref a
  | .inr x => .int x
def f_lk : Fl → Nat → Option Fs
  | [], _ => none
  | (j, v) :: r, i => if i = j then some v else f_lk r i
def f_st : Fl → Nat → Fs → Fl
  | [], i, v => [(i, v)]
  | (j, w) :: r, i, v => if i = j then (j, v) :: r.filter (fun q => !(q.1 == i)) else (j, w) :: f_st r i v
def f_en : Nat → List Fs → Fl
  | _, [] => []
  | i, v :: r => (i, v) :: f_en (i + 1) r
def f_u {α : Type} (f : Nat → Nat → α) (k j : Nat) (x : α) : Nat → Nat → α := fun a c => if a = k ∧ c = j then x else f a c
theorem f_u_ne {α : Type} {f : Nat → Nat → α} {k j a : Nat} {x : α} (h : a ≠ k) : f_u f k j x a = f a := by
  funext c
  simp [f_u, h]
theorem f_u_s {α : Type} {f : Nat → Nat → α} {k j : Nat} {x : α} : f_u f k j x k j = x := by simp [f_u]
theorem f_u_n {α : Type} {f : Nat → Nat → α} {k j a c : Nat} {x : α} (h : ¬ (a = k ∧ c = j)) : f_u f k j x a c = f a c := by simp only [f_u, if_neg h]
theorem f_v_cat (b : Nat) (x : Fs) : (f_v b x).category = 1 := by
  cases x with
  | inl q =>
    cases q with
    | inl q => cases q <;> rfl
    | inr a => rfl
  | inr x => rfl
def f_lv (b : Nat) (lv : Fl) : List (Nat × Value) := lv.map (fun q => (q.1, f_v b q.2))
theorem f_lk_mem : ∀ (lv : Fl) (i : Nat) (v : Fs), f_lk lv i = some v → (i, v) ∈ lv
  | [], i, v, h => by simp [f_lk] at h
  | (j, w) :: r, i, v, h => by
    unfold f_lk at h
    split at h
    · rename_i e
      cases h
      subst e
      exact List.mem_cons_self
    · exact List.mem_cons_of_mem _ (f_lk_mem r i v h)
theorem f_lk_at {ls : Array Slot} {nL b : Nat} {lv : Fl} {i : Nat} {v : Fs} (h : lv_has ls nL (f_lv b lv)) (hk : f_lk lv i = some v) : ls[i]? = some (.val (f_v b v)) :=
  h.2.2 (i, f_v b v) (List.mem_map.mpr ⟨(i, v), f_lk_mem lv i v hk, rfl⟩)
theorem f_st_mem : ∀ (lv : Fl) (i : Nat) (v : Fs) (q : Nat × Fs), q ∈ f_st lv i v → q = (i, v) ∨ (q ∈ lv ∧ q.1 ≠ i)
  | [], i, v, q, h => by
    rcases List.mem_singleton.mp h with rfl
    exact Or.inl rfl
  | (j, w) :: r, i, v, q, h => by
    unfold f_st at h
    split at h
    · rename_i e
      subst e
      rcases List.mem_cons.mp h with h | h
      · exact Or.inl h
      · obtain ⟨h1, h2⟩ := List.mem_filter.mp h
        exact Or.inr ⟨List.mem_cons_of_mem _ h1, by simpa using h2⟩
    · rename_i e
      rcases List.mem_cons.mp h with h | h
      · subst h
        exact Or.inr ⟨List.mem_cons_self, fun z => e z.symm⟩
      · rcases f_st_mem r i v q h with h | ⟨h1, h2⟩
        · exact Or.inl h
        · exact Or.inr ⟨List.mem_cons_of_mem _ h1, h2⟩
theorem f_st_has {ls : Array Slot} {nL b i : Nat} {lv : Fl} {v : Fs} (h : lv_has ls nL ((i, f_v b v) :: (f_lv b lv).filter (fun q => !(q.1 == i) && !(q.1 + 1 == i && q.2.category == 2)))) : lv_has ls nL (f_lv b (f_st lv i v)) := by
  refine ⟨h.1, h.2.1, fun q hq => h.2.2 q ?_⟩
  obtain ⟨q0, h0, rfl⟩ := List.mem_map.mp hq
  rcases f_st_mem lv i v q0 h0 with rfl | ⟨h1, h2⟩
  · exact List.mem_cons_self
  · refine List.mem_cons_of_mem _ (List.mem_filter.mpr ⟨List.mem_map.mpr ⟨q0, h1, rfl⟩, ?_⟩)
    have e : (f_v b q0.2).category = 1 := f_v_cat b q0.2
    simp [e, h2]
theorem f_en_args (b : Nat) : ∀ (as : List Fs) (i : Nat), f_lv b (f_en i as) = lv_args i (as.map (f_v b))
  | [], i => rfl
  | v :: r, i => by
    have e : (f_v b v).category = 1 := f_v_cat b v
    have ih := f_en_args b r (i + 1)
    simp only [f_lv] at ih ⊢
    simp [f_en, lv_args, e, ih]
theorem f_cat_sum (b : Nat) : ∀ (st : List Fs), ((st.map (f_v b)).map fun v => v.category).sum = st.length
  | [] => rfl
  | v :: r => by
    have e : (f_v b v).category = 1 := f_v_cat b v
    have ih := f_cat_sum b r
    simp only [List.map_cons, List.sum_cons, List.length_cons, e, ih]
    omega
/-! THE WORLD: cell k by its shape: an array (its kind t, its length), or an object (its class's number) -/
def f_ov (b ci : Nat) (I : Fm) (P : Fr) (k : Nat) : Nat → Value := fun j => if f_fk ci j = true then f_v b (rf (P k j)) else .int (I k j)
def f_av (b t : Nat) (I : Fm) (P : Fr) (k : Nat) : Nat → Value := fun j => if t < 2 then .int (I k j) else f_v b (rf (P k j))
def f_at (D : va_G) (ta : Nat → ClassId) (b : Nat) (I : Fm) (P : Fr) (k : Nat) (H : Heap) : Prop := match f_shp k with
  | .inl (t, n) => H[b + k]? = some (arrV (ta t) n (f_av b t I P k))
  | .inr ci => ∃ r : vw_C, f_cl[ci]? = some r ∧ t_OB (b + k) (D.1 ci) r.2.2 (D.2 ci) H (f_ov b ci I P k)
def f_W (D : va_G) (ta : Nat → ClassId) (b n : Nat) (I : Fm) (P : Fr) (H : Heap) : Prop := H.size = b + n ∧ ∀ k, k < n → f_at D ta b I P k H
section FW
variable {D : va_G} {ta : Nat → ClassId} {b n k t N ci : Nat} {I I' : Fm} {P P' : Fr} {H H1 : Heap}
theorem f_at_arr (h : f_at D ta b I P k H) (hk : f_shp k = .inl (t, N)) : H[b + k]? = some (arrV (ta t) N (f_av b t I P k)) := by
  unfold f_at at h
  rw [hk] at h
  exact h
theorem f_at_obj (h : f_at D ta b I P k H) (hk : f_shp k = .inr ci) : ∃ r : vw_C, f_cl[ci]? = some r ∧ t_OB (b + k) (D.1 ci) r.2.2 (D.2 ci) H (f_ov b ci I P k) := by
  unfold f_at at h
  rw [hk] at h
  exact h
theorem f_arr_at (hk : f_shp k = .inl (t, N)) (h : H[b + k]? = some (arrV (ta t) N (f_av b t I P k))) : f_at D ta b I P k H := by
  unfold f_at
  rw [hk]
  exact h
theorem f_obj_at {r : vw_C} (hk : f_shp k = .inr ci) (hr : f_cl[ci]? = some r) (h : t_OB (b + k) (D.1 ci) r.2.2 (D.2 ci) H (f_ov b ci I P k)) : f_at D ta b I P k H := by
  unfold f_at
  rw [hk]
  exact ⟨r, hr, h⟩
theorem f_at_kept (h : f_at D ta b I P k H) (hq : H1[b + k]? = H[b + k]?) (hI : I' k = I k) (hP : P' k = P k) : f_at D ta b I' P' k H1 := by
  cases hs : f_shp k with
  | inl x =>
    obtain ⟨t, N⟩ := x
    refine f_arr_at hs ?_
    rw [hq, f_at_arr h hs]
    have e : f_av b t I' P' k = f_av b t I P k := by
      unfold f_av
      rw [hI, hP]
    rw [e]
  | inr ci =>
    obtain ⟨r, h1, h2⟩ := f_at_obj h hs
    refine f_obj_at hs h1 ?_
    have e : f_ov b ci I' P' k = f_ov b ci I P k := by
      unfold f_ov
      rw [hI, hP]
    rw [e]
    exact h2.kept hq
theorem f_W_set (h : f_W D ta b n I P H) (z : H1.size = H.size) (oq : ∀ q, q ≠ b + k → H1[q]? = H[q]?) (hI : ∀ a, a ≠ k → I' a = I a) (hP : ∀ a, a ≠ k → P' a = P a) (hat : f_at D ta b I' P' k H1) : f_W D ta b n I' P' H1 := by
  refine ⟨by rw [z]; exact h.1, fun a ha => ?_⟩
  by_cases e : a = k
  · subst e
    exact hat
  · exact f_at_kept (h.2 a ha) (oq _ (by omega)) (hI a e) (hP a e)
theorem f_W_push (h : f_W D ta b n I P H) (z : H1.size = b + n + 1) (oq : ∀ q, q < b + n → H1[q]? = H[q]?) (hat : f_at D ta b I P n H1) : f_W D ta b (n + 1) I P H1 := by
  refine ⟨by omega, fun a ha => ?_⟩
  by_cases e : a = n
  · subst e
    exact hat
  · exact f_at_kept (h.2 a (by omega)) (oq _ (by omega)) rfl rfl
end FW
/-! WORDS: those of the tables that every method may rest on; links of nest mates -/
def f_good (w : Cond) : Bool := (w.onTables && w.keeps) || (match w with | .arrayClass _ => true | _ => false)
def f_isN (w : Cond) : Bool := match w with | .fieldLinkNest _ _ _ _ _ _ => true | .methodLinkNest _ _ _ _ => true | _ => false
def f_T : List Cond := lw_tbl.filter f_good
def f_N : List Cond := lw_tbl.filter f_isN
theorem f_inT {w : Cond} (h : w ∈ lw_tbl) (hg : f_good w = true) : w ∈ f_T := List.mem_filter.mpr ⟨h, hg⟩
theorem f_inN {w : Cond} (h : w ∈ lw_tbl) (hg : f_isN w = true) : w ∈ f_N := List.mem_filter.mpr ⟨h, hg⟩
theorem f_T_good {w : Cond} (h : w ∈ f_T) : w ∈ f_T ∧ ((w.onTables && w.keeps) = true ∨ ∃ ty, w = .arrayClass ty) := by
  refine ⟨h, ?_⟩
  have hg := (List.mem_filter.mp h).2
  unfold f_good at hg
  rcases Bool.or_eq_true_iff.mp hg with h1 | h1
  · exact Or.inl h1
  · cases w <;> first | exact Or.inr ⟨_, rfl⟩ | cases h1
theorem f_N_on {w : Cond} (h : w ∈ f_N) : w.onTables = true := by
  have hg := (List.mem_filter.mp h).2
  cases w <;> first | rfl | cases hg
theorem f_N_warm {w : Cond} (h : w ∈ f_N) {s U : State} (hW : s.WarmedH U.vm) (hZ : va_Nw w s) : va_Nw w U := by
  have hg := (List.mem_filter.mp h).2
  cases w <;> first | exact va_Nw.warmF hW hZ | exact va_Nw.warmM hW hZ | cases hg
def f_ws (M : Fy) : List Cond := Cond.code M.1 M.2.1 M.2.2.1 M.2.2.2 :: f_T
/-- a method's link, as the tables have it: plain or of a nest mate -/
def f_LM (own : String) (idx : Nat) (y : MethodName) : Prop := Cond.methodLink own idx y ∈ f_T ∨ ∃ host, Cond.methodLinkNest own idx y host ∈ f_N
def f_LF (own : String) (idx : Nat) (r n d : String) : Prop := Cond.fieldLink own idx r n d ∈ f_T ∨ ∃ host, Cond.fieldLinkNest own idx r n d host ∈ f_N
/-- a field: by the constant pool's number in own, slot j of class ci -/
def f_FD (own : String) (idx ci j : Nat) : Prop := ∃ r : vw_C, f_cl[ci]? = some r ∧ j < r.2.2 ∧ f_LF own idx (r.2.1 j).1 (r.2.1 j).2.1 (r.2.1 j).2.2.1 ∧ ∀ w ∈ u_ws r.1 r.2.1 r.2.2, w ∈ f_T
/-- what a method's words are -/
def f_MB (M : Fy) (n : Nat) : Prop := Cond.code M.1 M.2.1 M.2.2.1 M.2.2.2 ∈ f_T ∧ Cond.initialized M.1.cls ∈ f_T ∧ (M.1.cls ≠ "java/lang/invoke/MethodHandle" ∧ M.1.cls ≠ "java/lang/invoke/VarHandle" ∧ (parseMethodDescriptor M.1.desc).map (fun d => d.parameters.length) = some n) ∧ M.2.2.1 ≤ 21
def f_MV (M : Fy) (n : Nat) : Prop := f_MB M n ∧ Cond.instanceMethod M.1 ∈ f_T ∧ Cond.selects M.1.cls M.1 M.1 ∈ f_T
def f_MS (M : Fy) (n : Nat) : Prop := f_MB M n ∧ Cond.static M.1 ∈ f_T
def f_MI (M : Fy) (n : Nat) : Prop := f_MB M n ∧ M.1.name = "<init>" ∧ M.2.2.2 = none ∧ Cond.instanceMethod M.1 ∈ f_T
/-! WHAT IS KNOWN of the tables at a state: classes, array classes, nest links, the static table -/
def f_Z (b : Nat) (U : State) (H : Heap) : Prop := ∃ t : Nat, va_Z f_zc f_zn "[I" (.ref t) (fun q => b ≤ q) U H ∧ va_T .int t f_zl (fun j => .int (f_zt j)) (fun q => b ≤ q) U H ∧ t < b
def f_K (D : va_G) (ta : Nat → ClassId) (b : Nat) (U : State) : Prop := va_K D f_cl (f_tys ta) U ∧ (∀ w ∈ f_N, va_Nw w U) ∧ (∀ C ∈ f_ao, va_AO C U) ∧ f_Z b U U.heap
theorem f_K_moved {D : va_G} {ta : Nat → ClassId} {b : Nat} {s U : State} (h : f_K D ta b s) (hW : s.WarmedH U.vm) (hs : b ≤ s.heap.size) (hq : ∀ q, q < b → U.heap[q]? = s.heap[q]?) : f_K D ta b U := by
  obtain ⟨h1, h2, h3, t, h4, h5, h6⟩ := h
  refine ⟨va_K.moved hW.alike h1, fun w hw => f_N_warm hw hW (h2 w hw), fun C hC => va_AO.moved hW.alike (h3 C hC), t, (va_Z.kept h4 (fun a _ ha => hq a (Nat.not_le.mp ha))).moved hW.alike, (va_T.kept h5 (fun a _ ha => hq a (Nat.not_le.mp ha))).moved hW.alike, h6⟩
/-! THE JUDGEMENT: the machine, at pc of the method of context G, with at least the locals lv, the stack st, and memory I, P over n cells, comes to Q -/
abbrev Fx : Type := Program × Launch × Env × Room × State × MethodId × Array Value × List Frame × Method × Code × va_G × (Nat → ClassId) × Nat × Nat
def Zv (G : Fx) (Q : State → Prop) (n cells slots pc : Nat) (lv : Fl) (st : List Fs) (I : Fm) (P : Fr) : Prop := match G with
  | (p, l, e, R, s, m, args, below, meth, c, D, ta, b, nL) => ∀ (H : Heap) (locs : List Loc) (ls : Array Slot), f_W D ta b n I P H → va_S (fun q => b ≤ q) s.heap H locs → lv_has ls nL (f_lv b lv) → W p l e R s m args below meth c H locs cells slots Q (F0 m pc ls (st.map (f_v b)))
def Fc (G : Fx) (M : Fy) (d mc ms : Nat) : Prop := match G with
  | (p, _, _, R, s, m, args, _, meth, c, D, ta, b, nL) => p.tables.exec = Jvm.exec ∧ c.code = M.2.1 ∧ c.maxLocals = nL ∧ s.vm.findClass M.1.cls = some m.cls ∧ (∀ w ∈ f_T, w.before args s = true) ∧ meth.locks = false ∧ meth.sig.returnType = M.2.2.2 ∧ meth.name = M.1.name ∧ f_K D ta b s ∧ b ≤ s.heap.size ∧ nL = M.2.2.1 ∧ d ≤ R.frames ∧ 40 * d ≤ R.locals ∧ mc ≤ R.cells ∧ ms ≤ R.slots
def f_Q (D : va_G) (ta : Nat → ClassId) (b n : Nat) (K : Option Fs → Fm → Fr → Prop) : Array Value → State → Outcome → State → Prop := fun _ st oc t => ∃ (v : Option Fs) (I : Fm) (P : Fr), oc = .returned (v.map (f_v b)) ∧ K v I P ∧ f_W D ta b n I P t.heap ∧ ∀ q, q < b → t.heap[q]? = st.heap[q]?
def f_R (G : Fx) (K : Option Fs → Fm → Fr → Prop) (n mc ms : Nat) : State → Prop := match G with
  | (_, _, _, _, s, _, args, below, _, _, D, ta, b, _) => MQ below (f_Q D ta b n K) args s mc ms (fun q => b ≤ q)
def f_rm (d mc ms : Nat) : Room := { frames := d, cells := mc, slots := ms, locals := 40 * d }
/-- A CALL of method M with arguments as, memory I, P over n cells: it returns, with K of the answer and the new memory, over n' cells (mc new ones, of ms slots) -/
def Fk (d : Nat) (M : Fy) (n n' mc ms : Nat) (as : List Fs) (I : Fm) (P : Fr) (K : Option Fs → Fm → Fr → Prop) : Prop :=
  ∀ (l : Launch) (D : va_G) (ta : Nat → ClassId) (b : Nat), Met l M.1 (f_ws M) (f_rm d mc ms) (va_Pc (as.map (f_v b)) (fun U => f_W D ta b n I P U.heap ∧ f_K D ta b U)) (f_Q D ta b n' K) mc ms (fun q => b ≤ q)
theorem Fk.intro {d : Nat} {M : Fy} {n n' mc ms : Nat} {as : List Fs} {I : Fm} {P : Fr} {K : Option Fs → Fm → Fr → Prop} (hy : Jvm.plainName M.1.cls = true) (hn : as.length ≤ M.2.2.1)
    (body : ∀ G : Fx, Fc G M d mc ms → Zv G (f_R G K n' mc ms) n 0 0 0 (f_en 0 as) [] I P) : Fk d M n n' mc ms as I P K := by
  intro l D ta b
  refine Met.ofW (cc := M.2.1) (maxL := M.2.2.1) (ret := M.2.2.2) hy rfl ?_
  intro p e s m args below meth c s₁ B hml hv
  obtain ⟨rfl, hW, hK⟩ := hv
  have hts := atoms_spec (ws := f_ws M) B.pre
  have hlen : (lg_sl (as.map (f_v b))).length ≤ M.2.2.1 := by
    have e : (lg_sl (as.map (f_v b))).length = as.length := by
      clear hn body hW hts B
      induction as with
      | nil => rfl
      | cons v r ih =>
        have e : (f_v b v).category = 1 := f_v_cat b v
        simp_all [lg_sl]
    omega
  have hl := lv_entry (as.map (f_v b)) (n := M.2.2.1) hlen
  rw [← f_en_args] at hl
  have h := body (p, l, e, f_rm d mc ms, s, m, (as.map (f_v b)).toArray, below, meth, c, D, ta, b, M.2.2.1) ⟨B.exec, B.bytes, hml, findClass_of_methodNamed B.named, fun w hw => hts w (List.mem_cons_of_mem _ hw), B.notSynchronized, B.returns, (name_of_methodNamed B.named B.method).1, hK, by rw [hW.1]; exact Nat.le_add_right _ _, rfl, Nat.le_refl _, Nat.le_refl _, Nat.le_refl _, Nat.le_refl _⟩ s.heap [] _ hW va_S.rf hl
  rw [lg_entry_eq]
  exact h
