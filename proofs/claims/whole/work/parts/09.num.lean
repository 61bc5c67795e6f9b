/-! the same rows where the operands are numbers -/
theorem q_inc (n : Nat) : nI n + Int32.ofInt 1 = nI (n + 1) := by
  rw [ show Int32.ofInt 1 = nI 1 by decide +kernel, nI_add]
theorem q_dec {n : Nat} (h : 0 < n) : nI n + Int32.ofInt (-1) = nI (n - 1) := by
  rw [show Int32.ofInt (-1) = -1 by decide +kernel]
  exact sb_m1 h
section FN
variable {G : Fx} {Q : State → Prop} {M : Fy} {d mc ms n cells slots pc a b : Nat} {lv : Fl} {st : List Fs} {I : Fm} {P : Fr}
theorem Zv.iaddN (hC : Fc G M d mc ms) (hdg : decode M.2.1 pc = .ok (.iadd, 1)) (k : Zv G Q n cells slots (pc + 1) lv (.inr (nI (a + b)) :: st) I P) : Zv G Q n cells slots pc lv (.inr (nI b) :: .inr (nI a) :: st) I P :=
  Zv.iadd hC hdg (by rw [nI_add]; exact k)
theorem Zv.imulN (hC : Fc G M d mc ms) (hdg : decode M.2.1 pc = .ok (.imul, 1)) (k : Zv G Q n cells slots (pc + 1) lv (.inr (nI (a * b)) :: st) I P) : Zv G Q n cells slots pc lv (.inr (nI b) :: .inr (nI a) :: st) I P :=
  Zv.imul hC hdg (by rw [pk_mul]; exact k)
theorem Zv.isubN (hC : Fc G M d mc ms) (hdg : decode M.2.1 pc = .ok (.isub, 1)) (h : b ≤ a) (k : Zv G Q n cells slots (pc + 1) lv (.inr (nI (a - b)) :: st) I P) : Zv G Q n cells slots pc lv (.inr (nI b) :: .inr (nI a) :: st) I P :=
  Zv.isub hC hdg (by rw [pk_sub h]; exact k)
theorem Zv.idivN (hC : Fc G M d mc ms) (hdg : decode M.2.1 pc = .ok (.idiv, 1)) (ha : a < 2 ^ 31) (h0 : 0 < b) (hb : b < 2 ^ 31) (k : Zv G Q n cells slots (pc + 1) lv (.inr (nI (a / b)) :: st) I P) : Zv G Q n cells slots pc lv (.inr (nI b) :: .inr (nI a) :: st) I P :=
  Zv.idiv hC hdg (nI_ne0 h0 hb) (by rw [pk_div ha h0 hb]; exact k)
theorem Zv.iremN (hC : Fc G M d mc ms) (hdg : decode M.2.1 pc = .ok (.irem, 1)) (ha : a < 2 ^ 31) (h0 : 0 < b) (hb : b < 2 ^ 31) (k : Zv G Q n cells slots (pc + 1) lv (.inr (nI (a % b)) :: st) I P) : Zv G Q n cells slots pc lv (.inr (nI b) :: .inr (nI a) :: st) I P :=
  Zv.irem hC hdg (nI_ne0 h0 hb) (by rw [pk_rem ha h0 hb]; exact k)
/-- a number on the stack under another name -/
theorem Zv.top {x y : Int32} (h : x = y) (k : Zv G Q n cells slots pc lv (.inr y :: st) I P) : Zv G Q n cells slots pc lv (.inr x :: st) I P := h ▸ k
theorem Zv.topr {x y : Nat} (h : x = y) (k : Zv G Q n cells slots pc lv (rf y :: st) I P) : Zv G Q n cells slots pc lv (rf x :: st) I P := h ▸ k
end FN
theorem f_ur {α : Type} {f : Nat → Nat → α} {k j a c : Nat} {x v : α} (h : a ≠ k) (hv : f a c = v) : f_u f k j x a c = v := (congrFun (f_u_ne h) c).trans hv
theorem f_uc {α : Type} {f : Nat → Nat → α} {k j a c : Nat} {x v : α} (h : c ≠ j) (hv : f a c = v) : f_u f k j x a c = v := (f_u_n (fun z => h z.2)).trans hv
theorem q_e {a b : Nat} (h : nI a = nI b) (ha : a < 2 ^ 31) (hb : b < 2 ^ 31) : a = b := (nI_eq ha hb).mp h
theorem q_n {a b : Nat} (h : ¬ nI a = nI b) : a ≠ b := fun z => h (by rw [z])
theorem q_l {a b : Nat} (h : nI a < nI b) (ha : a < 2 ^ 31) (hb : b < 2 ^ 31) : a < b := (nI_ltI ha hb).mp h
theorem q_nl {a b : Nat} (h : ¬ nI a < nI b) (_ : a < 2 ^ 31) (hb : b < 2 ^ 31) : b ≤ a := Nat.le_of_not_lt fun z => h (nI_lt z hb)
theorem q_le {a b : Nat} (h : nI a ≤ nI b) (ha : a < 2 ^ 31) (hb : b < 2 ^ 31) : a ≤ b := (nI_leI ha hb).mp h
theorem q_nle {a b : Nat} (h : ¬ nI a ≤ nI b) (_ : a < 2 ^ 31) (hb : b < 2 ^ 31) : b < a := Nat.lt_of_not_le fun z => h (nI_le z hb)
theorem q_e0 {a : Nat} (h : nI a = 0) (ha : a < 2 ^ 31) : a = 0 := Classical.byContradiction fun z => nI_ne0 (Nat.pos_of_ne_zero z) ha h
theorem q_n0 {a : Nat} (h : ¬ nI a = 0) : a ≠ 0 := fun z => h (by rw [z]; rfl)
theorem q_l0 {a : Nat} (h : nI a < 0) (ha : a < 2 ^ 31) : False := nI_pos ha h
theorem q_le0 {a : Nat} (h : nI a ≤ 0) (ha : a < 2 ^ 31) : a = 0 := Classical.byContradiction fun z => nI_nle (Nat.pos_of_ne_zero z) ha h
theorem q_nle0 {a : Nat} (h : ¬ nI a ≤ 0) : 0 < a := Nat.pos_of_ne_zero fun z => h (by rw [z]; decide)
theorem q_in {x : Int32} {n : Nat} (h0 : ¬ x < 0) (h1 : ¬ nI n ≤ x) (hn : n < 2 ^ 31) : ∃ j, j < n ∧ x = nI j := by
  rcases pk_ix x hn with h | h | h
  · exact absurd h h0
  · exact absurd h h1
  · exact h
theorem q_out0 {x : Int32} {n : Nat} (h : x < 0) (hn : n < 2 ^ 31) : ¬ ∃ j, j < n ∧ x = nI j := fun ⟨j, hj, e⟩ => nI_pos (by omega) (e ▸ h)
theorem q_out1 {x : Int32} {n : Nat} (h : nI n ≤ x) (hn : n < 2 ^ 31) : ¬ ∃ j, j < n ∧ x = nI j := fun ⟨j, hj, e⟩ => nI_ge hj hn (e ▸ h)
