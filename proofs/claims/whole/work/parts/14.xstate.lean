/-! the store: a ring -/
abbrev Q4 : Type := Int32 × Int32 × Int32 × Int32
def x_so (I : Fm) (o : Nat) (sr : List Q4) (lost : Nat) : Prop := o < 10 ∧ I 33 4 = nI o ∧ I 33 5 = nI sr.length ∧ I 33 6 = nI lost ∧ sr.length ≤ 10 ∧ ∀ i, i < sr.length → sr[i]? = some (I 34 ((o + i) % 10), I 35 ((o + i) % 10), I 36 ((o + i) % 10), I 37 ((o + i) % 10))
def x_sto (I : Fm) (sr : List Q4) (lost : Nat) : Prop := ∃ o, x_so I o sr lost
def st_add (sr : List Q4) (lost : Nat) (q : Q4) : List Q4 × Nat := if 10 ≤ sr.length then (sr.tail ++ [q], lost + 1) else (sr ++ [q], lost)
theorem so_pop {I : Fm} {o lost : Nat} {sr : List Q4} (h : x_so I o sr lost) (h0 : 0 < sr.length) : x_so (f_u (f_u I 33 4 (nI ((o + 1) % 10))) 33 5 (nI (sr.length - 1))) ((o + 1) % 10) sr.tail lost := by
  obtain ⟨h1, h2, h3, h4, h5, h6⟩ := h
  refine ⟨by omega, f_uc (by decide) f_u_s, ?_, f_uc (by decide) (f_uc (by decide) h4), by rw [List.length_tail]; omega, fun i hi => ?_⟩
  · rw [List.length_tail]; exact f_u_s
  · rw [List.length_tail] at hi
    have e : (o + (i + 1)) % 10 = ((o + 1) % 10 + i) % 10 := by omega
    have h := h6 (i + 1) (by omega)
    rw [e] at h
    rw [List.getElem?_tail, h]
    simp [f_u]
theorem so_lost {I : Fm} {o lost : Nat} {sr : List Q4} (h : x_so I o sr lost) : x_so (f_u I 33 6 (nI (lost + 1))) o sr (lost + 1) := by
  obtain ⟨h1, h2, h3, h4, h5, h6⟩ := h
  refine ⟨h1, f_uc (by decide) h2, f_uc (by decide) h3, f_u_s, h5, fun i hi => ?_⟩
  rw [h6 i hi]
  simp [f_u]
theorem so_push {I : Fm} {o lost : Nat} {sr : List Q4} {k c a b : Int32} (h : x_so I o sr lost) (hl : sr.length < 10) : x_so (f_u (f_u (f_u (f_u (f_u I 34 ((o + sr.length) % 10) k) 35 ((o + sr.length) % 10) c) 36 ((o + sr.length) % 10) a) 37 ((o + sr.length) % 10) b) 33 5 (nI (sr.length + 1))) o (sr ++ [(k, c, a, b)]) lost := by
  obtain ⟨h1, h2, h3, h4, h5, h6⟩ := h
  refine ⟨h1, f_uc (by decide) (f_ur (by decide) (f_ur (by decide) (f_ur (by decide) (f_ur (by decide) h2)))), ?_, f_uc (by decide) (f_ur (by decide) (f_ur (by decide) (f_ur (by decide) (f_ur (by decide) h4)))), ?_, fun i hi => ?_⟩
  · rw [List.length_append]; exact f_u_s
  · rw [List.length_append]; exact hl
  · rw [List.length_append] at hi
    have hi : i < sr.length + 1 := hi
    by_cases e : i < sr.length
    · rw [List.getElem?_append_left e, h6 i e]
      have hne : ¬ (o + i) % 10 = (o + sr.length) % 10 := by omega
      simp [f_u, hne]
    · have e2 : i = sr.length := by omega
      subst e2
      rw [List.getElem?_append_right (Nat.le_refl _)]
      simp [f_u]
theorem x_sto_kept {I I' : Fm} {sr : List Q4} {lost : Nat} (h : x_sto I sr lost) (hk : ∀ a, 33 ≤ a → a ≤ 37 → I' a = I a) : x_sto I' sr lost := by
  obtain ⟨o, h1, h2, h3, h4, h5, h6⟩ := h
  refine ⟨o, h1, ?_, ?_, ?_, h5, fun i hi => ?_⟩
  · rw [hk 33 (by decide) (by decide)]; exact h2
  · rw [hk 33 (by decide) (by decide)]; exact h3
  · rw [hk 33 (by decide) (by decide)]; exact h4
  · rw [hk 34 (by decide) (by decide), hk 35 (by decide) (by decide), hk 36 (by decide) (by decide), hk 37 (by decide) (by decide)]; exact h6 i hi
/-! the receiver -/
def x_rcv (I : Fm) (rx : Rx) (tk dr sk : Nat) : Prop := I 1 5 = nI tk ∧ I 1 6 = nI dr ∧ I 1 7 = nI sk ∧ match rx with
  | none => I 1 1 = nI 0
  | some [] => I 1 1 = nI 1
  | some (N :: l) => 2 ≤ N ∧ N ≤ 12 ∧ l.length ≤ N ∧ (∀ x ∈ l, x < 256) ∧ I 1 1 = (if l.length < N then nI 2 else nI 3) ∧ I 1 2 = nI N ∧ I 1 3 = nI l.length ∧ I 1 4 = nI (e_chk 255 l) ∧ ∀ i, i < l.length → I 2 i = nI (e_at l i)
theorem x_rcv_kept {I I' : Fm} {rx : Rx} {tk dr sk : Nat} (h : x_rcv I rx tk dr sk) (h1 : I' 1 = I 1) (h2 : I' 2 = I 2) : x_rcv I' rx tk dr sk := by
  unfold x_rcv at h ⊢
  rw [h1, h2]
  exact h
/-- what accept does -/
def x_acc (I' : Fm) (rx : Rx) (x tk dr sk : Nat) (r : Int32) : Prop := match rx with
  | none => if x = 235 then r = nI 0 ∧ x_rcv I' (some []) tk dr sk else r = nI 5 ∧ x_rcv I' none tk dr (sk + 1)
  | some [] => if x < 2 ∨ 12 < x then r = nI 3 ∧ x_rcv I' none tk (dr + 1) sk else r = nI 0 ∧ x_rcv I' (some [x]) tk dr sk
  | some (N :: l) => if l.length < N then r = nI 0 ∧ x_rcv I' (some (N :: (l ++ [x]))) tk dr sk
    else if x = e_chk 255 l then r = -1 ∧ x_rcv I' none (tk + 1) dr sk ∧ I' 1 2 = nI N ∧ ∀ i, i < l.length → I' 2 i = nI (e_at l i)
    else r = nI 4 ∧ x_rcv I' none tk (dr + 1) sk
theorem chk_lt : ∀ (l : List Nat) (c : Nat), c < 256 → (∀ x ∈ l, x < 256) → e_chk c l < 256
  | [], c, hc, _ => hc
  | x :: l, c, hc, h => by
    refine chk_lt l _ ?_ (fun y hy => h y (List.mem_cons_of_mem _ hy))
    have h1 : c * 2 % 256 + c / 128 < 2 ^ 8 := by omega
    exact Nat.xor_lt_two_pow h1 (h x List.mem_cons_self)
theorem chk_app : ∀ (l : List Nat) (c x : Nat), e_chk c (l ++ [x]) = (e_chk c l * 2 % 256 + e_chk c l / 128) ^^^ x
  | [], c, x => rfl
  | y :: l, c, x => chk_app l _ x
theorem q_xor (a b : Nat) : nI a ^^^ nI b = nI (a ^^^ b) := by
  apply Int32.toBitVec_inj.mp
  show BitVec.ofNat 32 a ^^^ BitVec.ofNat 32 b = BitVec.ofNat 32 (a ^^^ b)
  apply BitVec.eq_of_toNat_eq
  simp only [BitVec.toNat_xor, BitVec.toNat_ofNat]
  rw [← Nat.xor_mod_two_pow]
/-! a watch -/
def x_wa (I : Fm) (w : Nat) (n : Nat → Nat) (b : Nat → Int32) : Prop := I w 0 = nI (n 0) ∧ I w 1 = nI (n 1) ∧ I w 2 = b 0 ∧ I w 3 = b 1 ∧ I w 4 = nI (n 2) ∧ I w 5 = nI (n 3) ∧ I w 6 = nI (n 4)
