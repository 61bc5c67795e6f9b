/-! THE REFERENCE'S PLAN, CHANGED -/
def mfr (I I' : Fm) : Prop := (∀ a, a < 56 ∨ a = 57 → I' a = I a) ∧ I' 56 1 = I 56 1
theorem mfr_tr {I I' I'' : Fm} (h1 : mfr I I') (h2 : mfr I' I'') : mfr I I'' := ⟨fun a h => (h2.1 a h).trans (h1.1 a h), h2.2.trans h1.2⟩
theorem mfr_rf (I : Fm) : mfr I I := ⟨fun _ _ => rfl, rfl⟩
theorem one_len {c : List Nat} (h : e_one c = 0) {v : Nat} (e : e_at c 0 = v) (hv : e_holds v = false) : c.length = e_want v + 1 := by
  have h2 := (one_sv h).2.1
  have h3 := one_pos h
  unfold e_nw at h2
  rw [e, if_neg (by rw [hv]; decide)] at h2
  omega
def k_ins (tm : Nat → Nat) (t k : Nat) : List Nat → List Nat
  | [] => [k]
  | a :: L => if tm a ≤ t then a :: k_ins tm t k L else k :: a :: L
theorem k_mem {tm : Nat → Nat} {t k : Nat} : ∀ (L : List Nat) (x : Nat), x ∈ k_ins tm t k L ↔ (x = k ∨ x ∈ L)
  | [], x => by simp [k_ins]
  | a :: L, x => by
    unfold k_ins
    split
    · rw [List.mem_cons, k_mem L x, List.mem_cons]
      constructor
      · rintro (h | h | h) <;> simp [h]
      · rintro (h | h | h) <;> simp [h]
    · rw [List.mem_cons]
theorem s_u_s {α : Type} {f : Nat → α} {k : Nat} {x : α} : s_u f k x k = x := if_pos rfl
theorem s_u_n {α : Type} {f : Nat → α} {k j : Nat} {x : α} (h : j ≠ k) : s_u f k x j = f j := if_neg h
theorem k_map {tm : Nat → Nat} {cd : Nat → List Nat} {t k : Nat} {c : List Nat} : ∀ (L : List Nat), k ∉ L → (k_ins tm t k L).map (fun i => (s_u tm k t i, s_u cd k c i)) = e_ins (L.map (fun i => (tm i, cd i))) t c
  | [], _ => by simp [k_ins, e_ins, s_u_s]
  | a :: L, h => by
    have ha : a ≠ k := fun z => h (by rw [z]; exact List.mem_cons_self)
    have hm : ∀ b ∈ L, b ≠ k := fun b hb z => h (by rw [← z]; exact List.mem_cons_of_mem _ hb)
    unfold k_ins
    rw [List.map_cons, e_ins]
    show List.map _ (if tm a ≤ t then _ else _) = if tm a ≤ t then _ else _
    split
    · rw [List.map_cons, k_map L (fun z => h (List.mem_cons_of_mem _ z)), s_u_n ha, s_u_n ha]
    · rw [List.map_cons, List.map_cons, s_u_s, s_u_s, s_u_n ha, s_u_n ha]
      congr 2
      exact List.map_congr_left (fun b hb => by rw [s_u_n (hm b hb), s_u_n (hm b hb)])
theorem k_pw {tm od : Nat → Nat} {t k o : Nat} : ∀ (L : List Nat), k ∉ L → L.Pairwise (bf tm od) → (∀ a ∈ L, od a < o) → (k_ins tm t k L).Pairwise (bf (s_u tm k t) (s_u od k o))
  | [], _, _, _ => List.pairwise_singleton _ _
  | a :: L, h, hp, ho => by
    have ha : a ≠ k := fun z => h (by rw [z]; exact List.mem_cons_self)
    have hm : ∀ b ∈ L, b ≠ k := fun b hb z => h (by rw [← z]; exact List.mem_cons_of_mem _ hb)
    obtain ⟨h1, h2⟩ := List.pairwise_cons.mp hp
    unfold k_ins
    split
    · rename_i hx
      refine List.pairwise_cons.mpr ⟨fun b hb => ?_, k_pw L (fun z => h (List.mem_cons_of_mem _ z)) h2 (fun b hb => ho b (List.mem_cons_of_mem _ hb))⟩
      have := ho a List.mem_cons_self
      unfold bf
      rcases (k_mem L b).mp hb with rfl | hb
      · rw [s_u_s, s_u_s, s_u_n ha, s_u_n ha]; omega
      · rw [s_u_n ha, s_u_n ha, s_u_n (hm b hb), s_u_n (hm b hb)]
        exact h1 b hb
    · rename_i hx
      refine List.pairwise_cons.mpr ⟨fun b hb => ?_, ?_⟩
      · unfold bf
        rw [s_u_s, s_u_s]
        rcases List.mem_cons.mp hb with rfl | hb
        · rw [s_u_n ha]; omega
        · have := h1 b hb
          unfold bf at this
          rw [s_u_n (hm b hb)]; omega
      · refine hp.imp_of_mem (fun {x y} hx hy z => ?_)
        have hx : x ≠ k := fun z => h (z ▸ hx)
        have hy : y ≠ k := fun z => h (z ▸ hy)
        unfold bf at z ⊢
        rw [s_u_n hx, s_u_n hx, s_u_n hy, s_u_n hy]
        exact z
theorem k_nd {tm : Nat → Nat} {t k : Nat} : ∀ (L : List Nat), k ∉ L → L.Nodup → (k_ins tm t k L).Nodup
  | [], _, _ => List.nodup_cons.mpr ⟨List.not_mem_nil, List.nodup_nil⟩
  | a :: L, h, hn => by
    obtain ⟨h1, h2⟩ := List.nodup_cons.mp hn
    unfold k_ins
    split
    · refine List.nodup_cons.mpr ⟨fun z => ?_, k_nd L (fun z => h (List.mem_cons_of_mem _ z)) h2⟩
      rcases (k_mem L a).mp z with e | e
      · exact h (by rw [e]; exact List.mem_cons_self)
      · exact h1 e
    · exact List.nodup_cons.mpr ⟨h, hn⟩
section Pc
variable {I I' : Fm} {tm od : Nat → Nat} {cd : Nat → List Nat} {L D : List Nat} {ca : Nat}
theorem pln_ins {k t : Nat} {c : List Nat} (h : m_pln I tm od cd L [] ca) (hk : k < 6) (h0 : od k = 0) (ht : t ≤ 65535) (hc : c.length ≤ 11) (hb : ∀ x ∈ c, x < 256) (h8 : I' 56 8 = nI (ca + 1)) (h62 : I' 62 k = nI (ca + 1)) (n62 : ∀ j, j ≠ k → I' 62 j = I 62 j) (h61 : I' 61 k = nI t) (n61 : ∀ j, j ≠ k → I' 61 j = I 61 j) (h60 : I' 60 k = nI c.length) (n60 : ∀ j, j ≠ k → I' 60 j = I 60 j) (h63 : I' 63 = I 63) (h59 : ∀ i, i < c.length → I' 59 (12 * k + i) = nI (e_at c i)) (n59 : ∀ q, q < 12 * k ∨ 12 * k + 12 ≤ q → I' 59 q = I 59 q) : m_pln I' (s_u tm k t) (s_u od k (ca + 1)) (s_u cd k c) (k_ins tm t k L) [] (ca + 1) := by
  have hkL : k ∉ L := fun z => absurd h0 ((sl_ac h hk).mpr (Or.inl z))
  obtain ⟨q1, q2, q3, q4, q5, q6, q7⟩ := h
  rw [List.append_nil] at q3 q4
  refine ⟨h8, fun j hj => ?_, ?_, ?_, fun a b ha hb' hne he => ?_, k_pw L hkL q6 (fun a ha => ?_), List.Pairwise.nil⟩
  · by_cases e : j = k
    · subst e
      rw [s_u_s, s_u_s, s_u_s]
      refine ⟨h62, h61, ht, Nat.le_refl _, ?_, ⟨fun _ => Or.inl ((k_mem L j).mpr (Or.inl rfl)), fun _ => by omega⟩, fun _ => ⟨h60, hc, h59, hb⟩⟩
      rw [h63]; exact (q2 j hj).2.2.2.2.1
    · rw [s_u_n e, s_u_n e, s_u_n e, n62 j e, n61 j e, n60 j e, h63]
      obtain ⟨b1, b2, b3, b4, b5, b6, b7⟩ := q2 j hj
      refine ⟨b1, b2, b3, by omega, b5, ?_, fun z => ?_⟩
      · rw [k_mem]
        constructor
        · intro z
          rcases b6.mp z with w | w
          · exact Or.inl (Or.inr w)
          · exact Or.inr w
        · rintro ((w | w) | w)
          · exact absurd w e
          · exact b6.mpr (Or.inl w)
          · exact b6.mpr (Or.inr w)
      · obtain ⟨c1, c2, c3, c4⟩ := b7 z
        exact ⟨c1, c2, fun i hi => (n59 _ (by omega)).trans (c3 i hi), c4⟩
  · rw [List.append_nil]; exact k_nd L hkL q3
  · intro x hx
    rw [List.append_nil] at hx
    rcases (k_mem L x).mp hx with rfl | hx
    · exact hk
    · exact q4 x hx
  · by_cases e1 : a = k
    · by_cases e2 : b = k
      · rw [e1, e2]
      · subst e1
        rw [s_u_s, s_u_n e2] at he
        have := (q2 b hb').2.2.2.1
        omega
    · by_cases e2 : b = k
      · subst e2
        rw [s_u_s, s_u_n e1] at he
        have := (q2 a ha).2.2.2.1
        omega
      · rw [s_u_n e1] at hne he
        rw [s_u_n e2] at he
        exact q5 a b ha hb' hne he
  · have := (q2 a (q4 a ha)).2.2.2.1
    omega
theorem pln_clear (h : m_pln I tm od cd L D ca) (h62 : ∀ j, j < 6 → I' 62 j = if j ∈ D then I 62 j else nI 0) (h8 : I' 56 8 = I 56 8) (hx : ∀ a, a ≠ 62 → 59 ≤ a → a ≤ 63 → I' a = I a) : m_pln I' tm (fun j => if j ∈ D then od j else 0) cd [] D ca := by
  obtain ⟨q1, q2, q3, q4, q5, q6, q7⟩ := h
  refine ⟨h8.trans q1, fun j hj => ?_, (List.nodup_append.mp q3).2.1, fun k hk => q4 k (List.mem_append_right _ hk), fun a b ha hb hne he => ?_, List.Pairwise.nil, ?_⟩
  · obtain ⟨b1, b2, b3, b4, b5, b6, b7⟩ := q2 j hj
    rw [h62 j hj, hx 61 (by decide) (by decide) (by decide), hx 63 (by decide) (by decide) (by decide), hx 60 (by decide) (by decide) (by decide), hx 59 (by decide) (by decide) (by decide)]
    by_cases e : j ∈ D
    · simp only [if_pos e] at b5 ⊢
      refine ⟨b1, b2, b3, b4, b5, ⟨fun _ => Or.inr e, fun _ => b6.mpr (Or.inr e)⟩, b7⟩
    · simp only [if_neg e] at b5 ⊢
      exact ⟨trivial, b2, b3, Nat.zero_le _, b5, ⟨fun z => absurd rfl z, fun z => z.elim (fun w => absurd w List.not_mem_nil) (fun w => absurd w e)⟩, fun z => absurd rfl z⟩
  · by_cases e1 : a ∈ D
    · by_cases e2 : b ∈ D
      · simp only [if_pos e1, if_pos e2] at hne he
        exact q5 a b ha hb hne he
      · simp only [if_pos e1, if_neg e2] at hne he
        exact absurd he hne
    · simp only [if_neg e1] at hne
      exact absurd rfl hne
  · refine q7.imp_of_mem (fun {x y} hx hy z => ?_)
    unfold bf at z ⊢
    simp only [if_pos hx, if_pos hy]
    exact z
theorem pln_shift {z : Int} (h : m_pln I tm od cd L D ca) (hz : ∀ j ∈ L, 0 ≤ (tm j : Int) + z ∧ (tm j : Int) + z ≤ 65535) (h61 : ∀ j, j < 6 → I' 61 j = if j ∈ L then nI ((tm j : Int) + z).toNat else I 61 j) (h8 : I' 56 8 = I 56 8) (hx : ∀ a, a ≠ 61 → 59 ≤ a → a ≤ 63 → I' a = I a) : m_pln I' (fun j => if j ∈ L then ((tm j : Int) + z).toNat else tm j) od cd L D ca := by
  obtain ⟨q1, q2, q3, q4, q5, q6, q7⟩ := h
  have hdis := (List.nodup_append.mp q3).2.2
  refine ⟨h8.trans q1, fun j hj => ?_, q3, q4, q5, ?_, ?_⟩
  · obtain ⟨b1, b2, b3, b4, b5, b6, b7⟩ := q2 j hj
    rw [h61 j hj, hx 62 (by decide) (by decide) (by decide), hx 63 (by decide) (by decide) (by decide), hx 60 (by decide) (by decide) (by decide), hx 59 (by decide) (by decide) (by decide)]
    refine ⟨b1, ?_, ?_, b4, b5, b6, b7⟩
    · by_cases e : j ∈ L
      · simp only [if_pos e]
      · simp only [if_neg e]; exact b2
    · by_cases e : j ∈ L
      · simp only [if_pos e]; have := hz j e; omega
      · simp only [if_neg e]; exact b3
  · refine q6.imp_of_mem (fun {x y} hx hy w => ?_)
    unfold bf at w ⊢
    simp only [if_pos hx, if_pos hy]
    have a1 := hz x hx
    have a2 := hz y hy
    omega
  · refine q7.imp_of_mem (fun {x y} hx hy w => ?_)
    unfold bf at w ⊢
    simp only [if_neg (fun q => hdis x q x hx rfl), if_neg (fun q => hdis y q y hy rfl)]
    exact w
theorem pln_due {t : Nat} (h : m_pln I tm od cd L [] ca) (h63 : ∀ j, j < 6 → I' 63 j = if od j ≠ 0 ∧ tm j ≤ t then nI 1 else nI 0) (h8 : I' 56 8 = I 56 8) (hx : ∀ a, a ≠ 63 → 59 ≤ a → a ≤ 63 → I' a = I a) : m_pln I' tm od cd (L.filter (fun j => !decide (tm j ≤ t))) (L.filter (fun j => decide (tm j ≤ t))) ca := by
  have hac : ∀ j, j < 6 → (od j ≠ 0 ↔ j ∈ L) := fun j hj => (sl_ac h hj).trans ⟨fun z => z.elim id (fun w => absurd w List.not_mem_nil), Or.inl⟩
  obtain ⟨q1, q2, q3, q4, q5, q6, q7⟩ := h
  rw [List.append_nil] at q3 q4
  refine ⟨h8.trans q1, fun j hj => ?_, ?_, ?_, q5, q6.filter _, q6.filter _⟩
  · obtain ⟨b1, b2, b3, b4, b5, b6, b7⟩ := q2 j hj
    rw [h63 j hj, hx 61 (by decide) (by decide) (by decide), hx 62 (by decide) (by decide) (by decide), hx 60 (by decide) (by decide) (by decide), hx 59 (by decide) (by decide) (by decide)]
    refine ⟨b1, b2, b3, b4, ?_, ?_, b7⟩
    · have e1 : (j ∈ L.filter (fun j => decide (tm j ≤ t))) ↔ (od j ≠ 0 ∧ tm j ≤ t) := by rw [List.mem_filter, decide_eq_true_iff, hac j hj]
      by_cases e : od j ≠ 0 ∧ tm j ≤ t
      · rw [if_pos e, if_pos (e1.mpr e)]
      · rw [if_neg e, if_neg (fun z => e (e1.mp z))]
    · rw [List.mem_filter, List.mem_filter, hac j hj]
      by_cases e : tm j ≤ t <;> simp [e]
  · refine List.nodup_append.mpr ⟨q3.filter _, q3.filter _, fun a ha b hb e => ?_⟩
    subst e
    have h1 := (List.mem_filter.mp ha).2
    have h2 := (List.mem_filter.mp hb).2
    simp only [h2] at h1
    cases h1
  · intro k hk
    rcases List.mem_append.mp hk with hk | hk <;> exact q4 k (List.mem_filter.mp hk).1
theorem pln_pop {k : Nat} (h : m_pln I tm od cd L (k :: D) ca) (h62 : I' 62 k = nI 0) (n62 : ∀ j, j ≠ k → I' 62 j = I 62 j) (h63 : I' 63 k = nI 0) (n63 : ∀ j, j ≠ k → I' 63 j = I 63 j) (h8 : I' 56 8 = I 56 8) (hx : ∀ a, 59 ≤ a → a ≤ 61 → I' a = I a) : m_pln I' tm (s_u od k 0) cd L D ca := by
  obtain ⟨q1, q2, q3, q4, q5, q6, q7⟩ := h
  obtain ⟨n1, n2, n3⟩ := List.nodup_append.mp q3
  obtain ⟨n4, n5⟩ := List.nodup_cons.mp n2
  have hkL : ∀ j ∈ L, j ≠ k := fun j hj e => n3 j hj k List.mem_cons_self e
  have hkD : ∀ j ∈ D, j ≠ k := fun j hj e => n4 (e ▸ hj)
  refine ⟨h8.trans q1, fun j hj => ?_, List.nodup_append.mpr ⟨n1, n5, fun a ha b hb => n3 a ha b (List.mem_cons_of_mem _ hb)⟩, fun j hj => ?_, fun a b ha hb hne he => ?_, ?_, ?_⟩
  · obtain ⟨b1, b2, b3, b4, b5, b6, b7⟩ := q2 j hj
    rw [hx 61 (by decide) (by decide), hx 60 (by decide) (by decide), hx 59 (by decide) (by decide)]
    by_cases e : j = k
    · subst e
      rw [h62, h63, s_u_s, if_neg n4]
      exact ⟨rfl, b2, b3, Nat.zero_le _, rfl, ⟨fun z => absurd rfl z, fun z => z.elim (fun w => absurd rfl (hkL _ w)) (fun w => absurd rfl (hkD _ w))⟩, fun z => absurd rfl z⟩
    · rw [n62 j e, n63 j e, s_u_n e]
      refine ⟨b1, b2, b3, b4, ?_, ?_, b7⟩
      · rw [b5]
        have : (j ∈ k :: D) ↔ j ∈ D := by simp [e]
        simp only [this]
      · rw [b6, List.mem_cons]
        constructor
        · rintro (w | w | w)
          · exact Or.inl w
          · exact absurd w e
          · exact Or.inr w
        · rintro (w | w)
          · exact Or.inl w
          · exact Or.inr (Or.inr w)
  · rcases List.mem_append.mp hj with w | w
    · exact q4 j (List.mem_append_left _ w)
    · exact q4 j (List.mem_append_right _ (List.mem_cons_of_mem _ w))
  · by_cases e1 : a = k
    · subst e1; rw [s_u_s] at hne; exact absurd rfl hne
    · by_cases e2 : b = k
      · subst e2; rw [s_u_s] at he; exact absurd he hne
      · rw [s_u_n e1] at hne he; rw [s_u_n e2] at he
        exact q5 a b ha hb hne he
  · refine q6.imp_of_mem (fun {x y} hx hy w => ?_)
    unfold bf at w ⊢
    rw [s_u_n (hkL _ hx), s_u_n (hkL _ hy)]; exact w
  · refine (List.pairwise_cons.mp q7).2.imp_of_mem (fun {x y} hx hy w => ?_)
    unfold bf at w ⊢
    rw [s_u_n (hkD _ hx), s_u_n (hkD _ hy)]; exact w
theorem pln_free (h : m_pln I tm od cd L [] ca) (hl : L.length < 6) (h5 : ∀ j, j < 5 → od j ≠ 0) : od 5 = 0 := Classical.byContradiction fun z => by
  have hm : ∀ j, j < 6 → j ∈ L := fun j hj => by
    have : od j ≠ 0 := by
      by_cases e : j = 5
      · rw [e]; exact z
      · exact h5 j (by omega)
    rcases (sl_ac h hj).mp this with w | w
    · exact w
    · exact absurd w List.not_mem_nil
  have h6 := cn_all (sl_L h).1 (sl_L h).2.1
  simp only [cn, hm 0 (by decide), hm 1 (by decide), hm 2 (by decide), hm 3 (by decide), hm 4 (by decide), hm 5 (by decide), true_and, if_true] at h6
  omega
end Pc
theorem tw_f {t : Nat} : ∀ {pl : List (Nat × List Nat)}, p_pw pl → pl.takeWhile (fun e => decide (e.1 ≤ t)) = pl.filter (fun e => decide (e.1 ≤ t)) ∧ pl.dropWhile (fun e => decide (e.1 ≤ t)) = pl.filter (fun e => !decide (e.1 ≤ t))
  | [], _ => ⟨rfl, rfl⟩
  | e :: pl, h => by
    obtain ⟨h1, h2⟩ := List.pairwise_cons.mp h
    obtain ⟨i1, i2⟩ := tw_f (t := t) h2
    by_cases q : e.1 ≤ t
    · rw [List.takeWhile_cons, List.dropWhile_cons, List.filter_cons, List.filter_cons, if_pos (by simp [q]), if_pos (by simp [q]), if_pos (by simp [q]), if_neg (by simp [q]), i1, i2]
      exact ⟨rfl, rfl⟩
    · have q1 : pl.filter (fun e => decide (e.1 ≤ t)) = [] := List.filter_eq_nil_iff.mpr (fun a ha => by have := h1 a ha; simp; omega)
      have q2 : pl.filter (fun e => !decide (e.1 ≤ t)) = pl := List.filter_eq_self.mpr (fun a ha => by have := h1 a ha; simp; omega)
      rw [List.takeWhile_cons, List.dropWhile_cons, List.filter_cons, List.filter_cons, if_neg (by simp [q]), if_neg (by simp [q]), if_neg (by simp [q]), if_pos (by simp [q]), q1, q2]
      exact ⟨rfl, rfl⟩
