/-! THE DOCUMENT AS FUNCTIONS. A state of the desk: g (0 clock, 1 safe, 2 the plan runs, 5 lost, 6 taken, 7 dropped, 8 skipped, 9 done), parameters, watches (wn: 0 on, 1 parameter, 2 n, 3 e, 4 count; wb: 0 low, 1 high), lists (0 every, 1 mask), actions, plan, store. A command is the list of its bytes. -/
abbrev Sg : Type := (Nat → Nat) × (Nat → Int32) × (Nat → Nat → Nat) × (Nat → Nat → Int32) × (Nat → Nat → Nat) × (Nat → List Nat) × List (Nat × List Nat) × List (Int32 × Int32 × Int32 × Int32)
def s_g (σ : Sg) : Nat → Nat := σ.1
def s_pa (σ : Sg) : Nat → Int32 := σ.2.1
def s_wn (σ : Sg) : Nat → Nat → Nat := σ.2.2.1
def s_wb (σ : Sg) : Nat → Nat → Int32 := σ.2.2.2.1
def s_ho (σ : Sg) : Nat → Nat → Nat := σ.2.2.2.2.1
def s_ac (σ : Sg) : Nat → List Nat := σ.2.2.2.2.2.1
def s_pl (σ : Sg) : List (Nat × List Nat) := σ.2.2.2.2.2.2.1
def s_sr (σ : Sg) : List (Int32 × Int32 × Int32 × Int32) := σ.2.2.2.2.2.2.2
def s_u {α : Type} (f : Nat → α) (k : Nat) (x : α) : Nat → α := fun j => if j = k then x else f j
def w_g (σ : Sg) (k x : Nat) : Sg := (s_u (s_g σ) k x, s_pa σ, s_wn σ, s_wb σ, s_ho σ, s_ac σ, s_pl σ, s_sr σ)
def w_pa (σ : Sg) (k : Nat) (x : Int32) : Sg := (s_g σ, s_u (s_pa σ) k x, s_wn σ, s_wb σ, s_ho σ, s_ac σ, s_pl σ, s_sr σ)
def w_wn (σ : Sg) (f : Nat → Nat → Nat) : Sg := (s_g σ, s_pa σ, f, s_wb σ, s_ho σ, s_ac σ, s_pl σ, s_sr σ)
def w_wb (σ : Sg) (f : Nat → Nat → Int32) : Sg := (s_g σ, s_pa σ, s_wn σ, f, s_ho σ, s_ac σ, s_pl σ, s_sr σ)
def w_ho (σ : Sg) (f : Nat → Nat → Nat) : Sg := (s_g σ, s_pa σ, s_wn σ, s_wb σ, f, s_ac σ, s_pl σ, s_sr σ)
def w_ac (σ : Sg) (k : Nat) (c : List Nat) : Sg := (s_g σ, s_pa σ, s_wn σ, s_wb σ, s_ho σ, s_u (s_ac σ) k c, s_pl σ, s_sr σ)
def w_pl (σ : Sg) (l : List (Nat × List Nat)) : Sg := (s_g σ, s_pa σ, s_wn σ, s_wb σ, s_ho σ, s_ac σ, l, s_sr σ)
def w_sr (σ : Sg) (l : List (Int32 × Int32 × Int32 × Int32)) : Sg := (s_g σ, s_pa σ, s_wn σ, s_wb σ, s_ho σ, s_ac σ, s_pl σ, l)
/-- a report into the store -/
def e_add (σ : Sg) (k a b : Int32) : Sg :=
  if 10 ≤ (s_sr σ).length then w_sr (w_g σ 5 (s_g σ 5 + 1)) ((s_sr σ).tail ++ [(k, nI (s_g σ 0), a, b)]) else w_sr σ (s_sr σ ++ [(k, nI (s_g σ 0), a, b)])
def e_want (s : Nat) : Nat := [0, 0, 2, 2, 1, 1, 6, 1, 1, 1, 3, 1].getD s 0
def e_sgn (x : Nat) : Int32 := if x < 128 then nI x else nI x - 256
def e_sgz (x : Nat) : Int := if x < 128 then x else x - 256
def e_at (c : List Nat) (i : Nat) : Nat := c.getD i 0
def e_holds (s : Nat) : Bool := s == 3 || s == 8
/-- the arguments are in their ranges, and what is inside may be inside -/
def e_rng (c : List Nat) : Bool := match e_at c 0 with
  | 2 => decide (e_at c 1 < 8)
  | 3 => decide (e_at c 3 ≠ 3)
  | 4 => decide (e_at c 1 < 3)
  | 6 => decide (e_at c 1 < 4 ∧ e_at c 2 < 8 ∧ e_sgn (e_at c 3) ≤ e_sgn (e_at c 4) ∧ 1 ≤ e_at c 5 ∧ e_at c 5 ≤ 3 ∧ e_at c 6 < 4)
  | 7 => decide (e_at c 1 < 4)
  | 8 => decide (e_at c 1 < 4 ∧ e_at c 2 ≠ 3 ∧ e_at c 2 ≠ 8)
  | 9 => decide (e_at c 1 < 4)
  | 10 => decide (e_at c 1 < 2)
  | 11 => decide (e_at c 1 < 2)
  | _ => true
/-- one level of a command: its code, 0 if nothing is wrong there -/
def e_one (c : List Nat) : Nat :=
  if e_at c 0 < 1 ∨ 11 < e_at c 0 then 1
  else if (if e_holds (e_at c 0) = true then c.length - 1 ≤ e_want (e_at c 0) else c.length - 1 ≠ e_want (e_at c 0)) then 2
  else if e_rng c = false then 3 else 0
def e_brk : Nat → List Nat → Nat
  | 0, _ => 0
  | f + 1, c => if e_one c ≠ 0 then e_one c else if e_holds (e_at c 0) = true then e_brk f (c.drop (e_want (e_at c 0) + 1)) else 0
def e_canshift (l : List (Nat × List Nat)) (d : Int) (clock : Nat) : Prop := ∀ e ∈ l, (clock : Int) < e.1 + d ∧ (e.1 : Int) + d ≤ 65535
def e_ref (σ : Sg) (c : List Nat) : Nat :=
  if s_g σ 1 ≠ 0 ∧ ¬ (e_at c 0 = 1 ∨ e_at c 0 = 2 ∨ e_at c 0 = 7 ∨ e_at c 0 = 11) then 4
  else if e_at c 0 = 3 ∧ 6 ≤ (s_pl σ).length then 5
  else if e_at c 0 = 3 ∧ e_at c 1 * 256 + e_at c 2 ≤ s_g σ 0 then 6
  else if e_at c 0 = 5 ∧ ¬ (∀ e ∈ s_pl σ, (s_g σ 0 : Int) < e.1 + e_sgz (e_at c 1) ∧ (e.1 : Int) + e_sgz (e_at c 1) ≤ 65535) then 6
  else 0
def e_ins : List (Nat × List Nat) → Nat → List Nat → List (Nat × List Nat)
  | [], t, c => [(t, c)]
  | e :: l, t, c => if e.1 ≤ t then e :: e_ins l t c else (t, c) :: e :: l
def e_shift (l : List (Nat × List Nat)) (d : Int) : List (Nat × List Nat) := l.map (fun e => (((e.1 : Int) + d).toNat, e.2))
def e_perf (σ : Sg) (c : List Nat) : Sg := match e_at c 0 with
  | 2 => w_pa σ (e_at c 1) (e_sgn (e_at c 2))
  | 3 => w_pl σ (e_ins (s_pl σ) (e_at c 1 * 256 + e_at c 2) (c.drop 3))
  | 4 => if e_at c 1 = 2 then w_pl σ [] else w_g σ 2 (if e_at c 1 = 1 then 1 else 0)
  | 5 => w_pl σ (e_shift (s_pl σ) (e_sgz (e_at c 1)))
  | 6 => w_wb (w_wn σ (s_u (s_wn σ) (e_at c 1) (fun j => match j with | 0 => 1 | 1 => e_at c 2 | 2 => e_at c 5 | 3 => e_at c 6 | _ => 0))) (s_u (s_wb σ) (e_at c 1) (fun j => match j with | 0 => e_sgn (e_at c 3) | _ => e_sgn (e_at c 4)))
  | 7 => w_wn σ (s_u (s_wn σ) (e_at c 1) (s_u (s_wn σ (e_at c 1)) 0 0))
  | 8 => w_ac σ (e_at c 1) (c.drop 2)
  | 9 => w_ac σ (e_at c 1) []
  | 10 => w_ho σ (s_u (s_ho σ) (e_at c 1) (fun j => match j with | 0 => e_at c 2 | _ => e_at c 3))
  | 11 => if e_at c 1 = 1 then w_g (w_g σ 1 1) 2 0 else w_g σ 1 0
  | _ => σ
def e_nz (pa : Nat → Int32) : Nat → Nat
  | 0 => 0
  | k + 1 => e_nz pa k + if pa k = 0 then 0 else 1
def e_sum (pa : Nat → Int32) (mask : Nat) : Nat → Int32
  | 0 => 0
  | k + 1 => e_sum pa mask k + if mask.testBit k = true then pa k else 0
/-- a command that is not broken is carried out: the new state, and 1 if it was done -/
def e_carry (σ : Sg) (c : List Nat) (num : Nat) : Sg × Nat :=
  if e_ref σ c ≠ 0 then (e_add σ 2 (nI num) (nI (e_ref σ c)), 0)
  else
    let σ1 := if e_at c 0 = 1 then e_add σ 3 (nI num) (nI (e_nz (s_pa σ) 8)) else σ
    let σ2 := e_perf σ1 c
    (e_add (w_g σ2 9 (s_g σ2 9 + 1)) 1 (nI num) (nI (e_at c 0)), 1)
def e_carries : Sg → List (Nat × List Nat) → Sg
  | σ, [] => σ
  | σ, e :: l => e_carries (e_carry σ e.2 256).1 l
def e_look (σ : Sg) (m : Nat) : Sg :=
  let w := s_wn σ m
  let v := s_pa σ (w 1)
  if w 0 = 0 then σ
  else if s_wb σ m 0 ≤ v ∧ v ≤ s_wb σ m 1 then w_wn σ (s_u (s_wn σ) m (s_u w 4 0))
  else if w 2 ≤ w 4 then σ
  else
    let σ1 := w_wn σ (s_u (s_wn σ) m (s_u w 4 (w 4 + 1)))
    if w 4 + 1 < w 2 then σ1
    else
      let σ2 := e_add σ1 4 (nI (w 3)) v
      if s_ac σ2 (w 3) = [] then σ2 else (e_carry σ2 (s_ac σ2 (w 3)) 257).1
def e_house (σ : Sg) (s : Nat) : Sg :=
  if s_ho σ s 0 = 0 ∨ s_g σ 0 % s_ho σ s 0 ≠ 0 then σ else e_add σ 5 (nI s) (e_sum (s_pa σ) (s_ho σ s 1) 8)
def e_due (σ : Sg) : Sg := if s_g σ 2 = 0 then σ else e_carries (w_pl σ ((s_pl σ).dropWhile (fun e => decide (e.1 ≤ s_g σ 0)))) ((s_pl σ).takeWhile (fun e => decide (e.1 ≤ s_g σ 0)))
def e_tick (σ : Sg) : Sg := e_house (e_house (e_look (e_look (e_look (e_look (e_due (w_g σ 0 (s_g σ 0 + 1))) 0) 1) 2) 3) 0) 1
/-- the check of a frame's content -/
def e_chk : Nat → List Nat → Nat
  | c, [] => c
  | c, x :: l => e_chk ((c * 2 % 256 + c / 128) ^^^ x) l
abbrev Rx : Type := Option (List Nat)
/-- a frame that was taken: its content -/
def e_frame (σ : Sg) (c : List Nat) : Sg × Nat :=
  if e_brk 3 c.tail ≠ 0 then (e_add σ 2 (nI (e_at c 0)) (nI (e_brk 3 c.tail)), 0) else e_carry σ c.tail (e_at c 0)
/-- a byte: the new receiver, the new state, the answer -/
def e_up (rx : Rx) (σ : Sg) (x : Nat) : Rx × Sg × Nat := match rx with
  | none => if x = 235 then (some [], σ, 0) else (none, w_g σ 8 (s_g σ 8 + 1), 5)
  | some [] => if x < 2 ∨ 12 < x then (none, w_g σ 7 (s_g σ 7 + 1), 3) else (some [x], σ, 0)
  | some (N :: l) =>
    if l.length < N then (some (N :: (l ++ [x])), σ, 0)
    else if x = e_chk 255 l then
      let r := e_frame (w_g σ 6 (s_g σ 6 + 1)) l
      (none, r.1, if r.2 = 0 then 2 else 1)
    else (none, w_g σ 7 (s_g σ 7 + 1), 4)
