/-! the hour in columns: the cells in the order x, then y -/
def od (i : Nat) : Nat := 8 * (i % 8) + i / 8
theorem od_at {x y : Nat} (hx : x < 8) (hy : y < 8) : od (8 * x + y) = 8 * y + x := by unfold od; omega
theorem od_od {c : Nat} (h : c < 64) : od (od c) = c := by unfold od; omega
theorem od_lt {c : Nat} (h : c < 64) : od c < 64 := by unfold od; omega
def q_mx (i : Nat) (F w : Nat → Int32) : Nat → Int32 := fun c => if c < 64 ∧ od c < i then F c else w c
theorem mx_0 (F w : Nat → Int32) : q_mx 0 F w = w := funext fun c => if_neg (fun h => Nat.not_lt_zero _ h.2)
theorem mx_at (F w : Nat → Int32) {i : Nat} (hi : i < 64) : q_mx i F w (od i) = w (od i) := if_neg (fun h => by rw [od_od hi] at h; exact Nat.lt_irrefl i h.2)
theorem mx_up {F w : Nat → Int32} {i : Nat} (hi : i < 64) {x : Int32} (h : x = F (od i)) : upd (q_mx i F w) (od i) x = q_mx (i + 1) F w := by
  funext c
  unfold upd q_mx
  by_cases e : c = od i
  · rw [if_pos e, if_pos ⟨by rw [e]; exact od_lt hi, by rw [e, od_od hi]; omega⟩, e, h]
  · rw [if_neg e]
    by_cases h1 : c < 64 ∧ od c < i
    · rw [if_pos h1, if_pos ⟨h1.1, by omega⟩]
    · have h2 : ¬ (c < 64 ∧ od c < i + 1) := by
        rintro ⟨a, b⟩
        by_cases e2 : od c = i
        · exact e (by rw [← e2, od_od a])
        · exact h1 ⟨a, by omega⟩
      rw [if_neg h1, if_neg h2]
theorem mx_same {F w : Nat → Int32} {i : Nat} (hi : i < 64) (h : w (od i) = F (od i)) : q_mx i F w = q_mx (i + 1) F w := by
  rw [← mx_up (x := w (od i)) hi h]
  have e := mx_at F w hi
  rw [← e]
  exact (q_upd_same _ _).symm
theorem mx_64 {F w : Nat → Int32} {c : Nat} (h : c < 64) : q_mx 64 F w c = F c := if_pos ⟨h, od_lt h⟩
/-! sums in that order -/
def q_sl (g : Nat → Int32) : List Nat → Int32
  | [] => 0
  | k :: l => g k + q_sl g l
theorem sl_app (g : Nat → Int32) (l2 : List Nat) : ∀ l1 : List Nat, q_sl g (l1 ++ l2) = q_sl g l1 + q_sl g l2
  | [] => by show q_sl g l2 = 0 + q_sl g l2; rw [Int32.zero_add]
  | k :: l1 => by
    show g k + q_sl g (l1 ++ l2) = g k + q_sl g l1 + q_sl g l2
    rw [sl_app g l2 l1, Int32.add_assoc]
theorem sl_sum (g : Nat → Int32) : ∀ n : Nat, q_sum g n = q_sl g (List.range n)
  | 0 => rfl
  | n + 1 => by
    rw [List.range_succ, sl_app]
    show q_sum g n + g n = _ + (g n + 0)
    rw [sl_sum g n, Int32.add_zero]
theorem sl_perm (g : Nat → Int32) {l1 l2 : List Nat} (h : l1.Perm l2) : q_sl g l1 = q_sl g l2 := by
  induction h with
  | nil => rfl
  | cons a _ ih => show g a + _ = g a + _; rw [ih]
  | swap x y l => show g y + (g x + _) = g x + (g y + _); rw [← Int32.add_assoc, ← Int32.add_assoc, Int32.add_comm (g y)]
  | trans _ _ ih1 ih2 => exact ih1.trans ih2
theorem sl_map (g : Nat → Int32) (f : Nat → Nat) : ∀ l : List Nat, q_sl g (l.map f) = q_sl (fun j => g (f j)) l
  | [] => rfl
  | k :: l => by show g (f k) + _ = g (f k) + _; rw [sl_map g f l]
theorem od_perm : ((List.range 64).map od).Perm (List.range 64) := by decide +kernel
theorem so_64 (g : Nat → Int32) : q_sum (fun j => g (od j)) 64 = q_sum g 64 := by
  rw [sl_sum, sl_sum, ← sl_map g od, sl_perm g od_perm]
theorem so_up (g : Nat → Int32) (b : Int32) (i : Nat) {x : Int32} (h : x = g (od i)) : b + q_sum (fun j => g (od j)) i + x = b + q_sum (fun j => g (od j)) (i + 1) := q_sum_up' b (fun j => g (od j)) i h
theorem so_no (g : Nat → Int32) (b : Int32) (i : Nat) (h : g (od i) = 0) : b + q_sum (fun j => g (od j)) i = b + q_sum (fun j => g (od j)) (i + 1) := q_sum_no b (fun j => g (od j)) i h
theorem sum_eq {f g : Nat → Int32} : ∀ n : Nat, (∀ c, c < n → f c = g c) → q_sum f n = q_sum g n
  | 0, _ => rfl
  | n + 1, h => by
    show q_sum f n + f n = q_sum g n + g n
    rw [sum_eq n (fun c hc => h c (by omega)), h n (by omega)]
/-! what a cell gives to another, and what is then there -/
def q_con (hei w1 dam cre : Nat → Int32) (k c : Nat) : Int32 :=
  if dam k < w1 k then (match q_low cre k 4 with
    | none => 0
    | some j => if 0 < hei k + w1 k - cre j then (if c = j then q_given hei w1 dam cre k j else 0) - (if c = k then q_given hei w1 dam cre k j else 0) else 0) else 0
theorem nb_ne {k s j : Nat} (hk : k < 64) (h : q_nb k s = some j) : j ≠ k := by
  rintro rfl
  match s with
  | 0 =>
    simp only [q_nb] at h
    split at h
    · have := Option.some.inj h; omega
    · cases h
  | 1 =>
    simp only [q_nb] at h
    split at h
    · have := Option.some.inj h; omega
    · cases h
  | 2 =>
    simp only [q_nb] at h
    split at h
    · have := Option.some.inj h; omega
    · cases h
  | n + 3 =>
    simp only [q_nb] at h
    split at h
    · have := Option.some.inj h; omega
    · cases h
theorem low_ne {cre : Nat → Int32} {k : Nat} (hk : k < 64) : ∀ {s j : Nat}, q_low cre k s = some j → j ≠ k
  | 0, j, h => by simp [q_low] at h
  | s + 1, j, h => by
    simp only [q_low] at h
    cases hn : q_nb k s with
    | none =>
      rw [hn] at h
      simp only [q_lowStep] at h
      exact low_ne hk h
    | some a =>
      rw [hn] at h
      have ha := nb_ne hk hn
      cases hl : q_low cre k s with
      | none =>
        rw [hl] at h
        simp only [q_lowStep] at h
        cases h
        exact ha
      | some b =>
        rw [hl] at h
        simp only [q_lowStep] at h
        split at h
        · cases h; exact ha
        · cases h; exact low_ne hk hl
theorem move_at (g : Nat → Int32) {k j : Nat} (h : j ≠ k) (x : Int32) (c : Nat) : q_move g k j x c = g c + ((if c = j then x else 0) - (if c = k then x else 0)) := by
  unfold q_move
  by_cases e : c = j
  · subst e
    rw [pk_us, if_pos rfl, if_neg h, pk_un h, Int32.sub_zero]
  · rw [pk_un e, if_neg e]
    by_cases e2 : c = k
    · subst e2
      rw [pk_us, if_pos rfl, Int32.zero_sub, Int32.sub_eq_add_neg]
    · rw [pk_un e2, if_neg e2, Int32.sub_zero, Int32.add_zero]
theorem gain_con (hei w1 dam cre : Nat → Int32) (c : Nat) : ∀ n : Nat, n ≤ 64 → q_gain hei w1 dam cre n c = q_sum (fun k => q_con hei w1 dam cre k c) n
  | 0, _ => rfl
  | n + 1, h => by
    have ih := gain_con hei w1 dam cre c n (by omega)
    show (if dam n < w1 n then q_give hei w1 dam cre n (q_low cre n 4) (q_gain hei w1 dam cre n) else q_gain hei w1 dam cre n) c = q_sum (fun k => q_con hei w1 dam cre k c) n + q_con hei w1 dam cre n c
    rw [← ih]
    unfold q_con
    by_cases h1 : dam n < w1 n
    · rw [if_pos h1, if_pos h1]
      cases hl : q_low cre n 4 with
      | none => show _ = _ + (0 : Int32); rw [Int32.add_zero]; rfl
      | some j =>
        have hne := low_ne (show n < 64 by omega) hl
        show (if 0 < hei n + w1 n - cre j then q_move (q_gain hei w1 dam cre n) n j (q_given hei w1 dam cre n j) else q_gain hei w1 dam cre n) c = _ + (if 0 < hei n + w1 n - cre j then (if c = j then q_given hei w1 dam cre n j else 0) - (if c = n then q_given hei w1 dam cre n j else 0) else 0)
        by_cases h2 : 0 < hei n + w1 n - cre j
        · rw [if_pos h2, if_pos h2, move_at _ hne]
        · rw [if_neg h2, if_neg h2, Int32.add_zero]
    · rw [if_neg h1, if_neg h1, Int32.add_zero]
/-- what stands in the new water behind i cells -/
def q_th (hei w1 dam cre : Nat → Int32) (i : Nat) : Nat → Int32 := fun c => (if c < 64 ∧ od c < i then w1 c else 0) + q_sum (fun j => q_con hei w1 dam cre (od j) c) i
theorem th_0 (hei w1 dam cre : Nat → Int32) : q_th hei w1 dam cre 0 = fun _ => 0 := by
  funext c
  unfold q_th
  rw [if_neg (fun h => Nat.not_lt_zero _ h.2)]
  exact Int32.add_zero 0
theorem th_64 (hei w1 dam cre : Nat → Int32) {c : Nat} (h : c < 64) : q_th hei w1 dam cre 64 c = w1 c + q_gain hei w1 dam cre 64 c := by
  unfold q_th
  rw [if_pos ⟨h, od_lt h⟩, so_64 (fun k => q_con hei w1 dam cre k c), gain_con _ _ _ _ _ 64 (Nat.le_refl 64)]
theorem th_w {w1 : Nat → Int32} {i : Nat} (hi : i < 64) (c : Nat) : (if c < 64 ∧ od c < i + 1 then w1 c else 0) = (if c < 64 ∧ od c < i then w1 c else 0) + (if c = od i then w1 (od i) else 0) := by
  by_cases e : c = od i
  · subst e
    rw [if_pos ⟨od_lt hi, by rw [od_od hi]; omega⟩, if_neg (fun h => by rw [od_od hi] at h; omega), if_pos rfl, Int32.zero_add]
  · rw [if_neg e, Int32.add_zero]
    by_cases h1 : c < 64 ∧ od c < i
    · rw [if_pos h1, if_pos ⟨h1.1, by omega⟩]
    · have h2 : ¬ (c < 64 ∧ od c < i + 1) := by
        rintro ⟨a, b⟩
        by_cases e2 : od c = i
        · exact e (by rw [← e2, od_od a])
        · exact h1 ⟨a, by omega⟩
      rw [if_neg h1, if_neg h2]
theorem upd_add (f : Nat → Int32) (k : Nat) (x : Int32) (c : Nat) : upd f k (f k + x) c = f c + (if c = k then x else 0) := by
  by_cases e : c = k
  · subst e; rw [pk_us, if_pos rfl]
  · rw [pk_un e, if_neg e, Int32.add_zero]
theorem th_no {hei w1 dam cre : Nat → Int32} {i : Nat} (hi : i < 64) (h : ¬ dam (od i) < w1 (od i)) : upd (q_th hei w1 dam cre i) (od i) (q_th hei w1 dam cre i (od i) + w1 (od i)) = q_th hei w1 dam cre (i + 1) := by
  funext c
  rw [upd_add]
  unfold q_th
  rw [th_w hi]
  show _ = _ + (q_sum _ i + q_con hei w1 dam cre (od i) c)
  have e : q_con hei w1 dam cre (od i) c = 0 := by unfold q_con; rw [if_neg h]
  rw [e, Int32.add_zero, Int32.add_assoc, Int32.add_assoc, Int32.add_comm (q_sum _ i)]
theorem th_yes {hei w1 dam cre : Nat → Int32} {i j : Nat} (hi : i < 64) (h : dam (od i) < w1 (od i)) (hl : q_low cre (od i) 4 = some j) {x : Int32} (hx : x = if 0 < hei (od i) + w1 (od i) - cre j then q_given hei w1 dam cre (od i) j else 0) {f : Nat → Int32} (hf : f = upd (q_th hei w1 dam cre i) (od i) (q_th hei w1 dam cre i (od i) + w1 (od i))) :
    upd (upd f (od i) (f (od i) - x)) j (upd f (od i) (f (od i) - x) j + x) = q_th hei w1 dam cre (i + 1) := by
  funext c
  show q_move f (od i) j x c = _
  rw [move_at f (low_ne (od_lt hi) hl), hf, upd_add]
  unfold q_th
  rw [th_w hi]
  show _ = _ + (q_sum _ i + q_con hei w1 dam cre (od i) c)
  have e : q_con hei w1 dam cre (od i) c = (if c = j then x else 0) - (if c = od i then x else 0) := by
    unfold q_con
    rw [if_pos h, hl]
    show (if 0 < hei (od i) + w1 (od i) - cre j then _ else _) = _
    by_cases h2 : 0 < hei (od i) + w1 (od i) - cre j
    · rw [if_pos h2] at hx ⊢
      rw [hx]
    · rw [if_neg h2] at hx ⊢
      subst hx
      simp
  rw [e]
  generalize (if c < 64 ∧ od c < i then w1 c else 0) = a
  generalize q_sum (fun j => q_con hei w1 dam cre (od j) c) i = b
  generalize (if c = od i then w1 (od i) else 0) = d
  generalize (if c = j then x else 0) - (if c = od i then x else 0) = g
  rw [Int32.add_assoc a b d, Int32.add_comm b d, ← Int32.add_assoc a d b, Int32.add_assoc (a + d) b g]
/-! the lowest of the sides, from below to the left -/
def lw_step (cre : Nat → Int32) : Option Nat → Option Nat → Option Nat
  | none, o => o
  | some j, none => some j
  | some j, some b => if cre b < cre j then some b else some j
def lwR (cre : Nat → Int32) (k : Nat) : Nat → Option Nat
  | 0 => none
  | n + 1 => lw_step cre (q_nb k (3 - n)) (lwR cre k n)
theorem lw_s1 (cre : Nat → Int32) (j : Nat) : lw_step cre (some j) none = some j := rfl
theorem lw_sn (cre : Nat → Int32) (o : Option Nat) : lw_step cre none o = o := by cases o <;> rfl
theorem lw_s2 (cre : Nat → Int32) (j b : Nat) : lw_step cre (some j) (some b) = if cre b < cre j then some b else some j := rfl
theorem ql_s1 (cre : Nat → Int32) (j : Nat) : q_lowStep cre (some j) none = some j := rfl
theorem ql_sn (cre : Nat → Int32) (o : Option Nat) : q_lowStep cre none o = o := by cases o <;> rfl
theorem ql_s2 (cre : Nat → Int32) (j b : Nat) : q_lowStep cre (some j) (some b) = if cre j < cre b then some j else some b := rfl
theorem lw_swap (cre : Nat → Int32) (o a : Option Nat) : q_lowStep cre o a = lw_step cre a o := by
  cases o <;> cases a <;> rfl
theorem lw_assoc (cre : Nat → Int32) (a b c : Option Nat) : lw_step cre (lw_step cre a b) c = lw_step cre a (lw_step cre b c) := by
  cases a with
  | none => rw [lw_sn, lw_sn]
  | some a =>
    cases b with
    | none => rw [lw_s1, lw_sn]
    | some b =>
      cases c with
      | none =>
        rw [lw_s1, lw_s2]
        by_cases h : cre b < cre a
        · rw [if_pos h, lw_s1]
        · rw [if_neg h, lw_s1]
      | some c =>
        rw [lw_s2, lw_s2]
        by_cases h1 : cre b < cre a <;> by_cases h2 : cre c < cre b
        · rw [if_pos h1, if_pos h2, lw_s2, lw_s2, if_pos h2, if_pos (Int32.lt_trans h2 h1)]
        · rw [if_pos h1, if_neg h2, lw_s2, lw_s2, if_neg h2, if_pos h1]
        · rw [if_neg h1, if_pos h2, lw_s2]
        · have h3 : ¬ cre c < cre a := by
            have e1 := lt_i (a := cre b) (b := cre a)
            have e2 := lt_i (a := cre c) (b := cre b)
            have e3 := lt_i (a := cre c) (b := cre a)
            rw [e1] at h1
            rw [e2] at h2
            rw [e3]
            omega
          rw [if_neg h1, if_neg h2, lw_s2, lw_s2, if_neg h1, if_neg h3]
theorem lwR_4 (cre : Nat → Int32) (k : Nat) : lwR cre k 4 = q_low cre k 4 := by
  show lw_step cre (q_nb k 0) (lw_step cre (q_nb k 1) (lw_step cre (q_nb k 2) (lw_step cre (q_nb k 3) none))) = q_lowStep cre (q_nb k 3) (q_lowStep cre (q_nb k 2) (q_lowStep cre (q_nb k 1) (q_lowStep cre (q_nb k 0) none)))
  have n1 : ∀ o, lw_step cre o none = o := fun o => by cases o <;> rfl
  rw [lw_swap, lw_swap, lw_swap, lw_swap, n1, lw_sn, lw_assoc, lw_assoc]
/-- what a search for the lowest side holds: the least so far, and where -/
def lw_v (cre : Nat → Int32) : Option Nat → Int32
  | none => 100000
  | some j => cre j
def lw_x (x : Nat) : Option Nat → Nat
  | none => x
  | some j => j % 8
def lw_y (y : Nat) : Option Nat → Nat
  | none => y
  | some j => j / 8
theorem lw_keep {cre : Nat → Int32} {j : Nat} {o : Option Nat} (hb : (cre j).toInt ≤ 100000) (h : lw_v cre o < cre j) : lw_step cre (some j) o = o := by
  cases o with
  | none =>
    have h1 : (100000 : Int32).toInt < (cre j).toInt := lt_i.mp h
    have h2 : (100000 : Int32).toInt = 100000 := by decide
    omega
  | some b =>
    rw [lw_s2]
    exact if_pos h
theorem lw_take {cre : Nat → Int32} {j : Nat} {o : Option Nat} (h : ¬ lw_v cre o < cre j) : lw_step cre (some j) o = some j := by
  cases o with
  | none => rfl
  | some b =>
    rw [lw_s2]
    exact if_neg h
/-- bounds of an hour's water: what makes the sums exact -/
def hB (hei dam w1 : Nat → Int32) : Prop := (∀ c, c < 64 → 0 ≤ (hei c).toInt ∧ (hei c).toInt ≤ 50) ∧ (∀ c, c < 64 → 0 ≤ (dam c).toInt ∧ (dam c).toInt ≤ 20) ∧ ∀ c, c < 64 → 0 ≤ (w1 c).toInt ∧ (w1 c).toInt ≤ 90000
theorem hB_cre {hei dam w1 : Nat → Int32} (h : hB hei dam w1) {c : Nat} (hc : c < 64) : 0 ≤ (q_cre hei dam w1 c).toInt ∧ (q_cre hei dam w1 c).toInt ≤ 100000 := by
  obtain ⟨h1, h2, h3⟩ := h
  have a1 := h1 c hc
  have a2 := h2 c hc
  have a3 := h3 c hc
  have e1 := i_max_i (dam c) (w1 c)
  have e2 : (q_cre hei dam w1 c).toInt = (hei c).toInt + (i_max (dam c) (w1 c)).toInt := add_ex (by omega) (by omega)
  omega
theorem hB_over {hei dam w1 : Nat → Int32} (h : hB hei dam w1) {c : Nat} (hc : c < 64) : 0 < w1 c - dam c ↔ dam c < w1 c := by
  have a2 := h.2.1 c hc
  have a3 := h.2.2 c hc
  have e : (w1 c - dam c).toInt = (w1 c).toInt - (dam c).toInt := sub_ex (by omega) (by omega)
  rw [lt_i, lt_i, e]
  have : (0 : Int32).toInt = 0 := rfl
  omega
theorem crest_y {hei dam wat : Nat → Int32} {c : Nat} (h : dam c < wat c) : hei c + wat c = q_cre hei dam wat c := by
  unfold q_cre i_max
  rw [if_pos h]
theorem crest_n {hei dam wat : Nat → Int32} {c : Nat} (h : ¬ dam c < wat c) : hei c + dam c = q_cre hei dam wat c := by
  unfold q_cre i_max
  rw [if_neg h]
/-- what is given: nothing where the level is higher by less than 2 -/
theorem gives_2 {y ov : Int32} (h : y < 2) (hov : 0 < ov) {X : Int32} (hX : X = i_min (y / 2) ov) : (0 : Int32) = if 0 < y then X else 0 := by
  by_cases h0 : 0 < y
  · rw [if_pos h0, hX]
    have e1 := lt_i.mp h
    have e2 := lt_i.mp h0
    have t2 : (2 : Int32).toInt = 2 := rfl
    have t0 : (0 : Int32).toInt = 0 := rfl
    have e3 : y = 1 := Int32.toInt_inj.mp (by show y.toInt = 1; omega)
    rw [e3]
    have e4 : (1 : Int32) / 2 = 0 := by decide
    rw [e4]
    unfold i_min
    rw [if_neg (fun h9 => Int32.lt_irrefl (Int32.lt_trans hov h9))]
  · rw [if_neg h0]
theorem gives_3 {y ov : Int32} (h : ¬ y < 2) {X : Int32} (hX : X = i_min (y / 2) ov) {x : Int32} (hx : x = if y / 2 < ov then y / 2 else ov) : x = if 0 < y then X else 0 := by
  have h0 : 0 < y := by
    have e1 : ¬ y.toInt < (2 : Int32).toInt := fun h9 => h (lt_i.mpr h9)
    have t2 : (2 : Int32).toInt = 2 := rfl
    have t0 : (0 : Int32).toInt = 0 := rfl
    rw [lt_i]
    omega
  rw [if_pos h0, hX, hx]
  unfold i_min
  by_cases h1 : y / 2 < ov
  · rw [if_pos h1, if_neg (fun h9 => Int32.lt_irrefl (Int32.lt_trans h1 h9))]
  · rw [if_neg h1]
    by_cases h2 : ov < y / 2
    · rw [if_pos h2]
    · rw [if_neg h2]
      exact Int32.le_antisymm (Int32.not_lt.mp h1) (Int32.not_lt.mp h2)
/-! a cell's dam, drain and town -/
theorem cell_A {dam w2 wea : Nat → Int32} {k : Nat} (h : ¬ (0 < dam k ∧ dam k ≤ w2 k)) : q_dam dam w2 wea k = dam k ∧ q_wea dam w2 wea k = wea k ∧ q_brk dam w2 wea k = 0 := by
  have h1 : ¬ (0 < dam k ∧ dam k ≤ w2 k ∧ 10 ≤ wea k + 1) := fun z => h ⟨z.1, z.2.1⟩
  exact ⟨if_neg h1, if_neg h, if_neg h1⟩
theorem cell_B {dam w2 wea : Nat → Int32} {k : Nat} (h : 0 < dam k ∧ dam k ≤ w2 k) (h9 : 9 < wea k + 1) : q_dam dam w2 wea k = 0 ∧ q_wea dam w2 wea k = 0 ∧ q_brk dam w2 wea k = 1 := by
  have h2 : 10 ≤ wea k + 1 := by
    have e1 := lt_i.mp h9
    have t9 : (9 : Int32).toInt = 9 := rfl
    have t10 : (10 : Int32).toInt = 10 := rfl
    rw [le_i]
    omega
  have h1 : 0 < dam k ∧ dam k ≤ w2 k ∧ 10 ≤ wea k + 1 := ⟨h.1, h.2, h2⟩
  refine ⟨if_pos h1, ?_, if_pos h1⟩
  show (if 0 < dam k ∧ dam k ≤ w2 k then (if 10 ≤ wea k + 1 then 0 else wea k + 1) else wea k) = 0
  rw [if_pos h, if_pos h2]
theorem cell_C {dam w2 wea : Nat → Int32} {k : Nat} (h : 0 < dam k ∧ dam k ≤ w2 k) (h9 : ¬ 9 < wea k + 1) : q_dam dam w2 wea k = dam k ∧ q_wea dam w2 wea k = wea k + 1 ∧ q_brk dam w2 wea k = 0 := by
  have h2 : ¬ 10 ≤ wea k + 1 := by
    have e1 : ¬ (9 : Int32).toInt < (wea k + 1).toInt := fun z => h9 (lt_i.mpr z)
    have t9 : (9 : Int32).toInt = 9 := rfl
    have t10 : (10 : Int32).toInt = 10 := rfl
    rw [le_i]
    omega
  have h1 : ¬ (0 < dam k ∧ dam k ≤ w2 k ∧ 10 ≤ wea k + 1) := fun z => h2 z.2.2
  refine ⟨if_neg h1, ?_, if_neg h1⟩
  show (if 0 < dam k ∧ dam k ≤ w2 k then (if 10 ≤ wea k + 1 then 0 else wea k + 1) else wea k) = wea k + 1
  rw [if_pos h, if_neg h2]
theorem tak_y {dra w2 : Nat → Int32} {k : Nat} (h : w2 k < dra k) : w2 k = q_tak dra w2 k := by
  unfold q_tak i_min
  rw [if_pos h]
theorem tak_n {dra w2 : Nat → Int32} {k : Nat} (h : ¬ w2 k < dra k) : dra k = q_tak dra w2 k := by
  unfold q_tak i_min
  rw [if_neg h]
theorem lv_no {w3 peo : Nat → Int32} {k : Nat} (h : ¬ 3 ≤ w3 k ∨ peo k = 0) : q_lv w3 peo k = 0 ∧ q_peo w3 peo k = peo k := by
  unfold q_lv q_peo
  by_cases h1 : 3 ≤ w3 k
  · have h2 : peo k = 0 := h.resolve_left (fun z => z h1)
    rw [if_pos h1, if_pos h1, h2]
    decide
  · rw [if_neg h1, if_neg h1]
    exact ⟨rfl, rfl⟩
theorem lv_min {p : Int32} (h : 0 ≤ p.toInt ∧ p.toInt ≤ 90) (h0 : ¬ p = 0) : i_min (p / 3 + 1) p = p / 3 + 1 := by
  have hp : ¬ p < 0 := fun z => by
    have := lt_i.mp z
    have t0 : (0 : Int32).toInt = 0 := rfl
    omega
  obtain ⟨n, hn, rfl⟩ := nI_of hp
  have e := nI_toInt hn
  have hn0 : n ≠ 0 := fun z => h0 (by rw [z]; rfl)
  have e3 : nI n / 3 = nI (n / 3) := pk_div (d := 3) hn (by decide) (by decide)
  rw [e3, nI_1]
  unfold i_min
  rw [if_neg (nI_nlt (by omega) (by omega))]
theorem lv_yes {w3 peo : Nat → Int32} {k : Nat} (h1 : 3 ≤ w3 k) (h2 : ¬ peo k = 0) (hp : 0 ≤ (peo k).toInt ∧ (peo k).toInt ≤ 90) : q_lv w3 peo k = peo k / 3 + 1 ∧ q_peo w3 peo k = peo k - (peo k / 3 + 1) := by
  unfold q_lv q_peo
  rw [if_pos h1, if_pos h1, lv_min hp h2]
  exact ⟨rfl, rfl⟩
