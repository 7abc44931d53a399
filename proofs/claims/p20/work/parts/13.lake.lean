/-! lakes: what is marked, as a row of 0 and 1, and what is found, as a row's first numbers -/
def q_bits (sn : Nat → Bool) : Nat → Int32 := fun j => if sn j = true then 1 else 0
def q_row (fd : List Nat) (f : Nat → Int32) : Prop := ∀ i, i < fd.length → f i = nI (fd.getD i 0)
def q_cnt (sn : Nat → Bool) : Nat → Nat
  | 0 => 0
  | n + 1 => q_cnt sn n + (if sn n = true then 1 else 0)
theorem q_cnt_le (sn : Nat → Bool) : ∀ n, q_cnt sn n ≤ n
  | 0 => Nat.le_refl _
  | n + 1 => by
    have h := q_cnt_le sn n
    simp only [q_cnt]
    split <;> omega
theorem q_cnt_mark {sn : Nat → Bool} {j : Nat} (h : sn j = false) : ∀ n, q_cnt (q_mark sn j) n = q_cnt sn n + (if j < n then 1 else 0)
  | 0 => by simp [q_cnt]
  | n + 1 => by
    have ih := q_cnt_mark h n
    simp only [q_cnt, ih]
    by_cases hj : n = j
    · subst hj
      have h1 : q_mark sn n n = true := by simp [q_mark]
      have h2 : ¬ n < n := Nat.lt_irrefl n
      have h3 : n < n + 1 := Nat.lt_succ_self n
      simp [h1, h2, h3, h]
    · have h1 : q_mark sn j n = sn n := by simp [q_mark, hj]
      rw [h1]
      by_cases hl : j < n
      · have h3 : j < n + 1 := by omega
        rw [if_pos hl, if_pos h3]; omega
      · have h3 : ¬ j < n + 1 := by omega
        rw [if_neg hl, if_neg h3]; omega
theorem q_cnt_full {sn : Nat → Bool} : ∀ n, q_cnt sn n = n → ∀ j, j < n → sn j = true
  | 0, _, j, hj => absurd hj (Nat.not_lt_zero j)
  | n + 1, h, j, hj => by
    simp only [q_cnt] at h
    have h1 := q_cnt_le sn n
    by_cases hs : sn n = true
    · rw [if_pos hs] at h
      by_cases hjn : j = n
      · rw [hjn]; exact hs
      · exact q_cnt_full n (by omega) j (by omega)
    · rw [if_neg hs] at h
      omega
def q_ok (z : Ls) : Prop := (∀ x ∈ z.2, x < 64) ∧ z.2.length ≤ q_cnt z.1 64
theorem q_ok_0 (sn : Nat → Bool) : q_ok (sn, []) := ⟨fun x h => absurd h List.not_mem_nil, Nat.zero_le _⟩
theorem q_ok_len {z : Ls} (h : q_ok z) : z.2.length ≤ 64 := Nat.le_trans h.2 (q_cnt_le _ _)
theorem q_ok_full {z : Ls} (h : q_ok z) (hl : 64 ≤ z.2.length) {j : Nat} (hj : j < 64) : z.1 j = true := by
  have h1 := q_cnt_le z.1 64
  have h2 := h.2
  exact q_cnt_full 64 (by omega) j hj
theorem q_meet_yes {wat : Nat → Int32} {j : Nat} {z : Ls} (h : z.1 j = false ∧ 0 < wat j) : q_meet wat (some j) z = (q_mark z.1 j, z.2 ++ [j]) := by
  simp only [q_meet]; rw [if_pos h]
theorem q_meet_no {wat : Nat → Int32} {j : Nat} {z : Ls} (h : ¬ (z.1 j = false ∧ 0 < wat j)) : q_meet wat (some j) z = z := by
  simp only [q_meet]; rw [if_neg h]
theorem q_ok_meet {wat : Nat → Int32} {o : Option Nat} (ho : ∀ j, o = some j → j < 64) {z : Ls} (h : q_ok z) : q_ok (q_meet wat o z) := by
  cases o with
  | none => exact h
  | some j =>
    by_cases hc : z.1 j = false ∧ 0 < wat j
    · rw [q_meet_yes hc]
      have hj := ho j rfl
      refine ⟨fun x hx => ?_, ?_⟩
      · rcases List.mem_append.mp hx with h1 | h1
        · exact h.1 x h1
        · rw [List.mem_singleton.mp h1]; exact hj
      · show (z.2 ++ [j]).length ≤ q_cnt (q_mark z.1 j) 64
        rw [q_cnt_mark hc.1, if_pos hj, List.length_append]
        have := h.2
        simp only [List.length_cons, List.length_nil]
        omega
    · rw [q_meet_no hc]; exact h
/-- what was found stays at its place -/
theorem q_meet_get {wat : Nat → Int32} {o : Option Nat} {z : Ls} {i : Nat} (hi : i < z.2.length) : i < (q_meet wat o z).2.length ∧ (q_meet wat o z).2.getD i 0 = z.2.getD i 0 := by
  cases o with
  | none => exact ⟨hi, rfl⟩
  | some j =>
    by_cases hc : z.1 j = false ∧ 0 < wat j
    · rw [q_meet_yes hc]
      refine ⟨by show i < (z.2 ++ [j]).length; rw [List.length_append]; omega, ?_⟩
      show (z.2 ++ [j]).getD i 0 = _
      simp only [List.getD_eq_getElem?_getD]
      rw [List.getElem?_append_left hi]
    · rw [q_meet_no hc]; exact ⟨hi, rfl⟩
theorem q_sides_get {wat : Nat → Int32} {k : Nat} {z : Ls} {i : Nat} (hi : i < z.2.length) : ∀ s, i < (q_sides wat k s z).2.length ∧ (q_sides wat k s z).2.getD i 0 = z.2.getD i 0
  | 0 => ⟨hi, rfl⟩
  | s + 1 => by
    obtain ⟨h1, h2⟩ := q_sides_get (wat := wat) (k := k) hi s
    obtain ⟨h3, h4⟩ := q_meet_get (wat := wat) (o := q_nb k s) h1
    exact ⟨h3, h4.trans h2⟩
theorem q_ok_sides {wat : Nat → Int32} {k : Nat} (hk : k < 64) {z : Ls} (h : q_ok z) : ∀ s, q_ok (q_sides wat k s z)
  | 0 => h
  | s + 1 => q_ok_meet (fun j hj => q_nb_lt hk hj) (q_ok_sides hk h s)
theorem q_ok_at {z : Ls} (h : q_ok z) {i : Nat} (hi : i < z.2.length) : z.2.getD i 0 < 64 := by
  rw [List.getD_eq_getElem?_getD, List.getElem?_eq_getElem hi]
  exact h.1 _ (List.getElem_mem hi)
theorem q_bits_mark (sn : Nat → Bool) (j : Nat) : upd (q_bits sn) j 1 = q_bits (q_mark sn j) := by
  funext i
  unfold upd q_bits q_mark
  by_cases h : i = j
  · simp [h]
  · simp [h]
theorem q_bits_1 {sn : Nat → Bool} {j : Nat} (h : ¬ q_bits sn j = 0) : sn j = true := by
  unfold q_bits at h
  by_cases hs : sn j = true
  · exact hs
  · rw [if_neg hs] at h; exact absurd rfl h
theorem q_bits_0 {sn : Nat → Bool} {j : Nat} (h : q_bits sn j = 0) : sn j = false := by
  unfold q_bits at h
  by_cases hs : sn j = true
  · rw [if_pos hs] at h; exact absurd h (by decide)
  · simpa using hs
theorem q_row_push {fd : List Nat} {f : Nat → Int32} (h : q_row fd f) (j : Nat) : q_row (fd ++ [j]) (upd f fd.length (nI j)) := by
  intro i hi
  rw [List.length_append] at hi
  simp only [List.length_cons, List.length_nil] at hi
  unfold upd
  by_cases he : i = fd.length
  · subst he
    simp only [if_true, List.getD_eq_getElem?_getD]
    rw [List.getElem?_append_right (Nat.le_refl _)]
    simp
  · rw [if_neg he]
    have hl : i < fd.length := by omega
    rw [h i hl]
    simp only [List.getD_eq_getElem?_getD]
    rw [List.getElem?_append_left hl]
theorem q_row_0 (f : Nat → Int32) : q_row [] f := fun i hi => absurd hi (Nat.not_lt_zero i)
theorem q_spread_stop {wat : Nat → Int32} {n i : Nat} {z : Ls} (hi : i + (n + 1) = 64) (h : z.2.length ≤ i) : q_spread wat (n + 1) z = z := by
  have e : 64 - (n + 1) = i := by omega
  simp only [q_spread]
  rw [e, if_neg (by omega)]
theorem q_spread_go {wat : Nat → Int32} {n i : Nat} {z : Ls} (hi : i + (n + 1) = 64) (h : i < z.2.length) : q_spread wat (n + 1) z = q_spread wat n (q_sides wat (z.2.getD i 0) 4 z) := by
  have e : 64 - (n + 1) = i := by omega
  have e2 : q_spread wat (n + 1) z = if 64 - (n + 1) < z.2.length then q_spread wat n (q_sides wat (z.2.getD (64 - (n + 1)) 0) 4 z) else z := rfl
  rw [e2, e, if_pos h]
theorem q_ok_spread {wat : Nat → Int32} : ∀ (n : Nat) {z : Ls}, q_ok z → q_ok (q_spread wat n z)
  | 0, _, h => h
  | n + 1, z, h => by
    have e2 : q_spread wat (n + 1) z = if 64 - (n + 1) < z.2.length then q_spread wat n (q_sides wat (z.2.getD (64 - (n + 1)) 0) 4 z) else z := rfl
    rw [e2]
    by_cases hc : 64 - (n + 1) < z.2.length
    · rw [if_pos hc]; exact q_ok_spread n (q_ok_sides (q_ok_at h hc) h 4)
    · rw [if_neg hc]; exact h
theorem q_ok_from (wat : Nat → Int32) (sn : Nat → Bool) {k : Nat} (hk : k < 64) : q_ok (q_from wat sn k) := q_ok_spread 64 (q_ok_meet (fun j hj => by cases hj; exact hk) (q_ok_0 sn))
theorem q_from_len (wat : Nat → Int32) (sn : Nat → Bool) {k : Nat} (hk : k < 64) : (q_from wat sn k).2.length ≤ 64 := q_ok_len (q_ok_from wat sn hk)
theorem q_lakesS_le (wat : Nat → Int32) : ∀ i, (q_lakesS wat i).2 ≤ i
  | 0 => Nat.le_refl _
  | i + 1 => by
    have h := q_lakesS_le wat i
    simp only [q_lakesS]
    split <;> omega
