/-! the model's cells by the value that moves; what must hold of it for the model to answer as the class does -/
abbrev mM (h : Nat) (ad : Nat → Nat) (cI : ClassId) (thr : Int32) (hei dra rai : Nat → Int32) (σ : Ms) (flo lak row : Nat → Int32) : va_W := mW h ad cI thr hei (m_wat σ) (m_dam σ) (m_wea σ) dra (m_peo σ) rai (q_num (nI (m_t σ)) (m_bro σ) (m_drd σ) (m_lef σ)) flo lak row
def inv1 (σ : Ms) : Prop := ∀ c, c < 64 → 0 ≤ m_dam σ c ∧ m_wea σ c ≤ 9
theorem i_min_comm (x y : Int32) : i_min x y = i_min y x := by
  unfold i_min
  by_cases h1 : y < x
  · have h2 : ¬ x < y := fun h => Int32.lt_irrefl (Int32.lt_trans h1 h)
    rw [if_pos h1, if_neg h2]
  · by_cases h2 : x < y
    · rw [if_neg h1, if_pos h2]
    · rw [if_neg h1, if_neg h2]
      exact Int32.le_antisymm (Int32.not_lt.mp h1) (Int32.not_lt.mp h2)
/-- water above a dam, less the dam, is above 0 -/
theorem sub_pos {a b : Int32} (h0 : 0 ≤ b) (h : b < a) : 0 < a - b := by
  obtain ⟨j, hj, rfl⟩ := nI_of (Int32.not_lt.mpr h0)
  obtain ⟨k, hk, rfl⟩ := nI_of (x := a) (fun z => absurd (Int32.lt_trans h z) (nI_pos hj))
  have hlt := (nI_ltI hj hk).mp h
  rw [pk_sub (by omega)]
  exact (nI_ltI (a := 0) (by decide) (by omega)).mpr (by omega)
theorem given0 {w d y : Int32} (h0 : 0 ≤ d) (h : d < w) (hy : ¬ 0 < y) : i_min (w - d) (i_max 0 y / 2) = 0 := by
  have e1 : i_max 0 y = 0 := by unfold i_max; rw [if_neg hy]
  have e2 : (0 : Int32) / 2 = 0 := by decide
  rw [e1, e2]
  unfold i_min
  rw [if_pos (sub_pos h0 h)]
theorem given1 {w d y : Int32} (hy : 0 < y) : i_min (w - d) (i_max 0 y / 2) = i_min (y / 2) (w - d) := by
  have e1 : i_max 0 y = y := by unfold i_max; rw [if_pos hy]
  rw [e1, i_min_comm]
theorem move0 (f : Nat → Int32) (k j : Nat) : q_move f k j 0 = f := by
  have e1 : upd f k (f k - 0) = f := by rw [Int32.sub_zero]; exact q_upd_same f k
  unfold q_move
  rw [e1, Int32.add_zero]
  exact q_upd_same f j
theorem lowStep_some (cre : Nat → Int32) (o : Option Nat) (b : Nat) : ∃ j, q_lowStep cre o (some b) = some j := by
  cases o with
  | none => exact ⟨b, rfl⟩
  | some a =>
    simp only [q_lowStep]
    split
    · exact ⟨a, rfl⟩
    · exact ⟨b, rfl⟩
theorem low2 (cre : Nat → Int32) (k : Nat) : ∃ j, q_low cre k 2 = some j := by
  by_cases h : 0 < k % 8
  · have e0 : q_nb k 0 = some (k - 1) := by simp only [q_nb]; rw [if_pos h]
    have e1 : q_low cre k 1 = some (k - 1) := by simp only [q_low, e0, q_lowStep]
    show ∃ j, q_lowStep cre (q_nb k 1) (q_low cre k 1) = some j
    rw [e1]
    exact lowStep_some _ _ _
  · have e0 : q_nb k 0 = none := by simp only [q_nb]; rw [if_neg h]
    have h7 : k % 8 < 7 := by omega
    have e1 : q_nb k 1 = some (k + 1) := by simp only [q_nb]; rw [if_pos h7]
    refine ⟨k + 1, ?_⟩
    simp only [q_low, e0, e1, q_lowStep]
theorem low4 (cre : Nat → Int32) (k : Nat) : ∃ j, q_low cre k 4 = some j := by
  obtain ⟨a, h2⟩ := low2 cre k
  obtain ⟨b, h3⟩ := lowStep_some cre (q_nb k 2) a
  have e3 : q_low cre k 3 = some b := by
    show q_lowStep cre (q_nb k 2) (q_low cre k 2) = some b
    rw [h2]; exact h3
  show ∃ j, q_lowStep cre (q_nb k 3) (q_low cre k 3) = some j
  rw [e3]
  exact lowStep_some _ _ _
theorem ne_m1 {j : Nat} (h : j < 64) : ¬ nI j = -1 := fun e => absurd (show nI j < 0 by rw [e]; decide) (nI_pos (by omega))
/-- a wear of 9 at most, and one more: it is 10 just if it is 10 and more -/
theorem wear10 {x : Int32} (h : x ≤ 9) : x + 1 = 10 ↔ 10 ≤ x + 1 := by
  have h1 : x.toInt ≤ 9 := Int32.le_iff_toInt_le.mp h
  have hlo : -2147483648 ≤ x.toInt := Int32.le_toInt x
  have e : (x + 1).toInt = x.toInt + 1 := by
    rw [Int32.toInt_add]
    have : (1 : Int32).toInt = 1 := rfl
    rw [this]
    rw [Int.bmod_eq_of_le] <;> omega
  constructor
  · intro h2
    rw [h2]
    exact Int32.le_refl _
  · intro h2
    have h3 : (10 : Int) ≤ (x + 1).toInt := Int32.le_iff_toInt_le.mp h2
    have h4 : (x + 1).toInt = 10 := by omega
    exact Int32.toInt_inj.mp h4
theorem inv1_hour {hei dra rai : Nat → Int32} {σ : Ms} (h : inv1 σ) : inv1 (q_hour hei dra rai σ) := by
  intro c hc
  obtain ⟨h1, h2⟩ := h c hc
  refine ⟨?_, ?_⟩
  · show 0 ≤ q_dam (m_dam σ) _ (m_wea σ) c
    unfold q_dam
    split
    · exact Int32.le_refl _
    · exact h1
  · show q_wea (m_dam σ) _ (m_wea σ) c ≤ 9
    unfold q_wea
    split
    · split
      · decide
      · rename_i h3
        have h4 := Int32.not_le.mp h3
        have h5 : (m_wea σ c + 1).toInt < 10 := Int32.lt_iff_toInt_lt.mp h4
        exact Int32.le_iff_toInt_le.mpr (by show _ ≤ (9 : Int); omega)
    · exact h2
theorem inv1_hours {hei dra rai : Nat → Int32} {σ : Ms} (h : inv1 σ) : ∀ n, inv1 (q_hours hei dra rai n σ)
  | 0 => h
  | n + 1 => inv1_hour (inv1_hours h n)
theorem inv1_with {σ : Ms} (h : inv1 σ) (k : Nat) {d : Int32} (hd : 0 ≤ d) : inv1 (q_with σ k d) := by
  intro c hc
  obtain ⟨h1, h2⟩ := h c hc
  show 0 ≤ upd (m_dam σ) k d c ∧ upd (m_wea σ) k 0 c ≤ 9
  unfold upd
  by_cases e : c = k
  · rw [if_pos e, if_pos e]; exact ⟨hd, by decide⟩
  · rw [if_neg e, if_neg e]; exact ⟨h1, h2⟩
