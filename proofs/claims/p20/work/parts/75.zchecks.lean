/-! what the law checks of an hour, in mathematics -/
theorem ar_4 (a b c d : Int32) : (a + b) + (c + d) = (a + c) + (b + d) := by
  rw [Int32.add_assoc, ← Int32.add_assoc b c d, Int32.add_comm b c, Int32.add_assoc c b d, ← Int32.add_assoc]
theorem ar_3 (x y v : Int32) : x + v = (x + y) + (v - y) := by
  rw [Int32.add_assoc, Int32.add_comm y, Int32.sub_add_cancel]
theorem ar_r (x y z : Int32) : (x + y) + z = (x + z) + y := by
  rw [Int32.add_assoc, Int32.add_comm y, ← Int32.add_assoc]
theorem ar_n (a x : Int32) : (a - x) - a = -x := by
  rw [Int32.sub_eq_add_neg, Int32.sub_eq_add_neg, Int32.add_comm, ← Int32.add_assoc, Int32.add_left_neg, Int32.zero_add]
theorem ar_c (b x : Int32) : (b + x) - b = x := by
  rw [Int32.add_comm b x, Int32.add_sub_cancel]
theorem ar_s (a x : Int32) : a - (a - x) = x := by
  have h1 : (a - (a - x)) + (a - x) = x + (a - x) := by rw [Int32.sub_add_cancel, Int32.add_comm, Int32.sub_add_cancel]
  exact (Int32.add_left_inj _).mp h1
theorem nI_is1 {j : Nat} (hj : j < 1000) (h : nI j = 1) : j = 1 := (nI_eq (b := 1) (by omega) (by decide)).mp h
theorem q_div3 {p : Int32} (h0 : 0 ≤ p.toInt) : (p / 3).toInt = p.toInt / 3 := by
  have hp : ¬ p < 0 := fun z => by
    have := lt_i.mp z
    have t0 : (0 : Int32).toInt = 0 := rfl
    omega
  obtain ⟨n, hn, rfl⟩ := nI_of hp
  have e3 : nI n / 3 = nI (n / 3) := pk_div (d := 3) hn (by decide) (by decide)
  rw [e3, nI_toInt (by omega), nI_toInt hn]
  omega
theorem sum_add (f g : Nat → Int32) : ∀ n : Nat, q_sum (fun c => f c + g c) n = q_sum f n + q_sum g n
  | 0 => rfl
  | n + 1 => by
    show q_sum (fun c => f c + g c) n + (f n + g n) = (q_sum f n + f n) + (q_sum g n + g n)
    rw [sum_add f g n]
    exact ar_4 _ _ _ _
theorem sum_const (r : Int32) : ∀ n : Nat, q_sum (fun _ => r) n = nI n * r
  | 0 => (Int32.zero_mul).symm
  | n + 1 => by
    show q_sum (fun _ => r) n + r = _
    rw [sum_const r n, ← nI_1, Int32.add_mul, Int32.one_mul]
theorem sum_upd {f : Nat → Int32} {k : Nat} {v : Int32} : ∀ n : Nat, k < n → q_sum (upd f k v) n = q_sum f n + (v - f k)
  | 0, h => absurd h (Nat.not_lt_zero k)
  | n + 1, h => by
    show q_sum (upd f k v) n + upd f k v n = (q_sum f n + f n) + (v - f k)
    by_cases e : k = n
    · subst e
      rw [sum_eq k (fun c hc => pk_un (Nat.ne_of_lt hc)), pk_us]
      exact ar_3 _ _ _
    · rw [sum_upd n (by omega), pk_un (fun h9 => e h9.symm)]
      exact ar_r _ _ _
theorem sum_move (g : Nat → Int32) {k j : Nat} (hk : k < 64) (hj : j < 64) (x : Int32) : q_sum (q_move g k j x) 64 = q_sum g 64 := by
  unfold q_move
  rw [sum_upd 64 hj, sum_upd 64 hk, ar_n, ar_c, Int32.add_assoc, Int32.add_left_neg, Int32.add_zero]
theorem gain_sum (hei w1 dam cre : Nat → Int32) : ∀ i : Nat, i ≤ 64 → q_sum (q_gain hei w1 dam cre i) 64 = 0
  | 0, _ => by
    show q_sum (fun _ => 0) 64 = 0
    rw [sum_const, Int32.mul_zero]
  | i + 1, h => by
    have ih := gain_sum hei w1 dam cre i (by omega)
    show q_sum (if dam i < w1 i then q_give hei w1 dam cre i (q_low cre i 4) (q_gain hei w1 dam cre i) else q_gain hei w1 dam cre i) 64 = 0
    by_cases h1 : dam i < w1 i
    · rw [if_pos h1]
      cases hl : q_low cre i 4 with
      | none => exact ih
      | some j =>
        show q_sum (if 0 < hei i + w1 i - cre j then q_move (q_gain hei w1 dam cre i) i j _ else q_gain hei w1 dam cre i) 64 = 0
        by_cases h2 : 0 < hei i + w1 i - cre j
        · rw [if_pos h2, sum_move _ (by omega) (q_low_lt (by omega) hl)]
          exact ih
        · rw [if_neg h2]
          exact ih
    · rw [if_neg h1]
      exact ih
section CK
variable {hei dra rai : Nat → Int32} {σ : Ms}
theorem ck_water : q_sum (m_wat σ) 64 + 64 * rai (m_t σ % 12) = q_sum (m_wat (q_hour hei dra rai σ)) 64 + m_drd (q_hour hei dra rai σ) - m_drd σ := by
  have a1 : q_sum (q_w1 rai (m_t σ) (m_wat σ)) 64 = q_sum (m_wat σ) 64 + nI 64 * rai (m_t σ % 12) := (sum_add (m_wat σ) (fun _ => rai (m_t σ % 12)) 64).trans (by rw [sum_const])
  have a2 : q_sum (q_w2 hei (m_dam σ) (q_w1 rai (m_t σ) (m_wat σ))) 64 = q_sum (q_w1 rai (m_t σ) (m_wat σ)) 64 := (sum_add (q_w1 rai (m_t σ) (m_wat σ)) (q_gain hei (q_w1 rai (m_t σ) (m_wat σ)) (m_dam σ) (q_cre hei (m_dam σ) (q_w1 rai (m_t σ) (m_wat σ))) 64) 64).trans (by rw [gain_sum _ _ _ _ 64 (Nat.le_refl 64), Int32.add_zero])
  have a3 : ∀ W2 : Nat → Int32, q_sum (q_w3 dra W2) 64 + q_sum (q_tak dra W2) 64 = q_sum W2 64 := fun W2 => (sum_add _ _ 64).symm.trans (sum_eq 64 (fun c _ => Int32.sub_add_cancel _ _))
  show q_sum (m_wat σ) 64 + nI 64 * rai (m_t σ % 12) = q_sum (q_w3 dra (q_w2 hei (m_dam σ) (q_w1 rai (m_t σ) (m_wat σ)))) 64 + (m_drd σ + q_sum (q_tak dra (q_w2 hei (m_dam σ) (q_w1 rai (m_t σ) (m_wat σ)))) 64) - m_drd σ
  rw [← a1, ← a2, ← a3, Int32.add_comm (m_drd σ), ← Int32.add_assoc, Int32.add_sub_cancel]
theorem ck_peo : q_sum (m_peo σ) 64 = q_sum (m_peo (q_hour hei dra rai σ)) 64 + (m_lef (q_hour hei dra rai σ) - m_lef σ) := by
  have a1 : ∀ w3 peo : Nat → Int32, q_sum peo 64 = q_sum (q_peo w3 peo) 64 + q_sum (q_lv w3 peo) 64 := fun w3 peo => (sum_eq 64 (fun c _ => by
    unfold q_peo q_lv
    by_cases h : 3 ≤ w3 c
    · rw [if_pos h, if_pos h, Int32.sub_add_cancel]
    · rw [if_neg h, if_neg h, Int32.add_zero])).trans (sum_add _ _ 64)
  show q_sum (m_peo σ) 64 = _ + (m_lef σ + q_sum (q_lv (q_w3 dra (q_w2 hei (m_dam σ) (q_w1 rai (m_t σ) (m_wat σ)))) (m_peo σ)) 64 - m_lef σ)
  rw [ar_c]
  exact a1 _ _
theorem ck_dam : q_sum (q_pos (m_dam σ)) 64 = q_sum (q_pos (m_dam (q_hour hei dra rai σ))) 64 + m_bro (q_hour hei dra rai σ) - m_bro σ := by
  have a1 : ∀ dam w2 wea : Nat → Int32, q_sum (q_pos dam) 64 = q_sum (q_pos (q_dam dam w2 wea)) 64 + q_sum (q_brk dam w2 wea) 64 := fun dam w2 wea => (sum_eq 64 (fun c _ => by
    unfold q_pos q_dam q_brk
    by_cases h : 0 < dam c ∧ dam c ≤ w2 c ∧ 10 ≤ wea c + 1
    · rw [if_pos h, if_pos h, if_pos h.1, if_neg (by decide)]
      rfl
    · rw [if_neg h, if_neg h, Int32.add_zero])).trans (sum_add _ _ 64)
  show q_sum (q_pos (m_dam σ)) 64 = _ + (m_bro σ + q_sum (q_brk (m_dam σ) (q_w2 hei (m_dam σ) (q_w1 rai (m_t σ) (m_wat σ))) (m_wea σ)) 64) - m_bro σ
  rw [Int32.add_comm (m_bro σ), ← Int32.add_assoc, Int32.add_sub_cancel]
  exact a1 _ _ _
theorem hours_1 : q_hours hei dra rai 1 σ = q_hour hei dra rai σ := rfl
theorem hours_sh : ∀ n : Nat, q_hours hei dra rai n (q_hour hei dra rai σ) = q_hours hei dra rai (n + 1) σ
  | 0 => rfl
  | n + 1 => congrArg (q_hour hei dra rai) (hours_sh n)
theorem seek_spec (test : Ms → Prop) [DecidablePred test] : ∀ f n : Nat, (q_seek hei dra rai test σ f n = -1 ∧ ∀ j, n ≤ j → j < n + f → ¬ test (q_hours hei dra rai j σ)) ∨ ∃ j, n ≤ j ∧ j < n + f ∧ q_seek hei dra rai test σ f n = nI j ∧ test (q_hours hei dra rai j σ) ∧ ∀ i, n ≤ i → i < j → ¬ test (q_hours hei dra rai i σ)
  | 0, n => Or.inl ⟨rfl, fun j h1 h2 => by omega⟩
  | f + 1, n => by
    by_cases h : test (q_hours hei dra rai n σ)
    · exact Or.inr ⟨n, Nat.le_refl n, by omega, q_seek_yes h, h, fun i h1 h2 => by omega⟩
    · rcases seek_spec test f (n + 1) with ⟨h1, h2⟩ | ⟨j, h1, h2, h3, h4, h5⟩
      · refine Or.inl ⟨(q_seek_no h).trans h1, fun j a b => ?_⟩
        by_cases e : j = n
        · rw [e]; exact h
        · exact h2 j (by omega) (by omega)
      · refine Or.inr ⟨j, by omega, by omega, (q_seek_no h).trans h3, h4, fun i a b => ?_⟩
        by_cases e : i = n
        · rw [e]; exact h
        · exact h5 i (by omega) b
theorem nI_lt1 {j : Nat} (hj : j < 1000) (h : (1 : Int32) < nI j) : 1 < j := (nI_ltI (a := 1) (by decide) (by omega)).mp h
theorem m1_lt : ¬ (1 : Int32) < -1 := by decide
theorem nI_sub1 {j : Nat} (h : 1 ≤ j) : nI j - 1 = nI (j - 1) := pk_sub (b := 1) h
/-- floods, an hour later -/
theorem ck_fl {k : Nat} (h : 1 < q_floods hei dra rai σ k) : ¬ q_floods hei dra rai σ k - 1 < q_floods hei dra rai (q_hour hei dra rai σ) k := by
  unfold q_floods at h ⊢
  rcases seek_spec (hei := hei) (dra := dra) (rai := rai) (σ := σ) (q_wet3 k) 49 0 with ⟨h1, h2⟩ | ⟨j, h1, h2, h3, h4, h5⟩
  · rw [h1] at h; exact absurd h m1_lt
  · rw [h3] at h ⊢
    have hj := nI_lt1 (by omega) h
    have h6 : q_wet3 k (q_hours hei dra rai (j - 1) (q_hour hei dra rai σ)) := by rw [hours_sh, show j - 1 + 1 = j by omega]; exact h4
    rcases seek_spec (hei := hei) (dra := dra) (rai := rai) (σ := q_hour hei dra rai σ) (q_wet3 k) 49 0 with ⟨g1, g2⟩ | ⟨i, g1, g2, g3, g4, g5⟩
    · exact absurd h6 (g2 (j - 1) (by omega) (by omega))
    · rw [g3, nI_sub1 (by omega), nI_ltI (by omega) (by omega)]
      intro hlt
      exact g5 (j - 1) (by omega) hlt h6
theorem ck_fl1 {k : Nat} (h : q_floods hei dra rai σ k = 1) : 3 ≤ m_wat (q_hour hei dra rai σ) k := by
  unfold q_floods at h
  rcases seek_spec (hei := hei) (dra := dra) (rai := rai) (σ := σ) (q_wet3 k) 49 0 with ⟨h1, h2⟩ | ⟨j, h1, h2, h3, h4, h5⟩
  · rw [h1] at h; exact absurd h (by decide)
  · rw [h3] at h
    have hj : j = 1 := nI_is1 (by omega) h
    subst hj
    exact h4
theorem ck_br {k : Nat} (h : 1 < q_breaks hei dra rai σ k) : q_breaks hei dra rai (q_hour hei dra rai σ) k = q_breaks hei dra rai σ k - 1 := by
  unfold q_breaks at h ⊢
  by_cases h0 : m_dam σ k = 0
  · rw [if_pos h0] at h; exact absurd h m1_lt
  · rw [if_neg h0] at h ⊢
    rcases seek_spec (hei := hei) (dra := dra) (rai := rai) (σ := σ) (q_noDam k) 48 1 with ⟨h1, h2⟩ | ⟨j, h1, h2, h3, h4, h5⟩
    · rw [h1] at h; exact absurd h m1_lt
    · rw [h3] at h ⊢
      have hj := nI_lt1 (by omega) h
      have hn : ¬ m_dam (q_hour hei dra rai σ) k = 0 := h5 1 (by omega) hj
      rw [if_neg hn]
      have h6 : q_noDam k (q_hours hei dra rai (j - 1) (q_hour hei dra rai σ)) := by rw [hours_sh, show j - 1 + 1 = j by omega]; exact h4
      rcases seek_spec (hei := hei) (dra := dra) (rai := rai) (σ := q_hour hei dra rai σ) (q_noDam k) 48 1 with ⟨g1, g2⟩ | ⟨i, g1, g2, g3, g4, g5⟩
      · exact absurd h6 (g2 (j - 1) (by omega) (by omega))
      · rw [g3, nI_sub1 (by omega)]
        have e1 : ¬ j - 1 < i := fun hlt => g5 (j - 1) (by omega) hlt h6
        rw [hours_sh] at g4
        have e2 : ¬ i + 1 < j := fun hlt => h5 (i + 1) (by omega) hlt g4
        have e3 : i = j - 1 := by omega
        rw [e3]
theorem ck_br1 {k : Nat} (h : q_breaks hei dra rai σ k = 1) : m_dam (q_hour hei dra rai σ) k = 0 := by
  unfold q_breaks at h
  by_cases h0 : m_dam σ k = 0
  · rw [if_pos h0] at h; exact absurd h (by decide)
  · rw [if_neg h0] at h
    rcases seek_spec (hei := hei) (dra := dra) (rai := rai) (σ := σ) (q_noDam k) 48 1 with ⟨h1, h2⟩ | ⟨j, h1, h2, h3, h4, h5⟩
    · rw [h1] at h; exact absurd h (by decide)
    · rw [h3] at h
      have hj : j = 1 := nI_is1 (by omega) h
      subst hj
      exact h4
theorem ck_br0 {k : Nat} : ¬ q_breaks hei dra rai σ k = 0 := by
  unfold q_breaks
  by_cases h0 : m_dam σ k = 0
  · rw [if_pos h0]; decide
  · rw [if_neg h0]
    rcases seek_spec (hei := hei) (dra := dra) (rai := rai) (σ := σ) (q_noDam k) 48 1 with ⟨h1, h2⟩ | ⟨j, h1, h2, h3, h4, h5⟩
    · rw [h1]; decide
    · rw [h3]
      exact nI_ne0 (by omega) (by omega)
theorem i_max_c (a b : Int32) : i_max a b = i_max b a := by
  have ea := i_max_i a b
  have eb := i_max_i b a
  exact Int32.toInt.inj (by rw [ea, eb]; omega)
/-- a cell's dam and wear, an hour later -/
theorem ck_brk {B : Int} {c : Nat} (hc : c < 64) (hI : pv B hei dra rai σ) (h : ¬ m_dam (q_hour hei dra rai σ) c = m_dam σ c) : m_dam (q_hour hei dra rai σ) c = 0 ∧ m_wea σ c = 9 ∧ m_wea (q_hour hei dra rai σ) c = 0 := by
  have hw := hI.1.2.2.2.2.1 c hc
  have key : ∀ w2 : Nat → Int32, ¬ q_dam (m_dam σ) w2 (m_wea σ) c = m_dam σ c → q_dam (m_dam σ) w2 (m_wea σ) c = 0 ∧ m_wea σ c = 9 ∧ q_wea (m_dam σ) w2 (m_wea σ) c = 0 := by
    intro w2
    unfold q_dam q_wea
    by_cases h1 : 0 < m_dam σ c ∧ m_dam σ c ≤ w2 c ∧ 10 ≤ m_wea σ c + 1
    · rw [if_pos h1, if_pos ⟨h1.1, h1.2.1⟩, if_pos h1.2.2]
      intro _
      refine ⟨rfl, ?_, rfl⟩
      have e1 := le_i.mp h1.2.2
      have t1 : (1 : Int32).toInt = 1 := rfl
      have t10 : (10 : Int32).toInt = 10 := rfl
      have t9 : (9 : Int32).toInt = 9 := rfl
      rw [add_ex (by omega) (by omega)] at e1
      exact Int32.toInt.inj (by omega)
    · rw [if_neg h1]
      exact fun h => absurd rfl h
  exact key _ h
theorem ck_wea {B : Int} {c : Nat} (hc : c < 64) (hI : pv B hei dra rai σ) (h : m_dam (q_hour hei dra rai σ) c = m_dam σ c) : ¬ m_wea (q_hour hei dra rai σ) c < m_wea σ c ∧ (0 < m_dam (q_hour hei dra rai σ) c → ¬ m_wea σ c + 1 < m_wea (q_hour hei dra rai σ) c) ∧ (¬ 0 < m_dam (q_hour hei dra rai σ) c → ¬ m_wea σ c + 0 < m_wea (q_hour hei dra rai σ) c) ∧ m_wea (q_hour hei dra rai σ) c ≤ 9 := by
  have hw := hI.1.2.2.2.2.1 c hc
  have key : ∀ w2 : Nat → Int32, q_dam (m_dam σ) w2 (m_wea σ) c = m_dam σ c → ¬ q_wea (m_dam σ) w2 (m_wea σ) c < m_wea σ c ∧ (0 < q_dam (m_dam σ) w2 (m_wea σ) c → ¬ m_wea σ c + 1 < q_wea (m_dam σ) w2 (m_wea σ) c) ∧ (¬ 0 < q_dam (m_dam σ) w2 (m_wea σ) c → ¬ m_wea σ c + 0 < q_wea (m_dam σ) w2 (m_wea σ) c) ∧ q_wea (m_dam σ) w2 (m_wea σ) c ≤ 9 := by
    intro w2 e
    rw [e]
    have t1 : (1 : Int32).toInt = 1 := rfl
    have t9 : (9 : Int32).toInt = 9 := rfl
    have t10 : (10 : Int32).toInt = 10 := rfl
    have e1 : (m_wea σ c + 1).toInt = (m_wea σ c).toInt + 1 := by rw [add_ex (by omega) (by omega), t1]
    by_cases h1 : 0 < m_dam σ c ∧ m_dam σ c ≤ w2 c
    · have h2 : ¬ 10 ≤ m_wea σ c + 1 := by
        intro h2
        unfold q_dam at e
        rw [if_pos ⟨h1.1, h1.2, h2⟩] at e
        rw [← e] at h1
        exact absurd h1.1 (by decide)
      have e2 : q_wea (m_dam σ) w2 (m_wea σ) c = m_wea σ c + 1 := by unfold q_wea; rw [if_pos h1, if_neg h2]
      rw [le_i, e1, t10] at h2
      rw [e2]
      exact ⟨fun z => by have z := lt_i.mp z; omega, fun _ z => by have z := lt_i.mp z; omega, fun h9 => absurd h1.1 h9, le_i.mpr (by omega)⟩
    · have e2 : q_wea (m_dam σ) w2 (m_wea σ) c = m_wea σ c := by unfold q_wea; rw [if_neg h1]
      rw [e2]
      exact ⟨fun z => by have z := lt_i.mp z; omega, fun _ z => by have z := lt_i.mp z; omega, fun _ z => by rw [Int32.add_zero] at z; have z := lt_i.mp z; omega, le_i.mpr (by omega)⟩
  exact key _ h
theorem ck_go0 {c : Nat} (h : ¬ 3 ≤ m_wat (q_hour hei dra rai σ) c ∨ m_peo σ c = 0) : m_peo σ c - m_peo (q_hour hei dra rai σ) c = 0 := by
  have e : m_peo (q_hour hei dra rai σ) c = m_peo σ c := (lv_no h).2
  rw [e, Int32.sub_self]
theorem ck_go1 {B : Int} {c : Nat} (hc : c < 64) (hI : pv B hei dra rai σ) (h1 : 3 ≤ m_wat (q_hour hei dra rai σ) c) (h2 : ¬ m_peo σ c = 0) : m_peo σ c - m_peo (q_hour hei dra rai σ) c = m_peo σ c / 3 + 1 := by
  have e : m_peo (q_hour hei dra rai σ) c = m_peo σ c - (m_peo σ c / 3 + 1) := (lv_yes h1 h2 (hI.2 c hc)).2
  rw [e, ar_s]
theorem pv_hour {B : Int} (hB : B < 400000000) (h : pv B hei dra rai σ) : pv (B + 576) hei dra rai (q_hour hei dra rai σ) := by
  refine ⟨inv_hour hB h.1, fun c hc => ?_⟩
  have hp := h.2 c hc
  have key : ∀ w3 : Nat → Int32, 0 ≤ (q_peo w3 (m_peo σ) c).toInt ∧ (q_peo w3 (m_peo σ) c).toInt ≤ 90 := by
    intro w3
    by_cases h1 : 3 ≤ w3 c
    · by_cases h2 : m_peo σ c = 0
      · rw [(lv_no (Or.inr h2)).2]
        exact hp
      · rw [(lv_yes h1 h2 hp).2]
        have h3 : ¬ (m_peo σ c).toInt = 0 := fun z => h2 (Int32.toInt.inj (z.trans (show (0 : Int) = (0 : Int32).toInt from rfl)))
        have e3 : (m_peo σ c / 3).toInt = (m_peo σ c).toInt / 3 := q_div3 hp.1
        have t1 : (1 : Int32).toInt = 1 := rfl
        have e4 : (m_peo σ c / 3 + 1).toInt = (m_peo σ c).toInt / 3 + 1 := by rw [add_ex (by omega) (by omega), e3, t1]
        rw [sub_ex (by omega) (by omega), e4]
        omega
    · rw [(lv_no (Or.inl h1)).2]
      exact hp
  exact key _
end CK
