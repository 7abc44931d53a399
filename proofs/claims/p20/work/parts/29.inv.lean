/-! what holds of a plain at all times: no number goes out of its bounds -/
def zs (f : Nat → Int32) : Nat → Int
  | 0 => 0
  | n + 1 => zs f n + (f n).toInt
theorem add_ex {a b : Int32} (h1 : -2147483648 ≤ a.toInt + b.toInt) (h2 : a.toInt + b.toInt < 2147483648) : (a + b).toInt = a.toInt + b.toInt := by
  rw [Int32.toInt_add]
  rw [Int.bmod_eq_of_le] <;> omega
theorem sub_ex {a b : Int32} (h1 : -2147483648 ≤ a.toInt - b.toInt) (h2 : a.toInt - b.toInt < 2147483648) : (a - b).toInt = a.toInt - b.toInt := by
  rw [Int32.toInt_sub]
  rw [Int.bmod_eq_of_le] <;> omega
theorem le_i {a b : Int32} : a ≤ b ↔ a.toInt ≤ b.toInt := Int32.le_iff_toInt_le
theorem lt_i {a b : Int32} : a < b ↔ a.toInt < b.toInt := Int32.lt_iff_toInt_lt
theorem ge0 {a : Int32} : 0 ≤ a ↔ 0 ≤ a.toInt := le_i
theorem half_i {y : Int32} (h : 0 < y) : 0 ≤ (y / 2).toInt := by
  obtain ⟨n, hn, rfl⟩ := nI_of (x := y) (fun z => Int32.lt_irrefl (Int32.lt_trans h z))
  have e : nI n / 2 = nI (n / 2) := pk_div (d := 2) hn (by decide) (by decide)
  rw [e, nI_toInt (by omega)]
  omega
theorem zs_upd (f : Nat → Int32) (k : Nat) (x : Int32) : ∀ n, zs (upd f k x) n = zs f n + (if k < n then x.toInt - (f k).toInt else 0)
  | 0 => by simp [zs]
  | n + 1 => by
    have ih := zs_upd f k x n
    simp only [zs, ih]
    by_cases e : n = k
    · subst e
      have h1 : upd f n x n = x := pk_us
      have h2 : ¬ n < n := Nat.lt_irrefl n
      have h3 : n < n + 1 := Nat.lt_succ_self n
      rw [h1, if_neg h2, if_pos h3]
      omega
    · have h1 : upd f k x n = f n := pk_un e
      rw [h1]
      by_cases hl : k < n
      · have h3 : k < n + 1 := by omega
        rw [if_pos hl, if_pos h3]; omega
      · have h3 : ¬ k < n + 1 := by omega
        rw [if_neg hl, if_neg h3]; omega
theorem zs_add {f g h : Nat → Int32} : ∀ n, (∀ c, c < n → (f c).toInt = (g c).toInt + (h c).toInt) → zs f n = zs g n + zs h n
  | 0, _ => rfl
  | n + 1, hc => by
    have ih := zs_add (f := f) (g := g) (h := h) n (fun c hl => hc c (by omega))
    have h1 := hc n (by omega)
    simp only [zs]
    omega
theorem zs_le {f g : Nat → Int32} : ∀ n, (∀ c, c < n → (f c).toInt ≤ (g c).toInt) → zs f n ≤ zs g n
  | 0, _ => Int.le_refl _
  | n + 1, hc => by
    have ih := zs_le (f := f) (g := g) n (fun c hl => hc c (by omega))
    have h1 := hc n (by omega)
    simp only [zs]
    omega
theorem zs_up {f g : Nat → Int32} {d : Int} : ∀ n : Nat, (∀ c, c < n → (f c).toInt ≤ (g c).toInt + d) → zs f n ≤ zs g n + (n : Int) * d
  | 0, _ => by simp [zs]
  | n + 1, hc => by
    have ih := zs_up (f := f) (g := g) (d := d) n (fun c hl => hc c (by omega))
    have h1 := hc n (by omega)
    have e : ((n + 1 : Nat) : Int) * d = (n : Int) * d + d := by rw [Int.natCast_succ, Int.add_mul, Int.one_mul]
    simp only [zs]
    omega
theorem zs_nn {f : Nat → Int32} : ∀ n, (∀ c, c < n → 0 ≤ (f c).toInt) → 0 ≤ zs f n
  | 0, _ => Int.le_refl _
  | n + 1, hc => by
    have ih := zs_nn (f := f) n (fun c hl => hc c (by omega))
    have h1 := hc n (by omega)
    simp only [zs]
    omega
theorem zs_mono {f : Nat → Int32} : ∀ {m n : Nat}, m ≤ n → (∀ c, c < n → 0 ≤ (f c).toInt) → zs f m ≤ zs f n
  | m, 0, h, _ => by
    have : m = 0 := by omega
    subst this
    exact Int.le_refl _
  | m, n + 1, h, hc => by
    by_cases e : m = n + 1
    · subst e; exact Int.le_refl _
    · have ih := zs_mono (f := f) (m := m) (n := n) (by omega) (fun c hl => hc c (by omega))
      have h1 := hc n (by omega)
      simp only [zs]
      omega
theorem zs_one {f : Nat → Int32} : ∀ n, (∀ c, c < n → 0 ≤ (f c).toInt) → ∀ c, c < n → (f c).toInt ≤ zs f n
  | 0, _, c, h => absurd h (Nat.not_lt_zero c)
  | n + 1, hc, c, h => by
    have h0 := zs_nn (f := f) n (fun c hl => hc c (by omega))
    have h1 := hc n (by omega)
    simp only [zs]
    by_cases e : c = n
    · subst e; omega
    · have ih := zs_one (f := f) n (fun c hl => hc c (by omega)) c (by omega)
      omega
theorem i_min_i (x y : Int32) : (i_min x y).toInt = min x.toInt y.toInt := by
  unfold i_min
  by_cases h : y < x
  · rw [if_pos h]
    have := lt_i.mp h
    omega
  · rw [if_neg h]
    have := le_i.mp (Int32.not_lt.mp h)
    omega
theorem i_max_i (x y : Int32) : (i_max x y).toInt = max x.toInt y.toInt := by
  unfold i_max
  by_cases h : x < y
  · rw [if_pos h]
    have := lt_i.mp h
    omega
  · rw [if_neg h]
    have := le_i.mp (Int32.not_lt.mp h)
    omega
/-- water runs: each gives no more than it has, and none is lost -/
def gOk (w1 : Nat → Int32) (i : Nat) (G : Nat → Int32) : Prop := (∀ c, c < 64 → (if c < i then -(w1 c).toInt else 0) ≤ (G c).toInt ∧ (G c).toInt ≤ zs w1 i) ∧ zs G 64 = 0
theorem zs_z : ∀ n, zs (fun _ => 0) n = 0
  | 0 => rfl
  | n + 1 => by
    have ih := zs_z n
    simp only [zs, ih]
    rfl
theorem gOk_0 (w1 : Nat → Int32) : gOk w1 0 (fun _ => 0) := ⟨fun c _ => ⟨by rw [if_neg (Nat.not_lt_zero c)]; exact Int.le_refl _, Int.le_refl _⟩, zs_z 64⟩
section GO
variable {hei dam w1 : Nat → Int32} {B : Int} (hB : B < 500000000) (hh : ∀ c, c < 64 → 0 ≤ (hei c).toInt ∧ (hei c).toInt ≤ 50) (hd : ∀ c, c < 64 → 0 ≤ (dam c).toInt ∧ (dam c).toInt ≤ 20) (hw : ∀ c, c < 64 → 0 ≤ (w1 c).toInt) (hs : zs w1 64 ≤ B)
theorem given_ok {i j : Nat} (hB : B < 500000000) (hh : ∀ c, c < 64 → 0 ≤ (hei c).toInt ∧ (hei c).toInt ≤ 50) (hd : ∀ c, c < 64 → 0 ≤ (dam c).toInt ∧ (dam c).toInt ≤ 20) (hw : ∀ c, c < 64 → 0 ≤ (w1 c).toInt) (hs : zs w1 64 ≤ B) (hi : i < 64) (hj : j < 64) (hlt : dam i < w1 i) {cre : Nat → Int32} (hpos : 0 < hei i + w1 i - cre j) : 0 ≤ (q_given hei w1 dam cre i j).toInt ∧ (q_given hei w1 dam cre i j).toInt ≤ (w1 i).toInt := by
  have h1 := zs_one 64 hw i hi
  have h2 := hw i hi
  have h3 := hd i hi
  have h4 := half_i hpos
  have h5 := lt_i.mp hlt
  have e1 : (w1 i - dam i).toInt = (w1 i).toInt - (dam i).toInt := sub_ex (by omega) (by omega)
  unfold q_given
  rw [i_min_i, e1]
  omega
theorem gOk_next {i : Nat} (hB : B < 500000000) (hh : ∀ c, c < 64 → 0 ≤ (hei c).toInt ∧ (hei c).toInt ≤ 50) (hd : ∀ c, c < 64 → 0 ≤ (dam c).toInt ∧ (dam c).toInt ≤ 20) (hw : ∀ c, c < 64 → 0 ≤ (w1 c).toInt) (hs : zs w1 64 ≤ B) (hi : i < 64) {G cre : Nat → Int32} (h : gOk w1 i G) : gOk w1 (i + 1) (if dam i < w1 i then q_give hei w1 dam cre i (q_low cre i 4) G else G) := by
  have hwi := hw i hi
  have hm := zs_mono (f := w1) (m := i + 1) (n := 64) (by omega) hw
  have h0 := zs_nn (f := w1) i (fun c hc => hw c (by omega))
  have ez : zs w1 (i + 1) = zs w1 i + (w1 i).toInt := rfl
  have keep : gOk w1 (i + 1) G := by
    refine ⟨fun c hc => ?_, h.2⟩
    obtain ⟨a1, a2⟩ := h.1 c hc
    have hwc := hw c hc
    refine ⟨?_, by omega⟩
    by_cases e : c < i + 1
    · rw [if_pos e]
      by_cases e2 : c < i
      · rw [if_pos e2] at a1; exact a1
      · rw [if_neg e2] at a1; omega
    · have e2 : ¬ c < i := by omega
      rw [if_neg e]
      rw [if_neg e2] at a1
      exact a1
  by_cases hlt : dam i < w1 i
  · rw [if_pos hlt]
    cases ho : q_low cre i 4 with
    | none => exact keep
    | some j =>
      have hj : j < 64 := q_low_lt hi ho
      show gOk w1 (i + 1) (if 0 < hei i + w1 i - cre j then q_move G i j (q_given hei w1 dam cre i j) else G)
      by_cases hp : 0 < hei i + w1 i - cre j
      · rw [if_pos hp]
        obtain ⟨x0, x1⟩ := given_ok hB hh hd hw hs hi hj hlt hp
        generalize q_given hei w1 dam cre i j = x at x0 x1
        obtain ⟨g0, g1⟩ := h.1 i hi
        rw [if_neg (Nat.lt_irrefl i)] at g0
        have e1 : (G i - x).toInt = (G i).toInt - x.toInt := sub_ex (by omega) (by omega)
        obtain ⟨j0, j1⟩ := h.1 j hj
        have hwj := hw j hj
        have hwj2 := zs_one 64 hw j hj
        -- what j has behind the first store
        have ej : (upd G i (G i - x) j).toInt = (if j = i then (G i).toInt - x.toInt else (G j).toInt) := by
          by_cases e : j = i
          · rw [if_pos e, e, pk_us, e1]
          · rw [if_neg e, pk_un e]
        have lo : -(w1 j).toInt ≤ (G j).toInt := by
          by_cases e : j < i
          · rw [if_pos e] at j0; exact j0
          · rw [if_neg e] at j0; omega
        have e2 : (upd G i (G i - x) j + x).toInt = (upd G i (G i - x) j).toInt + x.toInt := by
          apply add_ex
          · rw [ej]; split <;> omega
          · rw [ej]; split <;> omega
        refine ⟨fun c hc => ?_, ?_⟩
        · obtain ⟨a1, a2⟩ := keep.1 c hc
          have ec : (q_move G i j x c).toInt = (if c = j then (upd G i (G i - x) j).toInt + x.toInt else (if c = i then (G i).toInt - x.toInt else (G c).toInt)) := by
            unfold q_move
            by_cases e : c = j
            · rw [if_pos e, e, pk_us, e2]
            · rw [if_neg e, pk_un e]
              by_cases e' : c = i
              · rw [if_pos e', e', pk_us, e1]
              · rw [if_neg e', pk_un e']
          rw [ec]
          by_cases e : c = j
          · rw [if_pos e, ej]
            subst e
            by_cases e' : c = i
            · rw [if_pos e']
              subst e'
              exact ⟨by have := a1; omega, by omega⟩
            · rw [if_neg e']
              exact ⟨by omega, by omega⟩
          · rw [if_neg e]
            by_cases e' : c = i
            · rw [if_pos e']
              subst e'
              have e3 : c < c + 1 := Nat.lt_succ_self c
              rw [if_pos e3]
              exact ⟨by omega, by omega⟩
            · rw [if_neg e']
              exact ⟨a1, a2⟩
        · unfold q_move
          rw [zs_upd, zs_upd, if_pos hj, if_pos hi, h.2, e2, e1]
          omega
      · rw [if_neg hp]; exact keep
  · rw [if_neg hlt]; exact keep
end GO
theorem gOk_all {hei dam w1 : Nat → Int32} {B : Int} (hB : B < 500000000) (hh : ∀ c, c < 64 → 0 ≤ (hei c).toInt ∧ (hei c).toInt ≤ 50) (hd : ∀ c, c < 64 → 0 ≤ (dam c).toInt ∧ (dam c).toInt ≤ 20) (hw : ∀ c, c < 64 → 0 ≤ (w1 c).toInt) (hs : zs w1 64 ≤ B) (cre : Nat → Int32) : ∀ i, i ≤ 64 → gOk w1 i (q_gain hei w1 dam cre i)
  | 0, _ => gOk_0 w1
  | i + 1, h => gOk_next hB hh hd hw hs (by omega) (gOk_all hB hh hd hw hs cre i (by omega))
/-- the bounds: of heights, drains, rain, dams, wear; no water below none, and all water together -/
def inv (B : Int) (hei dra rai : Nat → Int32) (σ : Ms) : Prop :=
  (∀ c, c < 64 → 0 ≤ (hei c).toInt ∧ (hei c).toInt ≤ 50) ∧ (∀ c, c < 64 → 0 ≤ (dra c).toInt ∧ (dra c).toInt ≤ 9) ∧ (∀ c, c < 12 → 0 ≤ (rai c).toInt ∧ (rai c).toInt ≤ 9) ∧
  (∀ c, c < 64 → 0 ≤ (m_dam σ c).toInt ∧ (m_dam σ c).toInt ≤ 20) ∧ (∀ c, c < 64 → 0 ≤ (m_wea σ c).toInt ∧ (m_wea σ c).toInt ≤ 9) ∧ (∀ c, c < 64 → 0 ≤ (m_wat σ c).toInt) ∧ zs (m_wat σ) 64 ≤ B
theorem inv_hour {B : Int} {hei dra rai : Nat → Int32} {σ : Ms} (hB : B < 400000000) (h : inv B hei dra rai σ) : inv (B + 576) hei dra rai (q_hour hei dra rai σ) := by
  obtain ⟨h1, h2, h3, h4, h5, h6, h7⟩ := h
  have hr := h3 (m_t σ % 12) (Nat.mod_lt _ (by decide))
  have w1e : ∀ c, c < 64 → (q_w1 rai (m_t σ) (m_wat σ) c).toInt = (m_wat σ c).toInt + (rai (m_t σ % 12)).toInt := by
    intro c hc
    have a := zs_one 64 h6 c hc
    have b := h6 c hc
    exact add_ex (by omega) (by omega)
  have hw1 : ∀ c, c < 64 → 0 ≤ (q_w1 rai (m_t σ) (m_wat σ) c).toInt := by
    intro c hc
    rw [w1e c hc]
    have b := h6 c hc
    omega
  have hs1 : zs (q_w1 rai (m_t σ) (m_wat σ)) 64 ≤ B + 576 := by
    have := zs_up (f := q_w1 rai (m_t σ) (m_wat σ)) (g := m_wat σ) (d := 9) 64 (fun c hc => by rw [w1e c hc]; omega)
    omega
  have hg := gOk_all (B := B + 576) (by omega) h1 h4 hw1 hs1 (q_cre hei (m_dam σ) (q_w1 rai (m_t σ) (m_wat σ))) 64 (Nat.le_refl _)
  generalize hW1 : q_w1 rai (m_t σ) (m_wat σ) = W1 at *
  generalize hGA : q_gain hei W1 (m_dam σ) (q_cre hei (m_dam σ) W1) 64 = GA at *
  have w2e : ∀ c, c < 64 → (q_w2 hei (m_dam σ) W1 c).toInt = (W1 c).toInt + (GA c).toInt := by
    intro c hc
    obtain ⟨a1, a2⟩ := hg.1 c hc
    rw [if_pos hc] at a1
    have a3 := zs_one 64 hw1 c hc
    have a4 := hw1 c hc
    unfold q_w2
    rw [hGA]
    exact add_ex (by omega) (by omega)
  have hw2 : ∀ c, c < 64 → 0 ≤ (q_w2 hei (m_dam σ) W1 c).toInt := by
    intro c hc
    obtain ⟨a1, -⟩ := hg.1 c hc
    rw [if_pos hc] at a1
    rw [w2e c hc]
    omega
  have hs2 : zs (q_w2 hei (m_dam σ) W1) 64 ≤ B + 576 := by
    rw [zs_add 64 w2e, hg.2]
    omega
  generalize hW2 : q_w2 hei (m_dam σ) W1 = W2 at *
  have w3e : ∀ c, c < 64 → 0 ≤ (q_w3 dra W2 c).toInt ∧ (q_w3 dra W2 c).toInt ≤ (W2 c).toInt := by
    intro c hc
    have a1 := hw2 c hc
    have a2 := h2 c hc
    have a3 := zs_one 64 hw2 c hc
    have e1 : (q_tak dra W2 c).toInt = min (dra c).toInt (W2 c).toInt := i_min_i _ _
    have e2 : (q_w3 dra W2 c).toInt = (W2 c).toInt - (q_tak dra W2 c).toInt := sub_ex (by omega) (by omega)
    rw [e2, e1]
    omega
  have eqh : q_hour hei dra rai σ = (q_w3 dra W2, q_dam (m_dam σ) W2 (m_wea σ), q_wea (m_dam σ) W2 (m_wea σ), q_peo (q_w3 dra W2) (m_peo σ), m_t σ + 1, m_bro σ + q_sum (q_brk (m_dam σ) W2 (m_wea σ)) 64, m_drd σ + q_sum (q_tak dra W2) 64, m_lef σ + q_sum (q_lv (q_w3 dra W2) (m_peo σ)) 64) := by
    unfold q_hour
    rw [hW1, hW2]
  rw [eqh]
  refine ⟨h1, h2, h3, fun c hc => ?_, fun c hc => ?_, fun c hc => (w3e c hc).1, ?_⟩
  · show 0 ≤ (q_dam (m_dam σ) W2 (m_wea σ) c).toInt ∧ (q_dam (m_dam σ) W2 (m_wea σ) c).toInt ≤ 20
    unfold q_dam
    split
    · exact ⟨by decide, by decide⟩
    · exact h4 c hc
  · show 0 ≤ (q_wea (m_dam σ) W2 (m_wea σ) c).toInt ∧ (q_wea (m_dam σ) W2 (m_wea σ) c).toInt ≤ 9
    have a5 := h5 c hc
    have e1 : (m_wea σ c + 1).toInt = (m_wea σ c).toInt + 1 := add_ex (b := 1) (by have : (1 : Int32).toInt = 1 := rfl; omega) (by have : (1 : Int32).toInt = 1 := rfl; omega)
    unfold q_wea
    split
    · split
      · exact ⟨by decide, by decide⟩
      · rename_i h9
        have h8 := lt_i.mp (Int32.not_le.mp h9)
        have : (10 : Int32).toInt = 10 := rfl
        rw [e1] at h8 ⊢
        omega
    · exact a5
  · show zs (q_w3 dra W2) 64 ≤ B + 576
    exact Int.le_trans (zs_le 64 (fun c hc => (w3e c hc).2)) hs2
theorem inv_hours {B : Int} {hei dra rai : Nat → Int32} {σ : Ms} (h : inv B hei dra rai σ) : ∀ n : Nat, B + 576 * (n : Int) < 400000000 → inv (B + 576 * (n : Int)) hei dra rai (q_hours hei dra rai n σ)
  | 0, _ => by
    have e : B + 576 * ((0 : Nat) : Int) = B := by omega
    rw [e]
    exact h
  | n + 1, hB => by
    have ih := inv_hours h n (by omega)
    have h2 := inv_hour (by omega) ih
    have e : B + 576 * (n : Int) + 576 = B + 576 * ((n + 1 : Nat) : Int) := by omega
    rw [e] at h2
    exact h2
theorem inv_up {B C : Int} {hei dra rai : Nat → Int32} {σ : Ms} (h : inv B hei dra rai σ) (hBC : B ≤ C) : inv C hei dra rai σ := ⟨h.1, h.2.1, h.2.2.1, h.2.2.2.1, h.2.2.2.2.1, h.2.2.2.2.2.1, Int.le_trans h.2.2.2.2.2.2 hBC⟩
theorem inv_w {B : Int} {hei dra rai : Nat → Int32} {σ : Ms} (h : inv B hei dra rai σ) : ∀ c, c < 64 → 0 ≤ m_wat σ c := fun c hc => ge0.mpr (h.2.2.2.2.2.1 c hc)
theorem inv_dm {B : Int} {hei dra rai : Nat → Int32} {σ : Ms} (h : inv B hei dra rai σ) : ∀ c, c < 64 → m_dam σ c ≤ 20 := fun c hc => le_i.mpr (h.2.2.2.1 c hc).2
theorem bnd_upd {f : Nat → Int32} {n k : Nat} {v : Int32} {a b : Int} (h : ∀ c, c < n → a ≤ (f c).toInt ∧ (f c).toInt ≤ b) (hv : a ≤ v.toInt ∧ v.toInt ≤ b) : ∀ c, c < n → a ≤ (upd f k v c).toInt ∧ (upd f k v c).toInt ≤ b := by
  intro c hc
  unfold upd
  split
  · exact hv
  · exact h c hc
theorem inv_hei {B : Int} {hei dra rai : Nat → Int32} {σ : Ms} (h : inv B hei dra rai σ) (k : Nat) {v : Int32} (hv : 0 ≤ v ∧ v ≤ 50) : inv B (upd hei k v) dra rai σ := ⟨bnd_upd h.1 ⟨le_i.mp hv.1, le_i.mp hv.2⟩, h.2⟩
theorem inv_dra {B : Int} {hei dra rai : Nat → Int32} {σ : Ms} (h : inv B hei dra rai σ) (k : Nat) {v : Int32} (hv : 0 ≤ v ∧ v ≤ 9) : inv B hei (upd dra k v) rai σ := ⟨h.1, bnd_upd h.2.1 ⟨le_i.mp hv.1, le_i.mp hv.2⟩, h.2.2⟩
theorem inv_rai {B : Int} {hei dra rai : Nat → Int32} {σ : Ms} (h : inv B hei dra rai σ) (k : Nat) {v : Int32} (hv : 0 ≤ v ∧ v ≤ 9) : inv B hei dra (upd rai k v) σ := ⟨h.1, h.2.1, bnd_upd h.2.2.1 ⟨le_i.mp hv.1, le_i.mp hv.2⟩, h.2.2.2⟩
theorem inv_with {B : Int} {hei dra rai : Nat → Int32} {σ : Ms} (h : inv B hei dra rai σ) (k : Nat) {v : Int32} (hv : 0 ≤ v ∧ v ≤ 20) : inv B hei dra rai (q_with σ k v) := ⟨h.1, h.2.1, h.2.2.1, bnd_upd h.2.2.2.1 ⟨le_i.mp hv.1, le_i.mp hv.2⟩, bnd_upd h.2.2.2.2.1 ⟨by decide, by decide⟩, h.2.2.2.2.2.1, h.2.2.2.2.2.2⟩
theorem inv_peo {B : Int} {hei dra rai : Nat → Int32} {σ : Ms} (h : inv B hei dra rai σ) (p : Nat → Int32) : inv B hei dra rai (m_wat σ, m_dam σ, m_wea σ, p, m_t σ, m_bro σ, m_drd σ, m_lef σ) := h
theorem inv_pour {B : Int} {hei dra rai : Nat → Int32} {σ : Ms} (hB : B < 400000000) (h : inv B hei dra rai σ) {k : Nat} (hk : k < 64) {v : Int32} (hv : (-99) ≤ v ∧ v ≤ 99) : inv (B + 99) hei dra rai (upd (m_wat σ) k (i_max 0 (m_wat σ k + v)), m_dam σ, m_wea σ, m_peo σ, m_t σ, m_bro σ, m_drd σ, m_lef σ) := by
  have h6 := h.2.2.2.2.2.1
  have h7 := h.2.2.2.2.2.2
  have a1 := h6 k hk
  have a2 := zs_one 64 h6 k hk
  have v1 : -99 ≤ v.toInt := le_i.mp hv.1
  have v2 : v.toInt ≤ 99 := le_i.mp hv.2
  have e1 : (m_wat σ k + v).toInt = (m_wat σ k).toInt + v.toInt := add_ex (by omega) (by omega)
  have e2 : (i_max 0 (m_wat σ k + v)).toInt = max 0 ((m_wat σ k).toInt + v.toInt) := by
    rw [i_max_i, e1]
    rfl
  refine ⟨h.1, h.2.1, h.2.2.1, h.2.2.2.1, h.2.2.2.2.1, fun c hc => ?_, ?_⟩
  · show 0 ≤ (upd (m_wat σ) k (i_max 0 (m_wat σ k + v)) c).toInt
    unfold upd
    split
    · rw [e2]; omega
    · exact h6 c hc
  · show zs (upd (m_wat σ) k (i_max 0 (m_wat σ k + v))) 64 ≤ B + 99
    rw [zs_upd, if_pos hk, e2]
    omega
theorem inv_0 : inv 0 (fun _ => 10) (fun _ => 0) (fun _ => 0) q_m0 := by
  have z : (0 : Int32).toInt = 0 := rfl
  have t : (10 : Int32).toInt = 10 := rfl
  refine ⟨fun c _ => ?_, fun c _ => ?_, fun c _ => ?_, fun c _ => ?_, fun c _ => ?_, fun c _ => ?_, ?_⟩
  · show 0 ≤ (10 : Int32).toInt ∧ (10 : Int32).toInt ≤ 50
    omega
  · show 0 ≤ (0 : Int32).toInt ∧ (0 : Int32).toInt ≤ 9
    omega
  · show 0 ≤ (0 : Int32).toInt ∧ (0 : Int32).toInt ≤ 9
    omega
  · show 0 ≤ (0 : Int32).toInt ∧ (0 : Int32).toInt ≤ 20
    omega
  · show 0 ≤ (0 : Int32).toInt ∧ (0 : Int32).toInt ≤ 9
    omega
  · show 0 ≤ (0 : Int32).toInt
    omega
  · show zs (fun _ => 0) 64 ≤ 0
    rw [zs_z]
    exact Int.le_refl _
