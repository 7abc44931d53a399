/-! a cell by x and y, what may be, and what would be -/
def inC (x y : Int32) : Prop := (0 ≤ x ∧ x ≤ 7) ∧ (0 ≤ y ∧ y ≤ 7)
def q_at (x y : Int32) : Nat := 8 * y.toNatClampNeg + x.toNatClampNeg
theorem q_n7 {x : Int32} (h0 : 0 ≤ x) {M : Int32} {n : Nat} (hM : M = nI n) (hn : n < 2 ^ 31) (h7 : x ≤ M) : x = nI x.toNatClampNeg ∧ x.toNatClampNeg ≤ n := by
  obtain ⟨j, hj, rfl⟩ := nI_of (Int32.not_lt.mpr h0)
  rw [nI_clamp hj]
  rw [hM] at h7
  exact ⟨rfl, (nI_leI hj hn).mp h7⟩
theorem q_at_lt {x y : Int32} (h : inC x y) : q_at x y < 64 := by
  have h1 := (q_n7 h.1.1 (n := 7) rfl (by decide) h.1.2).2
  have h2 := (q_n7 h.2.1 (n := 7) rfl (by decide) h.2.2).2
  unfold q_at
  omega
theorem q_at_eq {x y : Int32} (h : inC x y) : (8 : Int32) * y + x = nI (q_at x y) := by
  have h1 := (q_n7 h.1.1 (n := 7) rfl (by decide) h.1.2).1
  have h2 := (q_n7 h.2.1 (n := 7) rfl (by decide) h.2.2).1
  have e : (8 : Int32) * y + x = nI 8 * nI y.toNatClampNeg + nI x.toNatClampNeg := by rw [← h1, ← h2]; rfl
  rw [e, pk_mul, nI_add]
  rfl
/-- the first hour behind which it is so: -1 if not by then -/
def q_seek (hei dra rai : Nat → Int32) (test : Ms → Prop) [DecidablePred test] (σ : Ms) : Nat → Nat → Int32
  | 0, _ => -1
  | f + 1, n => if test (q_hours hei dra rai n σ) then nI n else q_seek hei dra rai test σ f (n + 1)
abbrev q_wet3 (k : Nat) (σ : Ms) : Prop := 3 ≤ m_wat σ k
abbrev q_noDam (k : Nat) (σ : Ms) : Prop := m_dam σ k = 0
def q_floods (hei dra rai : Nat → Int32) (σ : Ms) (k : Nat) : Int32 := q_seek hei dra rai (q_wet3 k) σ 49 0
def q_breaks (hei dra rai : Nat → Int32) (σ : Ms) (k : Nat) : Int32 := if m_dam σ k = 0 then -1 else q_seek hei dra rai (q_noDam k) σ 48 1
theorem q_seek_yes {hei dra rai : Nat → Int32} {test : Ms → Prop} [DecidablePred test] {σ : Ms} {f n : Nat} (h : test (q_hours hei dra rai n σ)) : q_seek hei dra rai test σ (f + 1) n = nI n := by
  simp only [q_seek]; rw [if_pos h]
theorem q_seek_no {hei dra rai : Nat → Int32} {test : Ms → Prop} [DecidablePred test] {σ : Ms} {f n : Nat} (h : ¬ test (q_hours hei dra rai n σ)) : q_seek hei dra rai test σ (f + 1) n = q_seek hei dra rai test σ f (n + 1) := by
  rw [show q_seek hei dra rai test σ (f + 1) n = if test (q_hours hei dra rai n σ) then nI n else q_seek hei dra rai test σ f (n + 1) from rfl, if_neg h]
/-- a dam set, without wear -/
def q_with (σ : Ms) (k : Nat) (d : Int32) : Ms := (m_wat σ, upd (m_dam σ) k d, upd (m_wea σ) k 0, m_peo σ, m_t σ, m_bro σ, m_drd σ, m_lef σ)
def q_leave (hei dra rai : Nat → Int32) (n : Nat) (σ : Ms) : Int32 := m_lef (q_hours hei dra rai n σ) - m_lef σ
def q_holdS (hei dra rai : Nat → Int32) (n : Nat) (σ : Ms) : Nat → Int32 × Int32
  | 0 => (q_leave hei dra rai n σ, -1)
  | i + 1 => if 0 < m_dam σ i then (if (q_holdS hei dra rai n σ i).1 < q_leave hei dra rai n (q_with σ i 0) then (q_leave hei dra rai n (q_with σ i 0), nI i) else q_holdS hei dra rai n σ i) else q_holdS hei dra rai n σ i
def q_advS (hei dra rai : Nat → Int32) (n : Nat) (σ : Ms) : Nat → Int32 × Int32
  | 0 => (q_leave hei dra rai n σ, -1)
  | i + 1 => if q_leave hei dra rai n (q_with σ i (i_min 20 (m_dam σ i + 5))) < (q_advS hei dra rai n σ i).1 then (q_leave hei dra rai n (q_with σ i (i_min 20 (m_dam σ i + 5))), nI i) else q_advS hei dra rai n σ i
def q_holds (hei dra rai : Nat → Int32) (n : Nat) (σ : Ms) : Int32 := (q_holdS hei dra rai n σ 64).2
def q_advise (hei dra rai : Nat → Int32) (n : Nat) (σ : Ms) : Int32 := (q_advS hei dra rai n σ 64).2
theorem q_holdS_up (hei dra rai : Nat → Int32) (n : Nat) (σ : Ms) (i : Nat) : q_holdS hei dra rai n σ (i + 1) = if 0 < m_dam σ i then (if (q_holdS hei dra rai n σ i).1 < q_leave hei dra rai n (q_with σ i 0) then (q_leave hei dra rai n (q_with σ i 0), nI i) else q_holdS hei dra rai n σ i) else q_holdS hei dra rai n σ i := rfl
theorem q_advS_up (hei dra rai : Nat → Int32) (n : Nat) (σ : Ms) (i : Nat) : q_advS hei dra rai n σ (i + 1) = if q_leave hei dra rai n (q_with σ i (i_min 20 (m_dam σ i + 5))) < (q_advS hei dra rai n σ i).1 then (q_leave hei dra rai n (q_with σ i (i_min 20 (m_dam σ i + 5))), nI i) else q_advS hei dra rai n σ i := rfl
theorem q_holds_eq (hei dra rai : Nat → Int32) (n : Nat) (σ : Ms) : (q_holdS hei dra rai n σ 64).2 = q_holds hei dra rai n σ := by unfold q_holds; exact Eq.refl _
theorem q_advise_eq (hei dra rai : Nat → Int32) (n : Nat) (σ : Ms) : (q_advS hei dra rai n σ 64).2 = q_advise hei dra rai n σ := by unfold q_advise; exact Eq.refl _
/-- the checksum -/
def q_digT (σ : Ms) : Nat → Int64
  | 0 => 1129
  | i + 1 => q_digT σ i * 31 + (q_tally σ i).toInt64
def q_digW (hei dra : Nat → Int32) (σ : Ms) (c : Nat) (d : Int64) : Nat → Int64
  | 0 => d
  | i + 1 => q_digW hei dra σ c d i * 31 + (q_cell hei (m_wat σ) (m_dam σ) (m_wea σ) dra (m_peo σ) c i).toInt64
def q_digC (hei dra : Nat → Int32) (σ : Ms) (d : Int64) : Nat → Int64
  | 0 => d
  | c + 1 => q_digW hei dra σ c (q_digC hei dra σ d c) 8
def q_digR (rai : Nat → Int32) (d : Int64) : Nat → Int64
  | 0 => d
  | i + 1 => q_digR rai d i * 31 + (rai i).toInt64
def q_dig (hei dra rai : Nat → Int32) (σ : Ms) : Int64 := q_digR rai (q_digC hei dra σ (q_digT σ 9) 64) 12
theorem q_dig_eq (hei dra rai : Nat → Int32) (σ : Ms) : q_digR rai (q_digC hei dra σ (q_digT σ 9) 64) 12 = q_dig hei dra rai σ := by unfold q_dig; exact Eq.refl _
/-! a plain of which nothing is known but that it is one -/
def q_z (hei wat dam wea dra peo rai : Nat → Int32) (hou bro drd lef : Int32) (cre gai see fou : Nat → Int32) : Nat → Nat → Int32
  | 0 => hei
  | 1 => wat
  | 2 => dam
  | 3 => wea
  | 4 => dra
  | 5 => peo
  | 6 => rai
  | 7 => fun _ => hou
  | 8 => fun _ => bro
  | 9 => fun _ => drd
  | 10 => fun _ => lef
  | 11 => cre
  | 12 => gai
  | 13 => see
  | _ => fou
abbrev pZ (h : Nat) (ad : Nat → Nat) (cI : ClassId) (z : Nat → Nat → Int32) : va_W := pW h ad cI (z 0) (z 1) (z 2) (z 3) (z 4) (z 5) (z 6) (z 7 0) (z 8 0) (z 9 0) (z 10 0) (z 11) (z 12) (z 13) (z 14)
/-- FloodGrid's twenty-five cells: its own, the plain now, and the plain ahead -/
abbrev fW (g hn ha : Nat) (adn ada : Nat → Nat) (cI : ClassId) (hei dra rai : Nat → Int32) (σ : Ms) (cre gai see fou : Nat → Int32) (z : Nat → Nat → Int32) : va_W := gW g hn ha ++ (pM hn adn cI hei dra rai σ cre gai see fou ++ pZ ha ada cI z)
