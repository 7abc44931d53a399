/-! what the calls do, as plain functions of rows of numbers: one value for both sides -/
def i_max (x y : Int32) : Int32 := if x < y then y else x
def i_min (x y : Int32) : Int32 := if y < x then y else x
def q_mix (i : Nat) (F w : Nat → Int32) : Nat → Int32 := fun j => if j < i then F j else w j
theorem q_mix_0 (F w : Nat → Int32) : q_mix 0 F w = w := funext fun j => by simp [q_mix]
theorem q_mix_at (F w : Nat → Int32) (i : Nat) : q_mix i F w i = w i := by simp [q_mix]
theorem q_mix_lt {F w : Nat → Int32} {i j : Nat} (h : j < i) : q_mix i F w j = F j := by simp [q_mix, h]
theorem q_mix_ge {F w : Nat → Int32} {i j : Nat} (h : i ≤ j) : q_mix i F w j = w j := by
  have h2 : ¬ j < i := by omega
  simp [q_mix, h2]
theorem q_mix_up {F w : Nat → Int32} {i : Nat} {x : Int32} (h : x = F i) : upd (q_mix i F w) i x = q_mix (i + 1) F w := by
  funext j
  unfold upd q_mix
  by_cases h1 : j = i
  · subst h1; simp [h]
  · by_cases h2 : j < i
    · have h3 : j < i + 1 := by omega
      simp [h1, h2, h3]
    · have h3 : ¬ j < i + 1 := by omega
      simp [h1, h2, h3]
theorem q_mix_same {F w : Nat → Int32} {i : Nat} (h : w i = F i) : q_mix i F w = q_mix (i + 1) F w := by
  rw [← q_mix_up (x := w i) h]
  funext j
  unfold upd
  by_cases h1 : j = i
  · subst h1; simp [q_mix_at]
  · simp [h1]
theorem q_upd_same (f : Nat → Int32) (k : Nat) : upd f k (f k) = f := by
  funext j
  unfold upd
  by_cases h1 : j = k
  · subst h1; simp
  · simp [h1]
def q_sum (f : Nat → Int32) : Nat → Int32
  | 0 => 0
  | n + 1 => q_sum f n + f n
theorem q_sum_up (b : Int32) (f : Nat → Int32) (i : Nat) : b + q_sum f i + f i = b + q_sum f (i + 1) := by
  show _ = b + (q_sum f i + f i)
  rw [Int32.add_assoc]
theorem q_sum_up' (b : Int32) (f : Nat → Int32) (i : Nat) {x : Int32} (h : x = f i) : b + q_sum f i + x = b + q_sum f (i + 1) := by rw [h]; exact q_sum_up b f i
theorem q_sum_no (b : Int32) (f : Nat → Int32) (i : Nat) (h : f i = 0) : b + q_sum f i = b + q_sum f (i + 1) := by rw [← q_sum_up, h, Int32.add_zero]
/-- how many are above 0 -/
def q_pos (f : Nat → Int32) : Nat → Int32 := fun c => if 0 < f c then 1 else 0
/-- neighbours: 0 left, 1 right, 2 above, 3 below -/
def q_nb (k : Nat) : Nat → Option Nat
  | 0 => if 0 < k % 8 then some (k - 1) else none
  | 1 => if k % 8 < 7 then some (k + 1) else none
  | 2 => if 0 < k / 8 then some (k - 8) else none
  | _ => if k / 8 < 7 then some (k + 8) else none
def q_v : Option Nat → Int32
  | none => -1
  | some j => nI j
theorem q_nb_lt {k s j : Nat} (hk : k < 64) (h : q_nb k s = some j) : j < 64 := by
  match s with
  | 0 =>
    simp only [q_nb] at h
    split at h
    · cases h; omega
    · cases h
  | 1 =>
    simp only [q_nb] at h
    split at h
    · cases h; omega
    · cases h
  | 2 =>
    simp only [q_nb] at h
    split at h
    · cases h; omega
    · cases h
  | n + 3 =>
    simp only [q_nb] at h
    split at h
    · cases h; omega
    · cases h
def q_lowStep (cre : Nat → Int32) : Option Nat → Option Nat → Option Nat
  | none, low => low
  | some j, none => some j
  | some j, some b => if cre j < cre b then some j else some b
/-- the lowest of the first s neighbours -/
def q_low (cre : Nat → Int32) (k : Nat) : Nat → Option Nat
  | 0 => none
  | s + 1 => q_lowStep cre (q_nb k s) (q_low cre k s)
theorem q_low_lt {cre : Nat → Int32} {k : Nat} (hk : k < 64) : ∀ {s j : Nat}, q_low cre k s = some j → j < 64
  | 0, j, h => by simp [q_low] at h
  | s + 1, j, h => by
    simp only [q_low] at h
    cases hn : q_nb k s with
    | none =>
      rw [hn] at h
      simp only [q_lowStep] at h
      exact q_low_lt hk h
    | some a =>
      rw [hn] at h
      have ha := q_nb_lt hk hn
      cases hl : q_low cre k s with
      | none =>
        rw [hl] at h
        simp only [q_lowStep] at h
        cases h
        exact ha
      | some b =>
        rw [hl] at h
        simp only [q_lowStep] at h
        split at h
        · cases h; exact ha
        · cases h; exact q_low_lt hk hl
/-- a cell gives to its lowest neighbour -/
def q_given (hei wat dam cre : Nat → Int32) (k j : Nat) : Int32 := i_min ((hei k + wat k - cre j) / 2) (wat k - dam k)
def q_move (g : Nat → Int32) (k j : Nat) (x : Int32) : Nat → Int32 := upd (upd g k (g k - x)) j (upd g k (g k - x) j + x)
def q_give (hei wat dam cre : Nat → Int32) (k : Nat) (o : Option Nat) (g : Nat → Int32) : Nat → Int32 :=
  match o with
  | none => g
  | some j => if 0 < hei k + wat k - cre j then q_move g k j (q_given hei wat dam cre k j) else g
def q_gain (hei wat dam cre : Nat → Int32) : Nat → (Nat → Int32)
  | 0 => fun _ => 0
  | i + 1 => if dam i < wat i then q_give hei wat dam cre i (q_low cre i 4) (q_gain hei wat dam cre i) else q_gain hei wat dam cre i
/-- the six steps of an hour -/
def q_w1 (rai : Nat → Int32) (t : Nat) (wat : Nat → Int32) : Nat → Int32 := fun c => wat c + rai (t % 12)
def q_cre (hei dam wat : Nat → Int32) : Nat → Int32 := fun c => hei c + i_max (dam c) (wat c)
def q_w2 (hei dam w1 : Nat → Int32) : Nat → Int32 := fun c => w1 c + q_gain hei w1 dam (q_cre hei dam w1) 64 c
def q_dam (dam w2 wea : Nat → Int32) : Nat → Int32 := fun c => if 0 < dam c ∧ dam c ≤ w2 c ∧ 10 ≤ wea c + 1 then 0 else dam c
def q_wea (dam w2 wea : Nat → Int32) : Nat → Int32 := fun c => if 0 < dam c ∧ dam c ≤ w2 c then (if 10 ≤ wea c + 1 then 0 else wea c + 1) else wea c
def q_brk (dam w2 wea : Nat → Int32) : Nat → Int32 := fun c => if 0 < dam c ∧ dam c ≤ w2 c ∧ 10 ≤ wea c + 1 then 1 else 0
def q_tak (dra w2 : Nat → Int32) : Nat → Int32 := fun c => i_min (dra c) (w2 c)
def q_w3 (dra w2 : Nat → Int32) : Nat → Int32 := fun c => w2 c - q_tak dra w2 c
def q_lv (w3 peo : Nat → Int32) : Nat → Int32 := fun c => if 3 ≤ w3 c then i_min (peo c / 3 + 1) (peo c) else 0
def q_peo (w3 peo : Nat → Int32) : Nat → Int32 := fun c => if 3 ≤ w3 c then peo c - i_min (peo c / 3 + 1) (peo c) else peo c
/-- what moves in an hour: water, dams, wear, people; the hour; broken, drained, left -/
abbrev Ms : Type := (Nat → Int32) × (Nat → Int32) × (Nat → Int32) × (Nat → Int32) × Nat × Int32 × Int32 × Int32
abbrev m_wat (σ : Ms) : Nat → Int32 := σ.1
abbrev m_dam (σ : Ms) : Nat → Int32 := σ.2.1
abbrev m_wea (σ : Ms) : Nat → Int32 := σ.2.2.1
abbrev m_peo (σ : Ms) : Nat → Int32 := σ.2.2.2.1
abbrev m_t (σ : Ms) : Nat := σ.2.2.2.2.1
abbrev m_bro (σ : Ms) : Int32 := σ.2.2.2.2.2.1
abbrev m_drd (σ : Ms) : Int32 := σ.2.2.2.2.2.2.1
abbrev m_lef (σ : Ms) : Int32 := σ.2.2.2.2.2.2.2
def q_hour (hei dra rai : Nat → Int32) (σ : Ms) : Ms :=
  (q_w3 dra (q_w2 hei (m_dam σ) (q_w1 rai (m_t σ) (m_wat σ))), q_dam (m_dam σ) (q_w2 hei (m_dam σ) (q_w1 rai (m_t σ) (m_wat σ))) (m_wea σ), q_wea (m_dam σ) (q_w2 hei (m_dam σ) (q_w1 rai (m_t σ) (m_wat σ))) (m_wea σ),
    q_peo (q_w3 dra (q_w2 hei (m_dam σ) (q_w1 rai (m_t σ) (m_wat σ)))) (m_peo σ), m_t σ + 1,
    m_bro σ + q_sum (q_brk (m_dam σ) (q_w2 hei (m_dam σ) (q_w1 rai (m_t σ) (m_wat σ))) (m_wea σ)) 64, m_drd σ + q_sum (q_tak dra (q_w2 hei (m_dam σ) (q_w1 rai (m_t σ) (m_wat σ)))) 64,
    m_lef σ + q_sum (q_lv (q_w3 dra (q_w2 hei (m_dam σ) (q_w1 rai (m_t σ) (m_wat σ)))) (m_peo σ)) 64)
def q_hours (hei dra rai : Nat → Int32) : Nat → Ms → Ms
  | 0, σ => σ
  | n + 1, σ => q_hour hei dra rai (q_hours hei dra rai n σ)
theorem q_hours_t (hei dra rai : Nat → Int32) (σ : Ms) : ∀ n : Nat, m_t (q_hours hei dra rai n σ) = m_t σ + n
  | 0 => rfl
  | n + 1 => by
    show m_t (q_hours hei dra rai n σ) + 1 = _
    rw [q_hours_t hei dra rai σ n, Nat.add_assoc]
/-! lakes: what is marked, and what is found in a row -/
abbrev Ls : Type := (Nat → Bool) × List Nat
def q_mark (sn : Nat → Bool) (j : Nat) : Nat → Bool := fun i => if i = j then true else sn i
def q_meet (wat : Nat → Int32) (o : Option Nat) (z : Ls) : Ls :=
  match o with
  | none => z
  | some j => if z.1 j = false ∧ 0 < wat j then (q_mark z.1 j, z.2 ++ [j]) else z
def q_sides (wat : Nat → Int32) (k : Nat) : Nat → Ls → Ls
  | 0, z => z
  | s + 1, z => q_meet wat (q_nb k s) (q_sides wat k s z)
/-- from the place 64 - n of the row on -/
def q_spread (wat : Nat → Int32) : Nat → Ls → Ls
  | 0, z => z
  | n + 1, z => if 64 - (n + 1) < z.2.length then q_spread wat n (q_sides wat (z.2.getD (64 - (n + 1)) 0) 4 z) else z
def q_from (wat : Nat → Int32) (sn : Nat → Bool) (k : Nat) : Ls := q_spread wat 64 (q_meet wat (some k) (sn, []))
def q_lakeSize (wat : Nat → Int32) (k : Nat) : Int32 := nI (q_from wat (fun _ => false) k).2.length
def q_lakesS (wat : Nat → Int32) : Nat → (Nat → Bool) × Nat
  | 0 => (fun _ => false, 0)
  | i + 1 => ((q_from wat (q_lakesS wat i).1 i).1, if 0 < (q_from wat (q_lakesS wat i).1 i).2.length then (q_lakesS wat i).2 + 1 else (q_lakesS wat i).2)
def q_lakes (wat : Nat → Int32) : Int32 := nI (q_lakesS wat 64).2
/-! what is told -/
def q_level (hei wat : Nat → Int32) (c : Nat) : Int32 := hei c + wat c
def q_cell (hei wat dam wea dra peo : Nat → Int32) (c : Nat) : Nat → Int32
  | 0 => hei c
  | 1 => wat c
  | 2 => dam c
  | 3 => wea c
  | 4 => dra c
  | 5 => peo c
  | 6 => hei c + wat c
  | _ => q_cre hei dam wat c
def q_tally (σ : Ms) : Nat → Int32
  | 0 => nI (m_t σ)
  | 1 => q_sum (m_wat σ) 64
  | 2 => q_sum (q_pos (m_wat σ)) 64
  | 3 => q_sum (q_pos (m_dam σ)) 64
  | 4 => m_bro σ
  | 5 => m_drd σ
  | 6 => q_sum (m_peo σ) 64
  | 7 => m_lef σ
  | _ => q_lakes (m_wat σ)
/-! worlds -/
/-- a Plain's twelve cells: its own, and its rows -/
abbrev pW (h : Nat) (ad : Nat → Nat) (cI : ClassId) (hei wat dam wea dra peo rai : Nat → Int32) (hou bro drd lef : Int32) (cre gai see fou : Nat → Int32) : va_W := [(h, .inr (0, [.ref (ad 0), .ref (ad 1), .ref (ad 2), .ref (ad 3), .ref (ad 4), .ref (ad 5), .ref (ad 6), .int hou, .int bro, .int drd, .int lef, .ref (ad 11), .ref (ad 12), .ref (ad 13), .ref (ad 14)])), (ad 0, .inl (cI, 64, .inl hei)), (ad 1, .inl (cI, 64, .inl wat)), (ad 2, .inl (cI, 64, .inl dam)), (ad 3, .inl (cI, 64, .inl wea)), (ad 4, .inl (cI, 64, .inl dra)), (ad 5, .inl (cI, 64, .inl peo)), (ad 6, .inl (cI, 12, .inl rai)), (ad 11, .inl (cI, 64, .inl cre)), (ad 12, .inl (cI, 64, .inl gai)), (ad 13, .inl (cI, 64, .inl see)), (ad 14, .inl (cI, 64, .inl fou))]
/-- a Plain's cells by the value that moves -/
abbrev pM (h : Nat) (ad : Nat → Nat) (cI : ClassId) (hei dra rai : Nat → Int32) (σ : Ms) (cre gai see fou : Nat → Int32) : va_W := pW h ad cI hei (m_wat σ) (m_dam σ) (m_wea σ) dra (m_peo σ) rai (nI (m_t σ)) (m_bro σ) (m_drd σ) (m_lef σ) cre gai see fou
/-- FloodGrid's own cell -/
abbrev gW (g hn ha : Nat) : va_W := [(g, .inr (1, [.ref hn, .ref ha]))]
/-- the model's twelve cells -/
abbrev mW (h : Nat) (ad : Nat → Nat) (cI : ClassId) (thr : Int32) (hei wat dam wea dra peo rai num flo lak row : Nat → Int32) : va_W := [(h, .inr (2, [.int thr, .ref (ad 1), .ref (ad 2), .ref (ad 3), .ref (ad 4), .ref (ad 5), .ref (ad 6), .ref (ad 7), .ref (ad 8), .ref (ad 9), .ref (ad 10), .ref (ad 11)])), (ad 1, .inl (cI, 64, .inl hei)), (ad 2, .inl (cI, 64, .inl wat)), (ad 3, .inl (cI, 64, .inl dam)), (ad 4, .inl (cI, 64, .inl wea)), (ad 5, .inl (cI, 64, .inl dra)), (ad 6, .inl (cI, 64, .inl peo)), (ad 7, .inl (cI, 12, .inl rai)), (ad 8, .inl (cI, 4, .inl num)), (ad 9, .inl (cI, 64, .inl flo)), (ad 10, .inl (cI, 64, .inl lak)), (ad 11, .inl (cI, 64, .inl row))]
def q_num (h b d l : Int32) : Nat → Int32
  | 0 => h
  | 1 => b
  | 2 => d
  | 3 => l
  | _ => 0
theorem q_num_0 (h b d l x : Int32) : upd (q_num h b d l) 0 x = q_num x b d l := funext fun j => by
  match j with
  | 0 => rfl
  | 1 => rfl
  | 2 => rfl
  | 3 => rfl
  | n + 4 => rfl
theorem q_num_1 (h b d l x : Int32) : upd (q_num h b d l) 1 x = q_num h x d l := funext fun j => by
  match j with
  | 0 => rfl
  | 1 => rfl
  | 2 => rfl
  | 3 => rfl
  | n + 4 => rfl
theorem q_num_2 (h b d l x : Int32) : upd (q_num h b d l) 2 x = q_num h b x l := funext fun j => by
  match j with
  | 0 => rfl
  | 1 => rfl
  | 2 => rfl
  | 3 => rfl
  | n + 4 => rfl
theorem q_num_3 (h b d l x : Int32) : upd (q_num h b d l) 3 x = q_num h b d x := funext fun j => by
  match j with
  | 0 => rfl
  | 1 => rfl
  | 2 => rfl
  | 3 => rfl
  | n + 4 => rfl
