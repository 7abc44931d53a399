/-! a search from a cell on, side by side: what it marks -/
theorem qat_nI {a b : Nat} (ha : a < 2 ^ 31) (hb : b < 2 ^ 31) : q_at (nI a) (nI b) = 8 * b + a := by
  unfold q_at
  rw [nI_clamp ha, nI_clamp hb]
theorem inC_nI {a b : Nat} (ha : a < 2 ^ 31) (hb : b < 2 ^ 31) : inC (nI a) (nI b) ↔ a ≤ 7 ∧ b ≤ 7 := by
  unfold inC
  rw [show (0 : Int32) = nI 0 from rfl, show (7 : Int32) = nI 7 from rfl, nI_leI (by decide) ha, nI_leI (by decide) hb, nI_leI ha (by decide), nI_leI hb (by decide)]
  constructor
  · exact fun h => ⟨h.1.2, h.2.2⟩
  · exact fun h => ⟨⟨Nat.zero_le _, h.1⟩, Nat.zero_le _, h.2⟩
theorem m1_neg : ¬ (0 : Int32) ≤ nI 0 - 1 := by decide
theorem sp_0 {x y b : Nat} (hx : x < 8) (hy : y < 8) : (inC (nI x - 1) (nI y) ∧ q_at (nI x - 1) (nI y) = b) ↔ q_nb (8 * y + x) 0 = some b := by
  by_cases h : x = 0
  · subst h
    have e : q_nb (8 * y + 0) 0 = none := by simp only [q_nb]; rw [if_neg (by omega)]
    rw [e]
    exact ⟨fun h => absurd h.1.1.1 m1_neg, fun h => by cases h⟩
  · have e : q_nb (8 * y + x) 0 = some (8 * y + x - 1) := by simp only [q_nb]; rw [if_pos (by omega)]
    have e1 : nI x - 1 = nI (x - 1) := pk_sub (b := 1) (by omega)
    rw [e, e1, inC_nI (by omega) (by omega), qat_nI (by omega) (by omega), Option.some.injEq]
    omega
theorem sp_1 {x y b : Nat} (hx : x < 8) (hy : y < 8) : (inC (nI x + 1) (nI y) ∧ q_at (nI x + 1) (nI y) = b) ↔ q_nb (8 * y + x) 1 = some b := by
  rw [nI_1, inC_nI (by omega) (by omega), qat_nI (by omega) (by omega)]
  by_cases h : x = 7
  · have e : q_nb (8 * y + x) 1 = none := by simp only [q_nb]; rw [if_neg (by omega)]
    rw [e]
    exact ⟨fun h => by omega, fun h => by cases h⟩
  · have e : q_nb (8 * y + x) 1 = some (8 * y + x + 1) := by simp only [q_nb]; rw [if_pos (by omega)]
    rw [e, Option.some.injEq]
    omega
theorem sp_2 {x y b : Nat} (hx : x < 8) (hy : y < 8) : (inC (nI x) (nI y - 1) ∧ q_at (nI x) (nI y - 1) = b) ↔ q_nb (8 * y + x) 2 = some b := by
  by_cases h : y = 0
  · subst h
    have e : q_nb (8 * 0 + x) 2 = none := by simp only [q_nb]; rw [if_neg (by omega)]
    rw [e]
    exact ⟨fun h => absurd h.1.2.1 m1_neg, fun h => by cases h⟩
  · have e : q_nb (8 * y + x) 2 = some (8 * y + x - 8) := by simp only [q_nb]; rw [if_pos (by omega)]
    have e1 : nI y - 1 = nI (y - 1) := pk_sub (b := 1) (by omega)
    rw [e, e1, inC_nI (by omega) (by omega), qat_nI (by omega) (by omega), Option.some.injEq]
    omega
theorem sp_3 {x y b : Nat} (hx : x < 8) (hy : y < 8) : (inC (nI x) (nI y + 1) ∧ q_at (nI x) (nI y + 1) = b) ↔ q_nb (8 * y + x) 3 = some b := by
  rw [nI_1, inC_nI (by omega) (by omega), qat_nI (by omega) (by omega)]
  by_cases h : y = 7
  · have e : q_nb (8 * y + x) 3 = none := by simp only [q_nb]; rw [if_neg (by omega)]
    rw [e]
    exact ⟨fun h => by omega, fun h => by cases h⟩
  · have e : q_nb (8 * y + x) 3 = some (8 * y + x + 8) := by simp only [q_nb]; rw [if_pos (by omega)]
    rw [e, Option.some.injEq]
    omega
def sp_post (wat : Nat → Int32) (sn : Nat → Bool) (X Y : Int32) (v : Int32) (u : Nat → Bool) : Prop :=
  (∀ c, sn c = true → u c = true) ∧ (∀ c, u c = true → sn c = true ∨ (inC X Y ∧ lk_R wat (q_at X Y) c)) ∧ (∀ c, u c = true → sn c = false → ∀ b s, q_nb c s = some b → 0 < wat b → u b = true) ∧ (inC X Y → 0 < wat (q_at X Y) → u (q_at X Y) = true) ∧ q_cnt sn 64 ≤ q_cnt u 64 ∧ v = nI (q_cnt u 64 - q_cnt sn 64)
theorem sp_none {wat : Nat → Int32} {sn : Nat → Bool} {X Y : Int32} (h : inC X Y → 0 < wat (q_at X Y) → sn (q_at X Y) = true) : sp_post wat sn X Y 0 sn :=
  ⟨fun _ h => h, fun _ h => Or.inl h, (fun c h1 h2 => by rw [h1] at h2; cases h2), h, Nat.le_refl _, by rw [Nat.sub_self]; rfl⟩
theorem sp_all {wat : Nat → Int32} {sn s1 s2 s3 s4 : Nat → Bool} {x y : Nat} {r1 r2 r3 r4 : Int32} (hx : x < 8) (hy : y < 8) (hs : sn (8 * y + x) = false) (hw : 0 < wat (8 * y + x)) (p1 : sp_post wat (q_mark sn (8 * y + x)) (nI x - 1) (nI y) r1 s1) (p2 : sp_post wat s1 (nI x + 1) (nI y) r2 s2) (p3 : sp_post wat s2 (nI x) (nI y - 1) r3 s3) (p4 : sp_post wat s3 (nI x) (nI y + 1) r4 s4) :
    sp_post wat sn (nI x) (nI y) (1 + r1 + r2 + r3 + r4) s4 := by
  have hk : 8 * y + x < 64 := by omega
  have hin : inC (nI x) (nI y) := (inC_nI (by omega) (by omega)).mpr ⟨by omega, by omega⟩
  have hat : q_at (nI x) (nI y) = 8 * y + x := qat_nI (by omega) (by omega)
  unfold sp_post
  rw [hat]
  obtain ⟨a1, b1, c1, d1, e1, f1⟩ := p1
  obtain ⟨a2, b2, c2, d2, e2, f2⟩ := p2
  obtain ⟨a3, b3, c3, d3, e3, f3⟩ := p3
  obtain ⟨a4, b4, c4, d4, e4, f4⟩ := p4
  have S0 : ∀ b, inC (nI x - 1) (nI y) ∧ q_at (nI x - 1) (nI y) = b ↔ q_nb (8 * y + x) 0 = some b := fun b => sp_0 hx hy
  have S1 : ∀ b, inC (nI x + 1) (nI y) ∧ q_at (nI x + 1) (nI y) = b ↔ q_nb (8 * y + x) 1 = some b := fun b => sp_1 hx hy
  have S2 : ∀ b, inC (nI x) (nI y - 1) ∧ q_at (nI x) (nI y - 1) = b ↔ q_nb (8 * y + x) 2 = some b := fun b => sp_2 hx hy
  have S3 : ∀ b, inC (nI x) (nI y + 1) ∧ q_at (nI x) (nI y + 1) = b ↔ q_nb (8 * y + x) 3 = some b := fun b => sp_3 hx hy
  generalize inC (nI x - 1) (nI y) = I0 at *
  generalize q_at (nI x - 1) (nI y) = k0 at *
  generalize inC (nI x + 1) (nI y) = I1 at *
  generalize q_at (nI x + 1) (nI y) = k1 at *
  generalize inC (nI x) (nI y - 1) = I2 at *
  generalize q_at (nI x) (nI y - 1) = k2 at *
  generalize inC (nI x) (nI y + 1) = I3 at *
  generalize q_at (nI x) (nI y + 1) = k3 at *
  generalize 8 * y + x = k at *
  have m0 : ∀ c, q_mark sn k c = true ↔ c = k ∨ sn c = true := by
    intro c
    unfold q_mark
    by_cases e : c = k
    · rw [if_pos e]; exact ⟨fun _ => Or.inl e, fun _ => rfl⟩
    · rw [if_neg e]; exact ⟨fun h => Or.inr h, fun h => h.resolve_left e⟩
  have st : ∀ {b s c : Nat}, q_nb k s = some b → lk_R wat b c → lk_R wat k c := fun hn hr => lk_trans (lk_step (lk_refl hw) hn hr.1) hr
  have n0 : q_cnt (q_mark sn k) 64 = q_cnt sn 64 + 1 := by rw [q_cnt_mark hs, if_pos hk]
  have M : ∀ c, q_mark sn k c = true → s4 c = true := fun c h => a4 c (a3 c (a2 c (a1 c h)))
  have near : ∀ b s, q_nb k s = some b → 0 < wat b → s4 b = true := by
    intro b s hn hb
    obtain ⟨s', hs', e'⟩ := nb_four k s
    rw [e'] at hn
    rcases (show s' = 0 ∨ s' = 1 ∨ s' = 2 ∨ s' = 3 by omega) with rfl | rfl | rfl | rfl
    · obtain ⟨i, e⟩ := (S0 b).mpr hn
      subst e
      exact a4 _ (a3 _ (a2 _ (d1 i hb)))
    · obtain ⟨i, e⟩ := (S1 b).mpr hn
      subst e
      exact a4 _ (a3 _ (d2 i hb))
    · obtain ⟨i, e⟩ := (S2 b).mpr hn
      subst e
      exact a4 _ (d3 i hb)
    · obtain ⟨i, e⟩ := (S3 b).mpr hn
      subst e
      exact d4 i hb
  have ff : ∀ b : Bool, b = true ∨ b = false := fun b => by cases b <;> simp
  refine ⟨fun c h => M c ((m0 c).mpr (Or.inr h)), fun c h => ?_, fun c h hn b s hb hwb => ?_, fun _ _ => M k ((m0 k).mpr (Or.inl rfl)), by omega, ?_⟩
  · rcases b4 c h with h | ⟨i, h⟩
    · rcases b3 c h with h | ⟨i, h⟩
      · rcases b2 c h with h | ⟨i, h⟩
        · rcases b1 c h with h | ⟨i, h⟩
          · rcases (m0 c).mp h with h | h
            · rw [h]; exact Or.inr ⟨hin, lk_refl hw⟩
            · exact Or.inl h
          · exact Or.inr ⟨hin, st ((S0 k0).mp ⟨i, rfl⟩) h⟩
        · exact Or.inr ⟨hin, st ((S1 k1).mp ⟨i, rfl⟩) h⟩
      · exact Or.inr ⟨hin, st ((S2 k2).mp ⟨i, rfl⟩) h⟩
    · exact Or.inr ⟨hin, st ((S3 k3).mp ⟨i, rfl⟩) h⟩
  · rcases ff (s3 c) with h3 | h3
    · rcases ff (s2 c) with h2 | h2
      · rcases ff (s1 c) with h1 | h1
        · rcases ff (q_mark sn k c) with h0 | h0
          · rcases (m0 c).mp h0 with h9 | h9
            · subst h9
              exact near b s hb hwb
            · rw [h9] at hn; cases hn
          · exact a4 b (a3 b (a2 b (c1 c h1 h0 b s hb hwb)))
        · exact a4 b (a3 b (c2 c h2 h1 b s hb hwb))
      · exact a4 b (c3 c h3 h2 b s hb hwb)
    · exact c4 c h h3 b s hb hwb
  · rw [f1, f2, f3, f4, show (1 : Int32) = nI 1 from rfl, nI_add, nI_add, nI_add, nI_add]
    congr 1
    omega
theorem cnt_lt {f g : Nat → Bool} {k : Nat} (hm : ∀ c, f c = true → g c = true) (hf : f k = false) (hg : g k = true) : ∀ n : Nat, k < n → q_cnt f n < q_cnt g n
  | 0, h => absurd h (Nat.not_lt_zero k)
  | n + 1, h => by
    have le : ∀ n : Nat, q_cnt f n ≤ q_cnt g n := by
      intro n
      induction n with
      | zero => exact Nat.le_refl _
      | succ n ih =>
        simp only [q_cnt]
        by_cases h1 : f n = true
        · rw [if_pos h1, if_pos (hm n h1)]; omega
        · rw [if_neg h1]; omega
    have h0 := le n
    simp only [q_cnt]
    by_cases e : k = n
    · subst e
      rw [if_neg (by rw [hf]; exact Bool.false_ne_true), if_pos hg]
      omega
    · have ih := cnt_lt hm hf hg n (by omega)
      by_cases h1 : f n = true
      · rw [if_pos h1, if_pos (hm n h1)]; omega
      · rw [if_neg h1]; omega
/-- over cells whose lakes are marked whole: one more lake, or nothing -/
theorem sp_lake {wat : Nat → Int32} {sn u : Nat → Bool} {x y : Nat} {v : Int32} (hx : x < 8) (hy : y < 8) (hC : lk_C wat (fun c => sn c = true)) (h : sp_post wat sn (nI x) (nI y) v u) : (∀ c, u c = true ↔ sn c = true ∨ lk_R wat (8 * y + x) c) ∧ (0 < v ↔ sn (8 * y + x) = false ∧ 0 < wat (8 * y + x)) := by
  have hk : 8 * y + x < 64 := by omega
  have hin : inC (nI x) (nI y) := (inC_nI (by omega) (by omega)).mpr ⟨by omega, by omega⟩
  have hat : q_at (nI x) (nI y) = 8 * y + x := qat_nI (by omega) (by omega)
  unfold sp_post at h
  rw [hat] at h
  obtain ⟨h1, h2, h3, h4, h5, h6⟩ := h
  generalize 8 * y + x = k at *
  have H : ∀ c, u c = true ↔ sn c = true ∨ lk_R wat k c := by
    intro c
    constructor
    · intro hu
      rcases h2 c hu with h | h
      · exact Or.inl h
      · exact Or.inr h.2
    · rintro (h | h)
      · exact h1 c h
      · refine h.2 (fun z => u z = true) (h4 hin h.1) (fun a b s ha hn hb => ?_)
        cases hz : sn a with
        | true => exact h1 b (hC a b s hz hn hb)
        | false => exact h3 a ha hz b s hn hb
  refine ⟨H, ?_⟩
  have hle := q_cnt_le u 64
  rw [h6, show (0 : Int32) = nI 0 from rfl, nI_ltI (by decide) (by omega)]
  constructor
  · intro hp
    apply Classical.byContradiction
    intro hn
    have e : ∀ c, u c = sn c := by
      intro c
      apply Bool.eq_iff_iff.mpr
      rw [H c]
      constructor
      · rintro (h | h)
        · exact h
        · have hs : sn k = true := by
            cases hz : sn k with
            | true => rfl
            | false => exact absurd ⟨hz, h.1⟩ hn
          exact lk_in hC hs h
      · exact fun h => Or.inl h
    have := q_cnt_eq 64 (fun c _ => e c)
    omega
  · rintro ⟨a, b⟩
    have := cnt_lt h1 a (h4 hin b) 64 hk
    omega
abbrev rm_spread (d : Nat) : Room := { frames := d, cells := 0, slots := 0, locals := 23 * d }
set_option maxHeartbeats 4000000 in
set_option maxRecDepth 100000 in
theorem c_spread (l : Launch) (D : va_G) (cI cJ cZ cB : ClassId) (h : Nat) (a : Nat → Nat) (r : Nat → Nat → Nat) (aw : Nat) (bw : Nat → Nat) (hei wat dam wea dra peo rai : Nat → Int32) (hou bro drd lef : Int32) (za : Nat) (zr : Nat → Nat) (hw0 : ∀ c, c < 64 → 0 ≤ wat c) : ∀ (d : Nat) (sn : Nat → Bool) (X Y : Int32), 64 < q_cnt sn 64 + d → ct_i (S := Nat → Bool) l D yX2_spread wsX2_spread (rm_spread d) [.ref h, .ref za, .int X, .int Y] ((sW h a r aw bw cI cJ hei wat dam wea dra peo rai hou bro drd lef) ++ (gr za zr cZ cB (q_bits sn))) [(cI, .int), (cJ, .array .int), (cZ, .boolean), (cB, .array .boolean)] (fun v u => sp_post wat sn X Y v u) (fun u => ((sW h a r aw bw cI cJ hei wat dam wea dra peo rai hou bro drd lef) ++ (gr za zr cZ cB (q_bits u)))) := by
  intro d
  induction d with
  | zero =>
    intro sn X Y hd
    exact absurd (q_cnt_le sn 64) (by omega)
  | succ d ih =>
  intro sn X Y hd
  refine ct_ofi (cc := cX2_spread) (maxL := 4) (by decide) rfl (Nat.le_of_ble_eq_true rfl) ?_
  intro p e s m args below meth c A Q hx hb hml hown hts hin hA hK H locs hP hD hS fin ls hl
  have hown : s.vm.findClass RX2 = some m.cls := hown
  have hl : lv_has ls 4 [(0, .ref h), (1, .ref za), (2, .int X), (3, .int Y)] := hl
  refine lv_iload_n hx hb dX2_spread_0 rfl (lv_at hl 2 rfl) ?_
  refine lv_if_lt (tgt := 39) hx hb dX2_spread_1 (by decide) (fun h1 => ?_) (fun h1 => ?_)
  · skip
    refine lv_iconst (v := 0) hx hb dX2_spread_39 (by decide) ?_
    exact fin 0 sn H locs 0 0 40 ls dX2_spread_40 (sp_none (fun hi _ => absurd hi.1.1 (Int32.not_le.mpr h1))) hP hD hS (Nat.le_of_ble_eq_true rfl) (Nat.le_of_ble_eq_true rfl)
  · skip
    refine lv_iload_n hx hb dX2_spread_4 rfl (lv_at hl 2 rfl) ?_
    refine lv_bipush (v := 7) hx hb dX2_spread_5 (by decide) ?_
    refine lv_icmp_gt (tgt := 39) hx hb dX2_spread_7 (by decide) (fun h2 => ?_) (fun h2 => ?_)
    · skip
      refine lv_iconst (v := 0) hx hb dX2_spread_39 (by decide) ?_
      exact fin 0 sn H locs 0 0 40 ls dX2_spread_40 (sp_none (fun hi _ => absurd hi.1.2 (Int32.not_le.mpr h2))) hP hD hS (Nat.le_of_ble_eq_true rfl) (Nat.le_of_ble_eq_true rfl)
    · skip
      refine lv_iload_n hx hb dX2_spread_10 rfl (lv_at hl 3 rfl) ?_
      refine lv_if_lt (tgt := 39) hx hb dX2_spread_11 (by decide) (fun h3 => ?_) (fun h3 => ?_)
      · skip
        refine lv_iconst (v := 0) hx hb dX2_spread_39 (by decide) ?_
        exact fin 0 sn H locs 0 0 40 ls dX2_spread_40 (sp_none (fun hi _ => absurd hi.2.1 (Int32.not_le.mpr h3))) hP hD hS (Nat.le_of_ble_eq_true rfl) (Nat.le_of_ble_eq_true rfl)
      · skip
        refine lv_iload_n hx hb dX2_spread_14 rfl (lv_at hl 3 rfl) ?_
        refine lv_bipush (v := 7) hx hb dX2_spread_15 (by decide) ?_
        refine lv_icmp_gt (tgt := 39) hx hb dX2_spread_17 (by decide) (fun h4 => ?_) (fun h4 => ?_)
        · skip
          refine lv_iconst (v := 0) hx hb dX2_spread_39 (by decide) ?_
          exact fin 0 sn H locs 0 0 40 ls dX2_spread_40 (sp_none (fun hi _ => absurd hi.2.2 (Int32.not_le.mpr h4))) hP hD hS (Nat.le_of_ble_eq_true rfl) (Nat.le_of_ble_eq_true rfl)
        · skip
          obtain ⟨x, hx7, rfl⟩ := nI_of2 (M := 7) (n := 7) rfl h1 (Int32.not_lt.mp h2)
          obtain ⟨y, hy7, rfl⟩ := nI_of2 (M := 7) (n := 7) rfl h3 (Int32.not_lt.mp h4)
          have hx8 : x < 8 := by omega
          have hy8 : y < 8 := by omega
          have hat : q_at (nI x) (nI y) = 8 * y + x := qat_nI (by omega) (by omega)
          refine lv_aload_n hx hb dX2_spread_20 rfl (lv_at hl 1 rfl) ?_
          refine lv_iload_n hx hb dX2_spread_21 rfl (lv_at hl 2 rfl) ?_
          refine gr_aald hx hb hK hP 56 3 rfl rfl x rfl (by omega) (by decide) dX2_spread_22 ?_
          refine lv_iload_n hx hb dX2_spread_23 rfl (lv_at hl 3 rfl) ?_
          refine gr_zald (v := (q_bits sn) (8 * y + x)) hx hb hK hP 57 2 rfl rfl x y (8 * y + x) (by omega) (by omega) rfl rfl rfl dX2_spread_24 ?_
          refine lv_if_ne (tgt := 39) hx hb dX2_spread_25 (by decide) (fun hs => ?_) (fun hs => ?_)
          · skip
            refine lv_iconst (v := 0) hx hb dX2_spread_39 (by decide) ?_
            exact fin 0 sn H locs 0 0 40 ls dX2_spread_40 (sp_none (fun _ _ => by rw [hat]; exact q_bits_1 hs)) hP hD hS (Nat.le_of_ble_eq_true rfl) (Nat.le_of_ble_eq_true rfl)
          · skip
            refine lv_aload_n hx hb dX2_spread_28 rfl (lv_at hl 0 rfl) ?_
            refine va_get (D := D) (ci := 2) (v := .ref aw) (C := RX2) (T := TX2) (N := 11) hx hb hts (fun _ h9 => (List.mem_cons_of_mem _ (List.mem_append_right _ h9))) hown hK hP 0 rfl rfl 1 (by decide) (hts (Cond.fieldLink RX2 14 "FloodGridLaw$Sim" "water" "[[I") (List.mem_of_getElem? (i := 1) rfl)) (fun _ h9 => h9) rfl dX2_spread_29 ?_
            refine lv_iload_n hx hb dX2_spread_32 rfl (lv_at hl 2 rfl) ?_
            refine gr_aald hx hb hK hP 10 1 rfl rfl x rfl (by omega) (by decide) dX2_spread_33 ?_
            refine lv_iload_n hx hb dX2_spread_34 rfl (lv_at hl 3 rfl) ?_
            refine gr_iald (v := wat (8 * y + x)) hx hb hK hP 11 0 rfl rfl x y (8 * y + x) (by omega) (by omega) rfl rfl rfl dX2_spread_35 ?_
            refine lv_if_ne (tgt := 41) hx hb dX2_spread_36 (by decide) (fun hw => ?_) (fun hw => ?_)
            · skip
              have hs : sn (8 * y + x) = false := q_bits_0 hs
              have hwp : 0 < wat (8 * y + x) := Int32.lt_iff_le_and_ne.mpr ⟨hw0 _ (by omega), fun h9 => hw h9.symm⟩
              refine lv_aload_n hx hb dX2_spread_41 rfl (lv_at hl 1 rfl) ?_
              refine lv_iload_n hx hb dX2_spread_42 rfl (lv_at hl 2 rfl) ?_
              refine gr_aald hx hb hK hP 56 3 rfl rfl x rfl (by omega) (by decide) dX2_spread_43 ?_
              refine lv_iload_n hx hb dX2_spread_44 rfl (lv_at hl 3 rfl) ?_
              refine lv_iconst (v := 1) hx hb dX2_spread_45 (by decide) ?_
              refine gr_zast (g := (q_bits (q_mark sn (8 * y + x)))) (ws1 := ((sW h a r aw bw cI cJ hei wat dam wea dra peo rai hou bro drd lef) ++ (gr za zr cZ cB (q_bits (q_mark sn (8 * y + x)))))) hx hb hK hP hD hS 57 2 rfl rfl x y (8 * y + x) (by omega) (by omega) rfl rfl (q_bits_mark sn _) rfl dX2_spread_46 (fun H locs hP hD hS => ?_)
              refine lv_iconst (v := 1) hx hb dX2_spread_47 (by decide) ?_
              refine lv_aload_n hx hb dX2_spread_48 rfl (lv_at hl 0 rfl) ?_
              refine lv_aload_n hx hb dX2_spread_49 rfl (lv_at hl 1 rfl) ?_
              refine lv_iload_n hx hb dX2_spread_50 rfl (lv_at hl 2 rfl) ?_
              refine lv_iconst (v := 1) hx hb dX2_spread_51 (by decide) ?_
              refine lv_isub hx hb dX2_spread_52 ?_
              refine lv_iload_n hx hb dX2_spread_53 rfl (lv_at hl 3 rfl) ?_
              have n0 : q_cnt (q_mark sn (8 * y + x)) 64 = q_cnt sn 64 + 1 := by rw [q_cnt_mark hs, if_pos (by omega)]
              refine cp_Vi (As := [.ref za, .int ((nI x) - 1), .int (nI y)]) (rest := [.int 1]) (wr := []) (cells1 := 0) (slots1 := 0) ⟨hx, hb, hml, hown, hts⟩ (ih (q_mark sn (8 * y + x)) (nI x - 1) (nI y) (by omega)) (cwV 3 hts gX2_spread_X2_spread rfl rfl rfl (by decide +kernel) ⟨Nat.le_refl _, by show 8 + (4 + 11) + 23 * d ≤ 23 * (d + 1); omega⟩) hK hP hD hS hA [0, 1, 2, 3] rfl (va_recv hK hP (ci := 2) (q0 := 0) rfl rfl) rfl hl.1 rfl (Nat.le_of_ble_eq_true rfl) rfl rfl ⟨Nat.le_of_ble_eq_true rfl, Nat.le_of_ble_eq_true rfl⟩ dX2_spread_54 (fun r1 s1 H locs p1 hP hD hS => ?_)
              have hP : va_P D vwCl ((sW h a r aw bw cI cJ hei wat dam wea dra peo rai hou bro drd lef) ++ (gr za zr cZ cB (q_bits s1))) H := hP
              have hD : va_D A ((sW h a r aw bw cI cJ hei wat dam wea dra peo rai hou bro drd lef) ++ (gr za zr cZ cB (q_bits s1))) := hD
              have c1 := p1.2.2.2.2.1
              refine lv_iadd hx hb dX2_spread_57 ?_
              refine lv_aload_n hx hb dX2_spread_58 rfl (lv_at hl 0 rfl) ?_
              refine lv_aload_n hx hb dX2_spread_59 rfl (lv_at hl 1 rfl) ?_
              refine lv_iload_n hx hb dX2_spread_60 rfl (lv_at hl 2 rfl) ?_
              refine lv_iconst (v := 1) hx hb dX2_spread_61 (by decide) ?_
              refine lv_iadd hx hb dX2_spread_62 ?_
              refine lv_iload_n hx hb dX2_spread_63 rfl (lv_at hl 3 rfl) ?_
              refine cp_Vi (As := [.ref za, .int ((nI x) + 1), .int (nI y)]) (rest := [.int (1 + r1)]) (wr := []) (cells1 := 0) (slots1 := 0) ⟨hx, hb, hml, hown, hts⟩ (ih s1 (nI x + 1) (nI y) (by omega)) (cwV 3 hts gX2_spread_X2_spread rfl rfl rfl (by decide +kernel) ⟨Nat.le_refl _, by show 8 + (4 + 11) + 23 * d ≤ 23 * (d + 1); omega⟩) hK hP hD hS hA [0, 1, 2, 3] rfl (va_recv hK hP (ci := 2) (q0 := 0) rfl rfl) rfl hl.1 rfl (Nat.le_of_ble_eq_true rfl) rfl rfl ⟨Nat.le_of_ble_eq_true rfl, Nat.le_of_ble_eq_true rfl⟩ dX2_spread_64 (fun r2 s2 H locs p2 hP hD hS => ?_)
              have hP : va_P D vwCl ((sW h a r aw bw cI cJ hei wat dam wea dra peo rai hou bro drd lef) ++ (gr za zr cZ cB (q_bits s2))) H := hP
              have hD : va_D A ((sW h a r aw bw cI cJ hei wat dam wea dra peo rai hou bro drd lef) ++ (gr za zr cZ cB (q_bits s2))) := hD
              have c2 := p2.2.2.2.2.1
              refine lv_iadd hx hb dX2_spread_67 ?_
              refine lv_aload_n hx hb dX2_spread_68 rfl (lv_at hl 0 rfl) ?_
              refine lv_aload_n hx hb dX2_spread_69 rfl (lv_at hl 1 rfl) ?_
              refine lv_iload_n hx hb dX2_spread_70 rfl (lv_at hl 2 rfl) ?_
              refine lv_iload_n hx hb dX2_spread_71 rfl (lv_at hl 3 rfl) ?_
              refine lv_iconst (v := 1) hx hb dX2_spread_72 (by decide) ?_
              refine lv_isub hx hb dX2_spread_73 ?_
              refine cp_Vi (As := [.ref za, .int (nI x), .int ((nI y) - 1)]) (rest := [.int ((1 + r1) + r2)]) (wr := []) (cells1 := 0) (slots1 := 0) ⟨hx, hb, hml, hown, hts⟩ (ih s2 (nI x) (nI y - 1) (by omega)) (cwV 3 hts gX2_spread_X2_spread rfl rfl rfl (by decide +kernel) ⟨Nat.le_refl _, by show 8 + (4 + 11) + 23 * d ≤ 23 * (d + 1); omega⟩) hK hP hD hS hA [0, 1, 2, 3] rfl (va_recv hK hP (ci := 2) (q0 := 0) rfl rfl) rfl hl.1 rfl (Nat.le_of_ble_eq_true rfl) rfl rfl ⟨Nat.le_of_ble_eq_true rfl, Nat.le_of_ble_eq_true rfl⟩ dX2_spread_74 (fun r3 s3 H locs p3 hP hD hS => ?_)
              have hP : va_P D vwCl ((sW h a r aw bw cI cJ hei wat dam wea dra peo rai hou bro drd lef) ++ (gr za zr cZ cB (q_bits s3))) H := hP
              have hD : va_D A ((sW h a r aw bw cI cJ hei wat dam wea dra peo rai hou bro drd lef) ++ (gr za zr cZ cB (q_bits s3))) := hD
              have c3 := p3.2.2.2.2.1
              refine lv_iadd hx hb dX2_spread_77 ?_
              refine lv_aload_n hx hb dX2_spread_78 rfl (lv_at hl 0 rfl) ?_
              refine lv_aload_n hx hb dX2_spread_79 rfl (lv_at hl 1 rfl) ?_
              refine lv_iload_n hx hb dX2_spread_80 rfl (lv_at hl 2 rfl) ?_
              refine lv_iload_n hx hb dX2_spread_81 rfl (lv_at hl 3 rfl) ?_
              refine lv_iconst (v := 1) hx hb dX2_spread_82 (by decide) ?_
              refine lv_iadd hx hb dX2_spread_83 ?_
              refine cp_Vi (As := [.ref za, .int (nI x), .int ((nI y) + 1)]) (rest := [.int (((1 + r1) + r2) + r3)]) (wr := []) (cells1 := 0) (slots1 := 0) ⟨hx, hb, hml, hown, hts⟩ (ih s3 (nI x) (nI y + 1) (by omega)) (cwV 3 hts gX2_spread_X2_spread rfl rfl rfl (by decide +kernel) ⟨Nat.le_refl _, by show 8 + (4 + 11) + 23 * d ≤ 23 * (d + 1); omega⟩) hK hP hD hS hA [0, 1, 2, 3] rfl (va_recv hK hP (ci := 2) (q0 := 0) rfl rfl) rfl hl.1 rfl (Nat.le_of_ble_eq_true rfl) rfl rfl ⟨Nat.le_of_ble_eq_true rfl, Nat.le_of_ble_eq_true rfl⟩ dX2_spread_84 (fun r4 s4 H locs p4 hP hD hS => ?_)
              have hP : va_P D vwCl ((sW h a r aw bw cI cJ hei wat dam wea dra peo rai hou bro drd lef) ++ (gr za zr cZ cB (q_bits s4))) H := hP
              have hD : va_D A ((sW h a r aw bw cI cJ hei wat dam wea dra peo rai hou bro drd lef) ++ (gr za zr cZ cB (q_bits s4))) := hD
              have c4 := p4.2.2.2.2.1
              refine lv_iadd hx hb dX2_spread_87 ?_
              exact fin ((((1 + r1) + r2) + r3) + r4) s4 H locs 0 0 88 ls dX2_spread_88 (sp_all hx8 hy8 hs hwp p1 p2 p3 p4) hP hD hS (Nat.le_of_ble_eq_true rfl) (Nat.le_of_ble_eq_true rfl)
            · skip
              have hw2 : wat (8 * y + x) = 0 := hw
              refine lv_iconst (v := 0) hx hb dX2_spread_39 (by decide) ?_
              exact fin 0 sn H locs 0 0 40 ls dX2_spread_40 (sp_none (fun _ h9 => by rw [hat, hw2] at h9; exact absurd h9 (by decide))) hP hD hS (Nat.le_of_ble_eq_true rfl) (Nat.le_of_ble_eq_true rfl)
