/-! lakes in mathematics: cells that hang together -/
def lk_R (wat : Nat → Int32) (c d : Nat) : Prop := 0 < wat c ∧ ∀ P : Nat → Prop, P c → (∀ a b s : Nat, P a → q_nb a s = some b → 0 < wat b → P b) → P d
def lk_C (wat : Nat → Int32) (S : Nat → Prop) : Prop := ∀ a b s : Nat, S a → q_nb a s = some b → 0 < wat b → S b
section LKR
variable {wat : Nat → Int32} {a b c d s : Nat}
theorem lk_refl (h : 0 < wat c) : lk_R wat c c := ⟨h, fun _ h1 _ => h1⟩
theorem lk_step (h : lk_R wat c d) (hn : q_nb d s = some b) (hb : 0 < wat b) : lk_R wat c b := ⟨h.1, fun P h1 h2 => h2 d b s (h.2 P h1 h2) hn hb⟩
theorem lk_trans (h : lk_R wat a b) (h2 : lk_R wat b c) : lk_R wat a c := ⟨h.1, fun P p1 p2 => h2.2 P (h.2 P p1 p2) p2⟩
theorem lk_wet (h : lk_R wat a b) : 0 < wat b := h.2 (fun c => 0 < wat c) h.1 (fun _ _ _ _ _ h => h)
theorem lk_lt (h : lk_R wat a b) (ha : a < 64) : b < 64 := h.2 (fun x => x < 64) ha (fun _ _ _ hx hn _ => q_nb_lt hx hn)
theorem lk_in {S : Nat → Prop} (hC : lk_C wat S) (ha : S a) (h : lk_R wat a b) : S b := h.2 S ha hC
end LKR
theorem nb_back {k j : Nat} (hk : k < 64) : ∀ {s : Nat}, q_nb k s = some j → ∃ s', q_nb j s' = some k
  | 0, h => by
    simp only [q_nb] at h
    split at h
    · cases h
      refine ⟨1, ?_⟩
      simp only [q_nb]
      rw [if_pos (by omega), show k - 1 + 1 = k by omega]
    · cases h
  | 1, h => by
    simp only [q_nb] at h
    split at h
    · cases h
      refine ⟨0, ?_⟩
      simp only [q_nb]
      rw [if_pos (by omega), show k + 1 - 1 = k by omega]
    · cases h
  | 2, h => by
    simp only [q_nb] at h
    split at h
    · cases h
      refine ⟨3, ?_⟩
      simp only [q_nb]
      rw [if_pos (by omega), show k - 8 + 8 = k by omega]
    · cases h
  | n + 3, h => by
    simp only [q_nb] at h
    split at h
    · cases h
      refine ⟨2, ?_⟩
      simp only [q_nb]
      rw [if_pos (by omega), show k + 8 - 8 = k by omega]
    · cases h
theorem nb_four (k : Nat) : ∀ s : Nat, ∃ s', s' < 4 ∧ q_nb k s = q_nb k s'
  | 0 => ⟨0, by decide, rfl⟩
  | 1 => ⟨1, by decide, rfl⟩
  | 2 => ⟨2, by decide, rfl⟩
  | n + 3 => ⟨3, by decide, rfl⟩
theorem lk_symm {wat : Nat → Int32} {a b : Nat} (ha : a < 64) (h : lk_R wat a b) : lk_R wat b a :=
  (h.2 (fun x => x < 64 ∧ 0 < wat x ∧ lk_R wat x a) ⟨ha, h.1, lk_refl h.1⟩ (fun x y s hx hn hy => by
    obtain ⟨h1, h2, h3⟩ := hx
    obtain ⟨s', hs'⟩ := nb_back h1 hn
    exact ⟨q_nb_lt h1 hn, hy, lk_trans (lk_step (lk_refl hy) hs' h2) h3⟩)).2.2
/-! what is found from a cell on is its lake -/
def lk_I (wat : Nat → Int32) (sn : Nat → Bool) (k : Nat) (z : Ls) : Prop := (∀ c, z.1 c = true ↔ sn c = true ∨ c ∈ z.2) ∧ (∀ c ∈ z.2, lk_R wat k c ∧ c < 64) ∧ z.2.length + q_cnt sn 64 = q_cnt z.1 64
theorem lk_I_meet {wat : Nat → Int32} {sn : Nat → Bool} {k : Nat} {o : Option Nat} {z : Ls} (ho : ∀ j, o = some j → j < 64 ∧ (0 < wat j → lk_R wat k j)) (h : lk_I wat sn k z) :
    lk_I wat sn k (q_meet wat o z) ∧ (∀ c, z.1 c = true → (q_meet wat o z).1 c = true) ∧ ∀ j, o = some j → 0 < wat j → (q_meet wat o z).1 j = true := by
  cases o with
  | none => exact ⟨h, fun _ h1 => h1, fun j hj => by cases hj⟩
  | some j =>
    obtain ⟨hj, hr⟩ := ho j rfl
    by_cases hc : z.1 j = false ∧ 0 < wat j
    · rw [q_meet_yes hc]
      obtain ⟨h1, h2, h3⟩ := h
      refine ⟨⟨fun c => ?_, fun c hm => ?_, ?_⟩, fun c h9 => ?_, fun i hi _ => ?_⟩
      · show q_mark z.1 j c = true ↔ sn c = true ∨ c ∈ z.2 ++ [j]
        unfold q_mark
        by_cases e : c = j
        · rw [if_pos e]
          exact ⟨fun _ => Or.inr (by rw [e]; exact List.mem_append_right _ List.mem_cons_self), fun _ => rfl⟩
        · rw [if_neg e, h1 c]
          constructor
          · rintro (h4 | h4)
            · exact Or.inl h4
            · exact Or.inr (List.mem_append_left _ h4)
          · rintro (h4 | h4)
            · exact Or.inl h4
            · rcases List.mem_append.mp h4 with h5 | h5
              · exact Or.inr h5
              · exact absurd (List.mem_singleton.mp h5) e
      · rcases List.mem_append.mp hm with h5 | h5
        · exact h2 c h5
        · rw [List.mem_singleton.mp h5]
          exact ⟨hr hc.2, hj⟩
      · show (z.2 ++ [j]).length + q_cnt sn 64 = q_cnt (q_mark z.1 j) 64
        rw [q_cnt_mark hc.1, if_pos hj, List.length_append, ← h3]
        simp only [List.length_cons, List.length_nil]
        omega
      · show q_mark z.1 j c = true
        unfold q_mark
        split
        · rfl
        · exact h9
      · cases hi
        show q_mark z.1 j j = true
        unfold q_mark
        rw [if_pos rfl]
    · rw [q_meet_no hc]
      refine ⟨h, fun _ h1 => h1, fun i hi hw => ?_⟩
      cases hi
      cases hz : z.1 j with
      | true => rfl
      | false => exact absurd ⟨hz, hw⟩ hc
theorem lk_I_sides {wat : Nat → Int32} {sn : Nat → Bool} {k k' : Nat} {z : Ls} (hk : lk_R wat k k' ∧ k' < 64) (h : lk_I wat sn k z) : ∀ s : Nat,
    lk_I wat sn k (q_sides wat k' s z) ∧ (∀ c, z.1 c = true → (q_sides wat k' s z).1 c = true) ∧ ∀ s' j, s' < s → q_nb k' s' = some j → 0 < wat j → (q_sides wat k' s z).1 j = true
  | 0 => ⟨h, fun _ h1 => h1, fun s' j hs => absurd hs (Nat.not_lt_zero s')⟩
  | s + 1 => by
    obtain ⟨h1, h2, h3⟩ := lk_I_sides hk h s
    obtain ⟨g1, g2, g3⟩ := lk_I_meet (o := q_nb k' s) (fun j hj => ⟨q_nb_lt hk.2 hj, fun hw => lk_step hk.1 hj hw⟩) h1
    refine ⟨g1, fun c hc => g2 c (h2 c hc), fun s' j hs hn hw => ?_⟩
    by_cases e : s' = s
    · subst e
      exact g3 j hn hw
    · exact g2 j (h3 s' j (by omega) hn hw)
theorem lk_I_spread {wat : Nat → Int32} {sn : Nat → Bool} {k : Nat} : ∀ (n i : Nat) {z : Ls}, i + n = 64 → lk_I wat sn k z → (∀ j, j < i → j < z.2.length → ∀ s b, q_nb (z.2.getD j 0) s = some b → 0 < wat b → z.1 b = true) →
    lk_I wat sn k (q_spread wat n z) ∧ (∀ c, z.1 c = true → (q_spread wat n z).1 c = true) ∧ ∀ j, j < (q_spread wat n z).2.length → ∀ s b, q_nb ((q_spread wat n z).2.getD j 0) s = some b → 0 < wat b → (q_spread wat n z).1 b = true
  | 0, i, z, hi, h, hc => ⟨h, fun _ h1 => h1, fun j hj s b hn hw => by
    have h1 : z.2.length ≤ 64 := by
      have h2 := h.2.2
      have h3 := q_cnt_le z.1 64
      omega
    exact hc j (by have : j < z.2.length := hj; omega) hj s b hn hw⟩
  | n + 1, i, z, hi, h, hc => by
    by_cases hl : i < z.2.length
    · rw [q_spread_go hi hl]
      have hm : z.2.getD i 0 ∈ z.2 := by
        rw [List.getD_eq_getElem?_getD, List.getElem?_eq_getElem hl]
        exact List.getElem_mem hl
      obtain ⟨g1, g2, g3⟩ := lk_I_sides (h.2.1 _ hm) h 4
      obtain ⟨f1, f2, f3⟩ := lk_I_spread n (i + 1) (by omega) g1 (fun j hj hl2 s b hn hw => by
        by_cases e : j = i
        · subst e
          rw [(q_sides_get (wat := wat) (k := z.2.getD j 0) hl 4).2] at hn
          obtain ⟨s', hs', e'⟩ := nb_four (z.2.getD j 0) s
          rw [e'] at hn
          exact g3 s' b hs' hn hw
        · have hj2 : j < z.2.length := by omega
          rw [(q_sides_get (wat := wat) (k := z.2.getD i 0) hj2 4).2] at hn
          exact g2 b (hc j (by omega) hj2 s b hn hw))
      exact ⟨f1, fun c h9 => f2 c (g2 c h9), f3⟩
    · rw [q_spread_stop hi (by omega)]
      exact ⟨h, fun _ h1 => h1, fun j hj s b hn hw => hc j (by omega) hj s b hn hw⟩
theorem lk_from {wat : Nat → Int32} {sn : Nat → Bool} {k : Nat} (hk : k < 64) (hC : lk_C wat (fun c => sn c = true)) :
    (∀ c, (q_from wat sn k).1 c = true ↔ sn c = true ∨ lk_R wat k c) ∧ (0 < (q_from wat sn k).2.length ↔ sn k = false ∧ 0 < wat k) ∧ (q_from wat sn k).2.length + q_cnt sn 64 = q_cnt (q_from wat sn k).1 64 := by
  by_cases hc : sn k = false ∧ 0 < wat k
  · have e1 : q_from wat sn k = q_spread wat 64 (q_mark sn k, [] ++ [k]) := by
      unfold q_from
      rw [q_meet_yes (z := (sn, [])) hc]
    have h0 : lk_I wat sn k (sn, []) := ⟨fun c => ⟨fun h => Or.inl h, fun h => h.elim id (fun h => absurd h List.not_mem_nil)⟩, fun c h => absurd h List.not_mem_nil, by simp⟩
    obtain ⟨g1, g2, g3⟩ := lk_I_meet (o := some k) (fun j hj => by cases hj; exact ⟨hk, fun hw => lk_refl hw⟩) h0
    rw [q_meet_yes (z := (sn, [])) hc] at g1 g2 g3
    obtain ⟨f1, f2, f3⟩ := lk_I_spread 64 0 (by omega) g1 (fun j hj => absurd hj (Nat.not_lt_zero j))
    rw [← e1] at f1 f2 f3
    generalize q_from wat sn k = z at f1 f2 f3
    have hkz : z.1 k = true := f2 k (g3 k rfl hc.2)
    have hkm : k ∈ z.2 := by
      rcases (f1.1 k).mp hkz with h | h
      · rw [hc.1] at h; cases h
      · exact h
    refine ⟨fun c => ⟨fun h => ?_, fun h => ?_⟩, ⟨fun _ => hc, fun _ => List.length_pos_of_mem hkm⟩, f1.2.2⟩
    · rcases (f1.1 c).mp h with h | h
      · exact Or.inl h
      · exact Or.inr (f1.2.1 c h).1
    · rcases h with h | h
      · exact (f1.1 c).mpr (Or.inl h)
      · refine h.2 (fun x => z.1 x = true) hkz (fun x y s hx hn hy => ?_)
        rcases (f1.1 x).mp hx with h9 | h9
        · exact (f1.1 y).mpr (Or.inl (hC x y s h9 hn hy))
        · obtain ⟨j, hj, e⟩ := List.getElem_of_mem h9
          refine f3 j hj s y ?_ hy
          rw [List.getD_eq_getElem?_getD, List.getElem?_eq_getElem hj, e]
          exact hn
  · have e1 : q_from wat sn k = (sn, []) := by
      unfold q_from
      rw [q_meet_no (z := (sn, [])) hc]
      exact q_spread_stop (n := 63) (i := 0) rfl (Nat.le_refl 0)
    rw [e1]
    refine ⟨fun c => ⟨fun h => Or.inl h, fun h => ?_⟩, ⟨fun h => absurd h (Nat.lt_irrefl 0), fun h => absurd h hc⟩, by simp⟩
    rcases h with h | h
    · exact h
    · have hs : sn k = true := by
        cases hz : sn k with
        | true => rfl
        | false => exact absurd ⟨hz, h.1⟩ hc
      exact lk_in hC hs h
theorem lk_C_up {wat : Nat → Int32} {S T : Nat → Prop} {k : Nat} (hC : lk_C wat S) (h : ∀ c, T c ↔ S c ∨ lk_R wat k c) : lk_C wat T := by
  intro a b s ha hn hb
  rcases (h a).mp ha with h1 | h1
  · exact (h b).mpr (Or.inl (hC a b s h1 hn hb))
  · exact (h b).mpr (Or.inr (lk_step h1 hn hb))
theorem lk_C_no (wat : Nat → Int32) : lk_C wat (fun _ => false = true) := fun _ _ _ h => by cases h
/-! one lake: 0 just if it is dry, the same for neighbours -/
theorem q_cnt_eq {f g : Nat → Bool} : ∀ n : Nat, (∀ c, c < n → f c = g c) → q_cnt f n = q_cnt g n
  | 0, _ => rfl
  | n + 1, h => by
    simp only [q_cnt]
    rw [q_cnt_eq n (fun c hc => h c (by omega)), h n (by omega)]
theorem q_cnt_none : ∀ n : Nat, q_cnt (fun _ => false) n = 0
  | 0 => rfl
  | n + 1 => by simp [q_cnt, q_cnt_none n]
theorem lake_dry {wat : Nat → Int32} {k : Nat} (hk : k < 64) : q_lakeSize wat k = 0 ↔ ¬ 0 < wat k := by
  obtain ⟨-, h2, -⟩ := lk_from (sn := fun _ => false) hk (lk_C_no wat)
  have hl := q_from_len wat (fun _ => false) hk
  unfold q_lakeSize
  generalize (q_from wat (fun _ => false) k).2.length = n at h2 hl
  rw [show (0 : Int32) = nI 0 from rfl, nI_eq (by omega) (by decide)]
  constructor
  · rintro rfl h
    exact absurd (h2.mpr ⟨rfl, h⟩) (Nat.lt_irrefl 0)
  · intro h
    apply Classical.byContradiction
    intro hn
    exact h (h2.mp (by omega)).2
theorem lake_same {wat : Nat → Int32} {j k s : Nat} (hk : k < 64) (hn : q_nb k s = some j) (hwk : 0 < wat k) (hwj : 0 < wat j) : q_lakeSize wat k = q_lakeSize wat j := by
  have hj := q_nb_lt hk hn
  obtain ⟨a1, -, a3⟩ := lk_from (sn := fun _ => false) hk (lk_C_no wat)
  obtain ⟨b1, -, b3⟩ := lk_from (sn := fun _ => false) hj (lk_C_no wat)
  have hkj : lk_R wat k j := lk_step (lk_refl hwk) hn hwj
  have hjk : lk_R wat j k := lk_symm hk hkj
  have e : q_cnt (q_from wat (fun _ => false) k).1 64 = q_cnt (q_from wat (fun _ => false) j).1 64 := by
    refine q_cnt_eq 64 (fun c _ => ?_)
    have h1 : (q_from wat (fun _ => false) k).1 c = true ↔ (q_from wat (fun _ => false) j).1 c = true := by
      rw [a1 c, b1 c]
      constructor
      · rintro (h | h)
        · exact Or.inl h
        · exact Or.inr (lk_trans hjk h)
      · rintro (h | h)
        · exact Or.inl h
        · exact Or.inr (lk_trans hkj h)
    exact Bool.eq_iff_iff.mpr h1
  rw [q_cnt_none] at a3 b3
  unfold q_lakeSize
  congr 1
  omega
/-! how many lakes: the cells of a row that lie in no lake of one before -/
noncomputable def lk_b (P : Prop) : Nat := @ite _ P (Classical.propDecidable P) 1 0
theorem lk_b_yes {P : Prop} (h : P) : lk_b P = 1 := by unfold lk_b; exact if_pos h
theorem lk_b_no {P : Prop} (h : ¬ P) : lk_b P = 0 := by unfold lk_b; exact if_neg h
theorem lk_b_eq {P Q : Prop} (h : P ↔ Q) : lk_b P = lk_b Q := by rw [propext h]
noncomputable def lk_n (wat : Nat → Int32) : List Nat → (Nat → Prop) → Nat
  | [], _ => 0
  | k :: l, S => lk_b (0 < wat k ∧ ¬ S k) + lk_n wat l (fun c => S c ∨ lk_R wat k c)
theorem lk_n_eq {wat : Nat → Int32} {l : List Nat} {S T : Nat → Prop} (h : ∀ c, S c ↔ T c) : lk_n wat l S = lk_n wat l T := by
  rw [show S = T from funext fun c => propext (h c)]
theorem lk_n_app {wat : Nat → Int32} (l2 : List Nat) : ∀ (l1 : List Nat) (S : Nat → Prop), lk_n wat (l1 ++ l2) S = lk_n wat l1 S + lk_n wat l2 (fun c => S c ∨ ∃ k, k ∈ l1 ∧ lk_R wat k c)
  | [], S => by
    rw [show lk_n wat ([] : List Nat) S = 0 from rfl, Nat.zero_add]
    exact lk_n_eq (fun c => ⟨fun h => Or.inl h, fun h => h.elim id (fun ⟨k, hk, _⟩ => absurd hk List.not_mem_nil)⟩)
  | k :: l1, S => by
    show lk_b (0 < wat k ∧ ¬ S k) + lk_n wat (l1 ++ l2) (fun c => S c ∨ lk_R wat k c) = lk_b (0 < wat k ∧ ¬ S k) + lk_n wat l1 (fun c => S c ∨ lk_R wat k c) + _
    rw [lk_n_app l2 l1, Nat.add_assoc]
    congr 2
    refine lk_n_eq (fun c => ?_)
    constructor
    · rintro ((h | h) | ⟨j, hj, h⟩)
      · exact Or.inl h
      · exact Or.inr ⟨k, List.mem_cons_self, h⟩
      · exact Or.inr ⟨j, List.mem_cons_of_mem _ hj, h⟩
    · rintro (h | ⟨j, hj, h⟩)
      · exact Or.inl (Or.inl h)
      · rcases List.mem_cons.mp hj with rfl | hj
        · exact Or.inl (Or.inr h)
        · exact Or.inr ⟨j, hj, h⟩
theorem lk_n_perm {wat : Nat → Int32} {l1 l2 : List Nat} (h : l1.Perm l2) : ∀ (S : Nat → Prop), lk_C wat S → (∀ k, k ∈ l1 → k < 64) → lk_n wat l1 S = lk_n wat l2 S := by
  induction h with
  | nil => intro S _ _; rfl
  | cons a _ ih =>
    intro S hC hl
    show lk_b _ + lk_n wat _ _ = lk_b _ + lk_n wat _ _
    rw [ih _ (lk_C_up hC (fun c => Iff.rfl)) (fun k hk => hl k (List.mem_cons_of_mem _ hk))]
  | swap x y l =>
    intro S hC hl
    have hy : y < 64 := hl y List.mem_cons_self
    have hx : x < 64 := hl x (List.mem_cons_of_mem _ List.mem_cons_self)
    show lk_b (0 < wat y ∧ ¬ S y) + (lk_b (0 < wat x ∧ ¬ (S x ∨ lk_R wat y x)) + lk_n wat l (fun c => (S c ∨ lk_R wat y c) ∨ lk_R wat x c)) = lk_b (0 < wat x ∧ ¬ S x) + (lk_b (0 < wat y ∧ ¬ (S y ∨ lk_R wat x y)) + lk_n wat l (fun c => (S c ∨ lk_R wat x c) ∨ lk_R wat y c))
    have et : lk_n wat l (fun c => (S c ∨ lk_R wat y c) ∨ lk_R wat x c) = lk_n wat l (fun c => (S c ∨ lk_R wat x c) ∨ lk_R wat y c) := lk_n_eq (fun c => or_right_comm)
    rw [et]
    by_cases hr : lk_R wat y x
    · have hr2 : lk_R wat x y := lk_symm hy hr
      have hs : S y ↔ S x := ⟨fun h => lk_in hC h hr, fun h => lk_in hC h hr2⟩
      rw [lk_b_no (P := 0 < wat x ∧ ¬ (S x ∨ lk_R wat y x)) (fun h => h.2 (Or.inr hr)), lk_b_no (P := 0 < wat y ∧ ¬ (S y ∨ lk_R wat x y)) (fun h => h.2 (Or.inr hr2)), lk_b_eq (P := 0 < wat y ∧ ¬ S y) (Q := 0 < wat x ∧ ¬ S x) ⟨fun h => ⟨hr2.1, fun h9 => h.2 (hs.mpr h9)⟩, fun h => ⟨hr.1, fun h9 => h.2 (hs.mp h9)⟩⟩]
    · have hr2 : ¬ lk_R wat x y := fun h => hr (lk_symm hx h)
      rw [lk_b_eq (P := 0 < wat x ∧ ¬ (S x ∨ lk_R wat y x)) (Q := 0 < wat x ∧ ¬ S x) ⟨fun h => ⟨h.1, fun h9 => h.2 (Or.inl h9)⟩, fun h => ⟨h.1, fun h9 => h9.elim h.2 hr⟩⟩, lk_b_eq (P := 0 < wat y ∧ ¬ (S y ∨ lk_R wat x y)) (Q := 0 < wat y ∧ ¬ S y) ⟨fun h => ⟨h.1, fun h9 => h.2 (Or.inl h9)⟩, fun h => ⟨h.1, fun h9 => h9.elim h.2 hr2⟩⟩]
      omega
  | trans h1 _ ih1 ih2 =>
    intro S hC hl
    rw [ih1 S hC hl]
    exact ih2 S hC (fun k hk => hl k (h1.mem_iff.mpr hk))
abbrev lk_0 : Nat → Prop := fun _ => False
theorem lk_C_0 (wat : Nat → Int32) : lk_C wat lk_0 := fun _ _ _ h => h.elim
theorem lk_lakesS (wat : Nat → Int32) : ∀ i : Nat, i ≤ 64 → (∀ c, (q_lakesS wat i).1 c = true ↔ ∃ k, k ∈ List.range i ∧ lk_R wat k c) ∧ lk_C wat (fun c => (q_lakesS wat i).1 c = true) ∧ (q_lakesS wat i).2 = lk_n wat (List.range i) lk_0
  | 0, _ => by
    refine ⟨fun c => ⟨fun h => (by cases h), fun h => ?_⟩, fun a b s h => (by cases h), rfl⟩
    obtain ⟨k, hk, -⟩ := h
    simp at hk
  | i + 1, hi => by
    obtain ⟨h1, h2, h3⟩ := lk_lakesS wat i (by omega)
    obtain ⟨g1, g2, -⟩ := lk_from (sn := (q_lakesS wat i).1) (show i < 64 by omega) h2
    have e1 : (q_lakesS wat (i + 1)).1 = (q_from wat (q_lakesS wat i).1 i).1 := rfl
    have e2 : (q_lakesS wat (i + 1)).2 = if 0 < (q_from wat (q_lakesS wat i).1 i).2.length then (q_lakesS wat i).2 + 1 else (q_lakesS wat i).2 := rfl
    have c1 : ∀ c, (q_lakesS wat (i + 1)).1 c = true ↔ (q_lakesS wat i).1 c = true ∨ lk_R wat i c := fun c => by rw [e1]; exact g1 c
    refine ⟨fun c => ?_, lk_C_up h2 c1, ?_⟩
    · rw [c1 c, h1 c, List.range_succ]
      constructor
      · rintro (⟨k, hk, h⟩ | h)
        · exact ⟨k, List.mem_append_left _ hk, h⟩
        · exact ⟨i, List.mem_append_right _ List.mem_cons_self, h⟩
      · rintro ⟨k, hk, h⟩
        rcases List.mem_append.mp hk with hk | hk
        · exact Or.inl ⟨k, hk, h⟩
        · rw [List.mem_singleton.mp hk] at h
          exact Or.inr h
    · rw [e2, List.range_succ, lk_n_app, ← h3]
      show _ = (q_lakesS wat i).2 + (lk_b (0 < wat i ∧ ¬ (False ∨ ∃ k, k ∈ List.range i ∧ lk_R wat k i)) + 0)
      by_cases hc : 0 < (q_from wat (q_lakesS wat i).1 i).2.length
      · rw [if_pos hc, lk_b_yes]
        obtain ⟨a1, a2⟩ := g2.mp hc
        refine ⟨a2, fun h => ?_⟩
        rcases h with h | h
        · exact h
        · rw [(h1 i).mpr h] at a1
          cases a1
      · have hno : ¬ (0 < wat i ∧ ¬ (False ∨ ∃ k, k ∈ List.range i ∧ lk_R wat k i)) := by
          rintro ⟨a2, a1⟩
          refine hc (g2.mpr ⟨?_, a2⟩)
          cases hz : (q_lakesS wat i).1 i with
          | false => rfl
          | true => exact absurd (Or.inr ((h1 i).mp hz)) a1
        rw [if_neg hc, lk_b_no hno]
        omega
theorem lk_lakes (wat : Nat → Int32) : q_lakes wat = nI (lk_n wat (List.range 64) lk_0) := by
  unfold q_lakes
  rw [(lk_lakesS wat 64 (Nat.le_refl 64)).2.2]
/-- no more lakes than wet cells; some just if there are some -/
noncomputable def lk_w (wat : Nat → Int32) : List Nat → Nat
  | [] => 0
  | k :: l => lk_b (0 < wat k) + lk_w wat l
theorem lk_n_le {wat : Nat → Int32} : ∀ (l : List Nat) (S : Nat → Prop), lk_n wat l S ≤ lk_w wat l
  | [], _ => Nat.le_refl 0
  | k :: l, S => by
    have ih := lk_n_le (wat := wat) l (fun c => S c ∨ lk_R wat k c)
    show lk_b _ + lk_n wat l _ ≤ lk_b _ + lk_w wat l
    by_cases h : 0 < wat k ∧ ¬ S k
    · rw [lk_b_yes h, lk_b_yes h.1]; omega
    · rw [lk_b_no h]; omega
theorem lk_n_0 {wat : Nat → Int32} : ∀ (l : List Nat) (S : Nat → Prop), lk_C wat S → lk_n wat l S = 0 → ∀ k, k ∈ l → 0 < wat k → S k
  | [], _, _, _, k, hk, _ => absurd hk List.not_mem_nil
  | a :: l, S, hC, h, k, hk, hw => by
    have h0 : lk_b (0 < wat a ∧ ¬ S a) + lk_n wat l (fun c => S c ∨ lk_R wat a c) = 0 := h
    have h1 : 0 < wat a → S a := fun hwa => Classical.byContradiction (fun hn => by rw [lk_b_yes ⟨hwa, hn⟩] at h0; omega)
    rcases List.mem_cons.mp hk with rfl | hk
    · exact h1 hw
    · rcases lk_n_0 l (fun c => S c ∨ lk_R wat a c) (lk_C_up hC (fun c => Iff.rfl)) (by omega) k hk hw with h2 | h2
      · exact h2
      · exact lk_in hC (h1 h2.1) h2
theorem lk_w_app {wat : Nat → Int32} (l2 : List Nat) : ∀ l1 : List Nat, lk_w wat (l1 ++ l2) = lk_w wat l1 + lk_w wat l2
  | [] => by simp [lk_w]
  | k :: l1 => by
    show lk_b _ + lk_w wat (l1 ++ l2) = lk_b _ + lk_w wat l1 + lk_w wat l2
    rw [lk_w_app l2 l1, Nat.add_assoc]
theorem lk_w_sum (wat : Nat → Int32) : ∀ n : Nat, q_sum (q_pos wat) n = nI (lk_w wat (List.range n)) ∧ lk_w wat (List.range n) ≤ n
  | 0 => ⟨rfl, Nat.le_refl 0⟩
  | n + 1 => by
    obtain ⟨h1, h2⟩ := lk_w_sum wat n
    rw [List.range_succ, lk_w_app]
    have e : lk_w wat [n] = lk_b (0 < wat n) + 0 := rfl
    simp only [q_sum, q_pos]
    rw [h1, e]
    by_cases h : 0 < wat n
    · rw [if_pos h, lk_b_yes h]
      exact ⟨nI_1 _, by omega⟩
    · rw [if_neg h, lk_b_no h]
      exact ⟨Int32.add_zero _, by omega⟩
theorem lakes_le (wat : Nat → Int32) : q_lakes wat ≤ q_sum (q_pos wat) 64 ∧ (0 < q_lakes wat ↔ 0 < q_sum (q_pos wat) 64) := by
  obtain ⟨h1, h2⟩ := lk_w_sum wat 64
  rw [lk_lakes, h1]
  have h3 := lk_n_le (wat := wat) (List.range 64) lk_0
  refine ⟨nI_le h3 (by omega), ?_⟩
  rw [show (0 : Int32) = nI 0 from rfl, nI_ltI (by decide) (by omega), nI_ltI (by decide) (by omega)]
  constructor
  · omega
  · intro h
    apply Classical.byContradiction
    intro hn
    have h4 := lk_n_0 (wat := wat) (List.range 64) lk_0 (lk_C_0 wat) (by omega)
    have h5 : ∀ l : List Nat, (∀ k, k ∈ l → ¬ 0 < wat k) → lk_w wat l = 0 := by
      intro l
      induction l with
      | nil => intro _; rfl
      | cons a l ih =>
        intro hl
        show lk_b _ + lk_w wat l = 0
        rw [lk_b_no (hl a List.mem_cons_self), ih (fun k hk => hl k (List.mem_cons_of_mem _ hk))]
    rw [h5 _ (fun k hk hw => h4 k hk hw)] at h
    exact absurd h (Nat.lt_irrefl 0)
