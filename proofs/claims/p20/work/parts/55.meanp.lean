/-! the mean is a number -/
theorem nn_of {r : UInt64} (h : FP.Core.val64 r ≠ .nan) : isNaN64 r = false := by
  cases hz : isNaN64 r with
  | false => rfl
  | true =>
    refine absurd ?_ h
    have h1 := isNaN64_iff.mp hz
    rw [show (0x7fffffffffffffff : Nat) = 2 ^ 63 - 1 from rfl, Nat.and_two_pow_sub_one_eq_mod] at h1
    show FP.Core.decode FP.Core.b64 r.toNat = .nan
    unfold FP.Core.decode
    have e1 : FP.Core.fieldE FP.Core.b64 r.toNat = FP.Core.b64.exps - 1 := by
      show r.toNat / 4503599627370496 % 2048 = 2047
      omega
    have e2 : ¬ FP.Core.fieldT FP.Core.b64 r.toNat = 0 := by
      show ¬ r.toNat % 4503599627370496 = 0
      omega
    rw [if_pos e1, if_neg e2]
theorem nn_div {a b : Int32} (hb : ¬ b = 0) : FP.Core.val64 (FP.ddiv (FP.i2d a) (FP.i2d b)) ≠ .nan := by
  have h1 := FP.Core.ddiv_out (a := FP.i2d a) (b := FP.i2d b) ((FP.Core.notNaN_iff _).mpr (FP.Core.DFin.ne_nan (FP.Core.i2d_fin a))) (FP.Core.i2d_fin b) (fun h => FP.Core.i2d_ne_zero hb ((FP.Core.zero_bits2 _).mp h))
  exact (FP.Core.notNaN_iff _).mp h1
theorem nn_alike {r X : UInt64} (hX : FP.Core.val64 X ≠ .nan) (h : alike64 r X = true) : r = X := by
  simp only [alike64, Bool.or_eq_true, decide_eq_true_eq, Bool.and_eq_true] at h
  rcases h with h | h
  · exact h
  · rw [nn_of hX] at h
    cases h.2
theorem nn_eq {X : UInt64} (hX : FP.Core.val64 X ≠ .nan) : Op.cmpValue (FP.dcmp X X) .l = 0 := by
  have e : FP.dcmp X X = some .eq := FP.Core.dcmp_self hX
  rw [e]
  rfl
theorem nn_zero : FP.Core.val64 FP.dconst0 ≠ .nan := by
  have e : FP.Core.val64 FP.dconst0 = .fin false 0 FP.Core.b64.qmin := FP.Core.val64_dconst0
  rw [e]
  exact fun h => by cases h
/-- both sides of the mean's check: it is what the counts give -/
theorem nn_mean0 {wat : Nat → Int32} {r : UInt64} (h : q_mean wat r) (h0 : q_sum (q_pos wat) 64 = 0) : Op.cmpValue (FP.dcmp r FP.dconst0) .l = 0 := by
  rcases h with ⟨-, h⟩ | ⟨h, -⟩
  · rw [h]; exact nn_eq nn_zero
  · exact absurd h0 h
theorem nn_mean1 {wat : Nat → Int32} {r q : UInt64} (h : q_mean wat r) (h0 : ¬ q_sum (q_pos wat) 64 = 0) (hq : alike64 q (FP.ddiv (FP.i2d (q_sum wat 64)) (FP.i2d (q_sum (q_pos wat) 64))) = true) : Op.cmpValue (FP.dcmp r q) .l = 0 := by
  rcases h with ⟨h, -⟩ | ⟨-, h⟩
  · exact absurd h h0
  · rw [nn_alike (nn_div h0) h, nn_alike (nn_div h0) hq]
    exact nn_eq (nn_div h0)
/-! worlds of three parts, turned -/
theorem gp_rot {D : va_G} {cl : List vw_C} {H : Heap} {a b c : va_W} (h : va_P D cl (a ++ (b ++ c)) H) : va_P D cl (b ++ (c ++ a)) H := by
  have h1 := gp_comm h
  rw [List.append_assoc] at h1
  exact h1
theorem gp_rotD {A : Nat → Prop} {a b c : va_W} (h : va_D A (a ++ (b ++ c))) : va_D A (b ++ (c ++ a)) := by
  have h1 := gp_commD h
  rw [List.append_assoc] at h1
  exact h1
theorem gp_asc {D : va_G} {cl : List vw_C} {H : Heap} {a b c : va_W} (h : va_P D cl ((a ++ b) ++ c) H) : va_P D cl (a ++ (b ++ c)) H := by rw [← List.append_assoc]; exact h
theorem gp_ascD {A : Nat → Prop} {a b c : va_W} (h : va_D A ((a ++ b) ++ c)) : va_D A (a ++ (b ++ c)) := by rw [← List.append_assoc]; exact h
theorem gp_csa {D : va_G} {cl : List vw_C} {H : Heap} {a b c : va_W} (h : va_P D cl (a ++ (b ++ c)) H) : va_P D cl ((a ++ b) ++ c) H := by rw [List.append_assoc]; exact h
theorem gp_csaD {A : Nat → Prop} {a b c : va_W} (h : va_D A (a ++ (b ++ c))) : va_D A ((a ++ b) ++ c) := by rw [List.append_assoc]; exact h
theorem gp_sw {D : va_G} {cl : List vw_C} {H : Heap} {a b c : va_W} (h : va_P D cl (a ++ (b ++ c)) H) : va_P D cl (b ++ (a ++ c)) H := by
  have h1 : va_P D cl (a ++ c) H := fun k q hk => by
    by_cases hka : k < a.length
    · rw [List.getElem?_append_left hka] at hk
      exact h k q (by rw [List.getElem?_append_left hka]; exact hk)
    · rw [List.getElem?_append_right (by omega)] at hk
      exact gp_right (gp_right h) _ q hk
  exact (gp_left (gp_right h)).app h1
theorem gp_swD {A : Nat → Prop} {a b c : va_W} (h : va_D A (a ++ (b ++ c))) : va_D A (b ++ (a ++ c)) := by
  have h1 : va_D A ((a ++ b) ++ c) := gp_csaD h
  have h2 := gp_rotD h
  have h3 : va_D A ((b ++ a) ++ c) := by
    have h4 : va_D A (c ++ (a ++ b)) := gp_commD h1
    refine ⟨fun i j p q hi hj e => ?_, fun k q hk => ?_⟩
    · have key : ∀ (k : Nat) (x : Nat × va_E), ((b ++ a) ++ c)[k]? = some x → ∃ k', (a ++ (b ++ c))[k']? = some x ∧ k' = (if k < b.length then a.length + k else if k < b.length + a.length then k - b.length else k) := by
        intro k x hk
        refine ⟨_, ?_, rfl⟩
        by_cases h5 : k < b.length
        · rw [if_pos h5, List.getElem?_append_right (by omega), show a.length + k - a.length = k by omega, List.getElem?_append_left h5]
          rw [List.getElem?_append_left (by rw [List.length_append]; omega), List.getElem?_append_left h5] at hk
          exact hk
        · rw [if_neg h5]
          by_cases h6 : k < b.length + a.length
          · rw [if_pos h6, List.getElem?_append_left (by omega)]
            rw [List.getElem?_append_left (by rw [List.length_append]; omega), List.getElem?_append_right (by omega)] at hk
            exact hk
          · rw [if_neg h6, List.getElem?_append_right (by omega), List.getElem?_append_right (by omega)]
            rw [List.getElem?_append_right (by rw [List.length_append]; omega), List.length_append] at hk
            rw [show k - a.length - b.length = k - (b.length + a.length) by omega]
            exact hk
      obtain ⟨i', hi', ei⟩ := key i p hi
      obtain ⟨j', hj', ej⟩ := key j q hj
      have := h.1 i' j' p q hi' hj' e
      have li : i < b.length + a.length + c.length := by
        have := (List.getElem?_eq_some_iff.mp hi).1
        simp only [List.length_append] at this
        exact this
      have lj : j < b.length + a.length + c.length := by
        have := (List.getElem?_eq_some_iff.mp hj).1
        simp only [List.length_append] at this
        exact this
      split at ei <;> split at ej <;> (try split at ei) <;> (try split at ej) <;> omega
    · have hm := List.mem_of_getElem? hk
      have hm2 : q ∈ a ++ (b ++ c) := by
        simp only [List.mem_append] at hm ⊢
        rcases hm with (h | h) | h
        · exact Or.inr (Or.inl h)
        · exact Or.inl h
        · exact Or.inr (Or.inr h)
      obtain ⟨k', hk'⟩ := List.mem_iff_getElem?.mp hm2
      exact h.2 k' q hk'
  rw [List.append_assoc] at h3
  exact h3
