abbrev rm_J7_fill_53178 : Room := { frames := 0, cells := 0, slots := 0, locals := 0 }
set_option maxHeartbeats 4000000 in
set_option maxRecDepth 100000 in
theorem c_fill (l : Launch) (D : va_G) (cI : ClassId) (a n : Nat) (hn : n < 2 ^ 31) (f : Nat → Int32) (v : Int32) : ct_v (S := Unit) l D yJ7_fill_53178 wsJ7_fill_53178 rm_J7_fill_53178 [.ref a, .int v] ([(a, .inl (cI, n, .inl f))]) [(cI, .int)] (fun _ => True) (fun _ => [(a, .inl (cI, n, .inl (fun _ => v)))]) := by
  refine ct_ofv (cc := cJ7_fill_53178) (maxL := 4) (by decide) rfl (Nat.le_of_ble_eq_true rfl) ?_
  intro p e s m args below meth c A Q hx hb hml hown hts hin hA hK H locs hP hD hS fin ls hl
  have hown : s.vm.findClass RJ7 = some m.cls := hown
  have hl : lv_has ls 4 [(0, .ref a), (1, .int v)] := hl
  refine lv_iconst (v := 0) hx hb dJ7_fill_53178_0 (by decide) ?_
  refine lv_istore_n (lv' := [(2, .int 0), (0, .ref a), (1, .int v)]) hx hb dJ7_fill_53178_1 rfl hl (by decide) rfl (fun ls hl => ?_)
  refine lv_aload_n hx hb dJ7_fill_53178_2 rfl (lv_at hl 1 rfl) ?_
  refine va_alen (v := (nI n)) hx hb hK hP 0 rfl (t0 := 0) rfl rfl dJ7_fill_53178_3 ?_
  refine lv_istore_n (lv' := [(3, .int (nI n)), (2, .int 0), (0, .ref a), (1, .int v)]) hx hb dJ7_fill_53178_4 rfl hl (by decide) rfl (fun ls hl => ?_)
  have loop : ∀ (fu i : Nat), i + fu = n → ∀ (g : Nat → Int32) (H : Heap) (locs : List Loc) (ls : Array Slot), (g = q_mix i (fun _ => v) f) → va_P D vwCl ([(a, .inl (cI, n, .inl g))]) H → va_D A ([(a, .inl (cI, n, .inl g))]) → va_S A s.heap H locs → lv_has ls 4 [(0, .ref a), (1, .int v), (2, .int (nI i)), (3, .int (nI n))] → W p l e rm_J7_fill_53178 s m args below meth c H locs 0 0 Q (F0 m 5 ls []) := by
    intro fu
    induction fu with
    | zero =>
      intro i hi g H locs ls hg hP hD hS hl
      obtain rfl : n = i := by omega
      refine lv_iload_n hx hb dJ7_fill_53178_5 rfl (lv_at hl 2 rfl) ?_
      refine lv_iload_n hx hb dJ7_fill_53178_6 rfl (lv_at hl 3 rfl) ?_
      refine lv_icmp_ge (tgt := 20) hx hb dJ7_fill_53178_7 (by decide) (fun hc => ?_) (fun hc => ?_)
      · skip
        obtain ⟨hP, hD⟩ := ct_ext hP hD 0 rfl (fun _ => v) (fun j hj => by rw [hg]; exact q_mix_lt hj) rfl
        exact fin () H locs 0 0 20 ls dJ7_fill_53178_20 trivial hP hD hS (Nat.le_of_ble_eq_true rfl) (Nat.le_of_ble_eq_true rfl)
      · skip
        exact absurd (Int32.le_refl _) hc
    | succ fu ih =>
      intro i hi g H locs ls hg hP hD hS hl
      have hlt : i < n := by omega
      refine lv_iload_n hx hb dJ7_fill_53178_5 rfl (lv_at hl 2 rfl) ?_
      refine lv_iload_n hx hb dJ7_fill_53178_6 rfl (lv_at hl 3 rfl) ?_
      refine lv_icmp_ge (tgt := 20) hx hb dJ7_fill_53178_7 (by decide) (fun hc => ?_) (fun hc => ?_)
      · skip
        exact absurd hc (nI_ge (by omega) hn)
      · skip
        refine lv_aload_n hx hb dJ7_fill_53178_10 rfl (lv_at hl 0 rfl) ?_
        refine lv_iload_n hx hb dJ7_fill_53178_11 rfl (lv_at hl 2 rfl) ?_
        refine lv_iload_n hx hb dJ7_fill_53178_12 rfl (lv_at hl 1 rfl) ?_
        refine ct_iast (g := upd g i v) (ws1 := ([(a, .inl (cI, n, .inl (upd g i v)))])) hx hb hK hP hD hS 0 0 rfl rfl i rfl hlt hn rfl rfl dJ7_fill_53178_13 (fun H locs hP hD hS => ?_)
        refine lv_iinc (v := (nI (i + 1))) (lv' := [(2, .int (nI (i + 1))), (0, .ref a), (1, .int v), (3, .int (nI n))]) hx hb dJ7_fill_53178_14 hl (k := 2) rfl (nI_1 i) (by decide) rfl (fun ls hl => ?_)
        refine lv_goto (tgt := 5) hx hb dJ7_fill_53178_17 (by decide) ?_
        exact ih (i + 1) (by omega) (upd g i v) H locs ls (by rw [hg]; exact q_mix_up rfl) hP hD hS (lv_sub hl [1, 2, 0, 3] rfl)
  exact loop n 0 (by omega) f H locs ls (q_mix_0 _ _).symm hP hD hS (lv_sub hl [2, 3, 1, 0] rfl)
abbrev rm_J9_floorMod_7cf53 : Room := { frames := 0, cells := 0, slots := 0, locals := 0 }
theorem fm_xor {t : Nat} (h : t < 2 ^ 31) : 0 ≤ nI t ^^^ 12 := by
  have h1 : (nI t).toBitVec.msb = false := by
    rw [BitVec.msb_eq_toInt]
    have : (nI t).toBitVec.toInt = (t : Int) := nI_toInt h
    simp [this]
  have h2 : (nI t ^^^ 12).toBitVec.msb = false := by
    rw [Int32.toBitVec_xor, BitVec.msb_xor, h1]
    decide
  rw [BitVec.msb_eq_toInt] at h2
  have h3 : ¬ (nI t ^^^ 12).toBitVec.toInt < 0 := of_decide_eq_false h2
  rw [Int32.le_iff_toInt_le]
  exact Int.not_lt.mp h3
set_option maxHeartbeats 4000000 in
set_option maxRecDepth 100000 in
theorem c_floorMod (l : Launch) (D : va_G) (cI : ClassId) (t : Nat) (ht : t < 2 ^ 31) : ct_i (S := Unit) l D yJ9_floorMod_7cf53 wsJ9_floorMod_7cf53 rm_J9_floorMod_7cf53 [.int (nI t), .int 12] ([] : va_W) [(cI, .int)] (fun r _ => r = nI (t % 12)) (fun _ => ([] : va_W)) := by
  refine ct_ofiF (cc := cJ9_floorMod_7cf53) (maxL := 3) (by decide +kernel) rfl (Nat.le_of_ble_eq_true rfl) ?_
  intro p e s m args below meth c A Q hx hb hml hown hts hin hA hK H locs hP hD hS fin ls hl
  have hown : s.vm.findClass RJ9 = some m.cls := hown
  have hl : lv_has ls 3 [(0, .int (nI t)), (1, .int 12)] := hl
  refine lv_iload_n hx hb dJ9_floorMod_7cf53_0 rfl (lv_at hl 0 rfl) ?_
  refine lv_iload_n hx hb dJ9_floorMod_7cf53_1 rfl (lv_at hl 1 rfl) ?_
  refine ct_irem hx hb t 12 rfl rfl (by omega) (by decide) (by decide) dJ9_floorMod_7cf53_2 ?_
  refine lv_istore_n (lv' := [(2, .int (nI (t % 12))), (0, .int (nI t)), (1, .int 12)]) hx hb dJ9_floorMod_7cf53_3 rfl hl (by decide) rfl (fun ls hl => ?_)
  refine lv_iload_n hx hb dJ9_floorMod_7cf53_4 rfl (lv_at hl 1 rfl) ?_
  refine lv_iload_n hx hb dJ9_floorMod_7cf53_5 rfl (lv_at hl 2 rfl) ?_
  refine lv_ixor hx hb dJ9_floorMod_7cf53_6 ?_
  refine lv_if_ge (tgt := 18) hx hb dJ9_floorMod_7cf53_7 (by decide) (fun hc => ?_) (fun hc => ?_)
  · skip
    refine lv_iload_n hx hb dJ9_floorMod_7cf53_18 rfl (lv_at hl 0 rfl) ?_
    exact fin (nI (t % 12)) () H locs 0 0 19 ls dJ9_floorMod_7cf53_19 rfl hP hD hS (Nat.le_of_ble_eq_true rfl) (Nat.le_of_ble_eq_true rfl)
  · skip
    exact absurd (fm_xor ht) hc
abbrev rm_X0_neighbourOf : Room := { frames := 0, cells := 0, slots := 0, locals := 0 }
theorem nb_le {a : Nat} (h : nI a ≤ 0) (ha : a < 2 ^ 31) : a = 0 := by
  rcases Nat.eq_zero_or_pos a with h0 | h0
  · exact h0
  · exact absurd h (nI_nle h0 ha)
theorem nb_pos {a : Nat} (h : ¬ nI a ≤ 0) : 0 < a := Nat.pos_of_ne_zero (fun h0 => h (by rw [h0]; decide))
theorem nb_ge {a b : Nat} (h : nI a ≤ nI b) (ha : a < 2 ^ 31) (hb : b < 2 ^ 31) : a ≤ b := (nI_leI ha hb).mp h
theorem nb_lt {a b : Nat} (h : ¬ nI a ≤ nI b) (hb : b < 2 ^ 31) : b < a := Nat.not_le.mp (fun h2 => h (nI_le h2 hb))
theorem nb_0 {k : Nat} : q_v (q_nb k 0) = if 0 < k % 8 then nI (k - 1) else -1 := by simp only [q_nb]; split <;> rfl
theorem nb_1 {k : Nat} : q_v (q_nb k 1) = if k % 8 < 7 then nI (k + 1) else -1 := by simp only [q_nb]; split <;> rfl
theorem nb_2 {k : Nat} : q_v (q_nb k 2) = if 0 < k / 8 then nI (k - 8) else -1 := by simp only [q_nb]; split <;> rfl
theorem nb_3 {k : Nat} : q_v (q_nb k 3) = if k / 8 < 7 then nI (k + 8) else -1 := by simp only [q_nb]; split <;> rfl
set_option maxHeartbeats 4000000 in
set_option maxRecDepth 100000 in
theorem c_nb (l : Launch) (D : va_G) (cI : ClassId) (k sd : Nat) (hk : k < 64) (hsd : sd < 4) : ct_i (S := Unit) l D yX0_neighbourOf wsX0_neighbourOf rm_X0_neighbourOf [.int (nI k), .int (nI sd)] ([] : va_W) [(cI, .int)] (fun r _ => r = q_v (q_nb k sd)) (fun _ => ([] : va_W)) := by
  refine ct_ofi (cc := cX0_neighbourOf) (maxL := 4) (by decide) rfl (Nat.le_of_ble_eq_true rfl) ?_
  intro p e s m args below meth c A Q hx hb hml hown hts hin hA hK H locs hP hD hS fin ls hl
  have hown : s.vm.findClass RX0 = some m.cls := hown
  have hl : lv_has ls 4 [(0, .int (nI k)), (1, .int (nI sd))] := hl
  refine lv_iload_n hx hb dX0_neighbourOf_0 rfl (lv_at hl 0 rfl) ?_
  refine lv_bipush (v := 8) hx hb dX0_neighbourOf_1 (by decide) ?_
  refine ct_irem hx hb k 8 rfl rfl (by omega) (by decide) (by decide) dX0_neighbourOf_3 ?_
  refine lv_istore_n (lv' := [(2, .int (nI (k % 8))), (0, .int (nI k)), (1, .int (nI sd))]) hx hb dX0_neighbourOf_4 rfl hl (by decide) rfl (fun ls hl => ?_)
  refine lv_iload_n hx hb dX0_neighbourOf_5 rfl (lv_at hl 1 rfl) ?_
  refine lv_bipush (v := 8) hx hb dX0_neighbourOf_6 (by decide) ?_
  refine ct_idiv hx hb k 8 rfl rfl (by omega) (by decide) (by decide) dX0_neighbourOf_8 ?_
  refine lv_istore_n (lv' := [(3, .int (nI (k / 8))), (2, .int (nI (k % 8))), (0, .int (nI k)), (1, .int (nI sd))]) hx hb dX0_neighbourOf_9 rfl hl (by decide) rfl (fun ls hl => ?_)
  refine lv_iload_n hx hb dX0_neighbourOf_10 rfl (lv_at hl 3 rfl) ?_
  rcases (show sd = 0 ∨ sd = 1 ∨ sd = 2 ∨ sd = 3 by omega) with rfl | rfl | rfl | rfl
  · skip
    refine lv_tableIn (tgt := 36) hx hb dX0_neighbourOf_11 (by decide) (by decide) rfl (by decide) ?_
    refine lv_iload_n hx hb dX0_neighbourOf_36 rfl (lv_at hl 1 rfl) ?_
    refine lv_if_le (tgt := 46) hx hb dX0_neighbourOf_37 (by decide) (fun hc => ?_) (fun hc => ?_)
    · skip
      have h2 : ¬ (0 < k % 8) := by have := nb_le hc (by omega); omega
      refine lv_iconst (v := (-1)) hx hb dX0_neighbourOf_46 (by decide) ?_
      exact fin (-1) () H locs 0 0 47 ls dX0_neighbourOf_47 (by rw [nb_0, if_neg h2]) hP hD hS (Nat.le_of_ble_eq_true rfl) (Nat.le_of_ble_eq_true rfl)
    · skip
      have h2 : 0 < k % 8 := nb_pos hc
      refine lv_iload_n hx hb dX0_neighbourOf_40 rfl (lv_at hl 2 rfl) ?_
      refine lv_iconst (v := 1) hx hb dX0_neighbourOf_41 (by decide) ?_
      refine lv_isub hx hb dX0_neighbourOf_42 ?_
      refine lv_goto (tgt := 47) hx hb dX0_neighbourOf_43 (by decide) ?_
      exact fin ((nI k) - 1) () H locs 0 0 47 ls dX0_neighbourOf_47 (by rw [nb_0, if_pos h2]; exact pk_sub (b := 1) (by omega)) hP hD hS (Nat.le_of_ble_eq_true rfl) (Nat.le_of_ble_eq_true rfl)
  · skip
    refine lv_tableIn (tgt := 48) hx hb dX0_neighbourOf_11 (by decide) (by decide) rfl (by decide) ?_
    refine lv_iload_n hx hb dX0_neighbourOf_48 rfl (lv_at hl 1 rfl) ?_
    refine lv_bipush (v := 7) hx hb dX0_neighbourOf_49 (by decide) ?_
    refine lv_icmp_ge (tgt := 60) hx hb dX0_neighbourOf_51 (by decide) (fun hc => ?_) (fun hc => ?_)
    · skip
      have h2 : ¬ (k % 8 < 7) := by have := nb_ge (a := 7) hc (by decide) (by omega); omega
      refine lv_iconst (v := (-1)) hx hb dX0_neighbourOf_60 (by decide) ?_
      exact fin (-1) () H locs 0 0 61 ls dX0_neighbourOf_61 (by rw [nb_1, if_neg h2]) hP hD hS (Nat.le_of_ble_eq_true rfl) (Nat.le_of_ble_eq_true rfl)
    · skip
      have h2 : k % 8 < 7 := nb_lt (a := 7) hc (by omega)
      refine lv_iload_n hx hb dX0_neighbourOf_54 rfl (lv_at hl 2 rfl) ?_
      refine lv_iconst (v := 1) hx hb dX0_neighbourOf_55 (by decide) ?_
      refine lv_iadd hx hb dX0_neighbourOf_56 ?_
      refine lv_goto (tgt := 61) hx hb dX0_neighbourOf_57 (by decide) ?_
      exact fin ((nI k) + 1) () H locs 0 0 61 ls dX0_neighbourOf_61 (by rw [nb_1, if_pos h2]; exact nI_1 k) hP hD hS (Nat.le_of_ble_eq_true rfl) (Nat.le_of_ble_eq_true rfl)
  · skip
    refine lv_tableIn (tgt := 62) hx hb dX0_neighbourOf_11 (by decide) (by decide) rfl (by decide) ?_
    refine lv_iload_n hx hb dX0_neighbourOf_62 rfl (lv_at hl 0 rfl) ?_
    refine lv_if_le (tgt := 73) hx hb dX0_neighbourOf_63 (by decide) (fun hc => ?_) (fun hc => ?_)
    · skip
      have h2 : ¬ (0 < k / 8) := by have := nb_le hc (by omega); omega
      refine lv_iconst (v := (-1)) hx hb dX0_neighbourOf_73 (by decide) ?_
      exact fin (-1) () H locs 0 0 74 ls dX0_neighbourOf_74 (by rw [nb_2, if_neg h2]) hP hD hS (Nat.le_of_ble_eq_true rfl) (Nat.le_of_ble_eq_true rfl)
    · skip
      have h2 : 0 < k / 8 := nb_pos hc
      refine lv_iload_n hx hb dX0_neighbourOf_66 rfl (lv_at hl 2 rfl) ?_
      refine lv_bipush (v := 8) hx hb dX0_neighbourOf_67 (by decide) ?_
      refine lv_isub hx hb dX0_neighbourOf_69 ?_
      refine lv_goto (tgt := 74) hx hb dX0_neighbourOf_70 (by decide) ?_
      exact fin ((nI k) - 8) () H locs 0 0 74 ls dX0_neighbourOf_74 (by rw [nb_2, if_pos h2]; exact pk_sub (b := 8) (by omega)) hP hD hS (Nat.le_of_ble_eq_true rfl) (Nat.le_of_ble_eq_true rfl)
  · skip
    refine lv_tableOut (tgt := 75) hx hb dX0_neighbourOf_11 (Or.inr (by decide)) (by decide) ?_
    refine lv_iload_n hx hb dX0_neighbourOf_75 rfl (lv_at hl 0 rfl) ?_
    refine lv_bipush (v := 7) hx hb dX0_neighbourOf_76 (by decide) ?_
    refine lv_icmp_ge (tgt := 88) hx hb dX0_neighbourOf_78 (by decide) (fun hc => ?_) (fun hc => ?_)
    · skip
      have h2 : ¬ (k / 8 < 7) := by have := nb_ge (a := 7) hc (by decide) (by omega); omega
      refine lv_iconst (v := (-1)) hx hb dX0_neighbourOf_88 (by decide) ?_
      exact fin (-1) () H locs 0 0 89 ls dX0_neighbourOf_89 (by rw [nb_3, if_neg h2]) hP hD hS (Nat.le_of_ble_eq_true rfl) (Nat.le_of_ble_eq_true rfl)
    · skip
      have h2 : k / 8 < 7 := nb_lt (a := 7) hc (by omega)
      refine lv_iload_n hx hb dX0_neighbourOf_81 rfl (lv_at hl 2 rfl) ?_
      refine lv_bipush (v := 8) hx hb dX0_neighbourOf_82 (by decide) ?_
      refine lv_iadd hx hb dX0_neighbourOf_84 ?_
      refine lv_goto (tgt := 89) hx hb dX0_neighbourOf_85 (by decide) ?_
      exact fin ((nI k) + 8) () H locs 0 0 89 ls dX0_neighbourOf_89 (by rw [nb_3, if_pos h2]; exact nI_add k 8) hP hD hS (Nat.le_of_ble_eq_true rfl) (Nat.le_of_ble_eq_true rfl)
