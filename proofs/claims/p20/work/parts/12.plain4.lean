abbrev rm_X0_sum : Room := { frames := 0, cells := 0, slots := 0, locals := 0 }
set_option maxHeartbeats 4000000 in
set_option maxRecDepth 100000 in
theorem c_X0_sum (l : Launch) (D : va_G) (cI : ClassId) (h a n : Nat) (hn : n < 2 ^ 31) (f : Nat → Int32) : ct_i (S := Unit) l D yX0_sum wsX0_sum rm_X0_sum [.ref h, .ref a] ([(a, .inl (cI, n, .inl f))]) [(cI, .int)] (fun r _ => r = q_sum f n) (fun _ => ([(a, .inl (cI, n, .inl f))])) := by
  refine ct_ofi (cc := cX0_sum) (maxL := 7) (by decide) rfl (Nat.le_of_ble_eq_true rfl) ?_
  intro p e s m args below meth c A Q hx hb hml hown hts hin hA hK H locs hP hD hS fin ls hl
  have hown : s.vm.findClass RX0 = some m.cls := hown
  have hl : lv_has ls 7 [(0, .ref h), (1, .ref a)] := hl
  refine lv_iconst (v := 0) hx hb dX0_sum_0 (by decide) ?_
  refine lv_istore_n (lv' := [(2, .int 0), (0, .ref h), (1, .ref a)]) hx hb dX0_sum_1 rfl hl (by decide) rfl (fun ls hl => ?_)
  refine lv_aload_n hx hb dX0_sum_2 rfl (lv_at hl 2 rfl) ?_
  refine lv_astore_n (lv' := [(3, .ref a), (2, .int 0), (0, .ref h), (1, .ref a)]) hx hb dX0_sum_3 rfl hl (by decide) rfl (fun ls hl => ?_)
  refine lv_aload_n hx hb dX0_sum_4 rfl (lv_at hl 0 rfl) ?_
  refine va_alen (v := (nI n)) hx hb hK hP 0 rfl (t0 := 0) rfl rfl dX0_sum_5 ?_
  refine lv_istore (lv' := [(4, .int (nI n)), (3, .ref a), (2, .int 0), (0, .ref h), (1, .ref a)]) hx hb dX0_sum_6 hl (by decide) rfl (fun ls hl => ?_)
  refine lv_iconst (v := 0) hx hb dX0_sum_8 (by decide) ?_
  refine lv_istore (lv' := [(5, .int 0), (4, .int (nI n)), (3, .ref a), (2, .int 0), (0, .ref h), (1, .ref a)]) hx hb dX0_sum_9 hl (by decide) rfl (fun ls hl => ?_)
  have loop : ∀ (fu i : Nat), i + fu = n → ∀ (b : Int32) (H : Heap) (locs : List Loc) (ls : Array Slot), (b = q_sum f i) → va_P D vwCl ([(a, .inl (cI, n, .inl f))]) H → va_D A ([(a, .inl (cI, n, .inl f))]) → va_S A s.heap H locs → lv_has ls 7 [(0, .ref h), (1, .ref a), (2, .int b), (3, .ref a), (4, .int (nI n)), (5, .int (nI i))] → W p l e rm_X0_sum s m args below meth c H locs 0 0 Q (F0 m 11 ls []) := by
    intro fu
    induction fu with
    | zero =>
      intro i hi b H locs ls hb2 hP hD hS hl
      obtain rfl : n = i := by omega
      refine lv_iload hx hb dX0_sum_11 (lv_at hl 5 rfl) ?_
      refine lv_iload hx hb dX0_sum_13 (lv_at hl 4 rfl) ?_
      refine lv_icmp_ge (tgt := 35) hx hb dX0_sum_15 (by decide) (fun hc => ?_) (fun hc => ?_)
      · skip
        refine lv_iload_n hx hb dX0_sum_35 rfl (lv_at hl 2 rfl) ?_
        exact fin b () H locs 0 0 36 ls dX0_sum_36 hb2 hP hD hS (Nat.le_of_ble_eq_true rfl) (Nat.le_of_ble_eq_true rfl)
      · skip
        exact absurd (Int32.le_refl _) hc
    | succ fu ih =>
      intro i hi b H locs ls hb2 hP hD hS hl
      have hlt : i < n := by omega
      refine lv_iload hx hb dX0_sum_11 (lv_at hl 5 rfl) ?_
      refine lv_iload hx hb dX0_sum_13 (lv_at hl 4 rfl) ?_
      refine lv_icmp_ge (tgt := 35) hx hb dX0_sum_15 (by decide) (fun hc => ?_) (fun hc => ?_)
      · skip
        exact absurd hc (nI_ge hlt hn)
      · skip
        refine lv_aload_n hx hb dX0_sum_18 rfl (lv_at hl 3 rfl) ?_
        refine lv_iload hx hb dX0_sum_19 (lv_at hl 5 rfl) ?_
        refine ct_iald (v := (f i)) hx hb hK hP 0 0 rfl rfl i rfl hlt hn rfl dX0_sum_21 ?_
        refine lv_istore (lv' := [(6, .int (f i)), (0, .ref h), (1, .ref a), (2, .int b), (3, .ref a), (4, .int (nI n)), (5, .int (nI i))]) hx hb dX0_sum_22 hl (by decide) rfl (fun ls hl => ?_)
        refine lv_iload_n hx hb dX0_sum_24 rfl (lv_at hl 3 rfl) ?_
        refine lv_iload hx hb dX0_sum_25 (lv_at hl 0 rfl) ?_
        refine lv_iadd hx hb dX0_sum_27 ?_
        refine lv_istore_n (lv' := [(2, .int (b + (f i))), (6, .int (f i)), (0, .ref h), (1, .ref a), (3, .ref a), (4, .int (nI n)), (5, .int (nI i))]) hx hb dX0_sum_28 rfl hl (by decide) rfl (fun ls hl => ?_)
        refine lv_iinc (v := (nI (i + 1))) (lv' := [(5, .int (nI (i + 1))), (2, .int (b + (f i))), (6, .int (f i)), (0, .ref h), (1, .ref a), (3, .ref a), (4, .int (nI n))]) hx hb dX0_sum_29 hl (k := 6) rfl (nI_1 i) (by decide) rfl (fun ls hl => ?_)
        refine lv_goto (tgt := 11) hx hb dX0_sum_32 (by decide) ?_
        exact ih (i + 1) (by omega) (b + f i) H locs ls (by rw [hb2]; rfl) hP hD hS (lv_sub hl [3, 4, 1, 5, 6, 0] rfl)
  exact loop n 0 (by omega) 0 H locs ls rfl hP hD hS (lv_sub hl [4, 5, 3, 2, 1, 0] rfl)
abbrev rm_X0_above0 : Room := { frames := 0, cells := 0, slots := 0, locals := 0 }
set_option maxHeartbeats 4000000 in
set_option maxRecDepth 100000 in
theorem c_X0_above0 (l : Launch) (D : va_G) (cI : ClassId) (h a n : Nat) (hn : n < 2 ^ 31) (f : Nat → Int32) : ct_i (S := Unit) l D yX0_above0 wsX0_above0 rm_X0_above0 [.ref h, .ref a] ([(a, .inl (cI, n, .inl f))]) [(cI, .int)] (fun r _ => r = q_sum (q_pos f) n) (fun _ => ([(a, .inl (cI, n, .inl f))])) := by
  refine ct_ofi (cc := cX0_above0) (maxL := 7) (by decide) rfl (Nat.le_of_ble_eq_true rfl) ?_
  intro p e s m args below meth c A Q hx hb hml hown hts hin hA hK H locs hP hD hS fin ls hl
  have hown : s.vm.findClass RX0 = some m.cls := hown
  have hl : lv_has ls 7 [(0, .ref h), (1, .ref a)] := hl
  refine lv_iconst (v := 0) hx hb dX0_above0_0 (by decide) ?_
  refine lv_istore_n (lv' := [(2, .int 0), (0, .ref h), (1, .ref a)]) hx hb dX0_above0_1 rfl hl (by decide) rfl (fun ls hl => ?_)
  refine lv_aload_n hx hb dX0_above0_2 rfl (lv_at hl 2 rfl) ?_
  refine lv_astore_n (lv' := [(3, .ref a), (2, .int 0), (0, .ref h), (1, .ref a)]) hx hb dX0_above0_3 rfl hl (by decide) rfl (fun ls hl => ?_)
  refine lv_aload_n hx hb dX0_above0_4 rfl (lv_at hl 0 rfl) ?_
  refine va_alen (v := (nI n)) hx hb hK hP 0 rfl (t0 := 0) rfl rfl dX0_above0_5 ?_
  refine lv_istore (lv' := [(4, .int (nI n)), (3, .ref a), (2, .int 0), (0, .ref h), (1, .ref a)]) hx hb dX0_above0_6 hl (by decide) rfl (fun ls hl => ?_)
  refine lv_iconst (v := 0) hx hb dX0_above0_8 (by decide) ?_
  refine lv_istore (lv' := [(5, .int 0), (4, .int (nI n)), (3, .ref a), (2, .int 0), (0, .ref h), (1, .ref a)]) hx hb dX0_above0_9 hl (by decide) rfl (fun ls hl => ?_)
  have loop : ∀ (fu i : Nat), i + fu = n → ∀ (b : Int32) (H : Heap) (locs : List Loc) (ls : Array Slot), (b = q_sum (q_pos f) i) → va_P D vwCl ([(a, .inl (cI, n, .inl f))]) H → va_D A ([(a, .inl (cI, n, .inl f))]) → va_S A s.heap H locs → lv_has ls 7 [(0, .ref h), (1, .ref a), (2, .int b), (3, .ref a), (4, .int (nI n)), (5, .int (nI i))] → W p l e rm_X0_above0 s m args below meth c H locs 0 0 Q (F0 m 11 ls []) := by
    intro fu
    induction fu with
    | zero =>
      intro i hi b H locs ls hb2 hP hD hS hl
      obtain rfl : n = i := by omega
      refine lv_iload hx hb dX0_above0_11 (lv_at hl 5 rfl) ?_
      refine lv_iload hx hb dX0_above0_13 (lv_at hl 4 rfl) ?_
      refine lv_icmp_ge (tgt := 38) hx hb dX0_above0_15 (by decide) (fun hc => ?_) (fun hc => ?_)
      · skip
        refine lv_iload_n hx hb dX0_above0_38 rfl (lv_at hl 2 rfl) ?_
        exact fin b () H locs 0 0 39 ls dX0_above0_39 hb2 hP hD hS (Nat.le_of_ble_eq_true rfl) (Nat.le_of_ble_eq_true rfl)
      · skip
        exact absurd (Int32.le_refl _) hc
    | succ fu ih =>
      intro i hi b H locs ls hb2 hP hD hS hl
      have hlt : i < n := by omega
      refine lv_iload hx hb dX0_above0_11 (lv_at hl 5 rfl) ?_
      refine lv_iload hx hb dX0_above0_13 (lv_at hl 4 rfl) ?_
      refine lv_icmp_ge (tgt := 38) hx hb dX0_above0_15 (by decide) (fun hc => ?_) (fun hc => ?_)
      · skip
        exact absurd hc (nI_ge hlt hn)
      · skip
        refine lv_aload_n hx hb dX0_above0_18 rfl (lv_at hl 3 rfl) ?_
        refine lv_iload hx hb dX0_above0_19 (lv_at hl 5 rfl) ?_
        refine ct_iald (v := (f i)) hx hb hK hP 0 0 rfl rfl i rfl hlt hn rfl dX0_above0_21 ?_
        refine lv_istore (lv' := [(6, .int (f i)), (0, .ref h), (1, .ref a), (2, .int b), (3, .ref a), (4, .int (nI n)), (5, .int (nI i))]) hx hb dX0_above0_22 hl (by decide) rfl (fun ls hl => ?_)
        refine lv_iload hx hb dX0_above0_24 (lv_at hl 0 rfl) ?_
        refine lv_if_le (tgt := 32) hx hb dX0_above0_26 (by decide) (fun hc2 => ?_) (fun hc2 => ?_)
        · skip
          refine lv_iinc (v := (nI (i + 1))) (lv' := [(5, .int (nI (i + 1))), (6, .int (f i)), (0, .ref h), (1, .ref a), (2, .int b), (3, .ref a), (4, .int (nI n))]) hx hb dX0_above0_32 hl (k := 6) rfl (nI_1 i) (by decide) rfl (fun ls hl => ?_)
          refine lv_goto (tgt := 11) hx hb dX0_above0_35 (by decide) ?_
          exact ih (i + 1) (by omega) b H locs ls (by rw [hb2]; simp only [q_sum, q_pos]; rw [if_neg (Int32.not_lt.mpr hc2), Int32.add_zero]) hP hD hS (lv_sub hl [2, 3, 4, 5, 6, 0] rfl)
        · skip
          refine lv_iinc (v := (b + 1)) (lv' := [(2, .int (b + 1)), (6, .int (f i)), (0, .ref h), (1, .ref a), (3, .ref a), (4, .int (nI n)), (5, .int (nI i))]) hx hb dX0_above0_29 hl (k := 3) rfl rfl (by decide) rfl (fun ls hl => ?_)
          refine lv_iinc (v := (nI (i + 1))) (lv' := [(5, .int (nI (i + 1))), (2, .int (b + 1)), (6, .int (f i)), (0, .ref h), (1, .ref a), (3, .ref a), (4, .int (nI n))]) hx hb dX0_above0_32 hl (k := 6) rfl (nI_1 i) (by decide) rfl (fun ls hl => ?_)
          refine lv_goto (tgt := 11) hx hb dX0_above0_35 (by decide) ?_
          exact ih (i + 1) (by omega) (b + 1) H locs ls (by rw [hb2]; simp only [q_sum, q_pos]; rw [if_pos (Int32.not_le.mp hc2)]) hP hD hS (lv_sub hl [3, 4, 1, 5, 6, 0] rfl)
  exact loop n 0 (by omega) 0 H locs ls rfl hP hD hS (lv_sub hl [4, 5, 3, 2, 1, 0] rfl)
abbrev rm_X0_wetCells : Room := { frames := 1, cells := 0, slots := 0, locals := 26 }
set_option maxHeartbeats 4000000 in
set_option maxRecDepth 100000 in
theorem c_X0_wet (l : Launch) (D : va_G) (cI : ClassId) (h : Nat) (ad : Nat → Nat) (hei wat dam wea dra peo rai : Nat → Int32) (hou bro drd lef : Int32) (cre gai see fou : Nat → Int32) : ct_i (S := Unit) l D yX0_wetCells wsX0_wetCells rm_X0_wetCells [.ref h] (pW h ad cI hei wat dam wea dra peo rai hou bro drd lef cre gai see fou) [(cI, .int)] (fun r _ => r = q_sum (q_pos wat) 64) (fun _ => (pW h ad cI hei wat dam wea dra peo rai hou bro drd lef cre gai see fou)) := by
  refine ct_ofi (cc := cX0_wetCells) (maxL := 1) (by decide) rfl (Nat.le_of_ble_eq_true rfl) ?_
  intro p e s m args below meth c A Q hx hb hml hown hts hin hA hK H locs hP hD hS fin ls hl
  have hown : s.vm.findClass RX0 = some m.cls := hown
  have hl : lv_has ls 1 [(0, .ref h)] := hl
  refine lv_aload_n hx hb dX0_wetCells_0 rfl (lv_at hl 0 rfl) ?_
  refine lv_aload_n hx hb dX0_wetCells_1 rfl (lv_at hl 0 rfl) ?_
  refine va_get (D := D) (ci := 0) (v := .ref (ad 1)) (C := RX0) (T := TX0) (N := 15) hx hb hts (fun _ h9 => (List.mem_cons_of_mem _ (List.mem_append_right _ h9))) hown hK hP 0 rfl rfl 1 (by decide) (hts (Cond.fieldLink RX0 15 "FloodGrid$Plain" "water" "[I") (List.mem_of_getElem? (i := 1) rfl)) (fun _ h9 => h9) rfl dX0_wetCells_2 ?_
  refine ct_Vi (As := [.ref (ad 1)]) (rest := []) (wr := [(h, .inr (0, [.ref (ad 0), .ref (ad 1), .ref (ad 2), .ref (ad 3), .ref (ad 4), .ref (ad 5), .ref (ad 6), .int hou, .int bro, .int drd, .int lef, .ref (ad 11), .ref (ad 12), .ref (ad 13), .ref (ad 14)])), ((ad 0), .inl (cI, 64, .inl hei)), ((ad 2), .inl (cI, 64, .inl dam)), ((ad 3), .inl (cI, 64, .inl wea)), ((ad 4), .inl (cI, 64, .inl dra)), ((ad 5), .inl (cI, 64, .inl peo)), ((ad 6), .inl (cI, 12, .inl rai)), ((ad 11), .inl (cI, 64, .inl cre)), ((ad 12), .inl (cI, 64, .inl gai)), ((ad 13), .inl (cI, 64, .inl see)), ((ad 14), .inl (cI, 64, .inl fou))]) (W1 := fun u => (pW h ad cI hei wat dam wea dra peo rai hou bro drd lef cre gai see fou)) (cells1 := 0) (slots1 := 0) ⟨hx, hb, hml, hown, hts⟩ (c_X0_above0 l D cI h (ad 1) 64 (by decide) wat) (cwV 1 hts gX0_wetCells_X0_above0 rfl rfl rfl (by decide +kernel) ⟨Nat.le_of_ble_eq_true rfl, Nat.le_of_ble_eq_true rfl⟩) hK hP hD hS hA [2] [0, 1, 3, 4, 5, 6, 7, 8, 9, 10, 11] ⟨rfl, rfl, rfl, rfl, rfl⟩ [0, 1, 11, 2, 3, 4, 5, 6, 7, 8, 9, 10] rfl (fun _ => rfl) [0] rfl (va_recv hK hP (ci := 0) (q0 := 0) rfl rfl) rfl hl.1 rfl (Nat.le_of_ble_eq_true rfl) rfl rfl ⟨Nat.le_of_ble_eq_true rfl, Nat.le_of_ble_eq_true rfl⟩ dX0_wetCells_5 (fun r u H locs hw hP hD hS => ?_)
  exact fin r () H locs 0 0 8 ls dX0_wetCells_8 hw hP hD hS (Nat.le_of_ble_eq_true rfl) (Nat.le_of_ble_eq_true rfl)
abbrev rm_X0_cellNumber : Room := { frames := 2, cells := 0, slots := 0, locals := 42 }
set_option maxHeartbeats 4000000 in
set_option maxRecDepth 100000 in
theorem c_X0_cell (l : Launch) (D : va_G) (cI : ClassId) (h : Nat) (ad : Nat → Nat) (hei wat dam wea dra peo rai : Nat → Int32) (hou bro drd lef : Int32) (cre gai see fou : Nat → Int32) (k : Nat) (hk : k < 64) (wh : Nat) (hwh : wh < 8) : ct_i (S := Unit) l D yX0_cellNumber wsX0_cellNumber rm_X0_cellNumber [.ref h, .int (nI k), .int (nI wh)] (pW h ad cI hei wat dam wea dra peo rai hou bro drd lef cre gai see fou) [(cI, .int)] (fun r _ => r = q_cell hei wat dam wea dra peo k wh) (fun _ => (pW h ad cI hei wat dam wea dra peo rai hou bro drd lef cre gai see fou)) := by
  refine ct_ofi (cc := cX0_cellNumber) (maxL := 3) (by decide) rfl (Nat.le_of_ble_eq_true rfl) ?_
  intro p e s m args below meth c A Q hx hb hml hown hts hin hA hK H locs hP hD hS fin ls hl
  have hown : s.vm.findClass RX0 = some m.cls := hown
  have hl : lv_has ls 3 [(0, .ref h), (1, .int (nI k)), (2, .int (nI wh))] := hl
  refine lv_iload_n hx hb dX0_cellNumber_0 rfl (lv_at hl 2 rfl) ?_
  rcases (show wh = 0 ∨ wh = 1 ∨ wh = 2 ∨ wh = 3 ∨ wh = 4 ∨ wh = 5 ∨ wh = 6 ∨ wh = 7 by omega) with rfl | rfl | rfl | rfl | rfl | rfl | rfl | rfl
  · skip
    refine lv_tableIn (tgt := 44) hx hb dX0_cellNumber_1 (by decide) (by decide) rfl (by decide) ?_
    refine lv_aload_n hx hb dX0_cellNumber_44 rfl (lv_at hl 0 rfl) ?_
    refine va_get (D := D) (ci := 0) (v := .ref (ad 0)) (C := RX0) (T := TX0) (N := 15) hx hb hts (fun _ h9 => (List.mem_cons_of_mem _ (List.mem_append_right _ h9))) hown hK hP 0 rfl rfl 0 (by decide) (hts (Cond.fieldLink RX0 9 "FloodGrid$Plain" "height" "[I") (List.mem_of_getElem? (i := 1) rfl)) (fun _ h9 => h9) rfl dX0_cellNumber_45 ?_
    refine lv_iload_n hx hb dX0_cellNumber_48 rfl (lv_at hl 1 rfl) ?_
    refine ct_iald (v := hei k) hx hb hK hP 1 0 rfl rfl k rfl (by omega) (by decide) rfl dX0_cellNumber_49 ?_
    exact fin (hei k) () H locs 0 0 50 ls dX0_cellNumber_50 rfl hP hD hS (Nat.le_of_ble_eq_true rfl) (Nat.le_of_ble_eq_true rfl)
  · skip
    refine lv_tableIn (tgt := 51) hx hb dX0_cellNumber_1 (by decide) (by decide) rfl (by decide) ?_
    refine lv_aload_n hx hb dX0_cellNumber_51 rfl (lv_at hl 0 rfl) ?_
    refine va_get (D := D) (ci := 0) (v := .ref (ad 1)) (C := RX0) (T := TX0) (N := 15) hx hb hts (fun _ h9 => (List.mem_cons_of_mem _ (List.mem_append_right _ h9))) hown hK hP 0 rfl rfl 1 (by decide) (hts (Cond.fieldLink RX0 15 "FloodGrid$Plain" "water" "[I") (List.mem_of_getElem? (i := 2) rfl)) (fun _ h9 => h9) rfl dX0_cellNumber_52 ?_
    refine lv_iload_n hx hb dX0_cellNumber_55 rfl (lv_at hl 1 rfl) ?_
    refine ct_iald (v := wat k) hx hb hK hP 2 0 rfl rfl k rfl (by omega) (by decide) rfl dX0_cellNumber_56 ?_
    exact fin (wat k) () H locs 0 0 57 ls dX0_cellNumber_57 rfl hP hD hS (Nat.le_of_ble_eq_true rfl) (Nat.le_of_ble_eq_true rfl)
  · skip
    refine lv_tableIn (tgt := 58) hx hb dX0_cellNumber_1 (by decide) (by decide) rfl (by decide) ?_
    refine lv_aload_n hx hb dX0_cellNumber_58 rfl (lv_at hl 0 rfl) ?_
    refine va_get (D := D) (ci := 0) (v := .ref (ad 2)) (C := RX0) (T := TX0) (N := 15) hx hb hts (fun _ h9 => (List.mem_cons_of_mem _ (List.mem_append_right _ h9))) hown hK hP 0 rfl rfl 2 (by decide) (hts (Cond.fieldLink RX0 18 "FloodGrid$Plain" "dam" "[I") (List.mem_of_getElem? (i := 3) rfl)) (fun _ h9 => h9) rfl dX0_cellNumber_59 ?_
    refine lv_iload_n hx hb dX0_cellNumber_62 rfl (lv_at hl 1 rfl) ?_
    refine ct_iald (v := dam k) hx hb hK hP 3 0 rfl rfl k rfl (by omega) (by decide) rfl dX0_cellNumber_63 ?_
    exact fin (dam k) () H locs 0 0 64 ls dX0_cellNumber_64 rfl hP hD hS (Nat.le_of_ble_eq_true rfl) (Nat.le_of_ble_eq_true rfl)
  · skip
    refine lv_tableIn (tgt := 65) hx hb dX0_cellNumber_1 (by decide) (by decide) rfl (by decide) ?_
    refine lv_aload_n hx hb dX0_cellNumber_65 rfl (lv_at hl 0 rfl) ?_
    refine va_get (D := D) (ci := 0) (v := .ref (ad 3)) (C := RX0) (T := TX0) (N := 15) hx hb hts (fun _ h9 => (List.mem_cons_of_mem _ (List.mem_append_right _ h9))) hown hK hP 0 rfl rfl 3 (by decide) (hts (Cond.fieldLink RX0 21 "FloodGrid$Plain" "wear" "[I") (List.mem_of_getElem? (i := 4) rfl)) (fun _ h9 => h9) rfl dX0_cellNumber_66 ?_
    refine lv_iload_n hx hb dX0_cellNumber_69 rfl (lv_at hl 1 rfl) ?_
    refine ct_iald (v := wea k) hx hb hK hP 4 0 rfl rfl k rfl (by omega) (by decide) rfl dX0_cellNumber_70 ?_
    exact fin (wea k) () H locs 0 0 71 ls dX0_cellNumber_71 rfl hP hD hS (Nat.le_of_ble_eq_true rfl) (Nat.le_of_ble_eq_true rfl)
  · skip
    refine lv_tableIn (tgt := 72) hx hb dX0_cellNumber_1 (by decide) (by decide) rfl (by decide) ?_
    refine lv_aload_n hx hb dX0_cellNumber_72 rfl (lv_at hl 0 rfl) ?_
    refine va_get (D := D) (ci := 0) (v := .ref (ad 4)) (C := RX0) (T := TX0) (N := 15) hx hb hts (fun _ h9 => (List.mem_cons_of_mem _ (List.mem_append_right _ h9))) hown hK hP 0 rfl rfl 4 (by decide) (hts (Cond.fieldLink RX0 24 "FloodGrid$Plain" "drain" "[I") (List.mem_of_getElem? (i := 5) rfl)) (fun _ h9 => h9) rfl dX0_cellNumber_73 ?_
    refine lv_iload_n hx hb dX0_cellNumber_76 rfl (lv_at hl 1 rfl) ?_
    refine ct_iald (v := dra k) hx hb hK hP 5 0 rfl rfl k rfl (by omega) (by decide) rfl dX0_cellNumber_77 ?_
    exact fin (dra k) () H locs 0 0 78 ls dX0_cellNumber_78 rfl hP hD hS (Nat.le_of_ble_eq_true rfl) (Nat.le_of_ble_eq_true rfl)
  · skip
    refine lv_tableIn (tgt := 79) hx hb dX0_cellNumber_1 (by decide) (by decide) rfl (by decide) ?_
    refine lv_aload_n hx hb dX0_cellNumber_79 rfl (lv_at hl 0 rfl) ?_
    refine va_get (D := D) (ci := 0) (v := .ref (ad 5)) (C := RX0) (T := TX0) (N := 15) hx hb hts (fun _ h9 => (List.mem_cons_of_mem _ (List.mem_append_right _ h9))) hown hK hP 0 rfl rfl 5 (by decide) (hts (Cond.fieldLink RX0 27 "FloodGrid$Plain" "people" "[I") (List.mem_of_getElem? (i := 6) rfl)) (fun _ h9 => h9) rfl dX0_cellNumber_80 ?_
    refine lv_iload_n hx hb dX0_cellNumber_83 rfl (lv_at hl 1 rfl) ?_
    refine ct_iald (v := peo k) hx hb hK hP 6 0 rfl rfl k rfl (by omega) (by decide) rfl dX0_cellNumber_84 ?_
    exact fin (peo k) () H locs 0 0 85 ls dX0_cellNumber_85 rfl hP hD hS (Nat.le_of_ble_eq_true rfl) (Nat.le_of_ble_eq_true rfl)
  · skip
    refine lv_tableIn (tgt := 86) hx hb dX0_cellNumber_1 (by decide) (by decide) rfl (by decide) ?_
    refine lv_aload_n hx hb dX0_cellNumber_86 rfl (lv_at hl 0 rfl) ?_
    refine lv_iload_n hx hb dX0_cellNumber_87 rfl (lv_at hl 1 rfl) ?_
    refine ct_Vi (As := [.int (nI k)]) (rest := []) (wr := []) (W1 := fun u => (pW h ad cI hei wat dam wea dra peo rai hou bro drd lef cre gai see fou)) (cells1 := 0) (slots1 := 0) ⟨hx, hb, hml, hown, hts⟩ (c_X0_levelOf l D cI h ad hei wat dam wea dra peo rai hou bro drd lef cre gai see fou k hk) (cwV 1 hts gX0_cellNumber_X0_levelOf rfl rfl rfl (by decide +kernel) ⟨Nat.le_of_ble_eq_true rfl, Nat.le_of_ble_eq_true rfl⟩) hK hP hD hS hA [0, 1, 2, 3, 4, 5, 6, 7, 8, 9, 10, 11] [] ⟨rfl, rfl, rfl, rfl, rfl⟩ [0, 1, 2, 3, 4, 5, 6, 7, 8, 9, 10, 11] rfl (fun _ => rfl) [0] rfl (va_recv hK hP (ci := 0) (q0 := 0) rfl rfl) rfl hl.1 rfl (Nat.le_of_ble_eq_true rfl) rfl rfl ⟨Nat.le_of_ble_eq_true rfl, Nat.le_of_ble_eq_true rfl⟩ dX0_cellNumber_88 (fun r u H locs hw hP hD hS => ?_)
    exact fin r () H locs 0 0 91 ls dX0_cellNumber_91 hw hP hD hS (Nat.le_of_ble_eq_true rfl) (Nat.le_of_ble_eq_true rfl)
  · skip
    refine lv_tableOut (tgt := 92) hx hb dX0_cellNumber_1 (Or.inr (by decide)) (by decide) ?_
    refine lv_aload_n hx hb dX0_cellNumber_92 rfl (lv_at hl 0 rfl) ?_
    refine lv_iload_n hx hb dX0_cellNumber_93 rfl (lv_at hl 1 rfl) ?_
    refine ct_Vi (As := [.int (nI k)]) (rest := []) (wr := []) (W1 := fun u => (pW h ad cI hei wat dam wea dra peo rai hou bro drd lef cre gai see fou)) (cells1 := 0) (slots1 := 0) ⟨hx, hb, hml, hown, hts⟩ (c_X0_crestOf l D cI h ad hei wat dam wea dra peo rai hou bro drd lef cre gai see fou k hk) (cwV 1 hts gX0_cellNumber_X0_crestOf rfl rfl rfl (by decide +kernel) ⟨Nat.le_of_ble_eq_true rfl, Nat.le_of_ble_eq_true rfl⟩) hK hP hD hS hA [0, 1, 2, 3, 4, 5, 6, 7, 8, 9, 10, 11] [] ⟨rfl, rfl, rfl, rfl, rfl⟩ [0, 1, 2, 3, 4, 5, 6, 7, 8, 9, 10, 11] rfl (fun _ => rfl) [0] rfl (va_recv hK hP (ci := 0) (q0 := 0) rfl rfl) rfl hl.1 rfl (Nat.le_of_ble_eq_true rfl) rfl rfl ⟨Nat.le_of_ble_eq_true rfl, Nat.le_of_ble_eq_true rfl⟩ dX0_cellNumber_94 (fun r u H locs hw hP hD hS => ?_)
    exact fin r () H locs 0 0 97 ls dX0_cellNumber_97 hw hP hD hS (Nat.le_of_ble_eq_true rfl) (Nat.le_of_ble_eq_true rfl)
abbrev rm_X0_becomeLike : Room := { frames := 1, cells := 0, slots := 0, locals := 60 }
set_option maxHeartbeats 4000000 in
set_option maxRecDepth 100000 in
theorem c_X0_become (l : Launch) (D : va_G) (cI : ClassId) (h : Nat) (ad : Nat → Nat) (hei wat dam wea dra peo rai : Nat → Int32) (hou bro drd lef : Int32) (cre gai see fou : Nat → Int32) (h2 : Nat) (ad2 : Nat → Nat) (hei2 wat2 dam2 wea2 dra2 peo2 rai2 : Nat → Int32) (hou2 bro2 drd2 lef2 : Int32) (cre2 gai2 see2 fou2 : Nat → Int32) : ct_v (S := Unit) l D yX0_becomeLike wsX0_becomeLike rm_X0_becomeLike [.ref h, .ref h2] ((pW h ad cI hei wat dam wea dra peo rai hou bro drd lef cre gai see fou) ++ (pW h2 ad2 cI hei2 wat2 dam2 wea2 dra2 peo2 rai2 hou2 bro2 drd2 lef2 cre2 gai2 see2 fou2)) [(cI, .int)] (fun _ => True) (fun _ => ((pW h ad cI hei2 wat2 dam2 wea2 dra2 peo2 rai2 hou2 bro2 drd2 lef2 cre gai see fou) ++ (pW h2 ad2 cI hei2 wat2 dam2 wea2 dra2 peo2 rai2 hou2 bro2 drd2 lef2 cre2 gai2 see2 fou2))) := by
  refine ct_ofv (cc := cX0_becomeLike) (maxL := 2) (by decide) rfl (Nat.le_of_ble_eq_true rfl) ?_
  intro p e s m args below meth c A Q hx hb hml hown hts hin hA hK H locs hP hD hS fin ls hl
  have hown : s.vm.findClass RX0 = some m.cls := hown
  have hl : lv_has ls 2 [(0, .ref h), (1, .ref h2)] := hl
  refine lv_aload_n hx hb dX0_becomeLike_0 rfl (lv_at hl 1 rfl) ?_
  refine va_get (D := D) (ci := 0) (v := .ref (ad2 0)) (C := RX0) (T := TX0) (N := 15) hx hb hts (fun _ h9 => (List.mem_cons_of_mem _ (List.mem_append_right _ h9))) hown hK hP 12 rfl rfl 0 (by decide) (hts (Cond.fieldLink RX0 9 "FloodGrid$Plain" "height" "[I") (List.mem_of_getElem? (i := 1) rfl)) (fun _ h9 => h9) rfl dX0_becomeLike_1 ?_
  refine lv_iconst (v := 0) hx hb dX0_becomeLike_4 (by decide) ?_
  refine lv_aload_n hx hb dX0_becomeLike_5 rfl (lv_at hl 0 rfl) ?_
  refine va_get (D := D) (ci := 0) (v := .ref (ad 0)) (C := RX0) (T := TX0) (N := 15) hx hb hts (fun _ h9 => (List.mem_cons_of_mem _ (List.mem_append_right _ h9))) hown hK hP 0 rfl rfl 0 (by decide) (hts (Cond.fieldLink RX0 9 "FloodGrid$Plain" "height" "[I") (List.mem_of_getElem? (i := 1) rfl)) (fun _ h9 => h9) rfl dX0_becomeLike_6 ?_
  refine lv_iconst (v := 0) hx hb dX0_becomeLike_9 (by decide) ?_
  refine lv_bipush (v := 64) hx hb dX0_becomeLike_10 (by decide) ?_
  refine ct_copy (ws1 := ((pW h ad cI hei2 wat dam wea dra peo rai hou bro drd lef cre gai see fou) ++ (pW h2 ad2 cI hei2 wat2 dam2 wea2 dra2 peo2 rai2 hou2 bro2 drd2 lef2 cre2 gai2 see2 fou2))) hx hb (hml.trans hl.1.symm) hown (hts (Cond.methodLink RX0 51 arraycopyName) (List.mem_of_getElem? (i := 2) rfl)) (hts (Cond.native arraycopyName) (List.mem_of_getElem? (i := 3) rfl)) (hts (Cond.static arraycopyName) (List.mem_of_getElem? (i := 4) rfl)) (hts (Cond.initialized "java/lang/System") (List.mem_of_getElem? (i := 5) rfl)) hK hP hD hS 13 1 0 rfl rfl rfl (n := 64) rfl (by decide) (Nat.le_of_ble_eq_true rfl) (Nat.le_of_ble_eq_true (by decide +kernel)) rfl dX0_becomeLike_12 (fun H locs hP hD hS => ?_)
  refine lv_aload_n hx hb dX0_becomeLike_15 rfl (lv_at hl 1 rfl) ?_
  refine va_get (D := D) (ci := 0) (v := .ref (ad2 1)) (C := RX0) (T := TX0) (N := 15) hx hb hts (fun _ h9 => (List.mem_cons_of_mem _ (List.mem_append_right _ h9))) hown hK hP 12 rfl rfl 1 (by decide) (hts (Cond.fieldLink RX0 15 "FloodGrid$Plain" "water" "[I") (List.mem_of_getElem? (i := 6) rfl)) (fun _ h9 => h9) rfl dX0_becomeLike_16 ?_
  refine lv_iconst (v := 0) hx hb dX0_becomeLike_19 (by decide) ?_
  refine lv_aload_n hx hb dX0_becomeLike_20 rfl (lv_at hl 0 rfl) ?_
  refine va_get (D := D) (ci := 0) (v := .ref (ad 1)) (C := RX0) (T := TX0) (N := 15) hx hb hts (fun _ h9 => (List.mem_cons_of_mem _ (List.mem_append_right _ h9))) hown hK hP 0 rfl rfl 1 (by decide) (hts (Cond.fieldLink RX0 15 "FloodGrid$Plain" "water" "[I") (List.mem_of_getElem? (i := 6) rfl)) (fun _ h9 => h9) rfl dX0_becomeLike_21 ?_
  refine lv_iconst (v := 0) hx hb dX0_becomeLike_24 (by decide) ?_
  refine lv_bipush (v := 64) hx hb dX0_becomeLike_25 (by decide) ?_
  refine ct_copy (ws1 := ((pW h ad cI hei2 wat2 dam wea dra peo rai hou bro drd lef cre gai see fou) ++ (pW h2 ad2 cI hei2 wat2 dam2 wea2 dra2 peo2 rai2 hou2 bro2 drd2 lef2 cre2 gai2 see2 fou2))) hx hb (hml.trans hl.1.symm) hown (hts (Cond.methodLink RX0 51 arraycopyName) (List.mem_of_getElem? (i := 2) rfl)) (hts (Cond.native arraycopyName) (List.mem_of_getElem? (i := 3) rfl)) (hts (Cond.static arraycopyName) (List.mem_of_getElem? (i := 4) rfl)) (hts (Cond.initialized "java/lang/System") (List.mem_of_getElem? (i := 5) rfl)) hK hP hD hS 14 2 0 rfl rfl rfl (n := 64) rfl (by decide) (Nat.le_of_ble_eq_true rfl) (Nat.le_of_ble_eq_true (by decide +kernel)) rfl dX0_becomeLike_27 (fun H locs hP hD hS => ?_)
  refine lv_aload_n hx hb dX0_becomeLike_30 rfl (lv_at hl 1 rfl) ?_
  refine va_get (D := D) (ci := 0) (v := .ref (ad2 2)) (C := RX0) (T := TX0) (N := 15) hx hb hts (fun _ h9 => (List.mem_cons_of_mem _ (List.mem_append_right _ h9))) hown hK hP 12 rfl rfl 2 (by decide) (hts (Cond.fieldLink RX0 18 "FloodGrid$Plain" "dam" "[I") (List.mem_of_getElem? (i := 7) rfl)) (fun _ h9 => h9) rfl dX0_becomeLike_31 ?_
  refine lv_iconst (v := 0) hx hb dX0_becomeLike_34 (by decide) ?_
  refine lv_aload_n hx hb dX0_becomeLike_35 rfl (lv_at hl 0 rfl) ?_
  refine va_get (D := D) (ci := 0) (v := .ref (ad 2)) (C := RX0) (T := TX0) (N := 15) hx hb hts (fun _ h9 => (List.mem_cons_of_mem _ (List.mem_append_right _ h9))) hown hK hP 0 rfl rfl 2 (by decide) (hts (Cond.fieldLink RX0 18 "FloodGrid$Plain" "dam" "[I") (List.mem_of_getElem? (i := 7) rfl)) (fun _ h9 => h9) rfl dX0_becomeLike_36 ?_
  refine lv_iconst (v := 0) hx hb dX0_becomeLike_39 (by decide) ?_
  refine lv_bipush (v := 64) hx hb dX0_becomeLike_40 (by decide) ?_
  refine ct_copy (ws1 := ((pW h ad cI hei2 wat2 dam2 wea dra peo rai hou bro drd lef cre gai see fou) ++ (pW h2 ad2 cI hei2 wat2 dam2 wea2 dra2 peo2 rai2 hou2 bro2 drd2 lef2 cre2 gai2 see2 fou2))) hx hb (hml.trans hl.1.symm) hown (hts (Cond.methodLink RX0 51 arraycopyName) (List.mem_of_getElem? (i := 2) rfl)) (hts (Cond.native arraycopyName) (List.mem_of_getElem? (i := 3) rfl)) (hts (Cond.static arraycopyName) (List.mem_of_getElem? (i := 4) rfl)) (hts (Cond.initialized "java/lang/System") (List.mem_of_getElem? (i := 5) rfl)) hK hP hD hS 15 3 0 rfl rfl rfl (n := 64) rfl (by decide) (Nat.le_of_ble_eq_true rfl) (Nat.le_of_ble_eq_true (by decide +kernel)) rfl dX0_becomeLike_42 (fun H locs hP hD hS => ?_)
  refine lv_aload_n hx hb dX0_becomeLike_45 rfl (lv_at hl 1 rfl) ?_
  refine va_get (D := D) (ci := 0) (v := .ref (ad2 3)) (C := RX0) (T := TX0) (N := 15) hx hb hts (fun _ h9 => (List.mem_cons_of_mem _ (List.mem_append_right _ h9))) hown hK hP 12 rfl rfl 3 (by decide) (hts (Cond.fieldLink RX0 21 "FloodGrid$Plain" "wear" "[I") (List.mem_of_getElem? (i := 8) rfl)) (fun _ h9 => h9) rfl dX0_becomeLike_46 ?_
  refine lv_iconst (v := 0) hx hb dX0_becomeLike_49 (by decide) ?_
  refine lv_aload_n hx hb dX0_becomeLike_50 rfl (lv_at hl 0 rfl) ?_
  refine va_get (D := D) (ci := 0) (v := .ref (ad 3)) (C := RX0) (T := TX0) (N := 15) hx hb hts (fun _ h9 => (List.mem_cons_of_mem _ (List.mem_append_right _ h9))) hown hK hP 0 rfl rfl 3 (by decide) (hts (Cond.fieldLink RX0 21 "FloodGrid$Plain" "wear" "[I") (List.mem_of_getElem? (i := 8) rfl)) (fun _ h9 => h9) rfl dX0_becomeLike_51 ?_
  refine lv_iconst (v := 0) hx hb dX0_becomeLike_54 (by decide) ?_
  refine lv_bipush (v := 64) hx hb dX0_becomeLike_55 (by decide) ?_
  refine ct_copy (ws1 := ((pW h ad cI hei2 wat2 dam2 wea2 dra peo rai hou bro drd lef cre gai see fou) ++ (pW h2 ad2 cI hei2 wat2 dam2 wea2 dra2 peo2 rai2 hou2 bro2 drd2 lef2 cre2 gai2 see2 fou2))) hx hb (hml.trans hl.1.symm) hown (hts (Cond.methodLink RX0 51 arraycopyName) (List.mem_of_getElem? (i := 2) rfl)) (hts (Cond.native arraycopyName) (List.mem_of_getElem? (i := 3) rfl)) (hts (Cond.static arraycopyName) (List.mem_of_getElem? (i := 4) rfl)) (hts (Cond.initialized "java/lang/System") (List.mem_of_getElem? (i := 5) rfl)) hK hP hD hS 16 4 0 rfl rfl rfl (n := 64) rfl (by decide) (Nat.le_of_ble_eq_true rfl) (Nat.le_of_ble_eq_true (by decide +kernel)) rfl dX0_becomeLike_57 (fun H locs hP hD hS => ?_)
  refine lv_aload_n hx hb dX0_becomeLike_60 rfl (lv_at hl 1 rfl) ?_
  refine va_get (D := D) (ci := 0) (v := .ref (ad2 4)) (C := RX0) (T := TX0) (N := 15) hx hb hts (fun _ h9 => (List.mem_cons_of_mem _ (List.mem_append_right _ h9))) hown hK hP 12 rfl rfl 4 (by decide) (hts (Cond.fieldLink RX0 24 "FloodGrid$Plain" "drain" "[I") (List.mem_of_getElem? (i := 9) rfl)) (fun _ h9 => h9) rfl dX0_becomeLike_61 ?_
  refine lv_iconst (v := 0) hx hb dX0_becomeLike_64 (by decide) ?_
  refine lv_aload_n hx hb dX0_becomeLike_65 rfl (lv_at hl 0 rfl) ?_
  refine va_get (D := D) (ci := 0) (v := .ref (ad 4)) (C := RX0) (T := TX0) (N := 15) hx hb hts (fun _ h9 => (List.mem_cons_of_mem _ (List.mem_append_right _ h9))) hown hK hP 0 rfl rfl 4 (by decide) (hts (Cond.fieldLink RX0 24 "FloodGrid$Plain" "drain" "[I") (List.mem_of_getElem? (i := 9) rfl)) (fun _ h9 => h9) rfl dX0_becomeLike_66 ?_
  refine lv_iconst (v := 0) hx hb dX0_becomeLike_69 (by decide) ?_
  refine lv_bipush (v := 64) hx hb dX0_becomeLike_70 (by decide) ?_
  refine ct_copy (ws1 := ((pW h ad cI hei2 wat2 dam2 wea2 dra2 peo rai hou bro drd lef cre gai see fou) ++ (pW h2 ad2 cI hei2 wat2 dam2 wea2 dra2 peo2 rai2 hou2 bro2 drd2 lef2 cre2 gai2 see2 fou2))) hx hb (hml.trans hl.1.symm) hown (hts (Cond.methodLink RX0 51 arraycopyName) (List.mem_of_getElem? (i := 2) rfl)) (hts (Cond.native arraycopyName) (List.mem_of_getElem? (i := 3) rfl)) (hts (Cond.static arraycopyName) (List.mem_of_getElem? (i := 4) rfl)) (hts (Cond.initialized "java/lang/System") (List.mem_of_getElem? (i := 5) rfl)) hK hP hD hS 17 5 0 rfl rfl rfl (n := 64) rfl (by decide) (Nat.le_of_ble_eq_true rfl) (Nat.le_of_ble_eq_true (by decide +kernel)) rfl dX0_becomeLike_72 (fun H locs hP hD hS => ?_)
  refine lv_aload_n hx hb dX0_becomeLike_75 rfl (lv_at hl 1 rfl) ?_
  refine va_get (D := D) (ci := 0) (v := .ref (ad2 5)) (C := RX0) (T := TX0) (N := 15) hx hb hts (fun _ h9 => (List.mem_cons_of_mem _ (List.mem_append_right _ h9))) hown hK hP 12 rfl rfl 5 (by decide) (hts (Cond.fieldLink RX0 27 "FloodGrid$Plain" "people" "[I") (List.mem_of_getElem? (i := 10) rfl)) (fun _ h9 => h9) rfl dX0_becomeLike_76 ?_
  refine lv_iconst (v := 0) hx hb dX0_becomeLike_79 (by decide) ?_
  refine lv_aload_n hx hb dX0_becomeLike_80 rfl (lv_at hl 0 rfl) ?_
  refine va_get (D := D) (ci := 0) (v := .ref (ad 5)) (C := RX0) (T := TX0) (N := 15) hx hb hts (fun _ h9 => (List.mem_cons_of_mem _ (List.mem_append_right _ h9))) hown hK hP 0 rfl rfl 5 (by decide) (hts (Cond.fieldLink RX0 27 "FloodGrid$Plain" "people" "[I") (List.mem_of_getElem? (i := 10) rfl)) (fun _ h9 => h9) rfl dX0_becomeLike_81 ?_
  refine lv_iconst (v := 0) hx hb dX0_becomeLike_84 (by decide) ?_
  refine lv_bipush (v := 64) hx hb dX0_becomeLike_85 (by decide) ?_
  refine ct_copy (ws1 := ((pW h ad cI hei2 wat2 dam2 wea2 dra2 peo2 rai hou bro drd lef cre gai see fou) ++ (pW h2 ad2 cI hei2 wat2 dam2 wea2 dra2 peo2 rai2 hou2 bro2 drd2 lef2 cre2 gai2 see2 fou2))) hx hb (hml.trans hl.1.symm) hown (hts (Cond.methodLink RX0 51 arraycopyName) (List.mem_of_getElem? (i := 2) rfl)) (hts (Cond.native arraycopyName) (List.mem_of_getElem? (i := 3) rfl)) (hts (Cond.static arraycopyName) (List.mem_of_getElem? (i := 4) rfl)) (hts (Cond.initialized "java/lang/System") (List.mem_of_getElem? (i := 5) rfl)) hK hP hD hS 18 6 0 rfl rfl rfl (n := 64) rfl (by decide) (Nat.le_of_ble_eq_true rfl) (Nat.le_of_ble_eq_true (by decide +kernel)) rfl dX0_becomeLike_87 (fun H locs hP hD hS => ?_)
  refine lv_aload_n hx hb dX0_becomeLike_90 rfl (lv_at hl 1 rfl) ?_
  refine va_get (D := D) (ci := 0) (v := .ref (ad2 6)) (C := RX0) (T := TX0) (N := 15) hx hb hts (fun _ h9 => (List.mem_cons_of_mem _ (List.mem_append_right _ h9))) hown hK hP 12 rfl rfl 6 (by decide) (hts (Cond.fieldLink RX0 30 "FloodGrid$Plain" "rain" "[I") (List.mem_of_getElem? (i := 11) rfl)) (fun _ h9 => h9) rfl dX0_becomeLike_91 ?_
  refine lv_iconst (v := 0) hx hb dX0_becomeLike_94 (by decide) ?_
  refine lv_aload_n hx hb dX0_becomeLike_95 rfl (lv_at hl 0 rfl) ?_
  refine va_get (D := D) (ci := 0) (v := .ref (ad 6)) (C := RX0) (T := TX0) (N := 15) hx hb hts (fun _ h9 => (List.mem_cons_of_mem _ (List.mem_append_right _ h9))) hown hK hP 0 rfl rfl 6 (by decide) (hts (Cond.fieldLink RX0 30 "FloodGrid$Plain" "rain" "[I") (List.mem_of_getElem? (i := 11) rfl)) (fun _ h9 => h9) rfl dX0_becomeLike_96 ?_
  refine lv_iconst (v := 0) hx hb dX0_becomeLike_99 (by decide) ?_
  refine lv_bipush (v := 12) hx hb dX0_becomeLike_100 (by decide) ?_
  refine ct_copy (ws1 := ((pW h ad cI hei2 wat2 dam2 wea2 dra2 peo2 rai2 hou bro drd lef cre gai see fou) ++ (pW h2 ad2 cI hei2 wat2 dam2 wea2 dra2 peo2 rai2 hou2 bro2 drd2 lef2 cre2 gai2 see2 fou2))) hx hb (hml.trans hl.1.symm) hown (hts (Cond.methodLink RX0 51 arraycopyName) (List.mem_of_getElem? (i := 2) rfl)) (hts (Cond.native arraycopyName) (List.mem_of_getElem? (i := 3) rfl)) (hts (Cond.static arraycopyName) (List.mem_of_getElem? (i := 4) rfl)) (hts (Cond.initialized "java/lang/System") (List.mem_of_getElem? (i := 5) rfl)) hK hP hD hS 19 7 0 rfl rfl rfl (n := 12) rfl (by decide) (Nat.le_of_ble_eq_true rfl) (Nat.le_of_ble_eq_true (by decide +kernel)) rfl dX0_becomeLike_102 (fun H locs hP hD hS => ?_)
  refine lv_aload_n hx hb dX0_becomeLike_105 rfl (lv_at hl 0 rfl) ?_
  refine lv_aload_n hx hb dX0_becomeLike_106 rfl (lv_at hl 1 rfl) ?_
  refine va_get (D := D) (ci := 0) (v := .int hou2) (C := RX0) (T := TX0) (N := 15) hx hb hts (fun _ h9 => (List.mem_cons_of_mem _ (List.mem_append_right _ h9))) hown hK hP 12 rfl rfl 7 (by decide) (hts (Cond.fieldLink RX0 57 "FloodGrid$Plain" "hour" "I") (List.mem_of_getElem? (i := 12) rfl)) (fun _ h9 => h9) rfl dX0_becomeLike_107 ?_
  refine va_put (D := D) (ci := 0) (v := .int hou2) (ty := .int) (C := RX0) (T := TX0) (N := 15) hx hb hts (fun _ h9 => (List.mem_cons_of_mem _ (List.mem_append_right _ h9))) tyX0 tyX0_ok nmX0 hown hK hP hD hS 0 rfl rfl 7 (by decide) (hts (Cond.fieldLink RX0 57 "FloodGrid$Plain" "hour" "I") (List.mem_of_getElem? (i := 12) rfl)) (fun _ h9 => h9) rfl (by decide +kernel) rfl rfl (Nat.le_of_ble_eq_true rfl) dX0_becomeLike_110 (fun H locs hP hD hS => ?_)
  have hP : va_P D vwCl ((pW h ad cI hei2 wat2 dam2 wea2 dra2 peo2 rai2 hou2 bro drd lef cre gai see fou) ++ (pW h2 ad2 cI hei2 wat2 dam2 wea2 dra2 peo2 rai2 hou2 bro2 drd2 lef2 cre2 gai2 see2 fou2)) H := hP
  have hD : va_D A ((pW h ad cI hei2 wat2 dam2 wea2 dra2 peo2 rai2 hou2 bro drd lef cre gai see fou) ++ (pW h2 ad2 cI hei2 wat2 dam2 wea2 dra2 peo2 rai2 hou2 bro2 drd2 lef2 cre2 gai2 see2 fou2)) := hD
  refine lv_aload_n hx hb dX0_becomeLike_113 rfl (lv_at hl 0 rfl) ?_
  refine lv_aload_n hx hb dX0_becomeLike_114 rfl (lv_at hl 1 rfl) ?_
  refine va_get (D := D) (ci := 0) (v := .int bro2) (C := RX0) (T := TX0) (N := 15) hx hb hts (fun _ h9 => (List.mem_cons_of_mem _ (List.mem_append_right _ h9))) hown hK hP 12 rfl rfl 8 (by decide) (hts (Cond.fieldLink RX0 61 "FloodGrid$Plain" "broken" "I") (List.mem_of_getElem? (i := 13) rfl)) (fun _ h9 => h9) rfl dX0_becomeLike_115 ?_
  refine va_put (D := D) (ci := 0) (v := .int bro2) (ty := .int) (C := RX0) (T := TX0) (N := 15) hx hb hts (fun _ h9 => (List.mem_cons_of_mem _ (List.mem_append_right _ h9))) tyX0 tyX0_ok nmX0 hown hK hP hD hS 0 rfl rfl 8 (by decide) (hts (Cond.fieldLink RX0 61 "FloodGrid$Plain" "broken" "I") (List.mem_of_getElem? (i := 13) rfl)) (fun _ h9 => h9) rfl (by decide +kernel) rfl rfl (Nat.le_of_ble_eq_true rfl) dX0_becomeLike_118 (fun H locs hP hD hS => ?_)
  have hP : va_P D vwCl ((pW h ad cI hei2 wat2 dam2 wea2 dra2 peo2 rai2 hou2 bro2 drd lef cre gai see fou) ++ (pW h2 ad2 cI hei2 wat2 dam2 wea2 dra2 peo2 rai2 hou2 bro2 drd2 lef2 cre2 gai2 see2 fou2)) H := hP
  have hD : va_D A ((pW h ad cI hei2 wat2 dam2 wea2 dra2 peo2 rai2 hou2 bro2 drd lef cre gai see fou) ++ (pW h2 ad2 cI hei2 wat2 dam2 wea2 dra2 peo2 rai2 hou2 bro2 drd2 lef2 cre2 gai2 see2 fou2)) := hD
  refine lv_aload_n hx hb dX0_becomeLike_121 rfl (lv_at hl 0 rfl) ?_
  refine lv_aload_n hx hb dX0_becomeLike_122 rfl (lv_at hl 1 rfl) ?_
  refine va_get (D := D) (ci := 0) (v := .int drd2) (C := RX0) (T := TX0) (N := 15) hx hb hts (fun _ h9 => (List.mem_cons_of_mem _ (List.mem_append_right _ h9))) hown hK hP 12 rfl rfl 9 (by decide) (hts (Cond.fieldLink RX0 64 "FloodGrid$Plain" "drained" "I") (List.mem_of_getElem? (i := 14) rfl)) (fun _ h9 => h9) rfl dX0_becomeLike_123 ?_
  refine va_put (D := D) (ci := 0) (v := .int drd2) (ty := .int) (C := RX0) (T := TX0) (N := 15) hx hb hts (fun _ h9 => (List.mem_cons_of_mem _ (List.mem_append_right _ h9))) tyX0 tyX0_ok nmX0 hown hK hP hD hS 0 rfl rfl 9 (by decide) (hts (Cond.fieldLink RX0 64 "FloodGrid$Plain" "drained" "I") (List.mem_of_getElem? (i := 14) rfl)) (fun _ h9 => h9) rfl (by decide +kernel) rfl rfl (Nat.le_of_ble_eq_true rfl) dX0_becomeLike_126 (fun H locs hP hD hS => ?_)
  have hP : va_P D vwCl ((pW h ad cI hei2 wat2 dam2 wea2 dra2 peo2 rai2 hou2 bro2 drd2 lef cre gai see fou) ++ (pW h2 ad2 cI hei2 wat2 dam2 wea2 dra2 peo2 rai2 hou2 bro2 drd2 lef2 cre2 gai2 see2 fou2)) H := hP
  have hD : va_D A ((pW h ad cI hei2 wat2 dam2 wea2 dra2 peo2 rai2 hou2 bro2 drd2 lef cre gai see fou) ++ (pW h2 ad2 cI hei2 wat2 dam2 wea2 dra2 peo2 rai2 hou2 bro2 drd2 lef2 cre2 gai2 see2 fou2)) := hD
  refine lv_aload_n hx hb dX0_becomeLike_129 rfl (lv_at hl 0 rfl) ?_
  refine lv_aload_n hx hb dX0_becomeLike_130 rfl (lv_at hl 1 rfl) ?_
  refine va_get (D := D) (ci := 0) (v := .int lef2) (C := RX0) (T := TX0) (N := 15) hx hb hts (fun _ h9 => (List.mem_cons_of_mem _ (List.mem_append_right _ h9))) hown hK hP 12 rfl rfl 10 (by decide) (hts (Cond.fieldLink RX0 67 "FloodGrid$Plain" "left" "I") (List.mem_of_getElem? (i := 15) rfl)) (fun _ h9 => h9) rfl dX0_becomeLike_131 ?_
  refine va_put (D := D) (ci := 0) (v := .int lef2) (ty := .int) (C := RX0) (T := TX0) (N := 15) hx hb hts (fun _ h9 => (List.mem_cons_of_mem _ (List.mem_append_right _ h9))) tyX0 tyX0_ok nmX0 hown hK hP hD hS 0 rfl rfl 10 (by decide) (hts (Cond.fieldLink RX0 67 "FloodGrid$Plain" "left" "I") (List.mem_of_getElem? (i := 15) rfl)) (fun _ h9 => h9) rfl (by decide +kernel) rfl rfl (Nat.le_of_ble_eq_true rfl) dX0_becomeLike_134 (fun H locs hP hD hS => ?_)
  have hP : va_P D vwCl ((pW h ad cI hei2 wat2 dam2 wea2 dra2 peo2 rai2 hou2 bro2 drd2 lef2 cre gai see fou) ++ (pW h2 ad2 cI hei2 wat2 dam2 wea2 dra2 peo2 rai2 hou2 bro2 drd2 lef2 cre2 gai2 see2 fou2)) H := hP
  have hD : va_D A ((pW h ad cI hei2 wat2 dam2 wea2 dra2 peo2 rai2 hou2 bro2 drd2 lef2 cre gai see fou) ++ (pW h2 ad2 cI hei2 wat2 dam2 wea2 dra2 peo2 rai2 hou2 bro2 drd2 lef2 cre2 gai2 see2 fou2)) := hD
  exact fin () H locs 0 0 137 ls dX0_becomeLike_137 trivial hP hD hS (Nat.le_of_ble_eq_true rfl) (Nat.le_of_ble_eq_true rfl)
abbrev rm_X0_init : Room := { frames := 1, cells := 11, slots := 652, locals := 23 }
set_option maxHeartbeats 4000000 in
set_option maxRecDepth 100000 in
theorem c_X0_init (l : Launch) (D : va_G) (cI : ClassId) (h : Nat) : ct_v (S := Nat → Nat) l D yX0_init wsX0_init rm_X0_init [.ref h] ([(h, .inr (0, [.null, .null, .null, .null, .null, .null, .null, .int 0, .int 0, .int 0, .int 0, .null, .null, .null, .null]))]) [(cI, .int)] (fun _ => True) (fun u => pW h u cI (fun _ => 10) (fun _ => 0) (fun _ => 0) (fun _ => 0) (fun _ => 0) (fun _ => 0) (fun _ => 0) 0 0 0 0 (fun _ => 0) (fun _ => 0) (fun _ => 0) (fun _ => 0)) := by
  refine ct_ofv (cc := cX0_init) (maxL := 1) (by decide) rfl (Nat.le_of_ble_eq_true rfl) ?_
  intro p e s m args below meth c A Q hx hb hml hown hts hin hA hK H locs hP hD hS fin ls hl
  have hown : s.vm.findClass RX0 = some m.cls := hown
  have hl : lv_has ls 1 [(0, .ref h)] := hl
  refine lv_aload_n hx hb dX0_init_0 rfl (lv_at hl 0 rfl) ?_
  refine W.objInit hx hb hown (hts (Cond.methodLink RX0 3 objectInit) (List.mem_of_getElem? (i := 1) rfl)) (hts (Cond.instanceMethod objectInit) (List.mem_of_getElem? (i := 2) rfl)) (hts (Cond.code objectInit ⟨#[0xb1]⟩ 1 none) (List.mem_of_getElem? (i := 3) rfl)) rfl (by rw [hml]; exact hl.1) rfl dX0_init_1 (Nat.le_of_ble_eq_true rfl) (Nat.le_of_ble_eq_true rfl) ?_
  refine W.eq (g2 := F0 m 4 ls []) rfl ?_
  refine lv_aload_n hx hb dX0_init_4 rfl (lv_at hl 0 rfl) ?_
  refine lv_bipush (v := 64) hx hb dX0_init_5 (by decide) ?_
  refine ct_newa (cells1 := 1) (slots1 := 64) hx hb (hts (Cond.arrayClass .int) (List.mem_of_getElem? (i := 4) rfl)) 0 rfl hK hP hD hS hA 64 rfl (by decide) rfl rfl (Nat.le_of_ble_eq_true rfl) (Nat.le_of_ble_eq_true rfl) dX0_init_7 (fun q0 H hP hD hS => ?_)
  have hP : va_P D vwCl ([(h, .inr (0, [.null, .null, .null, .null, .null, .null, .null, .int 0, .int 0, .int 0, .int 0, .null, .null, .null, .null])), (q0, .inl (cI, 64, .inl (fun _ => 0)))]) H := hP
  have hD : va_D A ([(h, .inr (0, [.null, .null, .null, .null, .null, .null, .null, .int 0, .int 0, .int 0, .int 0, .null, .null, .null, .null])), (q0, .inl (cI, 64, .inl (fun _ => 0)))]) := hD
  refine va_putF (D := D) (ci := 0) (v := .ref q0) (ty := .array .int) (C := RX0) (T := TX0) (N := 15) hx hb hts (fun _ h9 => (List.mem_cons_of_mem _ (List.mem_append_right _ h9))) tyX0 tyX0_ok nmX0 hown hK hP hD hS 0 rfl rfl 0 (by decide) (hts (Cond.fieldLink RX0 9 "FloodGrid$Plain" "height" "[I") (List.mem_of_getElem? (i := 5) rfl)) (fun _ h9 => h9) rfl hin rfl (by decide +kernel) rfl rfl (Nat.le_of_ble_eq_true rfl) dX0_init_9 (fun H locs hP hD hS => ?_)
  have hP : va_P D vwCl ([(h, .inr (0, [.ref q0, .null, .null, .null, .null, .null, .null, .int 0, .int 0, .int 0, .int 0, .null, .null, .null, .null])), (q0, .inl (cI, 64, .inl (fun _ => 0)))]) H := hP
  have hD : va_D A ([(h, .inr (0, [.ref q0, .null, .null, .null, .null, .null, .null, .int 0, .int 0, .int 0, .int 0, .null, .null, .null, .null])), (q0, .inl (cI, 64, .inl (fun _ => 0)))]) := hD
  refine lv_aload_n hx hb dX0_init_12 rfl (lv_at hl 0 rfl) ?_
  refine lv_bipush (v := 64) hx hb dX0_init_13 (by decide) ?_
  refine ct_newa (cells1 := 2) (slots1 := 128) hx hb (hts (Cond.arrayClass .int) (List.mem_of_getElem? (i := 4) rfl)) 0 rfl hK hP hD hS hA 64 rfl (by decide) rfl rfl (Nat.le_of_ble_eq_true rfl) (Nat.le_of_ble_eq_true rfl) dX0_init_15 (fun q1 H hP hD hS => ?_)
  have hP : va_P D vwCl ([(h, .inr (0, [.ref q0, .null, .null, .null, .null, .null, .null, .int 0, .int 0, .int 0, .int 0, .null, .null, .null, .null])), (q0, .inl (cI, 64, .inl (fun _ => 0))), (q1, .inl (cI, 64, .inl (fun _ => 0)))]) H := hP
  have hD : va_D A ([(h, .inr (0, [.ref q0, .null, .null, .null, .null, .null, .null, .int 0, .int 0, .int 0, .int 0, .null, .null, .null, .null])), (q0, .inl (cI, 64, .inl (fun _ => 0))), (q1, .inl (cI, 64, .inl (fun _ => 0)))]) := hD
  refine va_putF (D := D) (ci := 0) (v := .ref q1) (ty := .array .int) (C := RX0) (T := TX0) (N := 15) hx hb hts (fun _ h9 => (List.mem_cons_of_mem _ (List.mem_append_right _ h9))) tyX0 tyX0_ok nmX0 hown hK hP hD hS 0 rfl rfl 1 (by decide) (hts (Cond.fieldLink RX0 15 "FloodGrid$Plain" "water" "[I") (List.mem_of_getElem? (i := 6) rfl)) (fun _ h9 => h9) rfl hin rfl (by decide +kernel) rfl rfl (Nat.le_of_ble_eq_true rfl) dX0_init_17 (fun H locs hP hD hS => ?_)
  have hP : va_P D vwCl ([(h, .inr (0, [.ref q0, .ref q1, .null, .null, .null, .null, .null, .int 0, .int 0, .int 0, .int 0, .null, .null, .null, .null])), (q0, .inl (cI, 64, .inl (fun _ => 0))), (q1, .inl (cI, 64, .inl (fun _ => 0)))]) H := hP
  have hD : va_D A ([(h, .inr (0, [.ref q0, .ref q1, .null, .null, .null, .null, .null, .int 0, .int 0, .int 0, .int 0, .null, .null, .null, .null])), (q0, .inl (cI, 64, .inl (fun _ => 0))), (q1, .inl (cI, 64, .inl (fun _ => 0)))]) := hD
  refine lv_aload_n hx hb dX0_init_20 rfl (lv_at hl 0 rfl) ?_
  refine lv_bipush (v := 64) hx hb dX0_init_21 (by decide) ?_
  refine ct_newa (cells1 := 3) (slots1 := 192) hx hb (hts (Cond.arrayClass .int) (List.mem_of_getElem? (i := 4) rfl)) 0 rfl hK hP hD hS hA 64 rfl (by decide) rfl rfl (Nat.le_of_ble_eq_true rfl) (Nat.le_of_ble_eq_true rfl) dX0_init_23 (fun q2 H hP hD hS => ?_)
  have hP : va_P D vwCl ([(h, .inr (0, [.ref q0, .ref q1, .null, .null, .null, .null, .null, .int 0, .int 0, .int 0, .int 0, .null, .null, .null, .null])), (q0, .inl (cI, 64, .inl (fun _ => 0))), (q1, .inl (cI, 64, .inl (fun _ => 0))), (q2, .inl (cI, 64, .inl (fun _ => 0)))]) H := hP
  have hD : va_D A ([(h, .inr (0, [.ref q0, .ref q1, .null, .null, .null, .null, .null, .int 0, .int 0, .int 0, .int 0, .null, .null, .null, .null])), (q0, .inl (cI, 64, .inl (fun _ => 0))), (q1, .inl (cI, 64, .inl (fun _ => 0))), (q2, .inl (cI, 64, .inl (fun _ => 0)))]) := hD
  refine va_putF (D := D) (ci := 0) (v := .ref q2) (ty := .array .int) (C := RX0) (T := TX0) (N := 15) hx hb hts (fun _ h9 => (List.mem_cons_of_mem _ (List.mem_append_right _ h9))) tyX0 tyX0_ok nmX0 hown hK hP hD hS 0 rfl rfl 2 (by decide) (hts (Cond.fieldLink RX0 18 "FloodGrid$Plain" "dam" "[I") (List.mem_of_getElem? (i := 7) rfl)) (fun _ h9 => h9) rfl hin rfl (by decide +kernel) rfl rfl (Nat.le_of_ble_eq_true rfl) dX0_init_25 (fun H locs hP hD hS => ?_)
  have hP : va_P D vwCl ([(h, .inr (0, [.ref q0, .ref q1, .ref q2, .null, .null, .null, .null, .int 0, .int 0, .int 0, .int 0, .null, .null, .null, .null])), (q0, .inl (cI, 64, .inl (fun _ => 0))), (q1, .inl (cI, 64, .inl (fun _ => 0))), (q2, .inl (cI, 64, .inl (fun _ => 0)))]) H := hP
  have hD : va_D A ([(h, .inr (0, [.ref q0, .ref q1, .ref q2, .null, .null, .null, .null, .int 0, .int 0, .int 0, .int 0, .null, .null, .null, .null])), (q0, .inl (cI, 64, .inl (fun _ => 0))), (q1, .inl (cI, 64, .inl (fun _ => 0))), (q2, .inl (cI, 64, .inl (fun _ => 0)))]) := hD
  refine lv_aload_n hx hb dX0_init_28 rfl (lv_at hl 0 rfl) ?_
  refine lv_bipush (v := 64) hx hb dX0_init_29 (by decide) ?_
  refine ct_newa (cells1 := 4) (slots1 := 256) hx hb (hts (Cond.arrayClass .int) (List.mem_of_getElem? (i := 4) rfl)) 0 rfl hK hP hD hS hA 64 rfl (by decide) rfl rfl (Nat.le_of_ble_eq_true rfl) (Nat.le_of_ble_eq_true rfl) dX0_init_31 (fun q3 H hP hD hS => ?_)
  have hP : va_P D vwCl ([(h, .inr (0, [.ref q0, .ref q1, .ref q2, .null, .null, .null, .null, .int 0, .int 0, .int 0, .int 0, .null, .null, .null, .null])), (q0, .inl (cI, 64, .inl (fun _ => 0))), (q1, .inl (cI, 64, .inl (fun _ => 0))), (q2, .inl (cI, 64, .inl (fun _ => 0))), (q3, .inl (cI, 64, .inl (fun _ => 0)))]) H := hP
  have hD : va_D A ([(h, .inr (0, [.ref q0, .ref q1, .ref q2, .null, .null, .null, .null, .int 0, .int 0, .int 0, .int 0, .null, .null, .null, .null])), (q0, .inl (cI, 64, .inl (fun _ => 0))), (q1, .inl (cI, 64, .inl (fun _ => 0))), (q2, .inl (cI, 64, .inl (fun _ => 0))), (q3, .inl (cI, 64, .inl (fun _ => 0)))]) := hD
  refine va_putF (D := D) (ci := 0) (v := .ref q3) (ty := .array .int) (C := RX0) (T := TX0) (N := 15) hx hb hts (fun _ h9 => (List.mem_cons_of_mem _ (List.mem_append_right _ h9))) tyX0 tyX0_ok nmX0 hown hK hP hD hS 0 rfl rfl 3 (by decide) (hts (Cond.fieldLink RX0 21 "FloodGrid$Plain" "wear" "[I") (List.mem_of_getElem? (i := 8) rfl)) (fun _ h9 => h9) rfl hin rfl (by decide +kernel) rfl rfl (Nat.le_of_ble_eq_true rfl) dX0_init_33 (fun H locs hP hD hS => ?_)
  have hP : va_P D vwCl ([(h, .inr (0, [.ref q0, .ref q1, .ref q2, .ref q3, .null, .null, .null, .int 0, .int 0, .int 0, .int 0, .null, .null, .null, .null])), (q0, .inl (cI, 64, .inl (fun _ => 0))), (q1, .inl (cI, 64, .inl (fun _ => 0))), (q2, .inl (cI, 64, .inl (fun _ => 0))), (q3, .inl (cI, 64, .inl (fun _ => 0)))]) H := hP
  have hD : va_D A ([(h, .inr (0, [.ref q0, .ref q1, .ref q2, .ref q3, .null, .null, .null, .int 0, .int 0, .int 0, .int 0, .null, .null, .null, .null])), (q0, .inl (cI, 64, .inl (fun _ => 0))), (q1, .inl (cI, 64, .inl (fun _ => 0))), (q2, .inl (cI, 64, .inl (fun _ => 0))), (q3, .inl (cI, 64, .inl (fun _ => 0)))]) := hD
  refine lv_aload_n hx hb dX0_init_36 rfl (lv_at hl 0 rfl) ?_
  refine lv_bipush (v := 64) hx hb dX0_init_37 (by decide) ?_
  refine ct_newa (cells1 := 5) (slots1 := 320) hx hb (hts (Cond.arrayClass .int) (List.mem_of_getElem? (i := 4) rfl)) 0 rfl hK hP hD hS hA 64 rfl (by decide) rfl rfl (Nat.le_of_ble_eq_true rfl) (Nat.le_of_ble_eq_true rfl) dX0_init_39 (fun q4 H hP hD hS => ?_)
  have hP : va_P D vwCl ([(h, .inr (0, [.ref q0, .ref q1, .ref q2, .ref q3, .null, .null, .null, .int 0, .int 0, .int 0, .int 0, .null, .null, .null, .null])), (q0, .inl (cI, 64, .inl (fun _ => 0))), (q1, .inl (cI, 64, .inl (fun _ => 0))), (q2, .inl (cI, 64, .inl (fun _ => 0))), (q3, .inl (cI, 64, .inl (fun _ => 0))), (q4, .inl (cI, 64, .inl (fun _ => 0)))]) H := hP
  have hD : va_D A ([(h, .inr (0, [.ref q0, .ref q1, .ref q2, .ref q3, .null, .null, .null, .int 0, .int 0, .int 0, .int 0, .null, .null, .null, .null])), (q0, .inl (cI, 64, .inl (fun _ => 0))), (q1, .inl (cI, 64, .inl (fun _ => 0))), (q2, .inl (cI, 64, .inl (fun _ => 0))), (q3, .inl (cI, 64, .inl (fun _ => 0))), (q4, .inl (cI, 64, .inl (fun _ => 0)))]) := hD
  refine va_putF (D := D) (ci := 0) (v := .ref q4) (ty := .array .int) (C := RX0) (T := TX0) (N := 15) hx hb hts (fun _ h9 => (List.mem_cons_of_mem _ (List.mem_append_right _ h9))) tyX0 tyX0_ok nmX0 hown hK hP hD hS 0 rfl rfl 4 (by decide) (hts (Cond.fieldLink RX0 24 "FloodGrid$Plain" "drain" "[I") (List.mem_of_getElem? (i := 9) rfl)) (fun _ h9 => h9) rfl hin rfl (by decide +kernel) rfl rfl (Nat.le_of_ble_eq_true rfl) dX0_init_41 (fun H locs hP hD hS => ?_)
  have hP : va_P D vwCl ([(h, .inr (0, [.ref q0, .ref q1, .ref q2, .ref q3, .ref q4, .null, .null, .int 0, .int 0, .int 0, .int 0, .null, .null, .null, .null])), (q0, .inl (cI, 64, .inl (fun _ => 0))), (q1, .inl (cI, 64, .inl (fun _ => 0))), (q2, .inl (cI, 64, .inl (fun _ => 0))), (q3, .inl (cI, 64, .inl (fun _ => 0))), (q4, .inl (cI, 64, .inl (fun _ => 0)))]) H := hP
  have hD : va_D A ([(h, .inr (0, [.ref q0, .ref q1, .ref q2, .ref q3, .ref q4, .null, .null, .int 0, .int 0, .int 0, .int 0, .null, .null, .null, .null])), (q0, .inl (cI, 64, .inl (fun _ => 0))), (q1, .inl (cI, 64, .inl (fun _ => 0))), (q2, .inl (cI, 64, .inl (fun _ => 0))), (q3, .inl (cI, 64, .inl (fun _ => 0))), (q4, .inl (cI, 64, .inl (fun _ => 0)))]) := hD
  refine lv_aload_n hx hb dX0_init_44 rfl (lv_at hl 0 rfl) ?_
  refine lv_bipush (v := 64) hx hb dX0_init_45 (by decide) ?_
  refine ct_newa (cells1 := 6) (slots1 := 384) hx hb (hts (Cond.arrayClass .int) (List.mem_of_getElem? (i := 4) rfl)) 0 rfl hK hP hD hS hA 64 rfl (by decide) rfl rfl (Nat.le_of_ble_eq_true rfl) (Nat.le_of_ble_eq_true rfl) dX0_init_47 (fun q5 H hP hD hS => ?_)
  have hP : va_P D vwCl ([(h, .inr (0, [.ref q0, .ref q1, .ref q2, .ref q3, .ref q4, .null, .null, .int 0, .int 0, .int 0, .int 0, .null, .null, .null, .null])), (q0, .inl (cI, 64, .inl (fun _ => 0))), (q1, .inl (cI, 64, .inl (fun _ => 0))), (q2, .inl (cI, 64, .inl (fun _ => 0))), (q3, .inl (cI, 64, .inl (fun _ => 0))), (q4, .inl (cI, 64, .inl (fun _ => 0))), (q5, .inl (cI, 64, .inl (fun _ => 0)))]) H := hP
  have hD : va_D A ([(h, .inr (0, [.ref q0, .ref q1, .ref q2, .ref q3, .ref q4, .null, .null, .int 0, .int 0, .int 0, .int 0, .null, .null, .null, .null])), (q0, .inl (cI, 64, .inl (fun _ => 0))), (q1, .inl (cI, 64, .inl (fun _ => 0))), (q2, .inl (cI, 64, .inl (fun _ => 0))), (q3, .inl (cI, 64, .inl (fun _ => 0))), (q4, .inl (cI, 64, .inl (fun _ => 0))), (q5, .inl (cI, 64, .inl (fun _ => 0)))]) := hD
  refine va_putF (D := D) (ci := 0) (v := .ref q5) (ty := .array .int) (C := RX0) (T := TX0) (N := 15) hx hb hts (fun _ h9 => (List.mem_cons_of_mem _ (List.mem_append_right _ h9))) tyX0 tyX0_ok nmX0 hown hK hP hD hS 0 rfl rfl 5 (by decide) (hts (Cond.fieldLink RX0 27 "FloodGrid$Plain" "people" "[I") (List.mem_of_getElem? (i := 10) rfl)) (fun _ h9 => h9) rfl hin rfl (by decide +kernel) rfl rfl (Nat.le_of_ble_eq_true rfl) dX0_init_49 (fun H locs hP hD hS => ?_)
  have hP : va_P D vwCl ([(h, .inr (0, [.ref q0, .ref q1, .ref q2, .ref q3, .ref q4, .ref q5, .null, .int 0, .int 0, .int 0, .int 0, .null, .null, .null, .null])), (q0, .inl (cI, 64, .inl (fun _ => 0))), (q1, .inl (cI, 64, .inl (fun _ => 0))), (q2, .inl (cI, 64, .inl (fun _ => 0))), (q3, .inl (cI, 64, .inl (fun _ => 0))), (q4, .inl (cI, 64, .inl (fun _ => 0))), (q5, .inl (cI, 64, .inl (fun _ => 0)))]) H := hP
  have hD : va_D A ([(h, .inr (0, [.ref q0, .ref q1, .ref q2, .ref q3, .ref q4, .ref q5, .null, .int 0, .int 0, .int 0, .int 0, .null, .null, .null, .null])), (q0, .inl (cI, 64, .inl (fun _ => 0))), (q1, .inl (cI, 64, .inl (fun _ => 0))), (q2, .inl (cI, 64, .inl (fun _ => 0))), (q3, .inl (cI, 64, .inl (fun _ => 0))), (q4, .inl (cI, 64, .inl (fun _ => 0))), (q5, .inl (cI, 64, .inl (fun _ => 0)))]) := hD
  refine lv_aload_n hx hb dX0_init_52 rfl (lv_at hl 0 rfl) ?_
  refine lv_bipush (v := 12) hx hb dX0_init_53 (by decide) ?_
  refine ct_newa (cells1 := 7) (slots1 := 396) hx hb (hts (Cond.arrayClass .int) (List.mem_of_getElem? (i := 4) rfl)) 0 rfl hK hP hD hS hA 12 rfl (by decide) rfl rfl (Nat.le_of_ble_eq_true rfl) (Nat.le_of_ble_eq_true rfl) dX0_init_55 (fun q6 H hP hD hS => ?_)
  have hP : va_P D vwCl ([(h, .inr (0, [.ref q0, .ref q1, .ref q2, .ref q3, .ref q4, .ref q5, .null, .int 0, .int 0, .int 0, .int 0, .null, .null, .null, .null])), (q0, .inl (cI, 64, .inl (fun _ => 0))), (q1, .inl (cI, 64, .inl (fun _ => 0))), (q2, .inl (cI, 64, .inl (fun _ => 0))), (q3, .inl (cI, 64, .inl (fun _ => 0))), (q4, .inl (cI, 64, .inl (fun _ => 0))), (q5, .inl (cI, 64, .inl (fun _ => 0))), (q6, .inl (cI, 12, .inl (fun _ => 0)))]) H := hP
  have hD : va_D A ([(h, .inr (0, [.ref q0, .ref q1, .ref q2, .ref q3, .ref q4, .ref q5, .null, .int 0, .int 0, .int 0, .int 0, .null, .null, .null, .null])), (q0, .inl (cI, 64, .inl (fun _ => 0))), (q1, .inl (cI, 64, .inl (fun _ => 0))), (q2, .inl (cI, 64, .inl (fun _ => 0))), (q3, .inl (cI, 64, .inl (fun _ => 0))), (q4, .inl (cI, 64, .inl (fun _ => 0))), (q5, .inl (cI, 64, .inl (fun _ => 0))), (q6, .inl (cI, 12, .inl (fun _ => 0)))]) := hD
  refine va_putF (D := D) (ci := 0) (v := .ref q6) (ty := .array .int) (C := RX0) (T := TX0) (N := 15) hx hb hts (fun _ h9 => (List.mem_cons_of_mem _ (List.mem_append_right _ h9))) tyX0 tyX0_ok nmX0 hown hK hP hD hS 0 rfl rfl 6 (by decide) (hts (Cond.fieldLink RX0 30 "FloodGrid$Plain" "rain" "[I") (List.mem_of_getElem? (i := 11) rfl)) (fun _ h9 => h9) rfl hin rfl (by decide +kernel) rfl rfl (Nat.le_of_ble_eq_true rfl) dX0_init_57 (fun H locs hP hD hS => ?_)
  have hP : va_P D vwCl ([(h, .inr (0, [.ref q0, .ref q1, .ref q2, .ref q3, .ref q4, .ref q5, .ref q6, .int 0, .int 0, .int 0, .int 0, .null, .null, .null, .null])), (q0, .inl (cI, 64, .inl (fun _ => 0))), (q1, .inl (cI, 64, .inl (fun _ => 0))), (q2, .inl (cI, 64, .inl (fun _ => 0))), (q3, .inl (cI, 64, .inl (fun _ => 0))), (q4, .inl (cI, 64, .inl (fun _ => 0))), (q5, .inl (cI, 64, .inl (fun _ => 0))), (q6, .inl (cI, 12, .inl (fun _ => 0)))]) H := hP
  have hD : va_D A ([(h, .inr (0, [.ref q0, .ref q1, .ref q2, .ref q3, .ref q4, .ref q5, .ref q6, .int 0, .int 0, .int 0, .int 0, .null, .null, .null, .null])), (q0, .inl (cI, 64, .inl (fun _ => 0))), (q1, .inl (cI, 64, .inl (fun _ => 0))), (q2, .inl (cI, 64, .inl (fun _ => 0))), (q3, .inl (cI, 64, .inl (fun _ => 0))), (q4, .inl (cI, 64, .inl (fun _ => 0))), (q5, .inl (cI, 64, .inl (fun _ => 0))), (q6, .inl (cI, 12, .inl (fun _ => 0)))]) := hD
  refine lv_aload_n hx hb dX0_init_60 rfl (lv_at hl 0 rfl) ?_
  refine lv_bipush (v := 64) hx hb dX0_init_61 (by decide) ?_
  refine ct_newa (cells1 := 8) (slots1 := 460) hx hb (hts (Cond.arrayClass .int) (List.mem_of_getElem? (i := 4) rfl)) 0 rfl hK hP hD hS hA 64 rfl (by decide) rfl rfl (Nat.le_of_ble_eq_true rfl) (Nat.le_of_ble_eq_true rfl) dX0_init_63 (fun q11 H hP hD hS => ?_)
  have hP : va_P D vwCl ([(h, .inr (0, [.ref q0, .ref q1, .ref q2, .ref q3, .ref q4, .ref q5, .ref q6, .int 0, .int 0, .int 0, .int 0, .null, .null, .null, .null])), (q0, .inl (cI, 64, .inl (fun _ => 0))), (q1, .inl (cI, 64, .inl (fun _ => 0))), (q2, .inl (cI, 64, .inl (fun _ => 0))), (q3, .inl (cI, 64, .inl (fun _ => 0))), (q4, .inl (cI, 64, .inl (fun _ => 0))), (q5, .inl (cI, 64, .inl (fun _ => 0))), (q6, .inl (cI, 12, .inl (fun _ => 0))), (q11, .inl (cI, 64, .inl (fun _ => 0)))]) H := hP
  have hD : va_D A ([(h, .inr (0, [.ref q0, .ref q1, .ref q2, .ref q3, .ref q4, .ref q5, .ref q6, .int 0, .int 0, .int 0, .int 0, .null, .null, .null, .null])), (q0, .inl (cI, 64, .inl (fun _ => 0))), (q1, .inl (cI, 64, .inl (fun _ => 0))), (q2, .inl (cI, 64, .inl (fun _ => 0))), (q3, .inl (cI, 64, .inl (fun _ => 0))), (q4, .inl (cI, 64, .inl (fun _ => 0))), (q5, .inl (cI, 64, .inl (fun _ => 0))), (q6, .inl (cI, 12, .inl (fun _ => 0))), (q11, .inl (cI, 64, .inl (fun _ => 0)))]) := hD
  refine va_putF (D := D) (ci := 0) (v := .ref q11) (ty := .array .int) (C := RX0) (T := TX0) (N := 15) hx hb hts (fun _ h9 => (List.mem_cons_of_mem _ (List.mem_append_right _ h9))) tyX0 tyX0_ok nmX0 hown hK hP hD hS 0 rfl rfl 11 (by decide) (hts (Cond.fieldLink RX0 33 "FloodGrid$Plain" "crests" "[I") (List.mem_of_getElem? (i := 12) rfl)) (fun _ h9 => h9) rfl hin rfl (by decide +kernel) rfl rfl (Nat.le_of_ble_eq_true rfl) dX0_init_65 (fun H locs hP hD hS => ?_)
  have hP : va_P D vwCl ([(h, .inr (0, [.ref q0, .ref q1, .ref q2, .ref q3, .ref q4, .ref q5, .ref q6, .int 0, .int 0, .int 0, .int 0, .ref q11, .null, .null, .null])), (q0, .inl (cI, 64, .inl (fun _ => 0))), (q1, .inl (cI, 64, .inl (fun _ => 0))), (q2, .inl (cI, 64, .inl (fun _ => 0))), (q3, .inl (cI, 64, .inl (fun _ => 0))), (q4, .inl (cI, 64, .inl (fun _ => 0))), (q5, .inl (cI, 64, .inl (fun _ => 0))), (q6, .inl (cI, 12, .inl (fun _ => 0))), (q11, .inl (cI, 64, .inl (fun _ => 0)))]) H := hP
  have hD : va_D A ([(h, .inr (0, [.ref q0, .ref q1, .ref q2, .ref q3, .ref q4, .ref q5, .ref q6, .int 0, .int 0, .int 0, .int 0, .ref q11, .null, .null, .null])), (q0, .inl (cI, 64, .inl (fun _ => 0))), (q1, .inl (cI, 64, .inl (fun _ => 0))), (q2, .inl (cI, 64, .inl (fun _ => 0))), (q3, .inl (cI, 64, .inl (fun _ => 0))), (q4, .inl (cI, 64, .inl (fun _ => 0))), (q5, .inl (cI, 64, .inl (fun _ => 0))), (q6, .inl (cI, 12, .inl (fun _ => 0))), (q11, .inl (cI, 64, .inl (fun _ => 0)))]) := hD
  refine lv_aload_n hx hb dX0_init_68 rfl (lv_at hl 0 rfl) ?_
  refine lv_bipush (v := 64) hx hb dX0_init_69 (by decide) ?_
  refine ct_newa (cells1 := 9) (slots1 := 524) hx hb (hts (Cond.arrayClass .int) (List.mem_of_getElem? (i := 4) rfl)) 0 rfl hK hP hD hS hA 64 rfl (by decide) rfl rfl (Nat.le_of_ble_eq_true rfl) (Nat.le_of_ble_eq_true rfl) dX0_init_71 (fun q12 H hP hD hS => ?_)
  have hP : va_P D vwCl ([(h, .inr (0, [.ref q0, .ref q1, .ref q2, .ref q3, .ref q4, .ref q5, .ref q6, .int 0, .int 0, .int 0, .int 0, .ref q11, .null, .null, .null])), (q0, .inl (cI, 64, .inl (fun _ => 0))), (q1, .inl (cI, 64, .inl (fun _ => 0))), (q2, .inl (cI, 64, .inl (fun _ => 0))), (q3, .inl (cI, 64, .inl (fun _ => 0))), (q4, .inl (cI, 64, .inl (fun _ => 0))), (q5, .inl (cI, 64, .inl (fun _ => 0))), (q6, .inl (cI, 12, .inl (fun _ => 0))), (q11, .inl (cI, 64, .inl (fun _ => 0))), (q12, .inl (cI, 64, .inl (fun _ => 0)))]) H := hP
  have hD : va_D A ([(h, .inr (0, [.ref q0, .ref q1, .ref q2, .ref q3, .ref q4, .ref q5, .ref q6, .int 0, .int 0, .int 0, .int 0, .ref q11, .null, .null, .null])), (q0, .inl (cI, 64, .inl (fun _ => 0))), (q1, .inl (cI, 64, .inl (fun _ => 0))), (q2, .inl (cI, 64, .inl (fun _ => 0))), (q3, .inl (cI, 64, .inl (fun _ => 0))), (q4, .inl (cI, 64, .inl (fun _ => 0))), (q5, .inl (cI, 64, .inl (fun _ => 0))), (q6, .inl (cI, 12, .inl (fun _ => 0))), (q11, .inl (cI, 64, .inl (fun _ => 0))), (q12, .inl (cI, 64, .inl (fun _ => 0)))]) := hD
  refine va_putF (D := D) (ci := 0) (v := .ref q12) (ty := .array .int) (C := RX0) (T := TX0) (N := 15) hx hb hts (fun _ h9 => (List.mem_cons_of_mem _ (List.mem_append_right _ h9))) tyX0 tyX0_ok nmX0 hown hK hP hD hS 0 rfl rfl 12 (by decide) (hts (Cond.fieldLink RX0 36 "FloodGrid$Plain" "gained" "[I") (List.mem_of_getElem? (i := 13) rfl)) (fun _ h9 => h9) rfl hin rfl (by decide +kernel) rfl rfl (Nat.le_of_ble_eq_true rfl) dX0_init_73 (fun H locs hP hD hS => ?_)
  have hP : va_P D vwCl ([(h, .inr (0, [.ref q0, .ref q1, .ref q2, .ref q3, .ref q4, .ref q5, .ref q6, .int 0, .int 0, .int 0, .int 0, .ref q11, .ref q12, .null, .null])), (q0, .inl (cI, 64, .inl (fun _ => 0))), (q1, .inl (cI, 64, .inl (fun _ => 0))), (q2, .inl (cI, 64, .inl (fun _ => 0))), (q3, .inl (cI, 64, .inl (fun _ => 0))), (q4, .inl (cI, 64, .inl (fun _ => 0))), (q5, .inl (cI, 64, .inl (fun _ => 0))), (q6, .inl (cI, 12, .inl (fun _ => 0))), (q11, .inl (cI, 64, .inl (fun _ => 0))), (q12, .inl (cI, 64, .inl (fun _ => 0)))]) H := hP
  have hD : va_D A ([(h, .inr (0, [.ref q0, .ref q1, .ref q2, .ref q3, .ref q4, .ref q5, .ref q6, .int 0, .int 0, .int 0, .int 0, .ref q11, .ref q12, .null, .null])), (q0, .inl (cI, 64, .inl (fun _ => 0))), (q1, .inl (cI, 64, .inl (fun _ => 0))), (q2, .inl (cI, 64, .inl (fun _ => 0))), (q3, .inl (cI, 64, .inl (fun _ => 0))), (q4, .inl (cI, 64, .inl (fun _ => 0))), (q5, .inl (cI, 64, .inl (fun _ => 0))), (q6, .inl (cI, 12, .inl (fun _ => 0))), (q11, .inl (cI, 64, .inl (fun _ => 0))), (q12, .inl (cI, 64, .inl (fun _ => 0)))]) := hD
  refine lv_aload_n hx hb dX0_init_76 rfl (lv_at hl 0 rfl) ?_
  refine lv_bipush (v := 64) hx hb dX0_init_77 (by decide) ?_
  refine ct_newa (cells1 := 10) (slots1 := 588) hx hb (hts (Cond.arrayClass .int) (List.mem_of_getElem? (i := 4) rfl)) 0 rfl hK hP hD hS hA 64 rfl (by decide) rfl rfl (Nat.le_of_ble_eq_true rfl) (Nat.le_of_ble_eq_true rfl) dX0_init_79 (fun q13 H hP hD hS => ?_)
  have hP : va_P D vwCl ([(h, .inr (0, [.ref q0, .ref q1, .ref q2, .ref q3, .ref q4, .ref q5, .ref q6, .int 0, .int 0, .int 0, .int 0, .ref q11, .ref q12, .null, .null])), (q0, .inl (cI, 64, .inl (fun _ => 0))), (q1, .inl (cI, 64, .inl (fun _ => 0))), (q2, .inl (cI, 64, .inl (fun _ => 0))), (q3, .inl (cI, 64, .inl (fun _ => 0))), (q4, .inl (cI, 64, .inl (fun _ => 0))), (q5, .inl (cI, 64, .inl (fun _ => 0))), (q6, .inl (cI, 12, .inl (fun _ => 0))), (q11, .inl (cI, 64, .inl (fun _ => 0))), (q12, .inl (cI, 64, .inl (fun _ => 0))), (q13, .inl (cI, 64, .inl (fun _ => 0)))]) H := hP
  have hD : va_D A ([(h, .inr (0, [.ref q0, .ref q1, .ref q2, .ref q3, .ref q4, .ref q5, .ref q6, .int 0, .int 0, .int 0, .int 0, .ref q11, .ref q12, .null, .null])), (q0, .inl (cI, 64, .inl (fun _ => 0))), (q1, .inl (cI, 64, .inl (fun _ => 0))), (q2, .inl (cI, 64, .inl (fun _ => 0))), (q3, .inl (cI, 64, .inl (fun _ => 0))), (q4, .inl (cI, 64, .inl (fun _ => 0))), (q5, .inl (cI, 64, .inl (fun _ => 0))), (q6, .inl (cI, 12, .inl (fun _ => 0))), (q11, .inl (cI, 64, .inl (fun _ => 0))), (q12, .inl (cI, 64, .inl (fun _ => 0))), (q13, .inl (cI, 64, .inl (fun _ => 0)))]) := hD
  refine va_putF (D := D) (ci := 0) (v := .ref q13) (ty := .array .int) (C := RX0) (T := TX0) (N := 15) hx hb hts (fun _ h9 => (List.mem_cons_of_mem _ (List.mem_append_right _ h9))) tyX0 tyX0_ok nmX0 hown hK hP hD hS 0 rfl rfl 13 (by decide) (hts (Cond.fieldLink RX0 39 "FloodGrid$Plain" "seen" "[I") (List.mem_of_getElem? (i := 14) rfl)) (fun _ h9 => h9) rfl hin rfl (by decide +kernel) rfl rfl (Nat.le_of_ble_eq_true rfl) dX0_init_81 (fun H locs hP hD hS => ?_)
  have hP : va_P D vwCl ([(h, .inr (0, [.ref q0, .ref q1, .ref q2, .ref q3, .ref q4, .ref q5, .ref q6, .int 0, .int 0, .int 0, .int 0, .ref q11, .ref q12, .ref q13, .null])), (q0, .inl (cI, 64, .inl (fun _ => 0))), (q1, .inl (cI, 64, .inl (fun _ => 0))), (q2, .inl (cI, 64, .inl (fun _ => 0))), (q3, .inl (cI, 64, .inl (fun _ => 0))), (q4, .inl (cI, 64, .inl (fun _ => 0))), (q5, .inl (cI, 64, .inl (fun _ => 0))), (q6, .inl (cI, 12, .inl (fun _ => 0))), (q11, .inl (cI, 64, .inl (fun _ => 0))), (q12, .inl (cI, 64, .inl (fun _ => 0))), (q13, .inl (cI, 64, .inl (fun _ => 0)))]) H := hP
  have hD : va_D A ([(h, .inr (0, [.ref q0, .ref q1, .ref q2, .ref q3, .ref q4, .ref q5, .ref q6, .int 0, .int 0, .int 0, .int 0, .ref q11, .ref q12, .ref q13, .null])), (q0, .inl (cI, 64, .inl (fun _ => 0))), (q1, .inl (cI, 64, .inl (fun _ => 0))), (q2, .inl (cI, 64, .inl (fun _ => 0))), (q3, .inl (cI, 64, .inl (fun _ => 0))), (q4, .inl (cI, 64, .inl (fun _ => 0))), (q5, .inl (cI, 64, .inl (fun _ => 0))), (q6, .inl (cI, 12, .inl (fun _ => 0))), (q11, .inl (cI, 64, .inl (fun _ => 0))), (q12, .inl (cI, 64, .inl (fun _ => 0))), (q13, .inl (cI, 64, .inl (fun _ => 0)))]) := hD
  refine lv_aload_n hx hb dX0_init_84 rfl (lv_at hl 0 rfl) ?_
  refine lv_bipush (v := 64) hx hb dX0_init_85 (by decide) ?_
  refine ct_newa (cells1 := 11) (slots1 := 652) hx hb (hts (Cond.arrayClass .int) (List.mem_of_getElem? (i := 4) rfl)) 0 rfl hK hP hD hS hA 64 rfl (by decide) rfl rfl (Nat.le_of_ble_eq_true rfl) (Nat.le_of_ble_eq_true rfl) dX0_init_87 (fun q14 H hP hD hS => ?_)
  have hP : va_P D vwCl ([(h, .inr (0, [.ref q0, .ref q1, .ref q2, .ref q3, .ref q4, .ref q5, .ref q6, .int 0, .int 0, .int 0, .int 0, .ref q11, .ref q12, .ref q13, .null])), (q0, .inl (cI, 64, .inl (fun _ => 0))), (q1, .inl (cI, 64, .inl (fun _ => 0))), (q2, .inl (cI, 64, .inl (fun _ => 0))), (q3, .inl (cI, 64, .inl (fun _ => 0))), (q4, .inl (cI, 64, .inl (fun _ => 0))), (q5, .inl (cI, 64, .inl (fun _ => 0))), (q6, .inl (cI, 12, .inl (fun _ => 0))), (q11, .inl (cI, 64, .inl (fun _ => 0))), (q12, .inl (cI, 64, .inl (fun _ => 0))), (q13, .inl (cI, 64, .inl (fun _ => 0))), (q14, .inl (cI, 64, .inl (fun _ => 0)))]) H := hP
  have hD : va_D A ([(h, .inr (0, [.ref q0, .ref q1, .ref q2, .ref q3, .ref q4, .ref q5, .ref q6, .int 0, .int 0, .int 0, .int 0, .ref q11, .ref q12, .ref q13, .null])), (q0, .inl (cI, 64, .inl (fun _ => 0))), (q1, .inl (cI, 64, .inl (fun _ => 0))), (q2, .inl (cI, 64, .inl (fun _ => 0))), (q3, .inl (cI, 64, .inl (fun _ => 0))), (q4, .inl (cI, 64, .inl (fun _ => 0))), (q5, .inl (cI, 64, .inl (fun _ => 0))), (q6, .inl (cI, 12, .inl (fun _ => 0))), (q11, .inl (cI, 64, .inl (fun _ => 0))), (q12, .inl (cI, 64, .inl (fun _ => 0))), (q13, .inl (cI, 64, .inl (fun _ => 0))), (q14, .inl (cI, 64, .inl (fun _ => 0)))]) := hD
  refine va_putF (D := D) (ci := 0) (v := .ref q14) (ty := .array .int) (C := RX0) (T := TX0) (N := 15) hx hb hts (fun _ h9 => (List.mem_cons_of_mem _ (List.mem_append_right _ h9))) tyX0 tyX0_ok nmX0 hown hK hP hD hS 0 rfl rfl 14 (by decide) (hts (Cond.fieldLink RX0 42 "FloodGrid$Plain" "found" "[I") (List.mem_of_getElem? (i := 15) rfl)) (fun _ h9 => h9) rfl hin rfl (by decide +kernel) rfl rfl (Nat.le_of_ble_eq_true rfl) dX0_init_89 (fun H locs hP hD hS => ?_)
  have hP : va_P D vwCl ([(h, .inr (0, [.ref q0, .ref q1, .ref q2, .ref q3, .ref q4, .ref q5, .ref q6, .int 0, .int 0, .int 0, .int 0, .ref q11, .ref q12, .ref q13, .ref q14])), (q0, .inl (cI, 64, .inl (fun _ => 0))), (q1, .inl (cI, 64, .inl (fun _ => 0))), (q2, .inl (cI, 64, .inl (fun _ => 0))), (q3, .inl (cI, 64, .inl (fun _ => 0))), (q4, .inl (cI, 64, .inl (fun _ => 0))), (q5, .inl (cI, 64, .inl (fun _ => 0))), (q6, .inl (cI, 12, .inl (fun _ => 0))), (q11, .inl (cI, 64, .inl (fun _ => 0))), (q12, .inl (cI, 64, .inl (fun _ => 0))), (q13, .inl (cI, 64, .inl (fun _ => 0))), (q14, .inl (cI, 64, .inl (fun _ => 0)))]) H := hP
  have hD : va_D A ([(h, .inr (0, [.ref q0, .ref q1, .ref q2, .ref q3, .ref q4, .ref q5, .ref q6, .int 0, .int 0, .int 0, .int 0, .ref q11, .ref q12, .ref q13, .ref q14])), (q0, .inl (cI, 64, .inl (fun _ => 0))), (q1, .inl (cI, 64, .inl (fun _ => 0))), (q2, .inl (cI, 64, .inl (fun _ => 0))), (q3, .inl (cI, 64, .inl (fun _ => 0))), (q4, .inl (cI, 64, .inl (fun _ => 0))), (q5, .inl (cI, 64, .inl (fun _ => 0))), (q6, .inl (cI, 12, .inl (fun _ => 0))), (q11, .inl (cI, 64, .inl (fun _ => 0))), (q12, .inl (cI, 64, .inl (fun _ => 0))), (q13, .inl (cI, 64, .inl (fun _ => 0))), (q14, .inl (cI, 64, .inl (fun _ => 0)))]) := hD
  refine lv_aload_n hx hb dX0_init_92 rfl (lv_at hl 0 rfl) ?_
  refine va_get (D := D) (ci := 0) (v := .ref q0) (C := RX0) (T := TX0) (N := 15) hx hb hts (fun _ h9 => (List.mem_cons_of_mem _ (List.mem_append_right _ h9))) hown hK hP 0 rfl rfl 0 (by decide) (hts (Cond.fieldLink RX0 9 "FloodGrid$Plain" "height" "[I") (List.mem_of_getElem? (i := 5) rfl)) (fun _ h9 => h9) rfl dX0_init_93 ?_
  refine lv_bipush (v := 10) hx hb dX0_init_96 (by decide) ?_
  refine ct_Sv (As := [.ref q0, .int 10]) (rest := []) (wr := [(h, .inr (0, [.ref q0, .ref q1, .ref q2, .ref q3, .ref q4, .ref q5, .ref q6, .int 0, .int 0, .int 0, .int 0, .ref q11, .ref q12, .ref q13, .ref q14])), (q1, .inl (cI, 64, .inl (fun _ => 0))), (q2, .inl (cI, 64, .inl (fun _ => 0))), (q3, .inl (cI, 64, .inl (fun _ => 0))), (q4, .inl (cI, 64, .inl (fun _ => 0))), (q5, .inl (cI, 64, .inl (fun _ => 0))), (q6, .inl (cI, 12, .inl (fun _ => 0))), (q11, .inl (cI, 64, .inl (fun _ => 0))), (q12, .inl (cI, 64, .inl (fun _ => 0))), (q13, .inl (cI, 64, .inl (fun _ => 0))), (q14, .inl (cI, 64, .inl (fun _ => 0)))]) (W1 := fun u => ([(h, .inr (0, [.ref q0, .ref q1, .ref q2, .ref q3, .ref q4, .ref q5, .ref q6, .int 0, .int 0, .int 0, .int 0, .ref q11, .ref q12, .ref q13, .ref q14])), (q0, .inl (cI, 64, .inl (fun _ => 10))), (q1, .inl (cI, 64, .inl (fun _ => 0))), (q2, .inl (cI, 64, .inl (fun _ => 0))), (q3, .inl (cI, 64, .inl (fun _ => 0))), (q4, .inl (cI, 64, .inl (fun _ => 0))), (q5, .inl (cI, 64, .inl (fun _ => 0))), (q6, .inl (cI, 12, .inl (fun _ => 0))), (q11, .inl (cI, 64, .inl (fun _ => 0))), (q12, .inl (cI, 64, .inl (fun _ => 0))), (q13, .inl (cI, 64, .inl (fun _ => 0))), (q14, .inl (cI, 64, .inl (fun _ => 0)))])) (cells1 := 11) (slots1 := 652) ⟨hx, hb, hml, hown, hts⟩ (c_fill l D cI q0 64 (by decide) (fun _ => 0) 10) (va_cwS 2 hts gX0_init_J7_fill_53178 rfl rfl rfl (by decide +kernel) ⟨Nat.le_of_ble_eq_true rfl, Nat.le_of_ble_eq_true rfl⟩) hK hP hD hS hA [1] [0, 2, 3, 4, 5, 6, 7, 8, 9, 10, 11] ⟨rfl, rfl, rfl, rfl, rfl⟩ [0, 11, 1, 2, 3, 4, 5, 6, 7, 8, 9, 10] rfl (fun _ => rfl) [0] rfl rfl hl.1 rfl (Nat.le_of_ble_eq_true rfl) rfl rfl ⟨Nat.le_of_ble_eq_true rfl, Nat.le_of_ble_eq_true rfl⟩ dX0_init_98 (fun u H locs hw hP hD hS => ?_)
  exact fin (fun k => match k with | 0 => q0 | 1 => q1 | 2 => q2 | 3 => q3 | 4 => q4 | 5 => q5 | 6 => q6 | 11 => q11 | 12 => q12 | 13 => q13 | _ => q14) H locs 11 652 101 ls dX0_init_101 trivial hP hD hS (Nat.le_of_ble_eq_true rfl) (Nat.le_of_ble_eq_true rfl)
