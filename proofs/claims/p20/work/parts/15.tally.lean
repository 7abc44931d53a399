abbrev rm_X0_tally : Room := { frames := 3, cells := 0, slots := 0, locals := 69 }
set_option maxHeartbeats 4000000 in
set_option maxRecDepth 100000 in
theorem c_X0_tally (l : Launch) (D : va_G) (cI : ClassId) (h : Nat) (ad : Nat → Nat) (hei dra rai : Nat → Int32) (σ : Ms) (cre gai see fou : Nat → Int32) (wh : Nat) (hwh : wh < 9) : ct_i (S := (Nat → Int32) × (Nat → Int32)) l D yX0_tally wsX0_tally rm_X0_tally [.ref h, .int (nI wh)] (pM h ad cI hei dra rai σ cre gai see fou) [(cI, .int)] (fun r _ => r = q_tally σ wh) (fun u => (pM h ad cI hei dra rai σ cre gai u.1 u.2)) := by
  refine ct_ofi (cc := cX0_tally) (maxL := 2) (by decide) rfl (Nat.le_of_ble_eq_true rfl) ?_
  intro p e s m args below meth c A Q hx hb hml hown hts hin hA hK H locs hP hD hS fin ls hl
  have hown : s.vm.findClass RX0 = some m.cls := hown
  have hl : lv_has ls 2 [(0, .ref h), (1, .int (nI wh))] := hl
  refine lv_iload_n hx hb dX0_tally_0 rfl (lv_at hl 1 rfl) ?_
  rcases (show wh = 0 ∨ wh = 1 ∨ wh = 2 ∨ wh = 3 ∨ wh = 4 ∨ wh = 5 ∨ wh = 6 ∨ wh = 7 ∨ wh = 8 by omega) with rfl | rfl | rfl | rfl | rfl | rfl | rfl | rfl | rfl
  · skip
    refine lv_tableIn (tgt := 48) hx hb dX0_tally_1 (by decide) (by decide) rfl (by decide) ?_
    refine lv_aload_n hx hb dX0_tally_48 rfl (lv_at hl 0 rfl) ?_
    refine va_get (D := D) (ci := 0) (v := .int (nI (m_t σ))) (C := RX0) (T := TX0) (N := 15) hx hb hts (fun _ h9 => (List.mem_cons_of_mem _ (List.mem_append_right _ h9))) hown hK hP 0 rfl rfl 7 (by decide) (hts (Cond.fieldLink RX0 57 "FloodGrid$Plain" "hour" "I") (List.mem_of_getElem? (i := 1) rfl)) (fun _ h9 => h9) rfl dX0_tally_49 ?_
    exact fin (nI (m_t σ)) (see, fou) H locs 0 0 52 ls dX0_tally_52 rfl hP hD hS (Nat.le_of_ble_eq_true rfl) (Nat.le_of_ble_eq_true rfl)
  · skip
    refine lv_tableIn (tgt := 53) hx hb dX0_tally_1 (by decide) (by decide) rfl (by decide) ?_
    refine lv_aload_n hx hb dX0_tally_53 rfl (lv_at hl 0 rfl) ?_
    refine lv_aload_n hx hb dX0_tally_54 rfl (lv_at hl 0 rfl) ?_
    refine va_get (D := D) (ci := 0) (v := .ref (ad 1)) (C := RX0) (T := TX0) (N := 15) hx hb hts (fun _ h9 => (List.mem_cons_of_mem _ (List.mem_append_right _ h9))) hown hK hP 0 rfl rfl 1 (by decide) (hts (Cond.fieldLink RX0 15 "FloodGrid$Plain" "water" "[I") (List.mem_of_getElem? (i := 2) rfl)) (fun _ h9 => h9) rfl dX0_tally_55 ?_
    refine ct_Vi (As := [.ref (ad 1)]) (rest := []) (wr := [(h, .inr (0, [.ref (ad 0), .ref (ad 1), .ref (ad 2), .ref (ad 3), .ref (ad 4), .ref (ad 5), .ref (ad 6), .int (nI (m_t σ)), .int (m_bro σ), .int (m_drd σ), .int (m_lef σ), .ref (ad 11), .ref (ad 12), .ref (ad 13), .ref (ad 14)])), ((ad 0), .inl (cI, 64, .inl hei)), ((ad 2), .inl (cI, 64, .inl (m_dam σ))), ((ad 3), .inl (cI, 64, .inl (m_wea σ))), ((ad 4), .inl (cI, 64, .inl dra)), ((ad 5), .inl (cI, 64, .inl (m_peo σ))), ((ad 6), .inl (cI, 12, .inl rai)), ((ad 11), .inl (cI, 64, .inl cre)), ((ad 12), .inl (cI, 64, .inl gai)), ((ad 13), .inl (cI, 64, .inl see)), ((ad 14), .inl (cI, 64, .inl fou))]) (W1 := fun u => (pM h ad cI hei dra rai σ cre gai see fou)) (cells1 := 0) (slots1 := 0) ⟨hx, hb, hml, hown, hts⟩ (c_X0_sum l D cI h (ad 1) 64 (by decide) (m_wat σ)) (cwV 1 hts gX0_tally_X0_sum rfl rfl rfl (by decide +kernel) ⟨Nat.le_of_ble_eq_true rfl, Nat.le_of_ble_eq_true rfl⟩) hK hP hD hS hA [2] [0, 1, 3, 4, 5, 6, 7, 8, 9, 10, 11] ⟨rfl, rfl, rfl, rfl, rfl⟩ [0, 1, 11, 2, 3, 4, 5, 6, 7, 8, 9, 10] rfl (fun _ => rfl) [0] rfl (va_recv hK hP (ci := 0) (q0 := 0) rfl rfl) rfl hl.1 rfl (Nat.le_of_ble_eq_true rfl) rfl rfl ⟨Nat.le_of_ble_eq_true rfl, Nat.le_of_ble_eq_true rfl⟩ dX0_tally_58 (fun r u H locs hw hP hD hS => ?_)
    exact fin r (see, fou) H locs 0 0 61 ls dX0_tally_61 hw hP hD hS (Nat.le_of_ble_eq_true rfl) (Nat.le_of_ble_eq_true rfl)
  · skip
    refine lv_tableIn (tgt := 62) hx hb dX0_tally_1 (by decide) (by decide) rfl (by decide) ?_
    refine lv_aload_n hx hb dX0_tally_62 rfl (lv_at hl 0 rfl) ?_
    refine ct_Vi (As := []) (rest := []) (wr := []) (W1 := fun u => (pM h ad cI hei dra rai σ cre gai see fou)) (cells1 := 0) (slots1 := 0) ⟨hx, hb, hml, hown, hts⟩ (c_X0_wet l D cI h ad hei (m_wat σ) (m_dam σ) (m_wea σ) dra (m_peo σ) rai (nI (m_t σ)) (m_bro σ) (m_drd σ) (m_lef σ) cre gai see fou) (cwV 0 hts gX0_tally_X0_wetCells rfl rfl rfl (by decide +kernel) ⟨Nat.le_of_ble_eq_true rfl, Nat.le_of_ble_eq_true rfl⟩) hK hP hD hS hA [0, 1, 2, 3, 4, 5, 6, 7, 8, 9, 10, 11] [] ⟨rfl, rfl, rfl, rfl, rfl⟩ [0, 1, 2, 3, 4, 5, 6, 7, 8, 9, 10, 11] rfl (fun _ => rfl) [0] rfl (va_recv hK hP (ci := 0) (q0 := 0) rfl rfl) rfl hl.1 rfl (Nat.le_of_ble_eq_true rfl) rfl rfl ⟨Nat.le_of_ble_eq_true rfl, Nat.le_of_ble_eq_true rfl⟩ dX0_tally_63 (fun r u H locs hw hP hD hS => ?_)
    exact fin r (see, fou) H locs 0 0 66 ls dX0_tally_66 hw hP hD hS (Nat.le_of_ble_eq_true rfl) (Nat.le_of_ble_eq_true rfl)
  · skip
    refine lv_tableIn (tgt := 67) hx hb dX0_tally_1 (by decide) (by decide) rfl (by decide) ?_
    refine lv_aload_n hx hb dX0_tally_67 rfl (lv_at hl 0 rfl) ?_
    refine lv_aload_n hx hb dX0_tally_68 rfl (lv_at hl 0 rfl) ?_
    refine va_get (D := D) (ci := 0) (v := .ref (ad 2)) (C := RX0) (T := TX0) (N := 15) hx hb hts (fun _ h9 => (List.mem_cons_of_mem _ (List.mem_append_right _ h9))) hown hK hP 0 rfl rfl 2 (by decide) (hts (Cond.fieldLink RX0 18 "FloodGrid$Plain" "dam" "[I") (List.mem_of_getElem? (i := 3) rfl)) (fun _ h9 => h9) rfl dX0_tally_69 ?_
    refine ct_Vi (As := [.ref (ad 2)]) (rest := []) (wr := [(h, .inr (0, [.ref (ad 0), .ref (ad 1), .ref (ad 2), .ref (ad 3), .ref (ad 4), .ref (ad 5), .ref (ad 6), .int (nI (m_t σ)), .int (m_bro σ), .int (m_drd σ), .int (m_lef σ), .ref (ad 11), .ref (ad 12), .ref (ad 13), .ref (ad 14)])), ((ad 0), .inl (cI, 64, .inl hei)), ((ad 1), .inl (cI, 64, .inl (m_wat σ))), ((ad 3), .inl (cI, 64, .inl (m_wea σ))), ((ad 4), .inl (cI, 64, .inl dra)), ((ad 5), .inl (cI, 64, .inl (m_peo σ))), ((ad 6), .inl (cI, 12, .inl rai)), ((ad 11), .inl (cI, 64, .inl cre)), ((ad 12), .inl (cI, 64, .inl gai)), ((ad 13), .inl (cI, 64, .inl see)), ((ad 14), .inl (cI, 64, .inl fou))]) (W1 := fun u => (pM h ad cI hei dra rai σ cre gai see fou)) (cells1 := 0) (slots1 := 0) ⟨hx, hb, hml, hown, hts⟩ (c_X0_above0 l D cI h (ad 2) 64 (by decide) (m_dam σ)) (cwV 1 hts gX0_tally_X0_above0 rfl rfl rfl (by decide +kernel) ⟨Nat.le_of_ble_eq_true rfl, Nat.le_of_ble_eq_true rfl⟩) hK hP hD hS hA [3] [0, 1, 2, 4, 5, 6, 7, 8, 9, 10, 11] ⟨rfl, rfl, rfl, rfl, rfl⟩ [0, 1, 2, 11, 3, 4, 5, 6, 7, 8, 9, 10] rfl (fun _ => rfl) [0] rfl (va_recv hK hP (ci := 0) (q0 := 0) rfl rfl) rfl hl.1 rfl (Nat.le_of_ble_eq_true rfl) rfl rfl ⟨Nat.le_of_ble_eq_true rfl, Nat.le_of_ble_eq_true rfl⟩ dX0_tally_72 (fun r u H locs hw hP hD hS => ?_)
    exact fin r (see, fou) H locs 0 0 75 ls dX0_tally_75 hw hP hD hS (Nat.le_of_ble_eq_true rfl) (Nat.le_of_ble_eq_true rfl)
  · skip
    refine lv_tableIn (tgt := 76) hx hb dX0_tally_1 (by decide) (by decide) rfl (by decide) ?_
    refine lv_aload_n hx hb dX0_tally_76 rfl (lv_at hl 0 rfl) ?_
    refine va_get (D := D) (ci := 0) (v := .int (m_bro σ)) (C := RX0) (T := TX0) (N := 15) hx hb hts (fun _ h9 => (List.mem_cons_of_mem _ (List.mem_append_right _ h9))) hown hK hP 0 rfl rfl 8 (by decide) (hts (Cond.fieldLink RX0 61 "FloodGrid$Plain" "broken" "I") (List.mem_of_getElem? (i := 4) rfl)) (fun _ h9 => h9) rfl dX0_tally_77 ?_
    exact fin (m_bro σ) (see, fou) H locs 0 0 80 ls dX0_tally_80 rfl hP hD hS (Nat.le_of_ble_eq_true rfl) (Nat.le_of_ble_eq_true rfl)
  · skip
    refine lv_tableIn (tgt := 81) hx hb dX0_tally_1 (by decide) (by decide) rfl (by decide) ?_
    refine lv_aload_n hx hb dX0_tally_81 rfl (lv_at hl 0 rfl) ?_
    refine va_get (D := D) (ci := 0) (v := .int (m_drd σ)) (C := RX0) (T := TX0) (N := 15) hx hb hts (fun _ h9 => (List.mem_cons_of_mem _ (List.mem_append_right _ h9))) hown hK hP 0 rfl rfl 9 (by decide) (hts (Cond.fieldLink RX0 64 "FloodGrid$Plain" "drained" "I") (List.mem_of_getElem? (i := 5) rfl)) (fun _ h9 => h9) rfl dX0_tally_82 ?_
    exact fin (m_drd σ) (see, fou) H locs 0 0 85 ls dX0_tally_85 rfl hP hD hS (Nat.le_of_ble_eq_true rfl) (Nat.le_of_ble_eq_true rfl)
  · skip
    refine lv_tableIn (tgt := 86) hx hb dX0_tally_1 (by decide) (by decide) rfl (by decide) ?_
    refine lv_aload_n hx hb dX0_tally_86 rfl (lv_at hl 0 rfl) ?_
    refine lv_aload_n hx hb dX0_tally_87 rfl (lv_at hl 0 rfl) ?_
    refine va_get (D := D) (ci := 0) (v := .ref (ad 5)) (C := RX0) (T := TX0) (N := 15) hx hb hts (fun _ h9 => (List.mem_cons_of_mem _ (List.mem_append_right _ h9))) hown hK hP 0 rfl rfl 5 (by decide) (hts (Cond.fieldLink RX0 27 "FloodGrid$Plain" "people" "[I") (List.mem_of_getElem? (i := 6) rfl)) (fun _ h9 => h9) rfl dX0_tally_88 ?_
    refine ct_Vi (As := [.ref (ad 5)]) (rest := []) (wr := [(h, .inr (0, [.ref (ad 0), .ref (ad 1), .ref (ad 2), .ref (ad 3), .ref (ad 4), .ref (ad 5), .ref (ad 6), .int (nI (m_t σ)), .int (m_bro σ), .int (m_drd σ), .int (m_lef σ), .ref (ad 11), .ref (ad 12), .ref (ad 13), .ref (ad 14)])), ((ad 0), .inl (cI, 64, .inl hei)), ((ad 1), .inl (cI, 64, .inl (m_wat σ))), ((ad 2), .inl (cI, 64, .inl (m_dam σ))), ((ad 3), .inl (cI, 64, .inl (m_wea σ))), ((ad 4), .inl (cI, 64, .inl dra)), ((ad 6), .inl (cI, 12, .inl rai)), ((ad 11), .inl (cI, 64, .inl cre)), ((ad 12), .inl (cI, 64, .inl gai)), ((ad 13), .inl (cI, 64, .inl see)), ((ad 14), .inl (cI, 64, .inl fou))]) (W1 := fun u => (pM h ad cI hei dra rai σ cre gai see fou)) (cells1 := 0) (slots1 := 0) ⟨hx, hb, hml, hown, hts⟩ (c_X0_sum l D cI h (ad 5) 64 (by decide) (m_peo σ)) (cwV 1 hts gX0_tally_X0_sum rfl rfl rfl (by decide +kernel) ⟨Nat.le_of_ble_eq_true rfl, Nat.le_of_ble_eq_true rfl⟩) hK hP hD hS hA [6] [0, 1, 2, 3, 4, 5, 7, 8, 9, 10, 11] ⟨rfl, rfl, rfl, rfl, rfl⟩ [0, 1, 2, 3, 4, 5, 11, 6, 7, 8, 9, 10] rfl (fun _ => rfl) [0] rfl (va_recv hK hP (ci := 0) (q0 := 0) rfl rfl) rfl hl.1 rfl (Nat.le_of_ble_eq_true rfl) rfl rfl ⟨Nat.le_of_ble_eq_true rfl, Nat.le_of_ble_eq_true rfl⟩ dX0_tally_91 (fun r u H locs hw hP hD hS => ?_)
    exact fin r (see, fou) H locs 0 0 94 ls dX0_tally_94 hw hP hD hS (Nat.le_of_ble_eq_true rfl) (Nat.le_of_ble_eq_true rfl)
  · skip
    refine lv_tableIn (tgt := 95) hx hb dX0_tally_1 (by decide) (by decide) rfl (by decide) ?_
    refine lv_aload_n hx hb dX0_tally_95 rfl (lv_at hl 0 rfl) ?_
    refine va_get (D := D) (ci := 0) (v := .int (m_lef σ)) (C := RX0) (T := TX0) (N := 15) hx hb hts (fun _ h9 => (List.mem_cons_of_mem _ (List.mem_append_right _ h9))) hown hK hP 0 rfl rfl 10 (by decide) (hts (Cond.fieldLink RX0 67 "FloodGrid$Plain" "left" "I") (List.mem_of_getElem? (i := 7) rfl)) (fun _ h9 => h9) rfl dX0_tally_96 ?_
    exact fin (m_lef σ) (see, fou) H locs 0 0 99 ls dX0_tally_99 rfl hP hD hS (Nat.le_of_ble_eq_true rfl) (Nat.le_of_ble_eq_true rfl)
  · skip
    refine lv_tableOut (tgt := 100) hx hb dX0_tally_1 (Or.inr (by decide)) (by decide) ?_
    refine lv_aload_n hx hb dX0_tally_100 rfl (lv_at hl 0 rfl) ?_
    refine ct_Vi (As := []) (rest := []) (wr := []) (W1 := fun u => (pM h ad cI hei dra rai σ cre gai u.1 u.2)) (cells1 := 0) (slots1 := 0) ⟨hx, hb, hml, hown, hts⟩ (c_X0_lakes l D cI h ad hei (m_wat σ) (m_dam σ) (m_wea σ) dra (m_peo σ) rai (nI (m_t σ)) (m_bro σ) (m_drd σ) (m_lef σ) cre gai see fou) (cwV 0 hts gX0_tally_X0_lakes rfl rfl rfl (by decide +kernel) ⟨Nat.le_of_ble_eq_true rfl, Nat.le_of_ble_eq_true rfl⟩) hK hP hD hS hA [0, 1, 2, 3, 4, 5, 6, 7, 8, 9, 10, 11] [] ⟨rfl, rfl, rfl, rfl, rfl⟩ [0, 1, 2, 3, 4, 5, 6, 7, 8, 9, 10, 11] rfl (fun _ => rfl) [0] rfl (va_recv hK hP (ci := 0) (q0 := 0) rfl rfl) rfl hl.1 rfl (Nat.le_of_ble_eq_true rfl) rfl rfl ⟨Nat.le_of_ble_eq_true rfl, Nat.le_of_ble_eq_true rfl⟩ dX0_tally_101 (fun r u H locs hw hP hD hS => ?_)
    exact fin r (u.1, u.2) H locs 0 0 104 ls dX0_tally_104 hw hP hD hS (Nat.le_of_ble_eq_true rfl) (Nat.le_of_ble_eq_true rfl)
