/-- Sim's cells: its own, six grids, the rain -/
abbrev sW (h : Nat) (a : Nat → Nat) (r : Nat → Nat → Nat) (aw : Nat) (bw : Nat → Nat) (cI cJ : ClassId) (hei wat dam wea dra peo rai : Nat → Int32) (hou bro drd lef : Int32) : va_W := (h, .inr (2, [.ref (a 0), .ref aw, .ref (a 2), .ref (a 3), .ref (a 4), .ref (a 5), .ref (a 6), .int hou, .int bro, .int drd, .int lef])) :: (gr (a 0) (r 0) cI cJ hei ++ (gr aw bw cI cJ wat ++ (gr (a 2) (r 2) cI cJ dam ++ (gr (a 3) (r 3) cI cJ wea ++ (gr (a 4) (r 4) cI cJ dra ++ (gr (a 5) (r 5) cI cJ peo ++ [(a 6, .inl (cI, 12, .inl rai))]))))))
abbrev sM (h : Nat) (a : Nat → Nat) (r : Nat → Nat → Nat) (aw : Nat) (bw : Nat → Nat) (cI cJ : ClassId) (hei dra rai : Nat → Int32) (σ : Ms) : va_W := sW h a r aw bw cI cJ hei (m_wat σ) (m_dam σ) (m_wea σ) dra (m_peo σ) rai (nI (m_t σ)) (m_bro σ) (m_drd σ) (m_lef σ)
abbrev rm_X2_crest : Room := { frames := 0, cells := 0, slots := 0, locals := 0 }
set_option maxHeartbeats 4000000 in
set_option maxRecDepth 100000 in
theorem c_X2_crest (l : Launch) (D : va_G) (cI cJ cZ cB : ClassId) (h : Nat) (a : Nat → Nat) (r : Nat → Nat → Nat) (aw : Nat) (bw : Nat → Nat) (hei wat dam wea dra peo rai : Nat → Int32) (hou bro drd lef : Int32) (x y : Nat) (h8 : x < 8) (y8 : y < 8) : ct_i (S := Unit) l D yX2_crest wsX2_crest rm_X2_crest [.ref h, .int (nI x), .int (nI y)] (sW h a r aw bw cI cJ hei wat dam wea dra peo rai hou bro drd lef) [(cI, .int), (cJ, .array .int), (cZ, .boolean), (cB, .array .boolean)] (fun v _ => v = q_cre hei dam wat (8 * y + x)) (fun _ => (sW h a r aw bw cI cJ hei wat dam wea dra peo rai hou bro drd lef)) := by
  refine ct_ofi (cc := cX2_crest) (maxL := 3) (by decide) rfl (Nat.le_of_ble_eq_true rfl) ?_
  intro p e s m args below meth c A Q hx hb hml hown hts hin hA hK H locs hP hD hS fin ls hl
  have hown : s.vm.findClass RX2 = some m.cls := hown
  have hl : lv_has ls 3 [(0, .ref h), (1, .int (nI x)), (2, .int (nI y))] := hl
  refine lv_aload_n hx hb dX2_crest_0 rfl (lv_at hl 0 rfl) ?_
  refine va_get (D := D) (ci := 2) (v := .ref aw) (C := RX2) (T := TX2) (N := 11) hx hb hts (fun _ h9 => (List.mem_cons_of_mem _ (List.mem_append_right _ h9))) hown hK hP 0 rfl rfl 1 (by decide) (hts (Cond.fieldLink RX2 14 "FloodGridLaw$Sim" "water" "[[I") (List.mem_of_getElem? (i := 1) rfl)) (fun _ h9 => h9) rfl dX2_crest_1 ?_
  refine lv_iload_n hx hb dX2_crest_4 rfl (lv_at hl 1 rfl) ?_
  refine gr_aald hx hb hK hP 10 1 rfl rfl x rfl (by omega) (by decide) dX2_crest_5 ?_
  refine lv_iload_n hx hb dX2_crest_6 rfl (lv_at hl 2 rfl) ?_
  refine gr_iald (v := wat (8 * y + x)) hx hb hK hP 11 0 rfl rfl x y (8 * y + x) (by omega) (by omega) rfl rfl rfl dX2_crest_7 ?_
  refine lv_aload_n hx hb dX2_crest_8 rfl (lv_at hl 0 rfl) ?_
  refine va_get (D := D) (ci := 2) (v := .ref (a 2)) (C := RX2) (T := TX2) (N := 11) hx hb hts (fun _ h9 => (List.mem_cons_of_mem _ (List.mem_append_right _ h9))) hown hK hP 0 rfl rfl 2 (by decide) (hts (Cond.fieldLink RX2 17 "FloodGridLaw$Sim" "dam" "[[I") (List.mem_of_getElem? (i := 2) rfl)) (fun _ h9 => h9) rfl dX2_crest_9 ?_
  refine lv_iload_n hx hb dX2_crest_12 rfl (lv_at hl 1 rfl) ?_
  refine gr_aald hx hb hK hP 19 1 rfl rfl x rfl (by omega) (by decide) dX2_crest_13 ?_
  refine lv_iload_n hx hb dX2_crest_14 rfl (lv_at hl 2 rfl) ?_
  refine gr_iald (v := dam (8 * y + x)) hx hb hK hP 20 0 rfl rfl x y (8 * y + x) (by omega) (by omega) rfl rfl rfl dX2_crest_15 ?_
  refine lv_icmp_le (tgt := 39) hx hb dX2_crest_16 (by decide) (fun hc => ?_) (fun hc => ?_)
  · skip
    refine lv_aload_n hx hb dX2_crest_39 rfl (lv_at hl 0 rfl) ?_
    refine va_get (D := D) (ci := 2) (v := .ref (a 0)) (C := RX2) (T := TX2) (N := 11) hx hb hts (fun _ h9 => (List.mem_cons_of_mem _ (List.mem_append_right _ h9))) hown hK hP 0 rfl rfl 0 (by decide) (hts (Cond.fieldLink RX2 9 "FloodGridLaw$Sim" "height" "[[I") (List.mem_of_getElem? (i := 3) rfl)) (fun _ h9 => h9) rfl dX2_crest_40 ?_
    refine lv_iload_n hx hb dX2_crest_43 rfl (lv_at hl 1 rfl) ?_
    refine gr_aald hx hb hK hP 1 1 rfl rfl x rfl (by omega) (by decide) dX2_crest_44 ?_
    refine lv_iload_n hx hb dX2_crest_45 rfl (lv_at hl 2 rfl) ?_
    refine gr_iald (v := hei (8 * y + x)) hx hb hK hP 2 0 rfl rfl x y (8 * y + x) (by omega) (by omega) rfl rfl rfl dX2_crest_46 ?_
    refine lv_aload_n hx hb dX2_crest_47 rfl (lv_at hl 0 rfl) ?_
    refine va_get (D := D) (ci := 2) (v := .ref (a 2)) (C := RX2) (T := TX2) (N := 11) hx hb hts (fun _ h9 => (List.mem_cons_of_mem _ (List.mem_append_right _ h9))) hown hK hP 0 rfl rfl 2 (by decide) (hts (Cond.fieldLink RX2 17 "FloodGridLaw$Sim" "dam" "[[I") (List.mem_of_getElem? (i := 2) rfl)) (fun _ h9 => h9) rfl dX2_crest_48 ?_
    refine lv_iload_n hx hb dX2_crest_51 rfl (lv_at hl 1 rfl) ?_
    refine gr_aald hx hb hK hP 19 1 rfl rfl x rfl (by omega) (by decide) dX2_crest_52 ?_
    refine lv_iload_n hx hb dX2_crest_53 rfl (lv_at hl 2 rfl) ?_
    refine gr_iald (v := dam (8 * y + x)) hx hb hK hP 20 0 rfl rfl x y (8 * y + x) (by omega) (by omega) rfl rfl rfl dX2_crest_54 ?_
    refine lv_iadd hx hb dX2_crest_55 ?_
    exact fin ((hei (8 * y + x)) + (dam (8 * y + x))) () H locs 0 0 56 ls dX2_crest_56 (crest_n (Int32.not_lt.mpr hc)) hP hD hS (Nat.le_of_ble_eq_true rfl) (Nat.le_of_ble_eq_true rfl)
  · skip
    refine lv_aload_n hx hb dX2_crest_19 rfl (lv_at hl 0 rfl) ?_
    refine va_get (D := D) (ci := 2) (v := .ref (a 0)) (C := RX2) (T := TX2) (N := 11) hx hb hts (fun _ h9 => (List.mem_cons_of_mem _ (List.mem_append_right _ h9))) hown hK hP 0 rfl rfl 0 (by decide) (hts (Cond.fieldLink RX2 9 "FloodGridLaw$Sim" "height" "[[I") (List.mem_of_getElem? (i := 3) rfl)) (fun _ h9 => h9) rfl dX2_crest_20 ?_
    refine lv_iload_n hx hb dX2_crest_23 rfl (lv_at hl 1 rfl) ?_
    refine gr_aald hx hb hK hP 1 1 rfl rfl x rfl (by omega) (by decide) dX2_crest_24 ?_
    refine lv_iload_n hx hb dX2_crest_25 rfl (lv_at hl 2 rfl) ?_
    refine gr_iald (v := hei (8 * y + x)) hx hb hK hP 2 0 rfl rfl x y (8 * y + x) (by omega) (by omega) rfl rfl rfl dX2_crest_26 ?_
    refine lv_aload_n hx hb dX2_crest_27 rfl (lv_at hl 0 rfl) ?_
    refine va_get (D := D) (ci := 2) (v := .ref aw) (C := RX2) (T := TX2) (N := 11) hx hb hts (fun _ h9 => (List.mem_cons_of_mem _ (List.mem_append_right _ h9))) hown hK hP 0 rfl rfl 1 (by decide) (hts (Cond.fieldLink RX2 14 "FloodGridLaw$Sim" "water" "[[I") (List.mem_of_getElem? (i := 1) rfl)) (fun _ h9 => h9) rfl dX2_crest_28 ?_
    refine lv_iload_n hx hb dX2_crest_31 rfl (lv_at hl 1 rfl) ?_
    refine gr_aald hx hb hK hP 10 1 rfl rfl x rfl (by omega) (by decide) dX2_crest_32 ?_
    refine lv_iload_n hx hb dX2_crest_33 rfl (lv_at hl 2 rfl) ?_
    refine gr_iald (v := wat (8 * y + x)) hx hb hK hP 11 0 rfl rfl x y (8 * y + x) (by omega) (by omega) rfl rfl rfl dX2_crest_34 ?_
    refine lv_iadd hx hb dX2_crest_35 ?_
    refine lv_goto (tgt := 56) hx hb dX2_crest_36 (by decide) ?_
    exact fin ((hei (8 * y + x)) + (wat (8 * y + x))) () H locs 0 0 56 ls dX2_crest_56 (crest_y (Int32.not_le.mp hc)) hP hD hS (Nat.le_of_ble_eq_true rfl) (Nat.le_of_ble_eq_true rfl)
