abbrev rm_X2_level : Room := { frames := 0, cells := 0, slots := 0, locals := 0 }
set_option maxHeartbeats 4000000 in
set_option maxRecDepth 100000 in
theorem c_X2_level (l : Launch) (D : va_G) (cI : ClassId) (h : Nat) (ad : Nat → Nat) (thr : Int32) (hei wat dam wea dra peo rai num flo lak row : Nat → Int32) (k : Nat) (hk : k < 64) : ct_i (S := Unit) l D yX2_level wsX2_level rm_X2_level [.ref h, .int (nI k)] (mW h ad cI thr hei wat dam wea dra peo rai num flo lak row) [(cI, .int)] (fun r _ => r = hei k + wat k) (fun _ => (mW h ad cI thr hei wat dam wea dra peo rai num flo lak row)) := by
  refine ct_ofi (cc := cX2_level) (maxL := 2) (by decide) rfl (Nat.le_of_ble_eq_true rfl) ?_
  intro p e s m args below meth c A Q hx hb hml hown hts hin hA hK H locs hP hD hS fin ls hl
  have hown : s.vm.findClass RX2 = some m.cls := hown
  have hl : lv_has ls 2 [(0, .ref h), (1, .int (nI k))] := hl
  refine lv_aload_n hx hb dX2_level_0 rfl (lv_at hl 0 rfl) ?_
  refine va_get (D := D) (ci := 2) (v := .ref (ad 1)) (C := RX2) (T := TX2) (N := 12) hx hb hts (fun _ h9 => (List.mem_cons_of_mem _ (List.mem_append_right _ h9))) hown hK hP 0 rfl rfl 1 (by decide) (hts (Cond.fieldLink RX2 9 "FloodGridModel" "heights" "[I") (List.mem_of_getElem? (i := 1) rfl)) (fun _ h9 => h9) rfl dX2_level_1 ?_
  refine lv_iload_n hx hb dX2_level_4 rfl (lv_at hl 1 rfl) ?_
  refine ct_iald (v := hei k) hx hb hK hP 1 0 rfl rfl k rfl (by omega) (by decide) rfl dX2_level_5 ?_
  refine lv_aload_n hx hb dX2_level_6 rfl (lv_at hl 0 rfl) ?_
  refine va_get (D := D) (ci := 2) (v := .ref (ad 2)) (C := RX2) (T := TX2) (N := 12) hx hb hts (fun _ h9 => (List.mem_cons_of_mem _ (List.mem_append_right _ h9))) hown hK hP 0 rfl rfl 2 (by decide) (hts (Cond.fieldLink RX2 13 "FloodGridModel" "water" "[I") (List.mem_of_getElem? (i := 2) rfl)) (fun _ h9 => h9) rfl dX2_level_7 ?_
  refine lv_iload_n hx hb dX2_level_10 rfl (lv_at hl 1 rfl) ?_
  refine ct_iald (v := wat k) hx hb hK hP 2 0 rfl rfl k rfl (by omega) (by decide) rfl dX2_level_11 ?_
  refine lv_iadd hx hb dX2_level_12 ?_
  exact fin ((hei k) + (wat k)) () H locs 0 0 13 ls dX2_level_13 rfl hP hD hS (Nat.le_of_ble_eq_true rfl) (Nat.le_of_ble_eq_true rfl)
abbrev rm_X2_crest : Room := { frames := 1, cells := 0, slots := 0, locals := 21 }
set_option maxHeartbeats 4000000 in
set_option maxRecDepth 100000 in
theorem c_X2_crest (l : Launch) (D : va_G) (cI : ClassId) (h : Nat) (ad : Nat → Nat) (thr : Int32) (hei wat dam wea dra peo rai num flo lak row : Nat → Int32) (k : Nat) (hk : k < 64) : ct_i (S := Unit) l D yX2_crest wsX2_crest rm_X2_crest [.ref h, .int (nI k)] (mW h ad cI thr hei wat dam wea dra peo rai num flo lak row) [(cI, .int)] (fun r _ => r = q_cre hei dam wat k) (fun _ => (mW h ad cI thr hei wat dam wea dra peo rai num flo lak row)) := by
  refine ct_ofi (cc := cX2_crest) (maxL := 2) (by decide) rfl (Nat.le_of_ble_eq_true rfl) ?_
  intro p e s m args below meth c A Q hx hb hml hown hts hin hA hK H locs hP hD hS fin ls hl
  have hown : s.vm.findClass RX2 = some m.cls := hown
  have hl : lv_has ls 2 [(0, .ref h), (1, .int (nI k))] := hl
  refine lv_aload_n hx hb dX2_crest_0 rfl (lv_at hl 0 rfl) ?_
  refine va_get (D := D) (ci := 2) (v := .ref (ad 1)) (C := RX2) (T := TX2) (N := 12) hx hb hts (fun _ h9 => (List.mem_cons_of_mem _ (List.mem_append_right _ h9))) hown hK hP 0 rfl rfl 1 (by decide) (hts (Cond.fieldLink RX2 9 "FloodGridModel" "heights" "[I") (List.mem_of_getElem? (i := 1) rfl)) (fun _ h9 => h9) rfl dX2_crest_1 ?_
  refine lv_iload_n hx hb dX2_crest_4 rfl (lv_at hl 1 rfl) ?_
  refine ct_iald (v := hei k) hx hb hK hP 1 0 rfl rfl k rfl (by omega) (by decide) rfl dX2_crest_5 ?_
  refine lv_aload_n hx hb dX2_crest_6 rfl (lv_at hl 0 rfl) ?_
  refine va_get (D := D) (ci := 2) (v := .ref (ad 3)) (C := RX2) (T := TX2) (N := 12) hx hb hts (fun _ h9 => (List.mem_cons_of_mem _ (List.mem_append_right _ h9))) hown hK hP 0 rfl rfl 3 (by decide) (hts (Cond.fieldLink RX2 16 "FloodGridModel" "dams" "[I") (List.mem_of_getElem? (i := 2) rfl)) (fun _ h9 => h9) rfl dX2_crest_7 ?_
  refine lv_iload_n hx hb dX2_crest_10 rfl (lv_at hl 1 rfl) ?_
  refine ct_iald (v := dam k) hx hb hK hP 3 0 rfl rfl k rfl (by omega) (by decide) rfl dX2_crest_11 ?_
  refine lv_aload_n hx hb dX2_crest_12 rfl (lv_at hl 0 rfl) ?_
  refine va_get (D := D) (ci := 2) (v := .ref (ad 2)) (C := RX2) (T := TX2) (N := 12) hx hb hts (fun _ h9 => (List.mem_cons_of_mem _ (List.mem_append_right _ h9))) hown hK hP 0 rfl rfl 2 (by decide) (hts (Cond.fieldLink RX2 13 "FloodGridModel" "water" "[I") (List.mem_of_getElem? (i := 3) rfl)) (fun _ h9 => h9) rfl dX2_crest_13 ?_
  refine lv_iload_n hx hb dX2_crest_16 rfl (lv_at hl 1 rfl) ?_
  refine ct_iald (v := wat k) hx hb hK hP 2 0 rfl rfl k rfl (by omega) (by decide) rfl dX2_crest_17 ?_
  refine ct_mmax (v := (i_max (dam k) (wat k))) hx hb (hml.trans hl.1.symm) hown (hts (Cond.methodLink RX2 59 Lib.Math.max.name) (List.mem_of_getElem? (i := 4) rfl)) (hts (Cond.static Lib.Math.max.name) (List.mem_of_getElem? (i := 5) rfl)) (hts (Cond.initialized "java/lang/Math") (List.mem_of_getElem? (i := 6) rfl)) (hts (Cond.code Lib.Math.max.name Lib.Math.max.code 2 (some .int)) (List.mem_of_getElem? (i := 7) rfl)) (Nat.le_of_ble_eq_true rfl) (Nat.le_of_ble_eq_true rfl) (Nat.le_of_ble_eq_true rfl) (Nat.le_of_ble_eq_true rfl) rfl dX2_crest_18 ?_
  refine lv_iadd hx hb dX2_crest_21 ?_
  exact fin ((hei k) + (i_max (dam k) (wat k))) () H locs 0 0 22 ls dX2_crest_22 rfl hP hD hS (Nat.le_of_ble_eq_true rfl) (Nat.le_of_ble_eq_true rfl)
abbrev rm_X2_cellTold : Room := { frames := 2, cells := 0, slots := 0, locals := 42 }
set_option maxHeartbeats 4000000 in
set_option maxRecDepth 100000 in
theorem c_X2_cellTold (l : Launch) (D : va_G) (cI : ClassId) (h : Nat) (ad : Nat → Nat) (thr : Int32) (hei wat dam wea dra peo rai num flo lak row : Nat → Int32) (k : Nat) (hk : k < 64) (wh : Nat) (hwh : wh < 8) : ct_i (S := Unit) l D yX2_cellTold wsX2_cellTold rm_X2_cellTold [.ref h, .int (nI k), .int (nI wh)] (mW h ad cI thr hei wat dam wea dra peo rai num flo lak row) [(cI, .int)] (fun r _ => r = q_cell hei wat dam wea dra peo k wh) (fun _ => (mW h ad cI thr hei wat dam wea dra peo rai num flo lak row)) := by
  refine ct_ofi (cc := cX2_cellTold) (maxL := 3) (by decide) rfl (Nat.le_of_ble_eq_true rfl) ?_
  intro p e s m args below meth c A Q hx hb hml hown hts hin hA hK H locs hP hD hS fin ls hl
  have hown : s.vm.findClass RX2 = some m.cls := hown
  have hl : lv_has ls 3 [(0, .ref h), (1, .int (nI k)), (2, .int (nI wh))] := hl
  refine lv_iload_n hx hb dX2_cellTold_0 rfl (lv_at hl 2 rfl) ?_
  rcases (show wh = 0 ∨ wh = 1 ∨ wh = 2 ∨ wh = 3 ∨ wh = 4 ∨ wh = 5 ∨ wh = 6 ∨ wh = 7 by omega) with rfl | rfl | rfl | rfl | rfl | rfl | rfl | rfl
  · skip
    refine lv_tableIn (tgt := 44) hx hb dX2_cellTold_1 (by decide) (by decide) rfl (by decide) ?_
    refine lv_aload_n hx hb dX2_cellTold_44 rfl (lv_at hl 0 rfl) ?_
    refine va_get (D := D) (ci := 2) (v := .ref (ad 1)) (C := RX2) (T := TX2) (N := 12) hx hb hts (fun _ h9 => (List.mem_cons_of_mem _ (List.mem_append_right _ h9))) hown hK hP 0 rfl rfl 1 (by decide) (hts (Cond.fieldLink RX2 9 "FloodGridModel" "heights" "[I") (List.mem_of_getElem? (i := 1) rfl)) (fun _ h9 => h9) rfl dX2_cellTold_45 ?_
    refine lv_iload_n hx hb dX2_cellTold_48 rfl (lv_at hl 1 rfl) ?_
    refine ct_iald (v := hei k) hx hb hK hP 1 0 rfl rfl k rfl (by omega) (by decide) rfl dX2_cellTold_49 ?_
    exact fin (hei k) () H locs 0 0 50 ls dX2_cellTold_50 rfl hP hD hS (Nat.le_of_ble_eq_true rfl) (Nat.le_of_ble_eq_true rfl)
  · skip
    refine lv_tableIn (tgt := 51) hx hb dX2_cellTold_1 (by decide) (by decide) rfl (by decide) ?_
    refine lv_aload_n hx hb dX2_cellTold_51 rfl (lv_at hl 0 rfl) ?_
    refine va_get (D := D) (ci := 2) (v := .ref (ad 2)) (C := RX2) (T := TX2) (N := 12) hx hb hts (fun _ h9 => (List.mem_cons_of_mem _ (List.mem_append_right _ h9))) hown hK hP 0 rfl rfl 2 (by decide) (hts (Cond.fieldLink RX2 13 "FloodGridModel" "water" "[I") (List.mem_of_getElem? (i := 2) rfl)) (fun _ h9 => h9) rfl dX2_cellTold_52 ?_
    refine lv_iload_n hx hb dX2_cellTold_55 rfl (lv_at hl 1 rfl) ?_
    refine ct_iald (v := wat k) hx hb hK hP 2 0 rfl rfl k rfl (by omega) (by decide) rfl dX2_cellTold_56 ?_
    exact fin (wat k) () H locs 0 0 57 ls dX2_cellTold_57 rfl hP hD hS (Nat.le_of_ble_eq_true rfl) (Nat.le_of_ble_eq_true rfl)
  · skip
    refine lv_tableIn (tgt := 58) hx hb dX2_cellTold_1 (by decide) (by decide) rfl (by decide) ?_
    refine lv_aload_n hx hb dX2_cellTold_58 rfl (lv_at hl 0 rfl) ?_
    refine va_get (D := D) (ci := 2) (v := .ref (ad 3)) (C := RX2) (T := TX2) (N := 12) hx hb hts (fun _ h9 => (List.mem_cons_of_mem _ (List.mem_append_right _ h9))) hown hK hP 0 rfl rfl 3 (by decide) (hts (Cond.fieldLink RX2 16 "FloodGridModel" "dams" "[I") (List.mem_of_getElem? (i := 3) rfl)) (fun _ h9 => h9) rfl dX2_cellTold_59 ?_
    refine lv_iload_n hx hb dX2_cellTold_62 rfl (lv_at hl 1 rfl) ?_
    refine ct_iald (v := dam k) hx hb hK hP 3 0 rfl rfl k rfl (by omega) (by decide) rfl dX2_cellTold_63 ?_
    exact fin (dam k) () H locs 0 0 64 ls dX2_cellTold_64 rfl hP hD hS (Nat.le_of_ble_eq_true rfl) (Nat.le_of_ble_eq_true rfl)
  · skip
    refine lv_tableIn (tgt := 65) hx hb dX2_cellTold_1 (by decide) (by decide) rfl (by decide) ?_
    refine lv_aload_n hx hb dX2_cellTold_65 rfl (lv_at hl 0 rfl) ?_
    refine va_get (D := D) (ci := 2) (v := .ref (ad 4)) (C := RX2) (T := TX2) (N := 12) hx hb hts (fun _ h9 => (List.mem_cons_of_mem _ (List.mem_append_right _ h9))) hown hK hP 0 rfl rfl 4 (by decide) (hts (Cond.fieldLink RX2 19 "FloodGridModel" "wear" "[I") (List.mem_of_getElem? (i := 4) rfl)) (fun _ h9 => h9) rfl dX2_cellTold_66 ?_
    refine lv_iload_n hx hb dX2_cellTold_69 rfl (lv_at hl 1 rfl) ?_
    refine ct_iald (v := wea k) hx hb hK hP 4 0 rfl rfl k rfl (by omega) (by decide) rfl dX2_cellTold_70 ?_
    exact fin (wea k) () H locs 0 0 71 ls dX2_cellTold_71 rfl hP hD hS (Nat.le_of_ble_eq_true rfl) (Nat.le_of_ble_eq_true rfl)
  · skip
    refine lv_tableIn (tgt := 72) hx hb dX2_cellTold_1 (by decide) (by decide) rfl (by decide) ?_
    refine lv_aload_n hx hb dX2_cellTold_72 rfl (lv_at hl 0 rfl) ?_
    refine va_get (D := D) (ci := 2) (v := .ref (ad 5)) (C := RX2) (T := TX2) (N := 12) hx hb hts (fun _ h9 => (List.mem_cons_of_mem _ (List.mem_append_right _ h9))) hown hK hP 0 rfl rfl 5 (by decide) (hts (Cond.fieldLink RX2 22 "FloodGridModel" "drains" "[I") (List.mem_of_getElem? (i := 5) rfl)) (fun _ h9 => h9) rfl dX2_cellTold_73 ?_
    refine lv_iload_n hx hb dX2_cellTold_76 rfl (lv_at hl 1 rfl) ?_
    refine ct_iald (v := dra k) hx hb hK hP 5 0 rfl rfl k rfl (by omega) (by decide) rfl dX2_cellTold_77 ?_
    exact fin (dra k) () H locs 0 0 78 ls dX2_cellTold_78 rfl hP hD hS (Nat.le_of_ble_eq_true rfl) (Nat.le_of_ble_eq_true rfl)
  · skip
    refine lv_tableIn (tgt := 79) hx hb dX2_cellTold_1 (by decide) (by decide) rfl (by decide) ?_
    refine lv_aload_n hx hb dX2_cellTold_79 rfl (lv_at hl 0 rfl) ?_
    refine va_get (D := D) (ci := 2) (v := .ref (ad 6)) (C := RX2) (T := TX2) (N := 12) hx hb hts (fun _ h9 => (List.mem_cons_of_mem _ (List.mem_append_right _ h9))) hown hK hP 0 rfl rfl 6 (by decide) (hts (Cond.fieldLink RX2 25 "FloodGridModel" "towns" "[I") (List.mem_of_getElem? (i := 6) rfl)) (fun _ h9 => h9) rfl dX2_cellTold_80 ?_
    refine lv_iload_n hx hb dX2_cellTold_83 rfl (lv_at hl 1 rfl) ?_
    refine ct_iald (v := peo k) hx hb hK hP 6 0 rfl rfl k rfl (by omega) (by decide) rfl dX2_cellTold_84 ?_
    exact fin (peo k) () H locs 0 0 85 ls dX2_cellTold_85 rfl hP hD hS (Nat.le_of_ble_eq_true rfl) (Nat.le_of_ble_eq_true rfl)
  · skip
    refine lv_tableIn (tgt := 86) hx hb dX2_cellTold_1 (by decide) (by decide) rfl (by decide) ?_
    refine lv_aload_n hx hb dX2_cellTold_86 rfl (lv_at hl 0 rfl) ?_
    refine lv_iload_n hx hb dX2_cellTold_87 rfl (lv_at hl 1 rfl) ?_
    refine ct_Vi (As := [.int (nI k)]) (rest := []) (wr := []) (W1 := fun u => (mW h ad cI thr hei wat dam wea dra peo rai num flo lak row)) (cells1 := 0) (slots1 := 0) ⟨hx, hb, hml, hown, hts⟩ (c_X2_level l D cI h ad thr hei wat dam wea dra peo rai num flo lak row k hk) (cwV 1 hts gX2_cellTold_X2_level rfl rfl rfl (by decide +kernel) ⟨Nat.le_of_ble_eq_true rfl, Nat.le_of_ble_eq_true rfl⟩) hK hP hD hS hA [0, 1, 2, 3, 4, 5, 6, 7, 8, 9, 10, 11] [] ⟨rfl, rfl, rfl, rfl, rfl⟩ [0, 1, 2, 3, 4, 5, 6, 7, 8, 9, 10, 11] rfl (fun _ => rfl) [0] rfl (va_recv hK hP (ci := 2) (q0 := 0) rfl rfl) rfl hl.1 rfl (Nat.le_of_ble_eq_true rfl) rfl rfl ⟨(Nat.le_of_ble_eq_true rfl), (Nat.le_of_ble_eq_true rfl)⟩ dX2_cellTold_88 (fun r u H locs hw hP hD hS => ?_)
    exact fin r () H locs 0 0 91 ls dX2_cellTold_91 hw hP hD hS (Nat.le_of_ble_eq_true rfl) (Nat.le_of_ble_eq_true rfl)
  · skip
    refine lv_tableOut (tgt := 92) hx hb dX2_cellTold_1 (Or.inr (by decide)) (by decide) ?_
    refine lv_aload_n hx hb dX2_cellTold_92 rfl (lv_at hl 0 rfl) ?_
    refine lv_iload_n hx hb dX2_cellTold_93 rfl (lv_at hl 1 rfl) ?_
    refine ct_Vi (As := [.int (nI k)]) (rest := []) (wr := []) (W1 := fun u => (mW h ad cI thr hei wat dam wea dra peo rai num flo lak row)) (cells1 := 0) (slots1 := 0) ⟨hx, hb, hml, hown, hts⟩ (c_X2_crest l D cI h ad thr hei wat dam wea dra peo rai num flo lak row k hk) (cwV 1 hts gX2_cellTold_X2_crest rfl rfl rfl (by decide +kernel) ⟨Nat.le_of_ble_eq_true rfl, Nat.le_of_ble_eq_true rfl⟩) hK hP hD hS hA [0, 1, 2, 3, 4, 5, 6, 7, 8, 9, 10, 11] [] ⟨rfl, rfl, rfl, rfl, rfl⟩ [0, 1, 2, 3, 4, 5, 6, 7, 8, 9, 10, 11] rfl (fun _ => rfl) [0] rfl (va_recv hK hP (ci := 2) (q0 := 0) rfl rfl) rfl hl.1 rfl (Nat.le_of_ble_eq_true rfl) rfl rfl ⟨(Nat.le_of_ble_eq_true rfl), (Nat.le_of_ble_eq_true rfl)⟩ dX2_cellTold_94 (fun r u H locs hw hP hD hS => ?_)
    exact fin r () H locs 0 0 97 ls dX2_cellTold_97 hw hP hD hS (Nat.le_of_ble_eq_true rfl) (Nat.le_of_ble_eq_true rfl)
abbrev rm_X2_sum : Room := { frames := 0, cells := 0, slots := 0, locals := 0 }
set_option maxHeartbeats 4000000 in
set_option maxRecDepth 100000 in
theorem c_X2_sum (l : Launch) (D : va_G) (cI : ClassId) (a n : Nat) (hn : n < 2 ^ 31) (f : Nat → Int32) : ct_i (S := Unit) l D yX2_sum wsX2_sum rm_X2_sum [.ref a] ([(a, .inl (cI, n, .inl f))]) [(cI, .int)] (fun r _ => r = q_sum f n) (fun _ => ([(a, .inl (cI, n, .inl f))])) := by
  refine ct_ofi (cc := cX2_sum) (maxL := 6) (by decide) rfl (Nat.le_of_ble_eq_true rfl) ?_
  intro p e s m args below meth c A Q hx hb hml hown hts hin hA hK H locs hP hD hS fin ls hl
  have hown : s.vm.findClass RX2 = some m.cls := hown
  have hl : lv_has ls 6 [(0, .ref a)] := hl
  refine lv_iconst (v := 0) hx hb dX2_sum_0 (by decide) ?_
  refine lv_istore_n (lv' := [(1, .int 0), (0, .ref a)]) hx hb dX2_sum_1 rfl hl (by decide) rfl (fun ls hl => ?_)
  refine lv_aload_n hx hb dX2_sum_2 rfl (lv_at hl 1 rfl) ?_
  refine lv_astore_n (lv' := [(2, .ref a), (1, .int 0), (0, .ref a)]) hx hb dX2_sum_3 rfl hl (by decide) rfl (fun ls hl => ?_)
  refine lv_aload_n hx hb dX2_sum_4 rfl (lv_at hl 0 rfl) ?_
  refine va_alen (v := (nI n)) hx hb hK hP 0 rfl (t0 := 0) rfl rfl dX2_sum_5 ?_
  refine lv_istore_n (lv' := [(3, .int (nI n)), (2, .ref a), (1, .int 0), (0, .ref a)]) hx hb dX2_sum_6 rfl hl (by decide) rfl (fun ls hl => ?_)
  refine lv_iconst (v := 0) hx hb dX2_sum_7 (by decide) ?_
  refine lv_istore (lv' := [(4, .int 0), (3, .int (nI n)), (2, .ref a), (1, .int 0), (0, .ref a)]) hx hb dX2_sum_8 hl (by decide) rfl (fun ls hl => ?_)
  have loop : ∀ (fu i : Nat), i + fu = n → ∀ (b : Int32) (H : Heap) (locs : List Loc) (ls : Array Slot), (b = q_sum f i) → va_P D vwCl ([(a, .inl (cI, n, .inl f))]) H → va_D A ([(a, .inl (cI, n, .inl f))]) → va_S A s.heap H locs → lv_has ls 6 [(0, .ref a), (1, .int b), (2, .ref a), (3, .int (nI n)), (4, .int (nI i))] → W p l e rm_X2_sum s m args below meth c H locs 0 0 Q (F0 m 10 ls []) := by
    intro fu
    induction fu with
    | zero =>
      intro i hi b H locs ls hb2 hP hD hS hl
      obtain rfl : n = i := by omega
      refine lv_iload hx hb dX2_sum_10 (lv_at hl 4 rfl) ?_
      refine lv_iload_n hx hb dX2_sum_12 rfl (lv_at hl 3 rfl) ?_
      refine lv_icmp_ge (tgt := 33) hx hb dX2_sum_13 (by decide) (fun hc => ?_) (fun hc => ?_)
      · skip
        refine lv_iload_n hx hb dX2_sum_33 rfl (lv_at hl 1 rfl) ?_
        exact fin b () H locs 0 0 34 ls dX2_sum_34 hb2 hP hD hS (Nat.le_of_ble_eq_true rfl) (Nat.le_of_ble_eq_true rfl)
      · skip
        exact absurd (Int32.le_refl _) hc
    | succ fu ih =>
      intro i hi b H locs ls hb2 hP hD hS hl
      have hlt : i < n := by omega
      refine lv_iload hx hb dX2_sum_10 (lv_at hl 4 rfl) ?_
      refine lv_iload_n hx hb dX2_sum_12 rfl (lv_at hl 3 rfl) ?_
      refine lv_icmp_ge (tgt := 33) hx hb dX2_sum_13 (by decide) (fun hc => ?_) (fun hc => ?_)
      · skip
        exact absurd hc (nI_ge hlt hn)
      · skip
        refine lv_aload_n hx hb dX2_sum_16 rfl (lv_at hl 2 rfl) ?_
        refine lv_iload hx hb dX2_sum_17 (lv_at hl 4 rfl) ?_
        refine ct_iald (v := (f i)) hx hb hK hP 0 0 rfl rfl i rfl hlt hn rfl dX2_sum_19 ?_
        refine lv_istore (lv' := [(5, .int (f i)), (0, .ref a), (1, .int b), (2, .ref a), (3, .int (nI n)), (4, .int (nI i))]) hx hb dX2_sum_20 hl (by decide) rfl (fun ls hl => ?_)
        refine lv_iload_n hx hb dX2_sum_22 rfl (lv_at hl 2 rfl) ?_
        refine lv_iload hx hb dX2_sum_23 (lv_at hl 0 rfl) ?_
        refine lv_iadd hx hb dX2_sum_25 ?_
        refine lv_istore_n (lv' := [(1, .int (b + (f i))), (5, .int (f i)), (0, .ref a), (2, .ref a), (3, .int (nI n)), (4, .int (nI i))]) hx hb dX2_sum_26 rfl hl (by decide) rfl (fun ls hl => ?_)
        refine lv_iinc (v := (nI (i + 1))) (lv' := [(4, .int (nI (i + 1))), (1, .int (b + (f i))), (5, .int (f i)), (0, .ref a), (2, .ref a), (3, .int (nI n))]) hx hb dX2_sum_27 hl (k := 5) rfl (nI_1 i) (by decide) rfl (fun ls hl => ?_)
        refine lv_goto (tgt := 10) hx hb dX2_sum_30 (by decide) ?_
        exact ih (i + 1) (by omega) (b + f i) H locs ls (by rw [hb2]; rfl) hP hD hS (lv_sub hl [3, 1, 4, 5, 0] rfl)
  exact loop n 0 (by omega) 0 H locs ls rfl hP hD hS (lv_sub hl [4, 3, 2, 1, 0] rfl)
abbrev rm_X2_some : Room := { frames := 0, cells := 0, slots := 0, locals := 0 }
set_option maxHeartbeats 4000000 in
set_option maxRecDepth 100000 in
theorem c_X2_some (l : Launch) (D : va_G) (cI : ClassId) (a n : Nat) (hn : n < 2 ^ 31) (f : Nat → Int32) : ct_i (S := Unit) l D yX2_some wsX2_some rm_X2_some [.ref a] ([(a, .inl (cI, n, .inl f))]) [(cI, .int)] (fun r _ => r = q_sum (q_pos f) n) (fun _ => ([(a, .inl (cI, n, .inl f))])) := by
  refine ct_ofi (cc := cX2_some) (maxL := 6) (by decide) rfl (Nat.le_of_ble_eq_true rfl) ?_
  intro p e s m args below meth c A Q hx hb hml hown hts hin hA hK H locs hP hD hS fin ls hl
  have hown : s.vm.findClass RX2 = some m.cls := hown
  have hl : lv_has ls 6 [(0, .ref a)] := hl
  refine lv_iconst (v := 0) hx hb dX2_some_0 (by decide) ?_
  refine lv_istore_n (lv' := [(1, .int 0), (0, .ref a)]) hx hb dX2_some_1 rfl hl (by decide) rfl (fun ls hl => ?_)
  refine lv_aload_n hx hb dX2_some_2 rfl (lv_at hl 1 rfl) ?_
  refine lv_astore_n (lv' := [(2, .ref a), (1, .int 0), (0, .ref a)]) hx hb dX2_some_3 rfl hl (by decide) rfl (fun ls hl => ?_)
  refine lv_aload_n hx hb dX2_some_4 rfl (lv_at hl 0 rfl) ?_
  refine va_alen (v := (nI n)) hx hb hK hP 0 rfl (t0 := 0) rfl rfl dX2_some_5 ?_
  refine lv_istore_n (lv' := [(3, .int (nI n)), (2, .ref a), (1, .int 0), (0, .ref a)]) hx hb dX2_some_6 rfl hl (by decide) rfl (fun ls hl => ?_)
  refine lv_iconst (v := 0) hx hb dX2_some_7 (by decide) ?_
  refine lv_istore (lv' := [(4, .int 0), (3, .int (nI n)), (2, .ref a), (1, .int 0), (0, .ref a)]) hx hb dX2_some_8 hl (by decide) rfl (fun ls hl => ?_)
  have loop : ∀ (fu i : Nat), i + fu = n → ∀ (b : Int32) (H : Heap) (locs : List Loc) (ls : Array Slot), (b = q_sum (q_pos f) i) → va_P D vwCl ([(a, .inl (cI, n, .inl f))]) H → va_D A ([(a, .inl (cI, n, .inl f))]) → va_S A s.heap H locs → lv_has ls 6 [(0, .ref a), (1, .int b), (2, .ref a), (3, .int (nI n)), (4, .int (nI i))] → W p l e rm_X2_some s m args below meth c H locs 0 0 Q (F0 m 10 ls []) := by
    intro fu
    induction fu with
    | zero =>
      intro i hi b H locs ls hb2 hP hD hS hl
      obtain rfl : n = i := by omega
      refine lv_iload hx hb dX2_some_10 (lv_at hl 4 rfl) ?_
      refine lv_iload_n hx hb dX2_some_12 rfl (lv_at hl 3 rfl) ?_
      refine lv_icmp_ge (tgt := 41) hx hb dX2_some_13 (by decide) (fun hc => ?_) (fun hc => ?_)
      · skip
        refine lv_iload_n hx hb dX2_some_41 rfl (lv_at hl 1 rfl) ?_
        exact fin b () H locs 0 0 42 ls dX2_some_42 hb2 hP hD hS (Nat.le_of_ble_eq_true rfl) (Nat.le_of_ble_eq_true rfl)
      · skip
        exact absurd (Int32.le_refl _) hc
    | succ fu ih =>
      intro i hi b H locs ls hb2 hP hD hS hl
      have hlt : i < n := by omega
      refine lv_iload hx hb dX2_some_10 (lv_at hl 4 rfl) ?_
      refine lv_iload_n hx hb dX2_some_12 rfl (lv_at hl 3 rfl) ?_
      refine lv_icmp_ge (tgt := 41) hx hb dX2_some_13 (by decide) (fun hc => ?_) (fun hc => ?_)
      · skip
        exact absurd hc (nI_ge hlt hn)
      · skip
        refine lv_aload_n hx hb dX2_some_16 rfl (lv_at hl 2 rfl) ?_
        refine lv_iload hx hb dX2_some_17 (lv_at hl 4 rfl) ?_
        refine ct_iald (v := (f i)) hx hb hK hP 0 0 rfl rfl i rfl hlt hn rfl dX2_some_19 ?_
        refine lv_istore (lv' := [(5, .int (f i)), (0, .ref a), (1, .int b), (2, .ref a), (3, .int (nI n)), (4, .int (nI i))]) hx hb dX2_some_20 hl (by decide) rfl (fun ls hl => ?_)
        refine lv_iload_n hx hb dX2_some_22 rfl (lv_at hl 2 rfl) ?_
        refine lv_iload hx hb dX2_some_23 (lv_at hl 0 rfl) ?_
        refine lv_if_le (tgt := 32) hx hb dX2_some_25 (by decide) (fun hc2 => ?_) (fun hc2 => ?_)
        · skip
          refine lv_iconst (v := 0) hx hb dX2_some_32 (by decide) ?_
          refine lv_iadd hx hb dX2_some_33 ?_
          refine lv_istore_n (lv' := [(1, .int (b + 0)), (5, .int (f i)), (0, .ref a), (2, .ref a), (3, .int (nI n)), (4, .int (nI i))]) hx hb dX2_some_34 rfl hl (by decide) rfl (fun ls hl => ?_)
          refine lv_iinc (v := (nI (i + 1))) (lv' := [(4, .int (nI (i + 1))), (1, .int (b + 0)), (5, .int (f i)), (0, .ref a), (2, .ref a), (3, .int (nI n))]) hx hb dX2_some_35 hl (k := 5) rfl (nI_1 i) (by decide) rfl (fun ls hl => ?_)
          refine lv_goto (tgt := 10) hx hb dX2_some_38 (by decide) ?_
          exact ih (i + 1) (by omega) (b + 0) H locs ls (by rw [hb2]; simp only [q_sum, q_pos]; rw [if_neg (Int32.not_lt.mpr hc2)]) hP hD hS (lv_sub hl [3, 1, 4, 5, 0] rfl)
        · skip
          refine lv_iconst (v := 1) hx hb dX2_some_28 (by decide) ?_
          refine lv_goto (tgt := 33) hx hb dX2_some_29 (by decide) ?_
          refine lv_iadd hx hb dX2_some_33 ?_
          refine lv_istore_n (lv' := [(1, .int (b + 1)), (5, .int (f i)), (0, .ref a), (2, .ref a), (3, .int (nI n)), (4, .int (nI i))]) hx hb dX2_some_34 rfl hl (by decide) rfl (fun ls hl => ?_)
          refine lv_iinc (v := (nI (i + 1))) (lv' := [(4, .int (nI (i + 1))), (1, .int (b + 1)), (5, .int (f i)), (0, .ref a), (2, .ref a), (3, .int (nI n))]) hx hb dX2_some_35 hl (k := 5) rfl (nI_1 i) (by decide) rfl (fun ls hl => ?_)
          refine lv_goto (tgt := 10) hx hb dX2_some_38 (by decide) ?_
          exact ih (i + 1) (by omega) (b + 1) H locs ls (by rw [hb2]; simp only [q_sum, q_pos]; rw [if_pos (Int32.not_le.mp hc2)]) hP hD hS (lv_sub hl [3, 1, 4, 5, 0] rfl)
  exact loop n 0 (by omega) 0 H locs ls rfl hP hD hS (lv_sub hl [4, 3, 2, 1, 0] rfl)
abbrev rm_X2_beside : Room := { frames := 0, cells := 0, slots := 0, locals := 0 }
set_option maxHeartbeats 4000000 in
set_option maxRecDepth 100000 in
theorem c_beside (l : Launch) (D : va_G) (cI : ClassId) (k sd : Nat) (hk : k < 64) (hsd : sd < 4) : ct_i (S := Unit) l D yX2_beside wsX2_beside rm_X2_beside [.int (nI k), .int (nI sd)] ([] : va_W) [(cI, .int)] (fun r _ => r = q_v (q_nb k sd)) (fun _ => ([] : va_W)) := by
  refine ct_ofi (cc := cX2_beside) (maxL := 2) (by decide) rfl (Nat.le_of_ble_eq_true rfl) ?_
  intro p e s m args below meth c A Q hx hb hml hown hts hin hA hK H locs hP hD hS fin ls hl
  have hown : s.vm.findClass RX2 = some m.cls := hown
  have hl : lv_has ls 2 [(0, .int (nI k)), (1, .int (nI sd))] := hl
  rcases (show sd = 0 ∨ sd = 1 ∨ sd = 2 ∨ sd = 3 by omega) with rfl | rfl | rfl | rfl
  · skip
    refine lv_iload_n hx hb dX2_beside_0 rfl (lv_at hl 1 rfl) ?_
    refine lv_if_ne (tgt := 19) hx hb dX2_beside_1 (by decide) (fun hs => ?_) (fun hs => ?_)
    · skip
      exact absurd rfl hs
    · skip
      refine lv_iload_n hx hb dX2_beside_4 rfl (lv_at hl 0 rfl) ?_
      refine lv_bipush (v := 8) hx hb dX2_beside_5 (by decide) ?_
      refine ct_irem hx hb k 8 rfl rfl (by omega) (by decide) (by decide) dX2_beside_7 ?_
      refine lv_if_ne (tgt := 15) hx hb dX2_beside_8 (by decide) (fun hc => ?_) (fun hc => ?_)
      · skip
        have h2 : 0 < k % 8 := Nat.pos_of_ne_zero (fun h0 => hc (by rw [h0]; rfl))
        refine lv_iload_n hx hb dX2_beside_15 rfl (lv_at hl 0 rfl) ?_
        refine lv_iconst (v := 1) hx hb dX2_beside_16 (by decide) ?_
        refine lv_isub hx hb dX2_beside_17 ?_
        exact fin ((nI k) - 1) () H locs 0 0 18 ls dX2_beside_18 (by rw [nb_0, if_pos h2]; exact pk_sub (b := 1) (by omega)) hP hD hS (Nat.le_of_ble_eq_true rfl) (Nat.le_of_ble_eq_true rfl)
      · skip
        have h2 : ¬ 0 < k % 8 := by have := (nI_eq (a := k % 8) (b := 0) (by omega) (by decide)).mp hc; omega
        refine lv_iconst (v := (-1)) hx hb dX2_beside_11 (by decide) ?_
        refine lv_goto (tgt := 18) hx hb dX2_beside_12 (by decide) ?_
        exact fin (-1) () H locs 0 0 18 ls dX2_beside_18 (by rw [nb_0, if_neg h2]) hP hD hS (Nat.le_of_ble_eq_true rfl) (Nat.le_of_ble_eq_true rfl)
  · skip
    refine lv_iload_n hx hb dX2_beside_0 rfl (lv_at hl 1 rfl) ?_
    refine lv_if_ne (tgt := 19) hx hb dX2_beside_1 (by decide) (fun hs => ?_) (fun hs => ?_)
    · skip
      refine lv_iload_n hx hb dX2_beside_19 rfl (lv_at hl 1 rfl) ?_
      refine lv_iconst (v := 1) hx hb dX2_beside_20 (by decide) ?_
      refine lv_icmp_ne (tgt := 41) hx hb dX2_beside_21 (by decide) (fun hs => ?_) (fun hs => ?_)
      · skip
        exact absurd rfl hs
      · skip
        refine lv_iload_n hx hb dX2_beside_24 rfl (lv_at hl 0 rfl) ?_
        refine lv_bipush (v := 8) hx hb dX2_beside_25 (by decide) ?_
        refine ct_irem hx hb k 8 rfl rfl (by omega) (by decide) (by decide) dX2_beside_27 ?_
        refine lv_bipush (v := 7) hx hb dX2_beside_28 (by decide) ?_
        refine lv_icmp_ne (tgt := 37) hx hb dX2_beside_30 (by decide) (fun hc => ?_) (fun hc => ?_)
        · skip
          have h2 : k % 8 < 7 := by have h9 : ¬ k % 8 = 7 := fun h0 => hc (by rw [h0]; rfl); omega
          refine lv_iload_n hx hb dX2_beside_37 rfl (lv_at hl 0 rfl) ?_
          refine lv_iconst (v := 1) hx hb dX2_beside_38 (by decide) ?_
          refine lv_iadd hx hb dX2_beside_39 ?_
          exact fin ((nI k) + 1) () H locs 0 0 40 ls dX2_beside_40 (by rw [nb_1, if_pos h2]; exact nI_1 k) hP hD hS (Nat.le_of_ble_eq_true rfl) (Nat.le_of_ble_eq_true rfl)
        · skip
          have h2 : ¬ k % 8 < 7 := by have := (nI_eq (a := k % 8) (b := 7) (by omega) (by decide)).mp hc; omega
          refine lv_iconst (v := (-1)) hx hb dX2_beside_33 (by decide) ?_
          refine lv_goto (tgt := 40) hx hb dX2_beside_34 (by decide) ?_
          exact fin (-1) () H locs 0 0 40 ls dX2_beside_40 (by rw [nb_1, if_neg h2]) hP hD hS (Nat.le_of_ble_eq_true rfl) (Nat.le_of_ble_eq_true rfl)
    · skip
      exact absurd hs (by decide)
  · skip
    refine lv_iload_n hx hb dX2_beside_0 rfl (lv_at hl 1 rfl) ?_
    refine lv_if_ne (tgt := 19) hx hb dX2_beside_1 (by decide) (fun hs => ?_) (fun hs => ?_)
    · skip
      refine lv_iload_n hx hb dX2_beside_19 rfl (lv_at hl 1 rfl) ?_
      refine lv_iconst (v := 1) hx hb dX2_beside_20 (by decide) ?_
      refine lv_icmp_ne (tgt := 41) hx hb dX2_beside_21 (by decide) (fun hs => ?_) (fun hs => ?_)
      · skip
        refine lv_iload_n hx hb dX2_beside_41 rfl (lv_at hl 1 rfl) ?_
        refine lv_iconst (v := 2) hx hb dX2_beside_42 (by decide) ?_
        refine lv_icmp_ne (tgt := 61) hx hb dX2_beside_43 (by decide) (fun hs => ?_) (fun hs => ?_)
        · skip
          exact absurd rfl hs
        · skip
          refine lv_iload_n hx hb dX2_beside_46 rfl (lv_at hl 0 rfl) ?_
          refine lv_bipush (v := 8) hx hb dX2_beside_47 (by decide) ?_
          refine lv_icmp_ge (tgt := 56) hx hb dX2_beside_49 (by decide) (fun hc => ?_) (fun hc => ?_)
          · skip
            have h2 : 0 < k / 8 := by have := nb_ge (a := 8) hc (by decide) (by omega); omega
            refine lv_iload_n hx hb dX2_beside_56 rfl (lv_at hl 0 rfl) ?_
            refine lv_bipush (v := 8) hx hb dX2_beside_57 (by decide) ?_
            refine lv_isub hx hb dX2_beside_59 ?_
            exact fin ((nI k) - 8) () H locs 0 0 60 ls dX2_beside_60 (by rw [nb_2, if_pos h2]; exact pk_sub (b := 8) (by omega)) hP hD hS (Nat.le_of_ble_eq_true rfl) (Nat.le_of_ble_eq_true rfl)
          · skip
            have h2 : ¬ 0 < k / 8 := by have := nb_lt (a := 8) hc (by omega); omega
            refine lv_iconst (v := (-1)) hx hb dX2_beside_52 (by decide) ?_
            refine lv_goto (tgt := 60) hx hb dX2_beside_53 (by decide) ?_
            exact fin (-1) () H locs 0 0 60 ls dX2_beside_60 (by rw [nb_2, if_neg h2]) hP hD hS (Nat.le_of_ble_eq_true rfl) (Nat.le_of_ble_eq_true rfl)
      · skip
        exact absurd hs (by decide)
    · skip
      exact absurd hs (by decide)
  · skip
    refine lv_iload_n hx hb dX2_beside_0 rfl (lv_at hl 1 rfl) ?_
    refine lv_if_ne (tgt := 19) hx hb dX2_beside_1 (by decide) (fun hs => ?_) (fun hs => ?_)
    · skip
      refine lv_iload_n hx hb dX2_beside_19 rfl (lv_at hl 1 rfl) ?_
      refine lv_iconst (v := 1) hx hb dX2_beside_20 (by decide) ?_
      refine lv_icmp_ne (tgt := 41) hx hb dX2_beside_21 (by decide) (fun hs => ?_) (fun hs => ?_)
      · skip
        refine lv_iload_n hx hb dX2_beside_41 rfl (lv_at hl 1 rfl) ?_
        refine lv_iconst (v := 2) hx hb dX2_beside_42 (by decide) ?_
        refine lv_icmp_ne (tgt := 61) hx hb dX2_beside_43 (by decide) (fun hs => ?_) (fun hs => ?_)
        · skip
          refine lv_iload_n hx hb dX2_beside_61 rfl (lv_at hl 0 rfl) ?_
          refine lv_bipush (v := 56) hx hb dX2_beside_62 (by decide) ?_
          refine lv_icmp_lt (tgt := 71) hx hb dX2_beside_64 (by decide) (fun hc => ?_) (fun hc => ?_)
          · skip
            have h2 : k / 8 < 7 := by have := (nI_ltI (b := 56) (by omega) (by decide)).mp hc; omega
            refine lv_iload_n hx hb dX2_beside_71 rfl (lv_at hl 0 rfl) ?_
            refine lv_bipush (v := 8) hx hb dX2_beside_72 (by decide) ?_
            refine lv_iadd hx hb dX2_beside_74 ?_
            exact fin ((nI k) + 8) () H locs 0 0 75 ls dX2_beside_75 (by rw [nb_3, if_pos h2]; exact nI_add k 8) hP hD hS (Nat.le_of_ble_eq_true rfl) (Nat.le_of_ble_eq_true rfl)
          · skip
            have h2 : ¬ k / 8 < 7 := fun h9 => hc ((nI_ltI (b := 56) (by omega) (by decide)).mpr (by omega))
            refine lv_iconst (v := (-1)) hx hb dX2_beside_67 (by decide) ?_
            refine lv_goto (tgt := 75) hx hb dX2_beside_68 (by decide) ?_
            exact fin (-1) () H locs 0 0 75 ls dX2_beside_75 (by rw [nb_3, if_neg h2]) hP hD hS (Nat.le_of_ble_eq_true rfl) (Nat.le_of_ble_eq_true rfl)
        · skip
          exact absurd hs (by decide)
      · skip
        exact absurd hs (by decide)
    · skip
      exact absurd hs (by decide)
abbrev rm_X2_thrown : Room := { frames := 0, cells := 0, slots := 0, locals := 0 }
set_option maxHeartbeats 4000000 in
set_option maxRecDepth 100000 in
theorem c_X2_thrown (l : Launch) (D : va_G) (cI : ClassId) (h : Nat) (ad : Nat → Nat) (thr : Int32) (hei wat dam wea dra peo rai num flo lak row : Nat → Int32) : ct_i (S := Unit) l D yX2_thrown wsX2_thrown rm_X2_thrown [.ref h] (mW h ad cI thr hei wat dam wea dra peo rai num flo lak row) [(cI, .int)] (fun r _ => r = thr) (fun _ => (mW h ad cI thr hei wat dam wea dra peo rai num flo lak row)) := by
  refine ct_ofi (cc := cX2_thrown) (maxL := 1) (by decide) rfl (Nat.le_of_ble_eq_true rfl) ?_
  intro p e s m args below meth c A Q hx hb hml hown hts hin hA hK H locs hP hD hS fin ls hl
  have hown : s.vm.findClass RX2 = some m.cls := hown
  have hl : lv_has ls 1 [(0, .ref h)] := hl
  refine lv_aload_n hx hb dX2_thrown_0 rfl (lv_at hl 0 rfl) ?_
  refine va_get (D := D) (ci := 2) (v := .int thr) (C := RX2) (T := TX2) (N := 12) hx hb hts (fun _ h9 => (List.mem_cons_of_mem _ (List.mem_append_right _ h9))) hown hK hP 0 rfl rfl 0 (by decide) (hts (Cond.fieldLink RX2 43 "FloodGridModel" "thrown" "I") (List.mem_of_getElem? (i := 1) rfl)) (fun _ h9 => h9) rfl dX2_thrown_1 ?_
  exact fin thr () H locs 0 0 4 ls dX2_thrown_4 rfl hP hD hS (Nat.le_of_ble_eq_true rfl) (Nat.le_of_ble_eq_true rfl)
abbrev rm_X2_fail : Room := { frames := 0, cells := 0, slots := 0, locals := 0 }
set_option maxHeartbeats 4000000 in
set_option maxRecDepth 100000 in
theorem c_X2_fail (l : Launch) (D : va_G) (cI : ClassId) (h : Nat) (ad : Nat → Nat) (thr : Int32) (hei wat dam wea dra peo rai num flo lak row : Nat → Int32) (v : Int32) : ct_i (S := Unit) l D yX2_fail wsX2_fail rm_X2_fail [.ref h, .int v] (mW h ad cI thr hei wat dam wea dra peo rai num flo lak row) [(cI, .int)] (fun r _ => r = 0) (fun _ => (mW h ad cI v hei wat dam wea dra peo rai num flo lak row)) := by
  refine ct_ofi (cc := cX2_fail) (maxL := 2) (by decide) rfl (Nat.le_of_ble_eq_true rfl) ?_
  intro p e s m args below meth c A Q hx hb hml hown hts hin hA hK H locs hP hD hS fin ls hl
  have hown : s.vm.findClass RX2 = some m.cls := hown
  have hl : lv_has ls 2 [(0, .ref h), (1, .int v)] := hl
  refine lv_aload_n hx hb dX2_fail_0 rfl (lv_at hl 0 rfl) ?_
  refine lv_iload_n hx hb dX2_fail_1 rfl (lv_at hl 1 rfl) ?_
  refine va_put (D := D) (ci := 2) (v := .int v) (ty := .int) (C := RX2) (T := TX2) (N := 12) hx hb hts (fun _ h9 => (List.mem_cons_of_mem _ (List.mem_append_right _ h9))) tyX2 tyX2_ok nmX2 hown hK hP hD hS 0 rfl rfl 0 (by decide) (hts (Cond.fieldLink RX2 43 "FloodGridModel" "thrown" "I") (List.mem_of_getElem? (i := 1) rfl)) (fun _ h9 => h9) rfl (by decide +kernel) rfl rfl (Nat.le_of_ble_eq_true rfl) dX2_fail_2 (fun H locs hP hD hS => ?_)
  have hP : va_P D vwCl (mW h ad cI v hei wat dam wea dra peo rai num flo lak row) H := hP
  have hD : va_D A (mW h ad cI v hei wat dam wea dra peo rai num flo lak row) := hD
  refine lv_iconst (v := 0) hx hb dX2_fail_5 (by decide) ?_
  exact fin 0 () H locs 0 0 6 ls dX2_fail_6 rfl hP hD hS (Nat.le_of_ble_eq_true rfl) (Nat.le_of_ble_eq_true rfl)
