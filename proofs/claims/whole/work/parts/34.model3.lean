abbrev rm_X2_run : Room := { frames := 2, cells := 0, slots := 0, locals := 42 }
set_option maxHeartbeats 4000000 in
set_option maxRecDepth 100000 in
theorem c_X2_run (l : Launch) (D : va_G) (cI : ClassId) (h : Nat) (ad : Nat → Nat) (thr : Int32) (hei wat dam wea dra peo rai num flo lak row : Nat → Int32) (k : Nat) (hk : k < 64) (hd0 : 0 ≤ dam k) : ct_v (S := Unit) l D yX2_run wsX2_run rm_X2_run [.ref h, .int (nI k)] (mW h ad cI thr hei wat dam wea dra peo rai num flo lak row) [(cI, .int)] (fun _ => True) (fun _ => (mW h ad cI thr hei wat dam wea dra peo rai num (if dam k < wat k then q_give hei wat dam (q_cre hei dam wat) k (q_low (q_cre hei dam wat) k 4) flo else flo) lak row)) := by
  refine ct_ofv (cc := cX2_run) (maxL := 5) (by decide) rfl (Nat.le_of_ble_eq_true rfl) ?_
  intro p e s m args below meth c A Q hx hb hml hown hts hin hA hK H locs hP hD hS fin ls hl
  have hown : s.vm.findClass RX2 = some m.cls := hown
  have hl : lv_has ls 5 [(0, .ref h), (1, .int (nI k))] := hl
  refine lv_aload_n hx hb dX2_run_0 rfl (lv_at hl 0 rfl) ?_
  refine va_get (D := D) (ci := 2) (v := .ref (ad 2)) (C := RX2) (T := TX2) (N := 12) hx hb hts (fun _ h9 => (List.mem_cons_of_mem _ (List.mem_append_right _ h9))) hown hK hP 0 rfl rfl 2 (by decide) (hts (Cond.fieldLink RX2 13 "FloodGridModel" "water" "[I") (List.mem_of_getElem? (i := 1) rfl)) (fun _ h9 => h9) rfl dX2_run_1 ?_
  refine lv_iload_n hx hb dX2_run_4 rfl (lv_at hl 1 rfl) ?_
  refine ct_iald (v := wat k) hx hb hK hP 2 0 rfl rfl k rfl (by omega) (by decide) rfl dX2_run_5 ?_
  refine lv_aload_n hx hb dX2_run_6 rfl (lv_at hl 0 rfl) ?_
  refine va_get (D := D) (ci := 2) (v := .ref (ad 3)) (C := RX2) (T := TX2) (N := 12) hx hb hts (fun _ h9 => (List.mem_cons_of_mem _ (List.mem_append_right _ h9))) hown hK hP 0 rfl rfl 3 (by decide) (hts (Cond.fieldLink RX2 16 "FloodGridModel" "dams" "[I") (List.mem_of_getElem? (i := 2) rfl)) (fun _ h9 => h9) rfl dX2_run_7 ?_
  refine lv_iload_n hx hb dX2_run_10 rfl (lv_at hl 1 rfl) ?_
  refine ct_iald (v := dam k) hx hb hK hP 3 0 rfl rfl k rfl (by omega) (by decide) rfl dX2_run_11 ?_
  refine lv_icmp_gt (tgt := 16) hx hb dX2_run_12 (by decide) (fun hc => ?_) (fun hc => ?_)
  · skip
    have hlt0 : dam k < wat k := hc
    refine lv_iconst (v := (-1)) hx hb dX2_run_16 (by decide) ?_
    refine lv_istore_n (lv' := [(2, .int (-1)), (0, .ref h), (1, .int (nI k))]) hx hb dX2_run_17 rfl hl (by decide) rfl (fun ls hl => ?_)
    refine lv_iconst (v := 0) hx hb dX2_run_18 (by decide) ?_
    refine lv_istore_n (lv' := [(3, .int 0), (2, .int (-1)), (0, .ref h), (1, .int (nI k))]) hx hb dX2_run_19 rfl hl (by decide) rfl (fun ls hl => ?_)
    have loop : ∀ (fu i : Nat), i + fu = 4 → ∀ (low : Option Nat) (H : Heap) (locs : List Loc) (ls : Array Slot), (low = q_low (q_cre hei dam wat) k i) → va_P D vwCl (mW h ad cI thr hei wat dam wea dra peo rai num flo lak row) H → va_D A (mW h ad cI thr hei wat dam wea dra peo rai num flo lak row) → va_S A s.heap H locs → lv_has ls 5 [(0, .ref h), (1, .int (nI k)), (2, .int (q_v low)), (3, .int (nI i))] → W p l e rm_X2_run s m args below meth c H locs 0 0 Q (F0 m 20 ls []) := by
      intro fu
      induction fu with
      | zero =>
        intro i hi low H locs ls hlow hP hD hS hl
        obtain rfl : 4 = i := by omega
        refine lv_iload_n hx hb dX2_run_20 rfl (lv_at hl 3 rfl) ?_
        refine lv_iconst (v := 4) hx hb dX2_run_21 (by decide) ?_
        refine lv_icmp_ge (tgt := 66) hx hb dX2_run_22 (by decide) (fun hc1 => ?_) (fun hc1 => ?_)
        · skip
          obtain ⟨j, hj4⟩ := low4 (q_cre hei dam wat) k
          have hj : j < 64 := q_low_lt hk hj4
          rw [hlow, hj4] at hl
          have hl : lv_has ls 5 [(0, .ref h), (1, .int (nI k)), (2, .int (nI j)), (3, .int (nI 4))] := hl
          refine lv_aload_n hx hb dX2_run_66 rfl (lv_at hl 0 rfl) ?_
          refine va_get (D := D) (ci := 2) (v := .ref (ad 2)) (C := RX2) (T := TX2) (N := 12) hx hb hts (fun _ h9 => (List.mem_cons_of_mem _ (List.mem_append_right _ h9))) hown hK hP 0 rfl rfl 2 (by decide) (hts (Cond.fieldLink RX2 13 "FloodGridModel" "water" "[I") (List.mem_of_getElem? (i := 1) rfl)) (fun _ h9 => h9) rfl dX2_run_67 ?_
          refine lv_iload_n hx hb dX2_run_70 rfl (lv_at hl 1 rfl) ?_
          refine ct_iald (v := wat k) hx hb hK hP 2 0 rfl rfl k rfl (by omega) (by decide) rfl dX2_run_71 ?_
          refine lv_aload_n hx hb dX2_run_72 rfl (lv_at hl 0 rfl) ?_
          refine va_get (D := D) (ci := 2) (v := .ref (ad 3)) (C := RX2) (T := TX2) (N := 12) hx hb hts (fun _ h9 => (List.mem_cons_of_mem _ (List.mem_append_right _ h9))) hown hK hP 0 rfl rfl 3 (by decide) (hts (Cond.fieldLink RX2 16 "FloodGridModel" "dams" "[I") (List.mem_of_getElem? (i := 2) rfl)) (fun _ h9 => h9) rfl dX2_run_73 ?_
          refine lv_iload_n hx hb dX2_run_76 rfl (lv_at hl 1 rfl) ?_
          refine ct_iald (v := dam k) hx hb hK hP 3 0 rfl rfl k rfl (by omega) (by decide) rfl dX2_run_77 ?_
          refine lv_isub hx hb dX2_run_78 ?_
          refine lv_iconst (v := 0) hx hb dX2_run_79 (by decide) ?_
          refine lv_aload_n hx hb dX2_run_80 rfl (lv_at hl 0 rfl) ?_
          refine lv_iload_n hx hb dX2_run_81 rfl (lv_at hl 1 rfl) ?_
          refine ct_Vi (As := [.int (nI k)]) (rest := [.int 0, .int ((wat k) - (dam k))]) (wr := []) (W1 := fun u => (mW h ad cI thr hei wat dam wea dra peo rai num flo lak row)) (cells1 := 0) (slots1 := 0) ⟨hx, hb, hml, hown, hts⟩ (c_X2_level l D cI h ad thr hei wat dam wea dra peo rai num flo lak row k hk) (cwV 1 hts gX2_run_X2_level rfl rfl rfl (by decide +kernel) ⟨Nat.le_of_ble_eq_true rfl, Nat.le_of_ble_eq_true rfl⟩) hK hP hD hS hA [0, 1, 2, 3, 4, 5, 6, 7, 8, 9, 10, 11] [] ⟨rfl, rfl, rfl, rfl, rfl⟩ [0, 1, 2, 3, 4, 5, 6, 7, 8, 9, 10, 11] rfl (fun _ => rfl) [0] rfl (va_recv hK hP (ci := 2) (q0 := 0) rfl rfl) rfl hl.1 rfl (Nat.le_of_ble_eq_true rfl) rfl rfl ⟨(Nat.le_of_ble_eq_true rfl), (Nat.le_of_ble_eq_true rfl)⟩ dX2_run_82 (fun r u H locs hw hP hD hS => ?_)
          subst hw
          refine lv_aload_n hx hb dX2_run_85 rfl (lv_at hl 0 rfl) ?_
          refine lv_iload_n hx hb dX2_run_86 rfl (lv_at hl 2 rfl) ?_
          refine ct_Vi (As := [.int (nI j)]) (rest := [.int (hei k + wat k), .int 0, .int ((wat k) - (dam k))]) (wr := []) (W1 := fun u => (mW h ad cI thr hei wat dam wea dra peo rai num flo lak row)) (cells1 := 0) (slots1 := 0) ⟨hx, hb, hml, hown, hts⟩ (c_X2_crest l D cI h ad thr hei wat dam wea dra peo rai num flo lak row j hj) (cwV 1 hts gX2_run_X2_crest rfl rfl rfl (by decide +kernel) ⟨Nat.le_of_ble_eq_true rfl, Nat.le_of_ble_eq_true rfl⟩) hK hP hD hS hA [0, 1, 2, 3, 4, 5, 6, 7, 8, 9, 10, 11] [] ⟨rfl, rfl, rfl, rfl, rfl⟩ [0, 1, 2, 3, 4, 5, 6, 7, 8, 9, 10, 11] rfl (fun _ => rfl) [0] rfl (va_recv hK hP (ci := 2) (q0 := 0) rfl rfl) rfl hl.1 rfl (Nat.le_of_ble_eq_true rfl) rfl rfl ⟨(Nat.le_of_ble_eq_true rfl), (Nat.le_of_ble_eq_true rfl)⟩ dX2_run_87 (fun r u H locs hw hP hD hS => ?_)
          subst hw
          refine lv_isub hx hb dX2_run_90 ?_
          refine ct_mmax (v := (i_max 0 ((hei k + wat k) - ((q_cre hei dam wat) j)))) hx hb (hml.trans hl.1.symm) hown (hts (Cond.methodLink RX2 59 Lib.Math.max.name) (List.mem_of_getElem? (i := 3) rfl)) (hts (Cond.static Lib.Math.max.name) (List.mem_of_getElem? (i := 4) rfl)) (hts (Cond.initialized "java/lang/Math") (List.mem_of_getElem? (i := 5) rfl)) (hts (Cond.code Lib.Math.max.name Lib.Math.max.code 2 (some .int)) (List.mem_of_getElem? (i := 6) rfl)) (Nat.le_of_ble_eq_true rfl) (Nat.le_of_ble_eq_true rfl) (Nat.le_of_ble_eq_true rfl) (Nat.le_of_ble_eq_true rfl) rfl dX2_run_91 ?_
          refine lv_iconst (v := 2) hx hb dX2_run_94 (by decide) ?_
          refine lv_idiv hx hb dX2_run_95 (by decide) ?_
          refine ct_mmin (v := (i_min ((wat k) - (dam k)) ((i_max 0 ((hei k + wat k) - ((q_cre hei dam wat) j))) / 2))) hx hb (hml.trans hl.1.symm) hown (hts (Cond.methodLink RX2 98 Lib.Math.min.name) (List.mem_of_getElem? (i := 7) rfl)) (hts (Cond.static Lib.Math.min.name) (List.mem_of_getElem? (i := 8) rfl)) (hts (Cond.initialized "java/lang/Math") (List.mem_of_getElem? (i := 5) rfl)) (hts (Cond.code Lib.Math.min.name Lib.Math.min.code 2 (some .int)) (List.mem_of_getElem? (i := 9) rfl)) (Nat.le_of_ble_eq_true rfl) (Nat.le_of_ble_eq_true rfl) (Nat.le_of_ble_eq_true rfl) (Nat.le_of_ble_eq_true rfl) rfl dX2_run_96 ?_
          by_cases hy : 0 < (hei k + wat k - (q_cre hei dam wat) j)
          · skip
            refine ct_top (y := (q_given hei wat dam (q_cre hei dam wat) k j)) (given1 hy) ?_
            have e9 : (if dam k < wat k then q_give hei wat dam (q_cre hei dam wat) k (q_low (q_cre hei dam wat) k 4) flo else flo) = q_move flo k j (q_given hei wat dam (q_cre hei dam wat) k j) := by rw [if_pos hlt0, hj4]; simp only [q_give]; rw [if_pos hy]
            rw [e9] at fin
            refine lv_istore_n (lv' := [(3, .int (q_given hei wat dam (q_cre hei dam wat) k j)), (0, .ref h), (1, .int (nI k)), (2, .int (nI j))]) hx hb dX2_run_99 rfl hl (by decide) rfl (fun ls hl => ?_)
            refine lv_aload_n hx hb dX2_run_100 rfl (lv_at hl 1 rfl) ?_
            refine va_get (D := D) (ci := 2) (v := .ref (ad 9)) (C := RX2) (T := TX2) (N := 12) hx hb hts (fun _ h9 => (List.mem_cons_of_mem _ (List.mem_append_right _ h9))) hown hK hP 0 rfl rfl 9 (by decide) (hts (Cond.fieldLink RX2 34 "FloodGridModel" "flow" "[I") (List.mem_of_getElem? (i := 10) rfl)) (fun _ h9 => h9) rfl dX2_run_101 ?_
            refine lv_iload_n hx hb dX2_run_104 rfl (lv_at hl 2 rfl) ?_
            refine lv_dup2_11 hx hb dX2_run_105 rfl rfl ?_
            refine ct_iald (v := flo k) hx hb hK hP 9 0 rfl rfl k rfl (by omega) (by decide) rfl dX2_run_106 ?_
            refine lv_iload_n hx hb dX2_run_107 rfl (lv_at hl 0 rfl) ?_
            refine lv_isub hx hb dX2_run_108 ?_
            refine ct_iast (g := upd flo k ((flo k) - (q_given hei wat dam (q_cre hei dam wat) k j))) (ws1 := (mW h ad cI thr hei wat dam wea dra peo rai num (upd flo k ((flo k) - (q_given hei wat dam (q_cre hei dam wat) k j))) lak row)) hx hb hK hP hD hS 9 0 rfl rfl k rfl (by omega) (by decide) rfl rfl dX2_run_109 (fun H locs hP hD hS => ?_)
            refine lv_aload_n hx hb dX2_run_110 rfl (lv_at hl 1 rfl) ?_
            refine va_get (D := D) (ci := 2) (v := .ref (ad 9)) (C := RX2) (T := TX2) (N := 12) hx hb hts (fun _ h9 => (List.mem_cons_of_mem _ (List.mem_append_right _ h9))) hown hK hP 0 rfl rfl 9 (by decide) (hts (Cond.fieldLink RX2 34 "FloodGridModel" "flow" "[I") (List.mem_of_getElem? (i := 10) rfl)) (fun _ h9 => h9) rfl dX2_run_111 ?_
            refine lv_iload_n hx hb dX2_run_114 rfl (lv_at hl 3 rfl) ?_
            refine lv_dup2_11 hx hb dX2_run_115 rfl rfl ?_
            refine ct_iald (v := (upd flo k ((flo k) - (q_given hei wat dam (q_cre hei dam wat) k j))) j) hx hb hK hP 9 0 rfl rfl j rfl (by omega) (by decide) rfl dX2_run_116 ?_
            refine lv_iload_n hx hb dX2_run_117 rfl (lv_at hl 0 rfl) ?_
            refine lv_iadd hx hb dX2_run_118 ?_
            refine ct_iast (g := upd (upd flo k ((flo k) - (q_given hei wat dam (q_cre hei dam wat) k j))) j (((upd flo k ((flo k) - (q_given hei wat dam (q_cre hei dam wat) k j))) j) + (q_given hei wat dam (q_cre hei dam wat) k j))) (ws1 := (mW h ad cI thr hei wat dam wea dra peo rai num (upd (upd flo k ((flo k) - (q_given hei wat dam (q_cre hei dam wat) k j))) j (((upd flo k ((flo k) - (q_given hei wat dam (q_cre hei dam wat) k j))) j) + (q_given hei wat dam (q_cre hei dam wat) k j))) lak row)) hx hb hK hP hD hS 9 0 rfl rfl j rfl (by omega) (by decide) rfl rfl dX2_run_119 (fun H locs hP hD hS => ?_)
            exact fin () H locs 0 0 120 ls dX2_run_120 trivial hP hD hS (Nat.le_of_ble_eq_true rfl) (Nat.le_of_ble_eq_true rfl)
          · skip
            refine ct_top (y := 0) (given0 hd0 hlt0 hy) ?_
            have e9 : (if dam k < wat k then q_give hei wat dam (q_cre hei dam wat) k (q_low (q_cre hei dam wat) k 4) flo else flo) = q_move flo k j 0 := by rw [if_pos hlt0, hj4]; simp only [q_give]; rw [if_neg hy, move0]
            rw [e9] at fin
            refine lv_istore_n (lv' := [(3, .int 0), (0, .ref h), (1, .int (nI k)), (2, .int (nI j))]) hx hb dX2_run_99 rfl hl (by decide) rfl (fun ls hl => ?_)
            refine lv_aload_n hx hb dX2_run_100 rfl (lv_at hl 1 rfl) ?_
            refine va_get (D := D) (ci := 2) (v := .ref (ad 9)) (C := RX2) (T := TX2) (N := 12) hx hb hts (fun _ h9 => (List.mem_cons_of_mem _ (List.mem_append_right _ h9))) hown hK hP 0 rfl rfl 9 (by decide) (hts (Cond.fieldLink RX2 34 "FloodGridModel" "flow" "[I") (List.mem_of_getElem? (i := 10) rfl)) (fun _ h9 => h9) rfl dX2_run_101 ?_
            refine lv_iload_n hx hb dX2_run_104 rfl (lv_at hl 2 rfl) ?_
            refine lv_dup2_11 hx hb dX2_run_105 rfl rfl ?_
            refine ct_iald (v := flo k) hx hb hK hP 9 0 rfl rfl k rfl (by omega) (by decide) rfl dX2_run_106 ?_
            refine lv_iload_n hx hb dX2_run_107 rfl (lv_at hl 0 rfl) ?_
            refine lv_isub hx hb dX2_run_108 ?_
            refine ct_iast (g := upd flo k ((flo k) - 0)) (ws1 := (mW h ad cI thr hei wat dam wea dra peo rai num (upd flo k ((flo k) - 0)) lak row)) hx hb hK hP hD hS 9 0 rfl rfl k rfl (by omega) (by decide) rfl rfl dX2_run_109 (fun H locs hP hD hS => ?_)
            refine lv_aload_n hx hb dX2_run_110 rfl (lv_at hl 1 rfl) ?_
            refine va_get (D := D) (ci := 2) (v := .ref (ad 9)) (C := RX2) (T := TX2) (N := 12) hx hb hts (fun _ h9 => (List.mem_cons_of_mem _ (List.mem_append_right _ h9))) hown hK hP 0 rfl rfl 9 (by decide) (hts (Cond.fieldLink RX2 34 "FloodGridModel" "flow" "[I") (List.mem_of_getElem? (i := 10) rfl)) (fun _ h9 => h9) rfl dX2_run_111 ?_
            refine lv_iload_n hx hb dX2_run_114 rfl (lv_at hl 3 rfl) ?_
            refine lv_dup2_11 hx hb dX2_run_115 rfl rfl ?_
            refine ct_iald (v := (upd flo k ((flo k) - 0)) j) hx hb hK hP 9 0 rfl rfl j rfl (by omega) (by decide) rfl dX2_run_116 ?_
            refine lv_iload_n hx hb dX2_run_117 rfl (lv_at hl 0 rfl) ?_
            refine lv_iadd hx hb dX2_run_118 ?_
            refine ct_iast (g := upd (upd flo k ((flo k) - 0)) j (((upd flo k ((flo k) - 0)) j) + 0)) (ws1 := (mW h ad cI thr hei wat dam wea dra peo rai num (upd (upd flo k ((flo k) - 0)) j (((upd flo k ((flo k) - 0)) j) + 0)) lak row)) hx hb hK hP hD hS 9 0 rfl rfl j rfl (by omega) (by decide) rfl rfl dX2_run_119 (fun H locs hP hD hS => ?_)
            exact fin () H locs 0 0 120 ls dX2_run_120 trivial hP hD hS (Nat.le_of_ble_eq_true rfl) (Nat.le_of_ble_eq_true rfl)
        · skip
          exact absurd (show (4 : Int32) ≤ nI 4 by decide) hc1
      | succ fu ih =>
        intro i hi low H locs ls hlow hP hD hS hl
        have hlt : i < 4 := by omega
        refine lv_iload_n hx hb dX2_run_20 rfl (lv_at hl 3 rfl) ?_
        refine lv_iconst (v := 4) hx hb dX2_run_21 (by decide) ?_
        refine lv_icmp_ge (tgt := 66) hx hb dX2_run_22 (by decide) (fun hc1 => ?_) (fun hc1 => ?_)
        · skip
          exact absurd hc1 (nI_ge (b := 4) hlt (by decide))
        · skip
          refine lv_iload_n hx hb dX2_run_25 rfl (lv_at hl 1 rfl) ?_
          refine lv_iload_n hx hb dX2_run_26 rfl (lv_at hl 3 rfl) ?_
          refine ct_Si (As := [.int (nI k), .int (nI i)]) (rest := []) (wr := [(h, .inr (2, [.int thr, .ref (ad 1), .ref (ad 2), .ref (ad 3), .ref (ad 4), .ref (ad 5), .ref (ad 6), .ref (ad 7), .ref (ad 8), .ref (ad 9), .ref (ad 10), .ref (ad 11)])), ((ad 1), .inl (cI, 64, .inl hei)), ((ad 2), .inl (cI, 64, .inl wat)), ((ad 3), .inl (cI, 64, .inl dam)), ((ad 4), .inl (cI, 64, .inl wea)), ((ad 5), .inl (cI, 64, .inl dra)), ((ad 6), .inl (cI, 64, .inl peo)), ((ad 7), .inl (cI, 12, .inl rai)), ((ad 8), .inl (cI, 4, .inl num)), ((ad 9), .inl (cI, 64, .inl flo)), ((ad 10), .inl (cI, 64, .inl lak)), ((ad 11), .inl (cI, 64, .inl row))]) (W1 := fun u => (mW h ad cI thr hei wat dam wea dra peo rai num flo lak row)) (cells1 := 0) (slots1 := 0) ⟨hx, hb, hml, hown, hts⟩ (c_beside l D cI k i hk hlt) (va_cwS 2 hts gX2_run_X2_beside rfl rfl rfl (by decide +kernel) ⟨Nat.le_of_ble_eq_true rfl, Nat.le_of_ble_eq_true rfl⟩) hK hP hD hS hA [] [0, 1, 2, 3, 4, 5, 6, 7, 8, 9, 10, 11] ⟨rfl, rfl, rfl, rfl, rfl⟩ [0, 1, 2, 3, 4, 5, 6, 7, 8, 9, 10, 11] rfl (fun _ => rfl) [0] rfl rfl hl.1 rfl (Nat.le_of_ble_eq_true rfl) rfl rfl ⟨(Nat.le_of_ble_eq_true rfl), (Nat.le_of_ble_eq_true rfl)⟩ dX2_run_27 (fun r u H locs hw hP hD hS => ?_)
          subst hw
          refine lv_istore (lv' := [(4, .int (q_v (q_nb k i))), (0, .ref h), (1, .int (nI k)), (2, .int (q_v low)), (3, .int (nI i))]) hx hb dX2_run_30 hl (by decide) rfl (fun ls hl => ?_)
          cases ho : q_nb k i with
          | none =>
            rw [ho] at hl
            have hl : lv_has ls 5 [(4, .int (-1)), (0, .ref h), (1, .int (nI k)), (2, .int (q_v low)), (3, .int (nI i))] := hl
            refine lv_iload hx hb dX2_run_32 (lv_at hl 0 rfl) ?_
            refine lv_iconst (v := (-1)) hx hb dX2_run_34 (by decide) ?_
            refine lv_icmp_eq (tgt := 60) hx hb dX2_run_35 (by decide) (fun hc2 => ?_) (fun hc2 => ?_)
            · skip
              refine lv_iinc (v := (nI (i + 1))) (lv' := [(3, .int (nI (i + 1))), (4, .int (-1)), (0, .ref h), (1, .int (nI k)), (2, .int (q_v low))]) hx hb dX2_run_60 hl (k := 4) rfl (nI_1 i) (by decide) rfl (fun ls hl => ?_)
              refine lv_goto (tgt := 20) hx hb dX2_run_63 (by decide) ?_
              exact ih (i + 1) (by omega) low H locs ls (by rw [hlow]; simp only [q_low, ho, q_lowStep]) hP hD hS (lv_sub hl [2, 3, 4, 0] rfl)
            · skip
              exact absurd rfl hc2
          | some j =>
            rw [ho] at hl
            have hj : j < 64 := q_nb_lt hk ho
            have hl : lv_has ls 5 [(4, .int (nI j)), (0, .ref h), (1, .int (nI k)), (2, .int (q_v low)), (3, .int (nI i))] := hl
            refine lv_iload hx hb dX2_run_32 (lv_at hl 0 rfl) ?_
            refine lv_iconst (v := (-1)) hx hb dX2_run_34 (by decide) ?_
            refine lv_icmp_eq (tgt := 60) hx hb dX2_run_35 (by decide) (fun hc2 => ?_) (fun hc2 => ?_)
            · skip
              exact absurd hc2 (ne_m1 hj)
            · skip
              cases hb2 : low with
              | none =>
                rw [hb2] at hl
                have hl : lv_has ls 5 [(4, .int (nI j)), (0, .ref h), (1, .int (nI k)), (2, .int (-1)), (3, .int (nI i))] := hl
                refine lv_iload_n hx hb dX2_run_38 rfl (lv_at hl 3 rfl) ?_
                refine lv_iconst (v := (-1)) hx hb dX2_run_39 (by decide) ?_
                refine lv_icmp_eq (tgt := 57) hx hb dX2_run_40 (by decide) (fun hc3 => ?_) (fun hc3 => ?_)
                · skip
                  refine lv_iload hx hb dX2_run_57 (lv_at hl 0 rfl) ?_
                  refine lv_istore_n (lv' := [(2, .int (nI j)), (4, .int (nI j)), (0, .ref h), (1, .int (nI k)), (3, .int (nI i))]) hx hb dX2_run_59 rfl hl (by decide) rfl (fun ls hl => ?_)
                  refine lv_iinc (v := (nI (i + 1))) (lv' := [(3, .int (nI (i + 1))), (2, .int (nI j)), (4, .int (nI j)), (0, .ref h), (1, .int (nI k))]) hx hb dX2_run_60 hl (k := 4) rfl (nI_1 i) (by decide) rfl (fun ls hl => ?_)
                  refine lv_goto (tgt := 20) hx hb dX2_run_63 (by decide) ?_
                  exact ih (i + 1) (by omega) (some j) H locs ls (by rw [hb2] at hlow; simp only [q_low, ho, ← hlow, q_lowStep]) hP hD hS (lv_sub hl [3, 4, 1, 0] rfl)
                · skip
                  exact absurd rfl hc3
              | some b =>
                rw [hb2] at hl hlow
                have hb64 : b < 64 := q_low_lt hk hlow.symm
                have hl : lv_has ls 5 [(4, .int (nI j)), (0, .ref h), (1, .int (nI k)), (2, .int (nI b)), (3, .int (nI i))] := hl
                refine lv_iload_n hx hb dX2_run_38 rfl (lv_at hl 3 rfl) ?_
                refine lv_iconst (v := (-1)) hx hb dX2_run_39 (by decide) ?_
                refine lv_icmp_eq (tgt := 57) hx hb dX2_run_40 (by decide) (fun hc3 => ?_) (fun hc3 => ?_)
                · skip
                  exact absurd hc3 (ne_m1 hb64)
                · skip
                  refine lv_aload_n hx hb dX2_run_43 rfl (lv_at hl 1 rfl) ?_
                  refine lv_iload hx hb dX2_run_44 (lv_at hl 0 rfl) ?_
                  refine ct_Vi (As := [.int (nI j)]) (rest := []) (wr := []) (W1 := fun u => (mW h ad cI thr hei wat dam wea dra peo rai num flo lak row)) (cells1 := 0) (slots1 := 0) ⟨hx, hb, hml, hown, hts⟩ (c_X2_crest l D cI h ad thr hei wat dam wea dra peo rai num flo lak row j hj) (cwV 1 hts gX2_run_X2_crest rfl rfl rfl (by decide +kernel) ⟨Nat.le_of_ble_eq_true rfl, Nat.le_of_ble_eq_true rfl⟩) hK hP hD hS hA [0, 1, 2, 3, 4, 5, 6, 7, 8, 9, 10, 11] [] ⟨rfl, rfl, rfl, rfl, rfl⟩ [0, 1, 2, 3, 4, 5, 6, 7, 8, 9, 10, 11] rfl (fun _ => rfl) [0] rfl (va_recv hK hP (ci := 2) (q0 := 0) rfl rfl) rfl hl.1 rfl (Nat.le_of_ble_eq_true rfl) rfl rfl ⟨(Nat.le_of_ble_eq_true rfl), (Nat.le_of_ble_eq_true rfl)⟩ dX2_run_46 (fun r u H locs hw hP hD hS => ?_)
                  subst hw
                  refine lv_aload_n hx hb dX2_run_49 rfl (lv_at hl 1 rfl) ?_
                  refine lv_iload_n hx hb dX2_run_50 rfl (lv_at hl 3 rfl) ?_
                  refine ct_Vi (As := [.int (nI b)]) (rest := [.int ((q_cre hei dam wat) j)]) (wr := []) (W1 := fun u => (mW h ad cI thr hei wat dam wea dra peo rai num flo lak row)) (cells1 := 0) (slots1 := 0) ⟨hx, hb, hml, hown, hts⟩ (c_X2_crest l D cI h ad thr hei wat dam wea dra peo rai num flo lak row b hb64) (cwV 1 hts gX2_run_X2_crest rfl rfl rfl (by decide +kernel) ⟨Nat.le_of_ble_eq_true rfl, Nat.le_of_ble_eq_true rfl⟩) hK hP hD hS hA [0, 1, 2, 3, 4, 5, 6, 7, 8, 9, 10, 11] [] ⟨rfl, rfl, rfl, rfl, rfl⟩ [0, 1, 2, 3, 4, 5, 6, 7, 8, 9, 10, 11] rfl (fun _ => rfl) [0] rfl (va_recv hK hP (ci := 2) (q0 := 0) rfl rfl) rfl hl.1 rfl (Nat.le_of_ble_eq_true rfl) rfl rfl ⟨(Nat.le_of_ble_eq_true rfl), (Nat.le_of_ble_eq_true rfl)⟩ dX2_run_51 (fun r u H locs hw hP hD hS => ?_)
                  subst hw
                  refine lv_icmp_ge (tgt := 60) hx hb dX2_run_54 (by decide) (fun hc4 => ?_) (fun hc4 => ?_)
                  · skip
                    refine lv_iinc (v := (nI (i + 1))) (lv' := [(3, .int (nI (i + 1))), (4, .int (nI j)), (0, .ref h), (1, .int (nI k)), (2, .int (nI b))]) hx hb dX2_run_60 hl (k := 4) rfl (nI_1 i) (by decide) rfl (fun ls hl => ?_)
                    refine lv_goto (tgt := 20) hx hb dX2_run_63 (by decide) ?_
                    exact ih (i + 1) (by omega) (some b) H locs ls (by simp only [q_low, ho, ← hlow, q_lowStep]; rw [if_neg (Int32.not_lt.mpr hc4)]) hP hD hS (lv_sub hl [2, 3, 4, 0] rfl)
                  · skip
                    refine lv_iload hx hb dX2_run_57 (lv_at hl 0 rfl) ?_
                    refine lv_istore_n (lv' := [(2, .int (nI j)), (4, .int (nI j)), (0, .ref h), (1, .int (nI k)), (3, .int (nI i))]) hx hb dX2_run_59 rfl hl (by decide) rfl (fun ls hl => ?_)
                    refine lv_iinc (v := (nI (i + 1))) (lv' := [(3, .int (nI (i + 1))), (2, .int (nI j)), (4, .int (nI j)), (0, .ref h), (1, .int (nI k))]) hx hb dX2_run_60 hl (k := 4) rfl (nI_1 i) (by decide) rfl (fun ls hl => ?_)
                    refine lv_goto (tgt := 20) hx hb dX2_run_63 (by decide) ?_
                    exact ih (i + 1) (by omega) (some j) H locs ls (by simp only [q_low, ho, ← hlow, q_lowStep]; rw [if_pos (Int32.not_le.mp hc4)]) hP hD hS (lv_sub hl [3, 4, 1, 0] rfl)
    exact loop 4 0 (by omega) none H locs ls rfl hP hD hS (lv_sub hl [2, 3, 1, 0] rfl)
  · skip
    have e9 : (if dam k < wat k then q_give hei wat dam (q_cre hei dam wat) k (q_low (q_cre hei dam wat) k 4) flo else flo) = flo := if_neg hc
    rw [e9] at fin
    exact fin () H locs 0 0 15 ls dX2_run_15 trivial hP hD hS (Nat.le_of_ble_eq_true rfl) (Nat.le_of_ble_eq_true rfl)
abbrev rm_X2_hourOn : Room := { frames := 3, cells := 0, slots := 0, locals := 66 }
set_option maxHeartbeats 4000000 in
set_option maxRecDepth 100000 in
theorem c_X2_hour (l : Launch) (D : va_G) (cI : ClassId) (h : Nat) (ad : Nat → Nat) (thr : Int32) (hei dra rai : Nat → Int32) (σ : Ms) (flo lak row : Nat → Int32) (ht : m_t σ < 2 ^ 30) (hinv : inv1 σ) : ct_v (S := Nat → Int32) l D yX2_hourOn wsX2_hourOn rm_X2_hourOn [.ref h] (mM h ad cI thr hei dra rai σ flo lak row) [(cI, .int)] (fun _ => True) (fun u => (mM h ad cI thr hei dra rai (q_hour hei dra rai σ) u lak row)) := by
  refine ct_ofv (cc := cX2_hourOn) (maxL := 4) (by decide) rfl (Nat.le_of_ble_eq_true rfl) ?_
  intro p e s m args below meth c A Q hx hb hml hown hts hin hA hK H locs hP hD hS fin ls hl
  have hown : s.vm.findClass RX2 = some m.cls := hown
  have hl : lv_has ls 4 [(0, .ref h)] := hl
  refine lv_iconst (v := 0) hx hb dX2_hourOn_0 (by decide) ?_
  refine lv_istore_n (lv' := [(1, .int 0), (0, .ref h)]) hx hb dX2_hourOn_1 rfl hl (by decide) rfl (fun ls hl => ?_)
  have loop : ∀ (fu i : Nat), i + fu = 64 → ∀ (g : Nat → Int32) (f1 : Nat → Int32) (H : Heap) (locs : List Loc) (ls : Array Slot), (g = q_mix i (q_w1 rai (m_t σ) (m_wat σ)) (m_wat σ)) → (f1 = q_mix i (fun _ => 0) flo) → va_P D vwCl (mW h ad cI thr hei g (m_dam σ) (m_wea σ) dra (m_peo σ) rai (q_num (nI (m_t σ)) (m_bro σ) (m_drd σ) (m_lef σ)) f1 lak row) H → va_D A (mW h ad cI thr hei g (m_dam σ) (m_wea σ) dra (m_peo σ) rai (q_num (nI (m_t σ)) (m_bro σ) (m_drd σ) (m_lef σ)) f1 lak row) → va_S A s.heap H locs → lv_has ls 4 [(0, .ref h), (1, .int (nI i))] → W p l e rm_X2_hourOn s m args below meth c H locs 0 0 Q (F0 m 2 ls []) := by
    intro fu
    induction fu with
    | zero =>
      intro i hi g f1 H locs ls hg hf1 hP hD hS hl
      obtain rfl : 64 = i := by omega
      refine lv_iload_n hx hb dX2_hourOn_2 rfl (lv_at hl 1 rfl) ?_
      refine lv_bipush (v := 64) hx hb dX2_hourOn_3 (by decide) ?_
      refine lv_icmp_ge (tgt := 44) hx hb dX2_hourOn_5 (by decide) (fun hc => ?_) (fun hc => ?_)
      · skip
        obtain ⟨hP, hD⟩ := ct_ext hP hD 2 rfl (q_w1 rai (m_t σ) (m_wat σ)) (fun j hj => by rw [hg]; exact q_mix_lt hj) (ws1 := (mW h ad cI thr hei (q_w1 rai (m_t σ) (m_wat σ)) (m_dam σ) (m_wea σ) dra (m_peo σ) rai (q_num (nI (m_t σ)) (m_bro σ) (m_drd σ) (m_lef σ)) f1 lak row)) rfl
        obtain ⟨hP, hD⟩ := ct_ext hP hD 9 rfl (fun _ => 0) (fun j hj => by rw [hf1]; exact q_mix_lt hj) (ws1 := (mW h ad cI thr hei (q_w1 rai (m_t σ) (m_wat σ)) (m_dam σ) (m_wea σ) dra (m_peo σ) rai (q_num (nI (m_t σ)) (m_bro σ) (m_drd σ) (m_lef σ)) (fun _ => 0) lak row)) rfl
        refine lv_iconst (v := 0) hx hb dX2_hourOn_44 (by decide) ?_
        refine lv_istore_n (lv' := [(1, .int 0), (0, .ref h)]) hx hb dX2_hourOn_45 rfl hl (by decide) rfl (fun ls hl => ?_)
        have loop2 : ∀ (fu i : Nat), i + fu = 64 → ∀ (f2 : Nat → Int32) (H : Heap) (locs : List Loc) (ls : Array Slot), (f2 = q_gain hei (q_w1 rai (m_t σ) (m_wat σ)) (m_dam σ) (q_cre hei (m_dam σ) (q_w1 rai (m_t σ) (m_wat σ))) i) → va_P D vwCl (mW h ad cI thr hei (q_w1 rai (m_t σ) (m_wat σ)) (m_dam σ) (m_wea σ) dra (m_peo σ) rai (q_num (nI (m_t σ)) (m_bro σ) (m_drd σ) (m_lef σ)) f2 lak row) H → va_D A (mW h ad cI thr hei (q_w1 rai (m_t σ) (m_wat σ)) (m_dam σ) (m_wea σ) dra (m_peo σ) rai (q_num (nI (m_t σ)) (m_bro σ) (m_drd σ) (m_lef σ)) f2 lak row) → va_S A s.heap H locs → lv_has ls 4 [(0, .ref h), (1, .int (nI i))] → W p l e rm_X2_hourOn s m args below meth c H locs 0 0 Q (F0 m 46 ls []) := by
          intro fu
          induction fu with
          | zero =>
            intro i hi f2 H locs ls hf2 hP hD hS hl
            obtain rfl : 64 = i := by omega
            refine lv_iload_n hx hb dX2_hourOn_46 rfl (lv_at hl 1 rfl) ?_
            refine lv_bipush (v := 64) hx hb dX2_hourOn_47 (by decide) ?_
            refine lv_icmp_ge (tgt := 63) hx hb dX2_hourOn_49 (by decide) (fun hc => ?_) (fun hc => ?_)
            · skip
              subst hf2
              refine lv_iconst (v := 0) hx hb dX2_hourOn_63 (by decide) ?_
              refine lv_istore_n (lv' := [(1, .int 0), (0, .ref h)]) hx hb dX2_hourOn_64 rfl hl (by decide) rfl (fun ls hl => ?_)
              have loop3 : ∀ (fu i : Nat), i + fu = 64 → ∀ (w : Nat → Int32) (d : Nat → Int32) (v : Nat → Int32) (p9 : Nat → Int32) (b1 : Int32) (b2 : Int32) (b3 : Int32) (H : Heap) (locs : List Loc) (ls : Array Slot), (w = q_mix i (q_w3 dra (q_w2 hei (m_dam σ) (q_w1 rai (m_t σ) (m_wat σ)))) (q_w1 rai (m_t σ) (m_wat σ))) → (d = q_mix i (q_dam (m_dam σ) (q_w2 hei (m_dam σ) (q_w1 rai (m_t σ) (m_wat σ))) (m_wea σ)) (m_dam σ)) → (v = q_mix i (q_wea (m_dam σ) (q_w2 hei (m_dam σ) (q_w1 rai (m_t σ) (m_wat σ))) (m_wea σ)) (m_wea σ)) → (p9 = q_mix i (q_peo (q_w3 dra (q_w2 hei (m_dam σ) (q_w1 rai (m_t σ) (m_wat σ)))) (m_peo σ)) (m_peo σ)) → (b1 = m_bro σ + q_sum (q_brk (m_dam σ) (q_w2 hei (m_dam σ) (q_w1 rai (m_t σ) (m_wat σ))) (m_wea σ)) i) → (b2 = m_drd σ + q_sum (q_tak dra (q_w2 hei (m_dam σ) (q_w1 rai (m_t σ) (m_wat σ)))) i) → (b3 = m_lef σ + q_sum (q_lv (q_w3 dra (q_w2 hei (m_dam σ) (q_w1 rai (m_t σ) (m_wat σ)))) (m_peo σ)) i) → va_P D vwCl (mW h ad cI thr hei w d v dra p9 rai (q_num (nI (m_t σ)) b1 b2 b3) (q_gain hei (q_w1 rai (m_t σ) (m_wat σ)) (m_dam σ) (q_cre hei (m_dam σ) (q_w1 rai (m_t σ) (m_wat σ))) 64) lak row) H → va_D A (mW h ad cI thr hei w d v dra p9 rai (q_num (nI (m_t σ)) b1 b2 b3) (q_gain hei (q_w1 rai (m_t σ) (m_wat σ)) (m_dam σ) (q_cre hei (m_dam σ) (q_w1 rai (m_t σ) (m_wat σ))) 64) lak row) → va_S A s.heap H locs → lv_has ls 4 [(0, .ref h), (1, .int (nI i))] → W p l e rm_X2_hourOn s m args below meth c H locs 0 0 Q (F0 m 65 ls []) := by
                intro fu
                induction fu with
                | zero =>
                  intro i hi w d v p9 b1 b2 b3 H locs ls hw0 hd hv hp hb1 hb2 hb3 hP hD hS hl
                  obtain rfl : 64 = i := by omega
                  refine lv_iload_n hx hb dX2_hourOn_65 rfl (lv_at hl 1 rfl) ?_
                  refine lv_bipush (v := 64) hx hb dX2_hourOn_66 (by decide) ?_
                  refine lv_icmp_ge (tgt := 250) hx hb dX2_hourOn_68 (by decide) (fun hc => ?_) (fun hc => ?_)
                  · skip
                    subst hb1 hb2 hb3
                    obtain ⟨hP, hD⟩ := ct_ext hP hD 2 rfl (q_w3 dra (q_w2 hei (m_dam σ) (q_w1 rai (m_t σ) (m_wat σ)))) (fun j hj => by rw [hw0]; exact q_mix_lt hj) (ws1 := (mW h ad cI thr hei (q_w3 dra (q_w2 hei (m_dam σ) (q_w1 rai (m_t σ) (m_wat σ)))) d v dra p9 rai (q_num (nI (m_t σ)) (m_bro σ + q_sum (q_brk (m_dam σ) (q_w2 hei (m_dam σ) (q_w1 rai (m_t σ) (m_wat σ))) (m_wea σ)) 64) (m_drd σ + q_sum (q_tak dra (q_w2 hei (m_dam σ) (q_w1 rai (m_t σ) (m_wat σ)))) 64) (m_lef σ + q_sum (q_lv (q_w3 dra (q_w2 hei (m_dam σ) (q_w1 rai (m_t σ) (m_wat σ)))) (m_peo σ)) 64)) (q_gain hei (q_w1 rai (m_t σ) (m_wat σ)) (m_dam σ) (q_cre hei (m_dam σ) (q_w1 rai (m_t σ) (m_wat σ))) 64) lak row)) rfl
                    obtain ⟨hP, hD⟩ := ct_ext hP hD 3 rfl (q_dam (m_dam σ) (q_w2 hei (m_dam σ) (q_w1 rai (m_t σ) (m_wat σ))) (m_wea σ)) (fun j hj => by rw [hd]; exact q_mix_lt hj) (ws1 := (mW h ad cI thr hei (q_w3 dra (q_w2 hei (m_dam σ) (q_w1 rai (m_t σ) (m_wat σ)))) (q_dam (m_dam σ) (q_w2 hei (m_dam σ) (q_w1 rai (m_t σ) (m_wat σ))) (m_wea σ)) v dra p9 rai (q_num (nI (m_t σ)) (m_bro σ + q_sum (q_brk (m_dam σ) (q_w2 hei (m_dam σ) (q_w1 rai (m_t σ) (m_wat σ))) (m_wea σ)) 64) (m_drd σ + q_sum (q_tak dra (q_w2 hei (m_dam σ) (q_w1 rai (m_t σ) (m_wat σ)))) 64) (m_lef σ + q_sum (q_lv (q_w3 dra (q_w2 hei (m_dam σ) (q_w1 rai (m_t σ) (m_wat σ)))) (m_peo σ)) 64)) (q_gain hei (q_w1 rai (m_t σ) (m_wat σ)) (m_dam σ) (q_cre hei (m_dam σ) (q_w1 rai (m_t σ) (m_wat σ))) 64) lak row)) rfl
                    obtain ⟨hP, hD⟩ := ct_ext hP hD 4 rfl (q_wea (m_dam σ) (q_w2 hei (m_dam σ) (q_w1 rai (m_t σ) (m_wat σ))) (m_wea σ)) (fun j hj => by rw [hv]; exact q_mix_lt hj) (ws1 := (mW h ad cI thr hei (q_w3 dra (q_w2 hei (m_dam σ) (q_w1 rai (m_t σ) (m_wat σ)))) (q_dam (m_dam σ) (q_w2 hei (m_dam σ) (q_w1 rai (m_t σ) (m_wat σ))) (m_wea σ)) (q_wea (m_dam σ) (q_w2 hei (m_dam σ) (q_w1 rai (m_t σ) (m_wat σ))) (m_wea σ)) dra p9 rai (q_num (nI (m_t σ)) (m_bro σ + q_sum (q_brk (m_dam σ) (q_w2 hei (m_dam σ) (q_w1 rai (m_t σ) (m_wat σ))) (m_wea σ)) 64) (m_drd σ + q_sum (q_tak dra (q_w2 hei (m_dam σ) (q_w1 rai (m_t σ) (m_wat σ)))) 64) (m_lef σ + q_sum (q_lv (q_w3 dra (q_w2 hei (m_dam σ) (q_w1 rai (m_t σ) (m_wat σ)))) (m_peo σ)) 64)) (q_gain hei (q_w1 rai (m_t σ) (m_wat σ)) (m_dam σ) (q_cre hei (m_dam σ) (q_w1 rai (m_t σ) (m_wat σ))) 64) lak row)) rfl
                    obtain ⟨hP, hD⟩ := ct_ext hP hD 6 rfl (q_peo (q_w3 dra (q_w2 hei (m_dam σ) (q_w1 rai (m_t σ) (m_wat σ)))) (m_peo σ)) (fun j hj => by rw [hp]; exact q_mix_lt hj) (ws1 := (mW h ad cI thr hei (q_w3 dra (q_w2 hei (m_dam σ) (q_w1 rai (m_t σ) (m_wat σ)))) (q_dam (m_dam σ) (q_w2 hei (m_dam σ) (q_w1 rai (m_t σ) (m_wat σ))) (m_wea σ)) (q_wea (m_dam σ) (q_w2 hei (m_dam σ) (q_w1 rai (m_t σ) (m_wat σ))) (m_wea σ)) dra (q_peo (q_w3 dra (q_w2 hei (m_dam σ) (q_w1 rai (m_t σ) (m_wat σ)))) (m_peo σ)) rai (q_num (nI (m_t σ)) (m_bro σ + q_sum (q_brk (m_dam σ) (q_w2 hei (m_dam σ) (q_w1 rai (m_t σ) (m_wat σ))) (m_wea σ)) 64) (m_drd σ + q_sum (q_tak dra (q_w2 hei (m_dam σ) (q_w1 rai (m_t σ) (m_wat σ)))) 64) (m_lef σ + q_sum (q_lv (q_w3 dra (q_w2 hei (m_dam σ) (q_w1 rai (m_t σ) (m_wat σ)))) (m_peo σ)) 64)) (q_gain hei (q_w1 rai (m_t σ) (m_wat σ)) (m_dam σ) (q_cre hei (m_dam σ) (q_w1 rai (m_t σ) (m_wat σ))) 64) lak row)) rfl
                    refine lv_aload_n hx hb dX2_hourOn_250 rfl (lv_at hl 0 rfl) ?_
                    refine va_get (D := D) (ci := 2) (v := .ref (ad 8)) (C := RX2) (T := TX2) (N := 12) hx hb hts (fun _ h9 => (List.mem_cons_of_mem _ (List.mem_append_right _ h9))) hown hK hP 0 rfl rfl 8 (by decide) (hts (Cond.fieldLink RX2 31 "FloodGridModel" "numbers" "[I") (List.mem_of_getElem? (i := 3) rfl)) (fun _ h9 => h9) rfl dX2_hourOn_251 ?_
                    refine lv_iconst (v := 0) hx hb dX2_hourOn_254 (by decide) ?_
                    refine lv_dup2_11 hx hb dX2_hourOn_255 rfl rfl ?_
                    refine ct_iald (v := (nI (m_t σ))) hx hb hK hP 8 0 rfl rfl 0 rfl (by decide) (by decide) rfl dX2_hourOn_256 ?_
                    refine lv_iconst (v := 1) hx hb dX2_hourOn_257 (by decide) ?_
                    refine lv_iadd hx hb dX2_hourOn_258 ?_
                    refine ct_top (y := (nI (m_t σ + 1))) (nI_1 (m_t σ)) ?_
                    refine ct_iast (g := (q_num (nI (m_t σ + 1)) (m_bro σ + q_sum (q_brk (m_dam σ) (q_w2 hei (m_dam σ) (q_w1 rai (m_t σ) (m_wat σ))) (m_wea σ)) 64) (m_drd σ + q_sum (q_tak dra (q_w2 hei (m_dam σ) (q_w1 rai (m_t σ) (m_wat σ)))) 64) (m_lef σ + q_sum (q_lv (q_w3 dra (q_w2 hei (m_dam σ) (q_w1 rai (m_t σ) (m_wat σ)))) (m_peo σ)) 64))) (ws1 := (mW h ad cI thr hei (q_w3 dra (q_w2 hei (m_dam σ) (q_w1 rai (m_t σ) (m_wat σ)))) (q_dam (m_dam σ) (q_w2 hei (m_dam σ) (q_w1 rai (m_t σ) (m_wat σ))) (m_wea σ)) (q_wea (m_dam σ) (q_w2 hei (m_dam σ) (q_w1 rai (m_t σ) (m_wat σ))) (m_wea σ)) dra (q_peo (q_w3 dra (q_w2 hei (m_dam σ) (q_w1 rai (m_t σ) (m_wat σ)))) (m_peo σ)) rai (q_num (nI (m_t σ + 1)) (m_bro σ + q_sum (q_brk (m_dam σ) (q_w2 hei (m_dam σ) (q_w1 rai (m_t σ) (m_wat σ))) (m_wea σ)) 64) (m_drd σ + q_sum (q_tak dra (q_w2 hei (m_dam σ) (q_w1 rai (m_t σ) (m_wat σ)))) 64) (m_lef σ + q_sum (q_lv (q_w3 dra (q_w2 hei (m_dam σ) (q_w1 rai (m_t σ) (m_wat σ)))) (m_peo σ)) 64)) (q_gain hei (q_w1 rai (m_t σ) (m_wat σ)) (m_dam σ) (q_cre hei (m_dam σ) (q_w1 rai (m_t σ) (m_wat σ))) 64) lak row)) hx hb hK hP hD hS 8 0 rfl rfl 0 rfl (by decide) (by decide) (q_num_0 _ _ _ _ _) rfl dX2_hourOn_259 (fun H locs hP hD hS => ?_)
                    exact fin (q_gain hei (q_w1 rai (m_t σ) (m_wat σ)) (m_dam σ) (q_cre hei (m_dam σ) (q_w1 rai (m_t σ) (m_wat σ))) 64) H locs 0 0 260 ls dX2_hourOn_260 trivial hP hD hS (Nat.le_of_ble_eq_true rfl) (Nat.le_of_ble_eq_true rfl)
                  · skip
                    exact absurd (show (64 : Int32) ≤ nI 64 by decide) hc
                | succ fu ih =>
                  intro i hi w d v p9 b1 b2 b3 H locs ls hw0 hd hv hp hb1 hb2 hb3 hP hD hS hl
                  have hlt : i < 64 := by omega
                  refine lv_iload_n hx hb dX2_hourOn_65 rfl (lv_at hl 1 rfl) ?_
                  refine lv_bipush (v := 64) hx hb dX2_hourOn_66 (by decide) ?_
                  refine lv_icmp_ge (tgt := 250) hx hb dX2_hourOn_68 (by decide) (fun hc => ?_) (fun hc => ?_)
                  · skip
                    exact absurd hc (nI_ge (b := 64) hlt (by decide))
                  · skip
                    refine lv_aload_n hx hb dX2_hourOn_71 rfl (lv_at hl 0 rfl) ?_
                    refine va_get (D := D) (ci := 2) (v := .ref (ad 2)) (C := RX2) (T := TX2) (N := 12) hx hb hts (fun _ h9 => (List.mem_cons_of_mem _ (List.mem_append_right _ h9))) hown hK hP 0 rfl rfl 2 (by decide) (hts (Cond.fieldLink RX2 13 "FloodGridModel" "water" "[I") (List.mem_of_getElem? (i := 1) rfl)) (fun _ h9 => h9) rfl dX2_hourOn_72 ?_
                    refine lv_iload_n hx hb dX2_hourOn_75 rfl (lv_at hl 1 rfl) ?_
                    refine lv_dup2_11 hx hb dX2_hourOn_76 rfl rfl ?_
                    refine ct_iald (v := ((q_w1 rai (m_t σ) (m_wat σ)) i)) hx hb hK hP 2 0 rfl rfl i rfl (by omega) (by decide) (by rw [hw0, q_mix_at]) dX2_hourOn_77 ?_
                    refine lv_aload_n hx hb dX2_hourOn_78 rfl (lv_at hl 0 rfl) ?_
                    refine va_get (D := D) (ci := 2) (v := .ref (ad 9)) (C := RX2) (T := TX2) (N := 12) hx hb hts (fun _ h9 => (List.mem_cons_of_mem _ (List.mem_append_right _ h9))) hown hK hP 0 rfl rfl 9 (by decide) (hts (Cond.fieldLink RX2 34 "FloodGridModel" "flow" "[I") (List.mem_of_getElem? (i := 4) rfl)) (fun _ h9 => h9) rfl dX2_hourOn_79 ?_
                    refine lv_iload_n hx hb dX2_hourOn_82 rfl (lv_at hl 1 rfl) ?_
                    refine ct_iald (v := (q_gain hei (q_w1 rai (m_t σ) (m_wat σ)) (m_dam σ) (q_cre hei (m_dam σ) (q_w1 rai (m_t σ) (m_wat σ))) 64) i) hx hb hK hP 9 0 rfl rfl i rfl (by omega) (by decide) rfl dX2_hourOn_83 ?_
                    refine lv_iadd hx hb dX2_hourOn_84 ?_
                    refine ct_top (y := ((q_w2 hei (m_dam σ) (q_w1 rai (m_t σ) (m_wat σ))) i)) rfl ?_
                    refine ct_iast (g := upd w i ((q_w2 hei (m_dam σ) (q_w1 rai (m_t σ) (m_wat σ))) i)) (ws1 := (mW h ad cI thr hei (upd w i ((q_w2 hei (m_dam σ) (q_w1 rai (m_t σ) (m_wat σ))) i)) d v dra p9 rai (q_num (nI (m_t σ)) b1 b2 b3) (q_gain hei (q_w1 rai (m_t σ) (m_wat σ)) (m_dam σ) (q_cre hei (m_dam σ) (q_w1 rai (m_t σ) (m_wat σ))) 64) lak row)) hx hb hK hP hD hS 2 0 rfl rfl i rfl (by omega) (by decide) rfl rfl dX2_hourOn_85 (fun H locs hP hD hS => ?_)
                    refine lv_aload_n hx hb dX2_hourOn_86 rfl (lv_at hl 0 rfl) ?_
                    refine va_get (D := D) (ci := 2) (v := .ref (ad 3)) (C := RX2) (T := TX2) (N := 12) hx hb hts (fun _ h9 => (List.mem_cons_of_mem _ (List.mem_append_right _ h9))) hown hK hP 0 rfl rfl 3 (by decide) (hts (Cond.fieldLink RX2 16 "FloodGridModel" "dams" "[I") (List.mem_of_getElem? (i := 5) rfl)) (fun _ h9 => h9) rfl dX2_hourOn_87 ?_
                    refine lv_iload_n hx hb dX2_hourOn_90 rfl (lv_at hl 1 rfl) ?_
                    refine ct_iald (v := (m_dam σ i)) hx hb hK hP 3 0 rfl rfl i rfl (by omega) (by decide) (by rw [hd, q_mix_at]) dX2_hourOn_91 ?_
                    refine lv_if_le (tgt := 155) hx hb dX2_hourOn_92 (by decide) (fun hc2 => ?_) (fun hc2 => ?_)
                    · skip
                      have hn3 : ¬ (0 < m_dam σ i ∧ m_dam σ i ≤ (q_w2 hei (m_dam σ) (q_w1 rai (m_t σ) (m_wat σ))) i) := fun z => absurd z.1 (Int32.not_lt.mpr hc2)
                      refine lv_aload_n hx hb dX2_hourOn_155 rfl (lv_at hl 0 rfl) ?_
                      refine va_get (D := D) (ci := 2) (v := .ref (ad 5)) (C := RX2) (T := TX2) (N := 12) hx hb hts (fun _ h9 => (List.mem_cons_of_mem _ (List.mem_append_right _ h9))) hown hK hP 0 rfl rfl 5 (by decide) (hts (Cond.fieldLink RX2 22 "FloodGridModel" "drains" "[I") (List.mem_of_getElem? (i := 7) rfl)) (fun _ h9 => h9) rfl dX2_hourOn_156 ?_
                      refine lv_iload_n hx hb dX2_hourOn_159 rfl (lv_at hl 1 rfl) ?_
                      refine ct_iald (v := dra i) hx hb hK hP 5 0 rfl rfl i rfl (by omega) (by decide) rfl dX2_hourOn_160 ?_
                      refine lv_aload_n hx hb dX2_hourOn_161 rfl (lv_at hl 0 rfl) ?_
                      refine va_get (D := D) (ci := 2) (v := .ref (ad 2)) (C := RX2) (T := TX2) (N := 12) hx hb hts (fun _ h9 => (List.mem_cons_of_mem _ (List.mem_append_right _ h9))) hown hK hP 0 rfl rfl 2 (by decide) (hts (Cond.fieldLink RX2 13 "FloodGridModel" "water" "[I") (List.mem_of_getElem? (i := 1) rfl)) (fun _ h9 => h9) rfl dX2_hourOn_162 ?_
                      refine lv_iload_n hx hb dX2_hourOn_165 rfl (lv_at hl 1 rfl) ?_
                      refine ct_iald (v := ((q_w2 hei (m_dam σ) (q_w1 rai (m_t σ) (m_wat σ))) i)) hx hb hK hP 2 0 rfl rfl i rfl (by omega) (by decide) pk_us dX2_hourOn_166 ?_
                      refine ct_mmin (v := (q_tak dra (q_w2 hei (m_dam σ) (q_w1 rai (m_t σ) (m_wat σ))) i)) hx hb (hml.trans hl.1.symm) hown (hts (Cond.methodLink RX2 98 Lib.Math.min.name) (List.mem_of_getElem? (i := 8) rfl)) (hts (Cond.static Lib.Math.min.name) (List.mem_of_getElem? (i := 9) rfl)) (hts (Cond.initialized "java/lang/Math") (List.mem_of_getElem? (i := 10) rfl)) (hts (Cond.code Lib.Math.min.name Lib.Math.min.code 2 (some .int)) (List.mem_of_getElem? (i := 11) rfl)) (Nat.le_of_ble_eq_true rfl) (Nat.le_of_ble_eq_true rfl) (Nat.le_of_ble_eq_true rfl) (Nat.le_of_ble_eq_true rfl) rfl dX2_hourOn_167 ?_
                      refine lv_istore_n (lv' := [(2, .int (q_tak dra (q_w2 hei (m_dam σ) (q_w1 rai (m_t σ) (m_wat σ))) i)), (0, .ref h), (1, .int (nI i))]) hx hb dX2_hourOn_170 rfl hl (by decide) rfl (fun ls hl => ?_)
                      refine lv_aload_n hx hb dX2_hourOn_171 rfl (lv_at hl 1 rfl) ?_
                      refine va_get (D := D) (ci := 2) (v := .ref (ad 2)) (C := RX2) (T := TX2) (N := 12) hx hb hts (fun _ h9 => (List.mem_cons_of_mem _ (List.mem_append_right _ h9))) hown hK hP 0 rfl rfl 2 (by decide) (hts (Cond.fieldLink RX2 13 "FloodGridModel" "water" "[I") (List.mem_of_getElem? (i := 1) rfl)) (fun _ h9 => h9) rfl dX2_hourOn_172 ?_
                      refine lv_iload_n hx hb dX2_hourOn_175 rfl (lv_at hl 2 rfl) ?_
                      refine lv_dup2_11 hx hb dX2_hourOn_176 rfl rfl ?_
                      refine ct_iald (v := ((q_w2 hei (m_dam σ) (q_w1 rai (m_t σ) (m_wat σ))) i)) hx hb hK hP 2 0 rfl rfl i rfl (by omega) (by decide) pk_us dX2_hourOn_177 ?_
                      refine lv_iload_n hx hb dX2_hourOn_178 rfl (lv_at hl 0 rfl) ?_
                      refine lv_isub hx hb dX2_hourOn_179 ?_
                      refine ct_top (y := ((q_w3 dra (q_w2 hei (m_dam σ) (q_w1 rai (m_t σ) (m_wat σ)))) i)) rfl ?_
                      refine ct_iast (g := upd (upd w i ((q_w2 hei (m_dam σ) (q_w1 rai (m_t σ) (m_wat σ))) i)) i ((q_w3 dra (q_w2 hei (m_dam σ) (q_w1 rai (m_t σ) (m_wat σ)))) i)) (ws1 := (mW h ad cI thr hei (upd (upd w i ((q_w2 hei (m_dam σ) (q_w1 rai (m_t σ) (m_wat σ))) i)) i ((q_w3 dra (q_w2 hei (m_dam σ) (q_w1 rai (m_t σ) (m_wat σ)))) i)) d v dra p9 rai (q_num (nI (m_t σ)) b1 b2 b3) (q_gain hei (q_w1 rai (m_t σ) (m_wat σ)) (m_dam σ) (q_cre hei (m_dam σ) (q_w1 rai (m_t σ) (m_wat σ))) 64) lak row)) hx hb hK hP hD hS 2 0 rfl rfl i rfl (by omega) (by decide) rfl rfl dX2_hourOn_180 (fun H locs hP hD hS => ?_)
                      refine lv_aload_n hx hb dX2_hourOn_181 rfl (lv_at hl 1 rfl) ?_
                      refine va_get (D := D) (ci := 2) (v := .ref (ad 8)) (C := RX2) (T := TX2) (N := 12) hx hb hts (fun _ h9 => (List.mem_cons_of_mem _ (List.mem_append_right _ h9))) hown hK hP 0 rfl rfl 8 (by decide) (hts (Cond.fieldLink RX2 31 "FloodGridModel" "numbers" "[I") (List.mem_of_getElem? (i := 3) rfl)) (fun _ h9 => h9) rfl dX2_hourOn_182 ?_
                      refine lv_iconst (v := 2) hx hb dX2_hourOn_185 (by decide) ?_
                      refine lv_dup2_11 hx hb dX2_hourOn_186 rfl rfl ?_
                      refine ct_iald (v := b2) hx hb hK hP 8 0 rfl rfl 2 rfl (by decide) (by decide) rfl dX2_hourOn_187 ?_
                      refine lv_iload_n hx hb dX2_hourOn_188 rfl (lv_at hl 0 rfl) ?_
                      refine lv_iadd hx hb dX2_hourOn_189 ?_
                      refine ct_iast (g := (q_num (nI (m_t σ)) b1 (b2 + (q_tak dra (q_w2 hei (m_dam σ) (q_w1 rai (m_t σ) (m_wat σ))) i)) b3)) (ws1 := (mW h ad cI thr hei (upd (upd w i ((q_w2 hei (m_dam σ) (q_w1 rai (m_t σ) (m_wat σ))) i)) i ((q_w3 dra (q_w2 hei (m_dam σ) (q_w1 rai (m_t σ) (m_wat σ)))) i)) d v dra p9 rai (q_num (nI (m_t σ)) b1 (b2 + (q_tak dra (q_w2 hei (m_dam σ) (q_w1 rai (m_t σ) (m_wat σ))) i)) b3) (q_gain hei (q_w1 rai (m_t σ) (m_wat σ)) (m_dam σ) (q_cre hei (m_dam σ) (q_w1 rai (m_t σ) (m_wat σ))) 64) lak row)) hx hb hK hP hD hS 8 0 rfl rfl 2 rfl (by decide) (by decide) (q_num_2 _ _ _ _ _) rfl dX2_hourOn_190 (fun H locs hP hD hS => ?_)
                      refine lv_aload_n hx hb dX2_hourOn_191 rfl (lv_at hl 1 rfl) ?_
                      refine va_get (D := D) (ci := 2) (v := .ref (ad 2)) (C := RX2) (T := TX2) (N := 12) hx hb hts (fun _ h9 => (List.mem_cons_of_mem _ (List.mem_append_right _ h9))) hown hK hP 0 rfl rfl 2 (by decide) (hts (Cond.fieldLink RX2 13 "FloodGridModel" "water" "[I") (List.mem_of_getElem? (i := 1) rfl)) (fun _ h9 => h9) rfl dX2_hourOn_192 ?_
                      refine lv_iload_n hx hb dX2_hourOn_195 rfl (lv_at hl 2 rfl) ?_
                      refine ct_iald (v := ((q_w3 dra (q_w2 hei (m_dam σ) (q_w1 rai (m_t σ) (m_wat σ)))) i)) hx hb hK hP 2 0 rfl rfl i rfl (by omega) (by decide) pk_us dX2_hourOn_196 ?_
                      refine lv_iconst (v := 3) hx hb dX2_hourOn_197 (by decide) ?_
                      refine lv_icmp_ge (tgt := 204) hx hb dX2_hourOn_198 (by decide) (fun hc9 => ?_) (fun hc9 => ?_)
                      · skip
                        refine lv_aload_n hx hb dX2_hourOn_204 rfl (lv_at hl 1 rfl) ?_
                        refine va_get (D := D) (ci := 2) (v := .ref (ad 6)) (C := RX2) (T := TX2) (N := 12) hx hb hts (fun _ h9 => (List.mem_cons_of_mem _ (List.mem_append_right _ h9))) hown hK hP 0 rfl rfl 6 (by decide) (hts (Cond.fieldLink RX2 25 "FloodGridModel" "towns" "[I") (List.mem_of_getElem? (i := 12) rfl)) (fun _ h9 => h9) rfl dX2_hourOn_205 ?_
                        refine lv_iload_n hx hb dX2_hourOn_208 rfl (lv_at hl 2 rfl) ?_
                        refine ct_iald (v := (m_peo σ i)) hx hb hK hP 6 0 rfl rfl i rfl (by omega) (by decide) (by rw [hp, q_mix_at]) dX2_hourOn_209 ?_
                        refine lv_aload_n hx hb dX2_hourOn_210 rfl (lv_at hl 1 rfl) ?_
                        refine va_get (D := D) (ci := 2) (v := .ref (ad 6)) (C := RX2) (T := TX2) (N := 12) hx hb hts (fun _ h9 => (List.mem_cons_of_mem _ (List.mem_append_right _ h9))) hown hK hP 0 rfl rfl 6 (by decide) (hts (Cond.fieldLink RX2 25 "FloodGridModel" "towns" "[I") (List.mem_of_getElem? (i := 12) rfl)) (fun _ h9 => h9) rfl dX2_hourOn_211 ?_
                        refine lv_iload_n hx hb dX2_hourOn_214 rfl (lv_at hl 2 rfl) ?_
                        refine ct_iald (v := (m_peo σ i)) hx hb hK hP 6 0 rfl rfl i rfl (by omega) (by decide) (by rw [hp, q_mix_at]) dX2_hourOn_215 ?_
                        refine lv_iconst (v := 3) hx hb dX2_hourOn_216 (by decide) ?_
                        refine lv_idiv hx hb dX2_hourOn_217 (by decide) ?_
                        refine lv_iconst (v := 1) hx hb dX2_hourOn_218 (by decide) ?_
                        refine lv_iadd hx hb dX2_hourOn_219 ?_
                        refine ct_mmin (v := (i_min (m_peo σ i) (((m_peo σ i) / 3) + 1))) hx hb (hml.trans hl.1.symm) hown (hts (Cond.methodLink RX2 98 Lib.Math.min.name) (List.mem_of_getElem? (i := 8) rfl)) (hts (Cond.static Lib.Math.min.name) (List.mem_of_getElem? (i := 9) rfl)) (hts (Cond.initialized "java/lang/Math") (List.mem_of_getElem? (i := 10) rfl)) (hts (Cond.code Lib.Math.min.name Lib.Math.min.code 2 (some .int)) (List.mem_of_getElem? (i := 11) rfl)) (Nat.le_of_ble_eq_true rfl) (Nat.le_of_ble_eq_true rfl) (Nat.le_of_ble_eq_true rfl) (Nat.le_of_ble_eq_true rfl) rfl dX2_hourOn_220 ?_
                        refine ct_top (y := (i_min (m_peo σ i / 3 + 1) (m_peo σ i))) (i_min_comm _ _) ?_
                        have h3 : 3 ≤ (q_w3 dra (q_w2 hei (m_dam σ) (q_w1 rai (m_t σ) (m_wat σ)))) i := hc9
                        refine lv_istore_n (lv' := [(3, .int (i_min (m_peo σ i / 3 + 1) (m_peo σ i))), (2, .int (q_tak dra (q_w2 hei (m_dam σ) (q_w1 rai (m_t σ) (m_wat σ))) i)), (0, .ref h), (1, .int (nI i))]) hx hb dX2_hourOn_223 rfl hl (by decide) rfl (fun ls hl => ?_)
                        refine lv_aload_n hx hb dX2_hourOn_224 rfl (lv_at hl 2 rfl) ?_
                        refine va_get (D := D) (ci := 2) (v := .ref (ad 6)) (C := RX2) (T := TX2) (N := 12) hx hb hts (fun _ h9 => (List.mem_cons_of_mem _ (List.mem_append_right _ h9))) hown hK hP 0 rfl rfl 6 (by decide) (hts (Cond.fieldLink RX2 25 "FloodGridModel" "towns" "[I") (List.mem_of_getElem? (i := 12) rfl)) (fun _ h9 => h9) rfl dX2_hourOn_225 ?_
                        refine lv_iload_n hx hb dX2_hourOn_228 rfl (lv_at hl 3 rfl) ?_
                        refine lv_dup2_11 hx hb dX2_hourOn_229 rfl rfl ?_
                        refine ct_iald (v := (m_peo σ i)) hx hb hK hP 6 0 rfl rfl i rfl (by omega) (by decide) (by rw [hp, q_mix_at]) dX2_hourOn_230 ?_
                        refine lv_iload_n hx hb dX2_hourOn_231 rfl (lv_at hl 0 rfl) ?_
                        refine lv_isub hx hb dX2_hourOn_232 ?_
                        refine ct_iast (g := upd p9 i ((m_peo σ i) - (i_min (m_peo σ i / 3 + 1) (m_peo σ i)))) (ws1 := (mW h ad cI thr hei (upd (upd w i ((q_w2 hei (m_dam σ) (q_w1 rai (m_t σ) (m_wat σ))) i)) i ((q_w3 dra (q_w2 hei (m_dam σ) (q_w1 rai (m_t σ) (m_wat σ)))) i)) d v dra (upd p9 i ((m_peo σ i) - (i_min (m_peo σ i / 3 + 1) (m_peo σ i)))) rai (q_num (nI (m_t σ)) b1 (b2 + (q_tak dra (q_w2 hei (m_dam σ) (q_w1 rai (m_t σ) (m_wat σ))) i)) b3) (q_gain hei (q_w1 rai (m_t σ) (m_wat σ)) (m_dam σ) (q_cre hei (m_dam σ) (q_w1 rai (m_t σ) (m_wat σ))) 64) lak row)) hx hb hK hP hD hS 6 0 rfl rfl i rfl (by omega) (by decide) rfl rfl dX2_hourOn_233 (fun H locs hP hD hS => ?_)
                        refine lv_aload_n hx hb dX2_hourOn_234 rfl (lv_at hl 2 rfl) ?_
                        refine va_get (D := D) (ci := 2) (v := .ref (ad 8)) (C := RX2) (T := TX2) (N := 12) hx hb hts (fun _ h9 => (List.mem_cons_of_mem _ (List.mem_append_right _ h9))) hown hK hP 0 rfl rfl 8 (by decide) (hts (Cond.fieldLink RX2 31 "FloodGridModel" "numbers" "[I") (List.mem_of_getElem? (i := 3) rfl)) (fun _ h9 => h9) rfl dX2_hourOn_235 ?_
                        refine lv_iconst (v := 3) hx hb dX2_hourOn_238 (by decide) ?_
                        refine lv_dup2_11 hx hb dX2_hourOn_239 rfl rfl ?_
                        refine ct_iald (v := b3) hx hb hK hP 8 0 rfl rfl 3 rfl (by decide) (by decide) rfl dX2_hourOn_240 ?_
                        refine lv_iload_n hx hb dX2_hourOn_241 rfl (lv_at hl 0 rfl) ?_
                        refine lv_iadd hx hb dX2_hourOn_242 ?_
                        refine ct_iast (g := (q_num (nI (m_t σ)) b1 (b2 + (q_tak dra (q_w2 hei (m_dam σ) (q_w1 rai (m_t σ) (m_wat σ))) i)) (b3 + (i_min (m_peo σ i / 3 + 1) (m_peo σ i))))) (ws1 := (mW h ad cI thr hei (upd (upd w i ((q_w2 hei (m_dam σ) (q_w1 rai (m_t σ) (m_wat σ))) i)) i ((q_w3 dra (q_w2 hei (m_dam σ) (q_w1 rai (m_t σ) (m_wat σ)))) i)) d v dra (upd p9 i ((m_peo σ i) - (i_min (m_peo σ i / 3 + 1) (m_peo σ i)))) rai (q_num (nI (m_t σ)) b1 (b2 + (q_tak dra (q_w2 hei (m_dam σ) (q_w1 rai (m_t σ) (m_wat σ))) i)) (b3 + (i_min (m_peo σ i / 3 + 1) (m_peo σ i)))) (q_gain hei (q_w1 rai (m_t σ) (m_wat σ)) (m_dam σ) (q_cre hei (m_dam σ) (q_w1 rai (m_t σ) (m_wat σ))) 64) lak row)) hx hb hK hP hD hS 8 0 rfl rfl 3 rfl (by decide) (by decide) (q_num_3 _ _ _ _ _) rfl dX2_hourOn_243 (fun H locs hP hD hS => ?_)
                        refine lv_iinc (v := (nI (i + 1))) (lv' := [(1, .int (nI (i + 1))), (3, .int (i_min (m_peo σ i / 3 + 1) (m_peo σ i))), (2, .int (q_tak dra (q_w2 hei (m_dam σ) (q_w1 rai (m_t σ) (m_wat σ))) i)), (0, .ref h)]) hx hb dX2_hourOn_244 hl (k := 3) rfl (nI_1 i) (by decide) rfl (fun ls hl => ?_)
                        refine lv_goto (tgt := 65) hx hb dX2_hourOn_247 (by decide) ?_
                        exact ih (i + 1) (by omega) (upd (upd w i ((q_w2 hei (m_dam σ) (q_w1 rai (m_t σ) (m_wat σ))) i)) i ((q_w3 dra (q_w2 hei (m_dam σ) (q_w1 rai (m_t σ) (m_wat σ)))) i)) d v (upd p9 i (m_peo σ i - (i_min (m_peo σ i / 3 + 1) (m_peo σ i)))) b1 (b2 + q_tak dra (q_w2 hei (m_dam σ) (q_w1 rai (m_t σ) (m_wat σ))) i) (b3 + (i_min (m_peo σ i / 3 + 1) (m_peo σ i))) H locs ls (by rw [hw0, upd_twice]; exact q_mix_up rfl) (by rw [hd]; exact q_mix_same (by simp only [q_dam]; rw [if_neg (fun z => hn3 ⟨z.1, z.2.1⟩)])) (by rw [hv]; exact q_mix_same (by simp only [q_wea]; rw [if_neg hn3])) (by rw [hp]; exact q_mix_up (by simp only [q_peo]; rw [if_pos h3])) (by rw [hb1]; exact q_sum_no _ _ _ (by simp only [q_brk]; rw [if_neg (fun z => hn3 ⟨z.1, z.2.1⟩)])) (by rw [hb2]; exact q_sum_up _ _ _) (by rw [hb3]; exact q_sum_up' _ _ _ (by simp only [q_lv]; rw [if_pos h3])) hP hD hS (lv_sub hl [3, 0] rfl)
                      · skip
                        refine lv_goto (tgt := 244) hx hb dX2_hourOn_201 (by decide) ?_
                        refine lv_iinc (v := (nI (i + 1))) (lv' := [(1, .int (nI (i + 1))), (2, .int (q_tak dra (q_w2 hei (m_dam σ) (q_w1 rai (m_t σ) (m_wat σ))) i)), (0, .ref h)]) hx hb dX2_hourOn_244 hl (k := 2) rfl (nI_1 i) (by decide) rfl (fun ls hl => ?_)
                        refine lv_goto (tgt := 65) hx hb dX2_hourOn_247 (by decide) ?_
                        exact ih (i + 1) (by omega) (upd (upd w i ((q_w2 hei (m_dam σ) (q_w1 rai (m_t σ) (m_wat σ))) i)) i ((q_w3 dra (q_w2 hei (m_dam σ) (q_w1 rai (m_t σ) (m_wat σ)))) i)) d v p9 b1 (b2 + q_tak dra (q_w2 hei (m_dam σ) (q_w1 rai (m_t σ) (m_wat σ))) i) b3 H locs ls (by rw [hw0, upd_twice]; exact q_mix_up rfl) (by rw [hd]; exact q_mix_same (by simp only [q_dam]; rw [if_neg (fun z => hn3 ⟨z.1, z.2.1⟩)])) (by rw [hv]; exact q_mix_same (by simp only [q_wea]; rw [if_neg hn3])) (by rw [hp]; exact q_mix_same (by simp only [q_peo]; rw [if_neg hc9])) (by rw [hb1]; exact q_sum_no _ _ _ (by simp only [q_brk]; rw [if_neg (fun z => hn3 ⟨z.1, z.2.1⟩)])) (by rw [hb2]; exact q_sum_up _ _ _) (by rw [hb3]; exact q_sum_no _ _ _ (by simp only [q_lv]; rw [if_neg hc9])) hP hD hS (lv_sub hl [2, 0] rfl)
                    · skip
                      refine lv_aload_n hx hb dX2_hourOn_95 rfl (lv_at hl 0 rfl) ?_
                      refine va_get (D := D) (ci := 2) (v := .ref (ad 2)) (C := RX2) (T := TX2) (N := 12) hx hb hts (fun _ h9 => (List.mem_cons_of_mem _ (List.mem_append_right _ h9))) hown hK hP 0 rfl rfl 2 (by decide) (hts (Cond.fieldLink RX2 13 "FloodGridModel" "water" "[I") (List.mem_of_getElem? (i := 1) rfl)) (fun _ h9 => h9) rfl dX2_hourOn_96 ?_
                      refine lv_iload_n hx hb dX2_hourOn_99 rfl (lv_at hl 1 rfl) ?_
                      refine ct_iald (v := ((q_w2 hei (m_dam σ) (q_w1 rai (m_t σ) (m_wat σ))) i)) hx hb hK hP 2 0 rfl rfl i rfl (by omega) (by decide) pk_us dX2_hourOn_100 ?_
                      refine lv_aload_n hx hb dX2_hourOn_101 rfl (lv_at hl 0 rfl) ?_
                      refine va_get (D := D) (ci := 2) (v := .ref (ad 3)) (C := RX2) (T := TX2) (N := 12) hx hb hts (fun _ h9 => (List.mem_cons_of_mem _ (List.mem_append_right _ h9))) hown hK hP 0 rfl rfl 3 (by decide) (hts (Cond.fieldLink RX2 16 "FloodGridModel" "dams" "[I") (List.mem_of_getElem? (i := 5) rfl)) (fun _ h9 => h9) rfl dX2_hourOn_102 ?_
                      refine lv_iload_n hx hb dX2_hourOn_105 rfl (lv_at hl 1 rfl) ?_
                      refine ct_iald (v := (m_dam σ i)) hx hb hK hP 3 0 rfl rfl i rfl (by omega) (by decide) (by rw [hd, q_mix_at]) dX2_hourOn_106 ?_
                      refine lv_icmp_lt (tgt := 155) hx hb dX2_hourOn_107 (by decide) (fun hc3 => ?_) (fun hc3 => ?_)
                      · skip
                        have hn3 : ¬ (0 < m_dam σ i ∧ m_dam σ i ≤ (q_w2 hei (m_dam σ) (q_w1 rai (m_t σ) (m_wat σ))) i) := fun z => absurd z.2 (Int32.not_le.mpr hc3)
                        refine lv_aload_n hx hb dX2_hourOn_155 rfl (lv_at hl 0 rfl) ?_
                        refine va_get (D := D) (ci := 2) (v := .ref (ad 5)) (C := RX2) (T := TX2) (N := 12) hx hb hts (fun _ h9 => (List.mem_cons_of_mem _ (List.mem_append_right _ h9))) hown hK hP 0 rfl rfl 5 (by decide) (hts (Cond.fieldLink RX2 22 "FloodGridModel" "drains" "[I") (List.mem_of_getElem? (i := 7) rfl)) (fun _ h9 => h9) rfl dX2_hourOn_156 ?_
                        refine lv_iload_n hx hb dX2_hourOn_159 rfl (lv_at hl 1 rfl) ?_
                        refine ct_iald (v := dra i) hx hb hK hP 5 0 rfl rfl i rfl (by omega) (by decide) rfl dX2_hourOn_160 ?_
                        refine lv_aload_n hx hb dX2_hourOn_161 rfl (lv_at hl 0 rfl) ?_
                        refine va_get (D := D) (ci := 2) (v := .ref (ad 2)) (C := RX2) (T := TX2) (N := 12) hx hb hts (fun _ h9 => (List.mem_cons_of_mem _ (List.mem_append_right _ h9))) hown hK hP 0 rfl rfl 2 (by decide) (hts (Cond.fieldLink RX2 13 "FloodGridModel" "water" "[I") (List.mem_of_getElem? (i := 1) rfl)) (fun _ h9 => h9) rfl dX2_hourOn_162 ?_
                        refine lv_iload_n hx hb dX2_hourOn_165 rfl (lv_at hl 1 rfl) ?_
                        refine ct_iald (v := ((q_w2 hei (m_dam σ) (q_w1 rai (m_t σ) (m_wat σ))) i)) hx hb hK hP 2 0 rfl rfl i rfl (by omega) (by decide) pk_us dX2_hourOn_166 ?_
                        refine ct_mmin (v := (q_tak dra (q_w2 hei (m_dam σ) (q_w1 rai (m_t σ) (m_wat σ))) i)) hx hb (hml.trans hl.1.symm) hown (hts (Cond.methodLink RX2 98 Lib.Math.min.name) (List.mem_of_getElem? (i := 8) rfl)) (hts (Cond.static Lib.Math.min.name) (List.mem_of_getElem? (i := 9) rfl)) (hts (Cond.initialized "java/lang/Math") (List.mem_of_getElem? (i := 10) rfl)) (hts (Cond.code Lib.Math.min.name Lib.Math.min.code 2 (some .int)) (List.mem_of_getElem? (i := 11) rfl)) (Nat.le_of_ble_eq_true rfl) (Nat.le_of_ble_eq_true rfl) (Nat.le_of_ble_eq_true rfl) (Nat.le_of_ble_eq_true rfl) rfl dX2_hourOn_167 ?_
                        refine lv_istore_n (lv' := [(2, .int (q_tak dra (q_w2 hei (m_dam σ) (q_w1 rai (m_t σ) (m_wat σ))) i)), (0, .ref h), (1, .int (nI i))]) hx hb dX2_hourOn_170 rfl hl (by decide) rfl (fun ls hl => ?_)
                        refine lv_aload_n hx hb dX2_hourOn_171 rfl (lv_at hl 1 rfl) ?_
                        refine va_get (D := D) (ci := 2) (v := .ref (ad 2)) (C := RX2) (T := TX2) (N := 12) hx hb hts (fun _ h9 => (List.mem_cons_of_mem _ (List.mem_append_right _ h9))) hown hK hP 0 rfl rfl 2 (by decide) (hts (Cond.fieldLink RX2 13 "FloodGridModel" "water" "[I") (List.mem_of_getElem? (i := 1) rfl)) (fun _ h9 => h9) rfl dX2_hourOn_172 ?_
                        refine lv_iload_n hx hb dX2_hourOn_175 rfl (lv_at hl 2 rfl) ?_
                        refine lv_dup2_11 hx hb dX2_hourOn_176 rfl rfl ?_
                        refine ct_iald (v := ((q_w2 hei (m_dam σ) (q_w1 rai (m_t σ) (m_wat σ))) i)) hx hb hK hP 2 0 rfl rfl i rfl (by omega) (by decide) pk_us dX2_hourOn_177 ?_
                        refine lv_iload_n hx hb dX2_hourOn_178 rfl (lv_at hl 0 rfl) ?_
                        refine lv_isub hx hb dX2_hourOn_179 ?_
                        refine ct_top (y := ((q_w3 dra (q_w2 hei (m_dam σ) (q_w1 rai (m_t σ) (m_wat σ)))) i)) rfl ?_
                        refine ct_iast (g := upd (upd w i ((q_w2 hei (m_dam σ) (q_w1 rai (m_t σ) (m_wat σ))) i)) i ((q_w3 dra (q_w2 hei (m_dam σ) (q_w1 rai (m_t σ) (m_wat σ)))) i)) (ws1 := (mW h ad cI thr hei (upd (upd w i ((q_w2 hei (m_dam σ) (q_w1 rai (m_t σ) (m_wat σ))) i)) i ((q_w3 dra (q_w2 hei (m_dam σ) (q_w1 rai (m_t σ) (m_wat σ)))) i)) d v dra p9 rai (q_num (nI (m_t σ)) b1 b2 b3) (q_gain hei (q_w1 rai (m_t σ) (m_wat σ)) (m_dam σ) (q_cre hei (m_dam σ) (q_w1 rai (m_t σ) (m_wat σ))) 64) lak row)) hx hb hK hP hD hS 2 0 rfl rfl i rfl (by omega) (by decide) rfl rfl dX2_hourOn_180 (fun H locs hP hD hS => ?_)
                        refine lv_aload_n hx hb dX2_hourOn_181 rfl (lv_at hl 1 rfl) ?_
                        refine va_get (D := D) (ci := 2) (v := .ref (ad 8)) (C := RX2) (T := TX2) (N := 12) hx hb hts (fun _ h9 => (List.mem_cons_of_mem _ (List.mem_append_right _ h9))) hown hK hP 0 rfl rfl 8 (by decide) (hts (Cond.fieldLink RX2 31 "FloodGridModel" "numbers" "[I") (List.mem_of_getElem? (i := 3) rfl)) (fun _ h9 => h9) rfl dX2_hourOn_182 ?_
                        refine lv_iconst (v := 2) hx hb dX2_hourOn_185 (by decide) ?_
                        refine lv_dup2_11 hx hb dX2_hourOn_186 rfl rfl ?_
                        refine ct_iald (v := b2) hx hb hK hP 8 0 rfl rfl 2 rfl (by decide) (by decide) rfl dX2_hourOn_187 ?_
                        refine lv_iload_n hx hb dX2_hourOn_188 rfl (lv_at hl 0 rfl) ?_
                        refine lv_iadd hx hb dX2_hourOn_189 ?_
                        refine ct_iast (g := (q_num (nI (m_t σ)) b1 (b2 + (q_tak dra (q_w2 hei (m_dam σ) (q_w1 rai (m_t σ) (m_wat σ))) i)) b3)) (ws1 := (mW h ad cI thr hei (upd (upd w i ((q_w2 hei (m_dam σ) (q_w1 rai (m_t σ) (m_wat σ))) i)) i ((q_w3 dra (q_w2 hei (m_dam σ) (q_w1 rai (m_t σ) (m_wat σ)))) i)) d v dra p9 rai (q_num (nI (m_t σ)) b1 (b2 + (q_tak dra (q_w2 hei (m_dam σ) (q_w1 rai (m_t σ) (m_wat σ))) i)) b3) (q_gain hei (q_w1 rai (m_t σ) (m_wat σ)) (m_dam σ) (q_cre hei (m_dam σ) (q_w1 rai (m_t σ) (m_wat σ))) 64) lak row)) hx hb hK hP hD hS 8 0 rfl rfl 2 rfl (by decide) (by decide) (q_num_2 _ _ _ _ _) rfl dX2_hourOn_190 (fun H locs hP hD hS => ?_)
                        refine lv_aload_n hx hb dX2_hourOn_191 rfl (lv_at hl 1 rfl) ?_
                        refine va_get (D := D) (ci := 2) (v := .ref (ad 2)) (C := RX2) (T := TX2) (N := 12) hx hb hts (fun _ h9 => (List.mem_cons_of_mem _ (List.mem_append_right _ h9))) hown hK hP 0 rfl rfl 2 (by decide) (hts (Cond.fieldLink RX2 13 "FloodGridModel" "water" "[I") (List.mem_of_getElem? (i := 1) rfl)) (fun _ h9 => h9) rfl dX2_hourOn_192 ?_
                        refine lv_iload_n hx hb dX2_hourOn_195 rfl (lv_at hl 2 rfl) ?_
                        refine ct_iald (v := ((q_w3 dra (q_w2 hei (m_dam σ) (q_w1 rai (m_t σ) (m_wat σ)))) i)) hx hb hK hP 2 0 rfl rfl i rfl (by omega) (by decide) pk_us dX2_hourOn_196 ?_
                        refine lv_iconst (v := 3) hx hb dX2_hourOn_197 (by decide) ?_
                        refine lv_icmp_ge (tgt := 204) hx hb dX2_hourOn_198 (by decide) (fun hc9 => ?_) (fun hc9 => ?_)
                        · skip
                          refine lv_aload_n hx hb dX2_hourOn_204 rfl (lv_at hl 1 rfl) ?_
                          refine va_get (D := D) (ci := 2) (v := .ref (ad 6)) (C := RX2) (T := TX2) (N := 12) hx hb hts (fun _ h9 => (List.mem_cons_of_mem _ (List.mem_append_right _ h9))) hown hK hP 0 rfl rfl 6 (by decide) (hts (Cond.fieldLink RX2 25 "FloodGridModel" "towns" "[I") (List.mem_of_getElem? (i := 12) rfl)) (fun _ h9 => h9) rfl dX2_hourOn_205 ?_
                          refine lv_iload_n hx hb dX2_hourOn_208 rfl (lv_at hl 2 rfl) ?_
                          refine ct_iald (v := (m_peo σ i)) hx hb hK hP 6 0 rfl rfl i rfl (by omega) (by decide) (by rw [hp, q_mix_at]) dX2_hourOn_209 ?_
                          refine lv_aload_n hx hb dX2_hourOn_210 rfl (lv_at hl 1 rfl) ?_
                          refine va_get (D := D) (ci := 2) (v := .ref (ad 6)) (C := RX2) (T := TX2) (N := 12) hx hb hts (fun _ h9 => (List.mem_cons_of_mem _ (List.mem_append_right _ h9))) hown hK hP 0 rfl rfl 6 (by decide) (hts (Cond.fieldLink RX2 25 "FloodGridModel" "towns" "[I") (List.mem_of_getElem? (i := 12) rfl)) (fun _ h9 => h9) rfl dX2_hourOn_211 ?_
                          refine lv_iload_n hx hb dX2_hourOn_214 rfl (lv_at hl 2 rfl) ?_
                          refine ct_iald (v := (m_peo σ i)) hx hb hK hP 6 0 rfl rfl i rfl (by omega) (by decide) (by rw [hp, q_mix_at]) dX2_hourOn_215 ?_
                          refine lv_iconst (v := 3) hx hb dX2_hourOn_216 (by decide) ?_
                          refine lv_idiv hx hb dX2_hourOn_217 (by decide) ?_
                          refine lv_iconst (v := 1) hx hb dX2_hourOn_218 (by decide) ?_
                          refine lv_iadd hx hb dX2_hourOn_219 ?_
                          refine ct_mmin (v := (i_min (m_peo σ i) (((m_peo σ i) / 3) + 1))) hx hb (hml.trans hl.1.symm) hown (hts (Cond.methodLink RX2 98 Lib.Math.min.name) (List.mem_of_getElem? (i := 8) rfl)) (hts (Cond.static Lib.Math.min.name) (List.mem_of_getElem? (i := 9) rfl)) (hts (Cond.initialized "java/lang/Math") (List.mem_of_getElem? (i := 10) rfl)) (hts (Cond.code Lib.Math.min.name Lib.Math.min.code 2 (some .int)) (List.mem_of_getElem? (i := 11) rfl)) (Nat.le_of_ble_eq_true rfl) (Nat.le_of_ble_eq_true rfl) (Nat.le_of_ble_eq_true rfl) (Nat.le_of_ble_eq_true rfl) rfl dX2_hourOn_220 ?_
                          refine ct_top (y := (i_min (m_peo σ i / 3 + 1) (m_peo σ i))) (i_min_comm _ _) ?_
                          have h3 : 3 ≤ (q_w3 dra (q_w2 hei (m_dam σ) (q_w1 rai (m_t σ) (m_wat σ)))) i := hc9
                          refine lv_istore_n (lv' := [(3, .int (i_min (m_peo σ i / 3 + 1) (m_peo σ i))), (2, .int (q_tak dra (q_w2 hei (m_dam σ) (q_w1 rai (m_t σ) (m_wat σ))) i)), (0, .ref h), (1, .int (nI i))]) hx hb dX2_hourOn_223 rfl hl (by decide) rfl (fun ls hl => ?_)
                          refine lv_aload_n hx hb dX2_hourOn_224 rfl (lv_at hl 2 rfl) ?_
                          refine va_get (D := D) (ci := 2) (v := .ref (ad 6)) (C := RX2) (T := TX2) (N := 12) hx hb hts (fun _ h9 => (List.mem_cons_of_mem _ (List.mem_append_right _ h9))) hown hK hP 0 rfl rfl 6 (by decide) (hts (Cond.fieldLink RX2 25 "FloodGridModel" "towns" "[I") (List.mem_of_getElem? (i := 12) rfl)) (fun _ h9 => h9) rfl dX2_hourOn_225 ?_
                          refine lv_iload_n hx hb dX2_hourOn_228 rfl (lv_at hl 3 rfl) ?_
                          refine lv_dup2_11 hx hb dX2_hourOn_229 rfl rfl ?_
                          refine ct_iald (v := (m_peo σ i)) hx hb hK hP 6 0 rfl rfl i rfl (by omega) (by decide) (by rw [hp, q_mix_at]) dX2_hourOn_230 ?_
                          refine lv_iload_n hx hb dX2_hourOn_231 rfl (lv_at hl 0 rfl) ?_
                          refine lv_isub hx hb dX2_hourOn_232 ?_
                          refine ct_iast (g := upd p9 i ((m_peo σ i) - (i_min (m_peo σ i / 3 + 1) (m_peo σ i)))) (ws1 := (mW h ad cI thr hei (upd (upd w i ((q_w2 hei (m_dam σ) (q_w1 rai (m_t σ) (m_wat σ))) i)) i ((q_w3 dra (q_w2 hei (m_dam σ) (q_w1 rai (m_t σ) (m_wat σ)))) i)) d v dra (upd p9 i ((m_peo σ i) - (i_min (m_peo σ i / 3 + 1) (m_peo σ i)))) rai (q_num (nI (m_t σ)) b1 (b2 + (q_tak dra (q_w2 hei (m_dam σ) (q_w1 rai (m_t σ) (m_wat σ))) i)) b3) (q_gain hei (q_w1 rai (m_t σ) (m_wat σ)) (m_dam σ) (q_cre hei (m_dam σ) (q_w1 rai (m_t σ) (m_wat σ))) 64) lak row)) hx hb hK hP hD hS 6 0 rfl rfl i rfl (by omega) (by decide) rfl rfl dX2_hourOn_233 (fun H locs hP hD hS => ?_)
                          refine lv_aload_n hx hb dX2_hourOn_234 rfl (lv_at hl 2 rfl) ?_
                          refine va_get (D := D) (ci := 2) (v := .ref (ad 8)) (C := RX2) (T := TX2) (N := 12) hx hb hts (fun _ h9 => (List.mem_cons_of_mem _ (List.mem_append_right _ h9))) hown hK hP 0 rfl rfl 8 (by decide) (hts (Cond.fieldLink RX2 31 "FloodGridModel" "numbers" "[I") (List.mem_of_getElem? (i := 3) rfl)) (fun _ h9 => h9) rfl dX2_hourOn_235 ?_
                          refine lv_iconst (v := 3) hx hb dX2_hourOn_238 (by decide) ?_
                          refine lv_dup2_11 hx hb dX2_hourOn_239 rfl rfl ?_
                          refine ct_iald (v := b3) hx hb hK hP 8 0 rfl rfl 3 rfl (by decide) (by decide) rfl dX2_hourOn_240 ?_
                          refine lv_iload_n hx hb dX2_hourOn_241 rfl (lv_at hl 0 rfl) ?_
                          refine lv_iadd hx hb dX2_hourOn_242 ?_
                          refine ct_iast (g := (q_num (nI (m_t σ)) b1 (b2 + (q_tak dra (q_w2 hei (m_dam σ) (q_w1 rai (m_t σ) (m_wat σ))) i)) (b3 + (i_min (m_peo σ i / 3 + 1) (m_peo σ i))))) (ws1 := (mW h ad cI thr hei (upd (upd w i ((q_w2 hei (m_dam σ) (q_w1 rai (m_t σ) (m_wat σ))) i)) i ((q_w3 dra (q_w2 hei (m_dam σ) (q_w1 rai (m_t σ) (m_wat σ)))) i)) d v dra (upd p9 i ((m_peo σ i) - (i_min (m_peo σ i / 3 + 1) (m_peo σ i)))) rai (q_num (nI (m_t σ)) b1 (b2 + (q_tak dra (q_w2 hei (m_dam σ) (q_w1 rai (m_t σ) (m_wat σ))) i)) (b3 + (i_min (m_peo σ i / 3 + 1) (m_peo σ i)))) (q_gain hei (q_w1 rai (m_t σ) (m_wat σ)) (m_dam σ) (q_cre hei (m_dam σ) (q_w1 rai (m_t σ) (m_wat σ))) 64) lak row)) hx hb hK hP hD hS 8 0 rfl rfl 3 rfl (by decide) (by decide) (q_num_3 _ _ _ _ _) rfl dX2_hourOn_243 (fun H locs hP hD hS => ?_)
                          refine lv_iinc (v := (nI (i + 1))) (lv' := [(1, .int (nI (i + 1))), (3, .int (i_min (m_peo σ i / 3 + 1) (m_peo σ i))), (2, .int (q_tak dra (q_w2 hei (m_dam σ) (q_w1 rai (m_t σ) (m_wat σ))) i)), (0, .ref h)]) hx hb dX2_hourOn_244 hl (k := 3) rfl (nI_1 i) (by decide) rfl (fun ls hl => ?_)
                          refine lv_goto (tgt := 65) hx hb dX2_hourOn_247 (by decide) ?_
                          exact ih (i + 1) (by omega) (upd (upd w i ((q_w2 hei (m_dam σ) (q_w1 rai (m_t σ) (m_wat σ))) i)) i ((q_w3 dra (q_w2 hei (m_dam σ) (q_w1 rai (m_t σ) (m_wat σ)))) i)) d v (upd p9 i (m_peo σ i - (i_min (m_peo σ i / 3 + 1) (m_peo σ i)))) b1 (b2 + q_tak dra (q_w2 hei (m_dam σ) (q_w1 rai (m_t σ) (m_wat σ))) i) (b3 + (i_min (m_peo σ i / 3 + 1) (m_peo σ i))) H locs ls (by rw [hw0, upd_twice]; exact q_mix_up rfl) (by rw [hd]; exact q_mix_same (by simp only [q_dam]; rw [if_neg (fun z => hn3 ⟨z.1, z.2.1⟩)])) (by rw [hv]; exact q_mix_same (by simp only [q_wea]; rw [if_neg hn3])) (by rw [hp]; exact q_mix_up (by simp only [q_peo]; rw [if_pos h3])) (by rw [hb1]; exact q_sum_no _ _ _ (by simp only [q_brk]; rw [if_neg (fun z => hn3 ⟨z.1, z.2.1⟩)])) (by rw [hb2]; exact q_sum_up _ _ _) (by rw [hb3]; exact q_sum_up' _ _ _ (by simp only [q_lv]; rw [if_pos h3])) hP hD hS (lv_sub hl [3, 0] rfl)
                        · skip
                          refine lv_goto (tgt := 244) hx hb dX2_hourOn_201 (by decide) ?_
                          refine lv_iinc (v := (nI (i + 1))) (lv' := [(1, .int (nI (i + 1))), (2, .int (q_tak dra (q_w2 hei (m_dam σ) (q_w1 rai (m_t σ) (m_wat σ))) i)), (0, .ref h)]) hx hb dX2_hourOn_244 hl (k := 2) rfl (nI_1 i) (by decide) rfl (fun ls hl => ?_)
                          refine lv_goto (tgt := 65) hx hb dX2_hourOn_247 (by decide) ?_
                          exact ih (i + 1) (by omega) (upd (upd w i ((q_w2 hei (m_dam σ) (q_w1 rai (m_t σ) (m_wat σ))) i)) i ((q_w3 dra (q_w2 hei (m_dam σ) (q_w1 rai (m_t σ) (m_wat σ)))) i)) d v p9 b1 (b2 + q_tak dra (q_w2 hei (m_dam σ) (q_w1 rai (m_t σ) (m_wat σ))) i) b3 H locs ls (by rw [hw0, upd_twice]; exact q_mix_up rfl) (by rw [hd]; exact q_mix_same (by simp only [q_dam]; rw [if_neg (fun z => hn3 ⟨z.1, z.2.1⟩)])) (by rw [hv]; exact q_mix_same (by simp only [q_wea]; rw [if_neg hn3])) (by rw [hp]; exact q_mix_same (by simp only [q_peo]; rw [if_neg hc9])) (by rw [hb1]; exact q_sum_no _ _ _ (by simp only [q_brk]; rw [if_neg (fun z => hn3 ⟨z.1, z.2.1⟩)])) (by rw [hb2]; exact q_sum_up _ _ _) (by rw [hb3]; exact q_sum_no _ _ _ (by simp only [q_lv]; rw [if_neg hc9])) hP hD hS (lv_sub hl [2, 0] rfl)
                      · skip
                        have h3d : 0 < m_dam σ i ∧ m_dam σ i ≤ (q_w2 hei (m_dam σ) (q_w1 rai (m_t σ) (m_wat σ))) i := ⟨Int32.not_le.mp hc2, Int32.not_lt.mp hc3⟩
                        refine lv_aload_n hx hb dX2_hourOn_110 rfl (lv_at hl 0 rfl) ?_
                        refine va_get (D := D) (ci := 2) (v := .ref (ad 4)) (C := RX2) (T := TX2) (N := 12) hx hb hts (fun _ h9 => (List.mem_cons_of_mem _ (List.mem_append_right _ h9))) hown hK hP 0 rfl rfl 4 (by decide) (hts (Cond.fieldLink RX2 19 "FloodGridModel" "wear" "[I") (List.mem_of_getElem? (i := 6) rfl)) (fun _ h9 => h9) rfl dX2_hourOn_111 ?_
                        refine lv_iload_n hx hb dX2_hourOn_114 rfl (lv_at hl 1 rfl) ?_
                        refine lv_dup2_11 hx hb dX2_hourOn_115 rfl rfl ?_
                        refine ct_iald (v := (m_wea σ i)) hx hb hK hP 4 0 rfl rfl i rfl (by omega) (by decide) (by rw [hv, q_mix_at]) dX2_hourOn_116 ?_
                        refine lv_iconst (v := 1) hx hb dX2_hourOn_117 (by decide) ?_
                        refine lv_iadd hx hb dX2_hourOn_118 ?_
                        refine ct_iast (g := upd v i ((m_wea σ i) + 1)) (ws1 := (mW h ad cI thr hei (upd w i ((q_w2 hei (m_dam σ) (q_w1 rai (m_t σ) (m_wat σ))) i)) d (upd v i ((m_wea σ i) + 1)) dra p9 rai (q_num (nI (m_t σ)) b1 b2 b3) (q_gain hei (q_w1 rai (m_t σ) (m_wat σ)) (m_dam σ) (q_cre hei (m_dam σ) (q_w1 rai (m_t σ) (m_wat σ))) 64) lak row)) hx hb hK hP hD hS 4 0 rfl rfl i rfl (by omega) (by decide) rfl rfl dX2_hourOn_119 (fun H locs hP hD hS => ?_)
                        refine lv_aload_n hx hb dX2_hourOn_120 rfl (lv_at hl 0 rfl) ?_
                        refine va_get (D := D) (ci := 2) (v := .ref (ad 4)) (C := RX2) (T := TX2) (N := 12) hx hb hts (fun _ h9 => (List.mem_cons_of_mem _ (List.mem_append_right _ h9))) hown hK hP 0 rfl rfl 4 (by decide) (hts (Cond.fieldLink RX2 19 "FloodGridModel" "wear" "[I") (List.mem_of_getElem? (i := 6) rfl)) (fun _ h9 => h9) rfl dX2_hourOn_121 ?_
                        refine lv_iload_n hx hb dX2_hourOn_124 rfl (lv_at hl 1 rfl) ?_
                        refine ct_iald (v := (m_wea σ i + 1)) hx hb hK hP 4 0 rfl rfl i rfl (by omega) (by decide) pk_us dX2_hourOn_125 ?_
                        refine lv_bipush (v := 10) hx hb dX2_hourOn_126 (by decide) ?_
                        refine lv_icmp_ne (tgt := 155) hx hb dX2_hourOn_128 (by decide) (fun hc4 => ?_) (fun hc4 => ?_)
                        · skip
                          have h10 : ¬ 10 ≤ m_wea σ i + 1 := fun z => hc4 ((wear10 (hinv i hlt).2).mpr z)
                          refine lv_aload_n hx hb dX2_hourOn_155 rfl (lv_at hl 0 rfl) ?_
                          refine va_get (D := D) (ci := 2) (v := .ref (ad 5)) (C := RX2) (T := TX2) (N := 12) hx hb hts (fun _ h9 => (List.mem_cons_of_mem _ (List.mem_append_right _ h9))) hown hK hP 0 rfl rfl 5 (by decide) (hts (Cond.fieldLink RX2 22 "FloodGridModel" "drains" "[I") (List.mem_of_getElem? (i := 7) rfl)) (fun _ h9 => h9) rfl dX2_hourOn_156 ?_
                          refine lv_iload_n hx hb dX2_hourOn_159 rfl (lv_at hl 1 rfl) ?_
                          refine ct_iald (v := dra i) hx hb hK hP 5 0 rfl rfl i rfl (by omega) (by decide) rfl dX2_hourOn_160 ?_
                          refine lv_aload_n hx hb dX2_hourOn_161 rfl (lv_at hl 0 rfl) ?_
                          refine va_get (D := D) (ci := 2) (v := .ref (ad 2)) (C := RX2) (T := TX2) (N := 12) hx hb hts (fun _ h9 => (List.mem_cons_of_mem _ (List.mem_append_right _ h9))) hown hK hP 0 rfl rfl 2 (by decide) (hts (Cond.fieldLink RX2 13 "FloodGridModel" "water" "[I") (List.mem_of_getElem? (i := 1) rfl)) (fun _ h9 => h9) rfl dX2_hourOn_162 ?_
                          refine lv_iload_n hx hb dX2_hourOn_165 rfl (lv_at hl 1 rfl) ?_
                          refine ct_iald (v := ((q_w2 hei (m_dam σ) (q_w1 rai (m_t σ) (m_wat σ))) i)) hx hb hK hP 2 0 rfl rfl i rfl (by omega) (by decide) pk_us dX2_hourOn_166 ?_
                          refine ct_mmin (v := (q_tak dra (q_w2 hei (m_dam σ) (q_w1 rai (m_t σ) (m_wat σ))) i)) hx hb (hml.trans hl.1.symm) hown (hts (Cond.methodLink RX2 98 Lib.Math.min.name) (List.mem_of_getElem? (i := 8) rfl)) (hts (Cond.static Lib.Math.min.name) (List.mem_of_getElem? (i := 9) rfl)) (hts (Cond.initialized "java/lang/Math") (List.mem_of_getElem? (i := 10) rfl)) (hts (Cond.code Lib.Math.min.name Lib.Math.min.code 2 (some .int)) (List.mem_of_getElem? (i := 11) rfl)) (Nat.le_of_ble_eq_true rfl) (Nat.le_of_ble_eq_true rfl) (Nat.le_of_ble_eq_true rfl) (Nat.le_of_ble_eq_true rfl) rfl dX2_hourOn_167 ?_
                          refine lv_istore_n (lv' := [(2, .int (q_tak dra (q_w2 hei (m_dam σ) (q_w1 rai (m_t σ) (m_wat σ))) i)), (0, .ref h), (1, .int (nI i))]) hx hb dX2_hourOn_170 rfl hl (by decide) rfl (fun ls hl => ?_)
                          refine lv_aload_n hx hb dX2_hourOn_171 rfl (lv_at hl 1 rfl) ?_
                          refine va_get (D := D) (ci := 2) (v := .ref (ad 2)) (C := RX2) (T := TX2) (N := 12) hx hb hts (fun _ h9 => (List.mem_cons_of_mem _ (List.mem_append_right _ h9))) hown hK hP 0 rfl rfl 2 (by decide) (hts (Cond.fieldLink RX2 13 "FloodGridModel" "water" "[I") (List.mem_of_getElem? (i := 1) rfl)) (fun _ h9 => h9) rfl dX2_hourOn_172 ?_
                          refine lv_iload_n hx hb dX2_hourOn_175 rfl (lv_at hl 2 rfl) ?_
                          refine lv_dup2_11 hx hb dX2_hourOn_176 rfl rfl ?_
                          refine ct_iald (v := ((q_w2 hei (m_dam σ) (q_w1 rai (m_t σ) (m_wat σ))) i)) hx hb hK hP 2 0 rfl rfl i rfl (by omega) (by decide) pk_us dX2_hourOn_177 ?_
                          refine lv_iload_n hx hb dX2_hourOn_178 rfl (lv_at hl 0 rfl) ?_
                          refine lv_isub hx hb dX2_hourOn_179 ?_
                          refine ct_top (y := ((q_w3 dra (q_w2 hei (m_dam σ) (q_w1 rai (m_t σ) (m_wat σ)))) i)) rfl ?_
                          refine ct_iast (g := upd (upd w i ((q_w2 hei (m_dam σ) (q_w1 rai (m_t σ) (m_wat σ))) i)) i ((q_w3 dra (q_w2 hei (m_dam σ) (q_w1 rai (m_t σ) (m_wat σ)))) i)) (ws1 := (mW h ad cI thr hei (upd (upd w i ((q_w2 hei (m_dam σ) (q_w1 rai (m_t σ) (m_wat σ))) i)) i ((q_w3 dra (q_w2 hei (m_dam σ) (q_w1 rai (m_t σ) (m_wat σ)))) i)) d (upd v i ((m_wea σ i) + 1)) dra p9 rai (q_num (nI (m_t σ)) b1 b2 b3) (q_gain hei (q_w1 rai (m_t σ) (m_wat σ)) (m_dam σ) (q_cre hei (m_dam σ) (q_w1 rai (m_t σ) (m_wat σ))) 64) lak row)) hx hb hK hP hD hS 2 0 rfl rfl i rfl (by omega) (by decide) rfl rfl dX2_hourOn_180 (fun H locs hP hD hS => ?_)
                          refine lv_aload_n hx hb dX2_hourOn_181 rfl (lv_at hl 1 rfl) ?_
                          refine va_get (D := D) (ci := 2) (v := .ref (ad 8)) (C := RX2) (T := TX2) (N := 12) hx hb hts (fun _ h9 => (List.mem_cons_of_mem _ (List.mem_append_right _ h9))) hown hK hP 0 rfl rfl 8 (by decide) (hts (Cond.fieldLink RX2 31 "FloodGridModel" "numbers" "[I") (List.mem_of_getElem? (i := 3) rfl)) (fun _ h9 => h9) rfl dX2_hourOn_182 ?_
                          refine lv_iconst (v := 2) hx hb dX2_hourOn_185 (by decide) ?_
                          refine lv_dup2_11 hx hb dX2_hourOn_186 rfl rfl ?_
                          refine ct_iald (v := b2) hx hb hK hP 8 0 rfl rfl 2 rfl (by decide) (by decide) rfl dX2_hourOn_187 ?_
                          refine lv_iload_n hx hb dX2_hourOn_188 rfl (lv_at hl 0 rfl) ?_
                          refine lv_iadd hx hb dX2_hourOn_189 ?_
                          refine ct_iast (g := (q_num (nI (m_t σ)) b1 (b2 + (q_tak dra (q_w2 hei (m_dam σ) (q_w1 rai (m_t σ) (m_wat σ))) i)) b3)) (ws1 := (mW h ad cI thr hei (upd (upd w i ((q_w2 hei (m_dam σ) (q_w1 rai (m_t σ) (m_wat σ))) i)) i ((q_w3 dra (q_w2 hei (m_dam σ) (q_w1 rai (m_t σ) (m_wat σ)))) i)) d (upd v i ((m_wea σ i) + 1)) dra p9 rai (q_num (nI (m_t σ)) b1 (b2 + (q_tak dra (q_w2 hei (m_dam σ) (q_w1 rai (m_t σ) (m_wat σ))) i)) b3) (q_gain hei (q_w1 rai (m_t σ) (m_wat σ)) (m_dam σ) (q_cre hei (m_dam σ) (q_w1 rai (m_t σ) (m_wat σ))) 64) lak row)) hx hb hK hP hD hS 8 0 rfl rfl 2 rfl (by decide) (by decide) (q_num_2 _ _ _ _ _) rfl dX2_hourOn_190 (fun H locs hP hD hS => ?_)
                          refine lv_aload_n hx hb dX2_hourOn_191 rfl (lv_at hl 1 rfl) ?_
                          refine va_get (D := D) (ci := 2) (v := .ref (ad 2)) (C := RX2) (T := TX2) (N := 12) hx hb hts (fun _ h9 => (List.mem_cons_of_mem _ (List.mem_append_right _ h9))) hown hK hP 0 rfl rfl 2 (by decide) (hts (Cond.fieldLink RX2 13 "FloodGridModel" "water" "[I") (List.mem_of_getElem? (i := 1) rfl)) (fun _ h9 => h9) rfl dX2_hourOn_192 ?_
                          refine lv_iload_n hx hb dX2_hourOn_195 rfl (lv_at hl 2 rfl) ?_
                          refine ct_iald (v := ((q_w3 dra (q_w2 hei (m_dam σ) (q_w1 rai (m_t σ) (m_wat σ)))) i)) hx hb hK hP 2 0 rfl rfl i rfl (by omega) (by decide) pk_us dX2_hourOn_196 ?_
                          refine lv_iconst (v := 3) hx hb dX2_hourOn_197 (by decide) ?_
                          refine lv_icmp_ge (tgt := 204) hx hb dX2_hourOn_198 (by decide) (fun hc9 => ?_) (fun hc9 => ?_)
                          · skip
                            refine lv_aload_n hx hb dX2_hourOn_204 rfl (lv_at hl 1 rfl) ?_
                            refine va_get (D := D) (ci := 2) (v := .ref (ad 6)) (C := RX2) (T := TX2) (N := 12) hx hb hts (fun _ h9 => (List.mem_cons_of_mem _ (List.mem_append_right _ h9))) hown hK hP 0 rfl rfl 6 (by decide) (hts (Cond.fieldLink RX2 25 "FloodGridModel" "towns" "[I") (List.mem_of_getElem? (i := 12) rfl)) (fun _ h9 => h9) rfl dX2_hourOn_205 ?_
                            refine lv_iload_n hx hb dX2_hourOn_208 rfl (lv_at hl 2 rfl) ?_
                            refine ct_iald (v := (m_peo σ i)) hx hb hK hP 6 0 rfl rfl i rfl (by omega) (by decide) (by rw [hp, q_mix_at]) dX2_hourOn_209 ?_
                            refine lv_aload_n hx hb dX2_hourOn_210 rfl (lv_at hl 1 rfl) ?_
                            refine va_get (D := D) (ci := 2) (v := .ref (ad 6)) (C := RX2) (T := TX2) (N := 12) hx hb hts (fun _ h9 => (List.mem_cons_of_mem _ (List.mem_append_right _ h9))) hown hK hP 0 rfl rfl 6 (by decide) (hts (Cond.fieldLink RX2 25 "FloodGridModel" "towns" "[I") (List.mem_of_getElem? (i := 12) rfl)) (fun _ h9 => h9) rfl dX2_hourOn_211 ?_
                            refine lv_iload_n hx hb dX2_hourOn_214 rfl (lv_at hl 2 rfl) ?_
                            refine ct_iald (v := (m_peo σ i)) hx hb hK hP 6 0 rfl rfl i rfl (by omega) (by decide) (by rw [hp, q_mix_at]) dX2_hourOn_215 ?_
                            refine lv_iconst (v := 3) hx hb dX2_hourOn_216 (by decide) ?_
                            refine lv_idiv hx hb dX2_hourOn_217 (by decide) ?_
                            refine lv_iconst (v := 1) hx hb dX2_hourOn_218 (by decide) ?_
                            refine lv_iadd hx hb dX2_hourOn_219 ?_
                            refine ct_mmin (v := (i_min (m_peo σ i) (((m_peo σ i) / 3) + 1))) hx hb (hml.trans hl.1.symm) hown (hts (Cond.methodLink RX2 98 Lib.Math.min.name) (List.mem_of_getElem? (i := 8) rfl)) (hts (Cond.static Lib.Math.min.name) (List.mem_of_getElem? (i := 9) rfl)) (hts (Cond.initialized "java/lang/Math") (List.mem_of_getElem? (i := 10) rfl)) (hts (Cond.code Lib.Math.min.name Lib.Math.min.code 2 (some .int)) (List.mem_of_getElem? (i := 11) rfl)) (Nat.le_of_ble_eq_true rfl) (Nat.le_of_ble_eq_true rfl) (Nat.le_of_ble_eq_true rfl) (Nat.le_of_ble_eq_true rfl) rfl dX2_hourOn_220 ?_
                            refine ct_top (y := (i_min (m_peo σ i / 3 + 1) (m_peo σ i))) (i_min_comm _ _) ?_
                            have h3 : 3 ≤ (q_w3 dra (q_w2 hei (m_dam σ) (q_w1 rai (m_t σ) (m_wat σ)))) i := hc9
                            refine lv_istore_n (lv' := [(3, .int (i_min (m_peo σ i / 3 + 1) (m_peo σ i))), (2, .int (q_tak dra (q_w2 hei (m_dam σ) (q_w1 rai (m_t σ) (m_wat σ))) i)), (0, .ref h), (1, .int (nI i))]) hx hb dX2_hourOn_223 rfl hl (by decide) rfl (fun ls hl => ?_)
                            refine lv_aload_n hx hb dX2_hourOn_224 rfl (lv_at hl 2 rfl) ?_
                            refine va_get (D := D) (ci := 2) (v := .ref (ad 6)) (C := RX2) (T := TX2) (N := 12) hx hb hts (fun _ h9 => (List.mem_cons_of_mem _ (List.mem_append_right _ h9))) hown hK hP 0 rfl rfl 6 (by decide) (hts (Cond.fieldLink RX2 25 "FloodGridModel" "towns" "[I") (List.mem_of_getElem? (i := 12) rfl)) (fun _ h9 => h9) rfl dX2_hourOn_225 ?_
                            refine lv_iload_n hx hb dX2_hourOn_228 rfl (lv_at hl 3 rfl) ?_
                            refine lv_dup2_11 hx hb dX2_hourOn_229 rfl rfl ?_
                            refine ct_iald (v := (m_peo σ i)) hx hb hK hP 6 0 rfl rfl i rfl (by omega) (by decide) (by rw [hp, q_mix_at]) dX2_hourOn_230 ?_
                            refine lv_iload_n hx hb dX2_hourOn_231 rfl (lv_at hl 0 rfl) ?_
                            refine lv_isub hx hb dX2_hourOn_232 ?_
                            refine ct_iast (g := upd p9 i ((m_peo σ i) - (i_min (m_peo σ i / 3 + 1) (m_peo σ i)))) (ws1 := (mW h ad cI thr hei (upd (upd w i ((q_w2 hei (m_dam σ) (q_w1 rai (m_t σ) (m_wat σ))) i)) i ((q_w3 dra (q_w2 hei (m_dam σ) (q_w1 rai (m_t σ) (m_wat σ)))) i)) d (upd v i ((m_wea σ i) + 1)) dra (upd p9 i ((m_peo σ i) - (i_min (m_peo σ i / 3 + 1) (m_peo σ i)))) rai (q_num (nI (m_t σ)) b1 (b2 + (q_tak dra (q_w2 hei (m_dam σ) (q_w1 rai (m_t σ) (m_wat σ))) i)) b3) (q_gain hei (q_w1 rai (m_t σ) (m_wat σ)) (m_dam σ) (q_cre hei (m_dam σ) (q_w1 rai (m_t σ) (m_wat σ))) 64) lak row)) hx hb hK hP hD hS 6 0 rfl rfl i rfl (by omega) (by decide) rfl rfl dX2_hourOn_233 (fun H locs hP hD hS => ?_)
                            refine lv_aload_n hx hb dX2_hourOn_234 rfl (lv_at hl 2 rfl) ?_
                            refine va_get (D := D) (ci := 2) (v := .ref (ad 8)) (C := RX2) (T := TX2) (N := 12) hx hb hts (fun _ h9 => (List.mem_cons_of_mem _ (List.mem_append_right _ h9))) hown hK hP 0 rfl rfl 8 (by decide) (hts (Cond.fieldLink RX2 31 "FloodGridModel" "numbers" "[I") (List.mem_of_getElem? (i := 3) rfl)) (fun _ h9 => h9) rfl dX2_hourOn_235 ?_
                            refine lv_iconst (v := 3) hx hb dX2_hourOn_238 (by decide) ?_
                            refine lv_dup2_11 hx hb dX2_hourOn_239 rfl rfl ?_
                            refine ct_iald (v := b3) hx hb hK hP 8 0 rfl rfl 3 rfl (by decide) (by decide) rfl dX2_hourOn_240 ?_
                            refine lv_iload_n hx hb dX2_hourOn_241 rfl (lv_at hl 0 rfl) ?_
                            refine lv_iadd hx hb dX2_hourOn_242 ?_
                            refine ct_iast (g := (q_num (nI (m_t σ)) b1 (b2 + (q_tak dra (q_w2 hei (m_dam σ) (q_w1 rai (m_t σ) (m_wat σ))) i)) (b3 + (i_min (m_peo σ i / 3 + 1) (m_peo σ i))))) (ws1 := (mW h ad cI thr hei (upd (upd w i ((q_w2 hei (m_dam σ) (q_w1 rai (m_t σ) (m_wat σ))) i)) i ((q_w3 dra (q_w2 hei (m_dam σ) (q_w1 rai (m_t σ) (m_wat σ)))) i)) d (upd v i ((m_wea σ i) + 1)) dra (upd p9 i ((m_peo σ i) - (i_min (m_peo σ i / 3 + 1) (m_peo σ i)))) rai (q_num (nI (m_t σ)) b1 (b2 + (q_tak dra (q_w2 hei (m_dam σ) (q_w1 rai (m_t σ) (m_wat σ))) i)) (b3 + (i_min (m_peo σ i / 3 + 1) (m_peo σ i)))) (q_gain hei (q_w1 rai (m_t σ) (m_wat σ)) (m_dam σ) (q_cre hei (m_dam σ) (q_w1 rai (m_t σ) (m_wat σ))) 64) lak row)) hx hb hK hP hD hS 8 0 rfl rfl 3 rfl (by decide) (by decide) (q_num_3 _ _ _ _ _) rfl dX2_hourOn_243 (fun H locs hP hD hS => ?_)
                            refine lv_iinc (v := (nI (i + 1))) (lv' := [(1, .int (nI (i + 1))), (3, .int (i_min (m_peo σ i / 3 + 1) (m_peo σ i))), (2, .int (q_tak dra (q_w2 hei (m_dam σ) (q_w1 rai (m_t σ) (m_wat σ))) i)), (0, .ref h)]) hx hb dX2_hourOn_244 hl (k := 3) rfl (nI_1 i) (by decide) rfl (fun ls hl => ?_)
                            refine lv_goto (tgt := 65) hx hb dX2_hourOn_247 (by decide) ?_
                            exact ih (i + 1) (by omega) (upd (upd w i ((q_w2 hei (m_dam σ) (q_w1 rai (m_t σ) (m_wat σ))) i)) i ((q_w3 dra (q_w2 hei (m_dam σ) (q_w1 rai (m_t σ) (m_wat σ)))) i)) d (upd v i (m_wea σ i + 1)) (upd p9 i (m_peo σ i - (i_min (m_peo σ i / 3 + 1) (m_peo σ i)))) b1 (b2 + q_tak dra (q_w2 hei (m_dam σ) (q_w1 rai (m_t σ) (m_wat σ))) i) (b3 + (i_min (m_peo σ i / 3 + 1) (m_peo σ i))) H locs ls (by rw [hw0, upd_twice]; exact q_mix_up rfl) (by rw [hd]; exact q_mix_same (by simp only [q_dam]; rw [if_neg (fun z => h10 z.2.2)])) (by rw [hv]; exact q_mix_up (by simp only [q_wea]; rw [if_pos h3d, if_neg h10])) (by rw [hp]; exact q_mix_up (by simp only [q_peo]; rw [if_pos h3])) (by rw [hb1]; exact q_sum_no _ _ _ (by simp only [q_brk]; rw [if_neg (fun z => h10 z.2.2)])) (by rw [hb2]; exact q_sum_up _ _ _) (by rw [hb3]; exact q_sum_up' _ _ _ (by simp only [q_lv]; rw [if_pos h3])) hP hD hS (lv_sub hl [3, 0] rfl)
                          · skip
                            refine lv_goto (tgt := 244) hx hb dX2_hourOn_201 (by decide) ?_
                            refine lv_iinc (v := (nI (i + 1))) (lv' := [(1, .int (nI (i + 1))), (2, .int (q_tak dra (q_w2 hei (m_dam σ) (q_w1 rai (m_t σ) (m_wat σ))) i)), (0, .ref h)]) hx hb dX2_hourOn_244 hl (k := 2) rfl (nI_1 i) (by decide) rfl (fun ls hl => ?_)
                            refine lv_goto (tgt := 65) hx hb dX2_hourOn_247 (by decide) ?_
                            exact ih (i + 1) (by omega) (upd (upd w i ((q_w2 hei (m_dam σ) (q_w1 rai (m_t σ) (m_wat σ))) i)) i ((q_w3 dra (q_w2 hei (m_dam σ) (q_w1 rai (m_t σ) (m_wat σ)))) i)) d (upd v i (m_wea σ i + 1)) p9 b1 (b2 + q_tak dra (q_w2 hei (m_dam σ) (q_w1 rai (m_t σ) (m_wat σ))) i) b3 H locs ls (by rw [hw0, upd_twice]; exact q_mix_up rfl) (by rw [hd]; exact q_mix_same (by simp only [q_dam]; rw [if_neg (fun z => h10 z.2.2)])) (by rw [hv]; exact q_mix_up (by simp only [q_wea]; rw [if_pos h3d, if_neg h10])) (by rw [hp]; exact q_mix_same (by simp only [q_peo]; rw [if_neg hc9])) (by rw [hb1]; exact q_sum_no _ _ _ (by simp only [q_brk]; rw [if_neg (fun z => h10 z.2.2)])) (by rw [hb2]; exact q_sum_up _ _ _) (by rw [hb3]; exact q_sum_no _ _ _ (by simp only [q_lv]; rw [if_neg hc9])) hP hD hS (lv_sub hl [2, 0] rfl)
                        · skip
                          have h10 : 10 ≤ m_wea σ i + 1 := (wear10 (hinv i hlt).2).mp hc4
                          refine lv_aload_n hx hb dX2_hourOn_131 rfl (lv_at hl 0 rfl) ?_
                          refine va_get (D := D) (ci := 2) (v := .ref (ad 4)) (C := RX2) (T := TX2) (N := 12) hx hb hts (fun _ h9 => (List.mem_cons_of_mem _ (List.mem_append_right _ h9))) hown hK hP 0 rfl rfl 4 (by decide) (hts (Cond.fieldLink RX2 19 "FloodGridModel" "wear" "[I") (List.mem_of_getElem? (i := 6) rfl)) (fun _ h9 => h9) rfl dX2_hourOn_132 ?_
                          refine lv_iload_n hx hb dX2_hourOn_135 rfl (lv_at hl 1 rfl) ?_
                          refine lv_iconst (v := 0) hx hb dX2_hourOn_136 (by decide) ?_
                          refine ct_iast (g := upd (upd v i ((m_wea σ i) + 1)) i 0) (ws1 := (mW h ad cI thr hei (upd w i ((q_w2 hei (m_dam σ) (q_w1 rai (m_t σ) (m_wat σ))) i)) d (upd (upd v i ((m_wea σ i) + 1)) i 0) dra p9 rai (q_num (nI (m_t σ)) b1 b2 b3) (q_gain hei (q_w1 rai (m_t σ) (m_wat σ)) (m_dam σ) (q_cre hei (m_dam σ) (q_w1 rai (m_t σ) (m_wat σ))) 64) lak row)) hx hb hK hP hD hS 4 0 rfl rfl i rfl (by omega) (by decide) rfl rfl dX2_hourOn_137 (fun H locs hP hD hS => ?_)
                          refine lv_aload_n hx hb dX2_hourOn_138 rfl (lv_at hl 0 rfl) ?_
                          refine va_get (D := D) (ci := 2) (v := .ref (ad 3)) (C := RX2) (T := TX2) (N := 12) hx hb hts (fun _ h9 => (List.mem_cons_of_mem _ (List.mem_append_right _ h9))) hown hK hP 0 rfl rfl 3 (by decide) (hts (Cond.fieldLink RX2 16 "FloodGridModel" "dams" "[I") (List.mem_of_getElem? (i := 5) rfl)) (fun _ h9 => h9) rfl dX2_hourOn_139 ?_
                          refine lv_iload_n hx hb dX2_hourOn_142 rfl (lv_at hl 1 rfl) ?_
                          refine lv_iconst (v := 0) hx hb dX2_hourOn_143 (by decide) ?_
                          refine ct_iast (g := upd d i 0) (ws1 := (mW h ad cI thr hei (upd w i ((q_w2 hei (m_dam σ) (q_w1 rai (m_t σ) (m_wat σ))) i)) (upd d i 0) (upd (upd v i ((m_wea σ i) + 1)) i 0) dra p9 rai (q_num (nI (m_t σ)) b1 b2 b3) (q_gain hei (q_w1 rai (m_t σ) (m_wat σ)) (m_dam σ) (q_cre hei (m_dam σ) (q_w1 rai (m_t σ) (m_wat σ))) 64) lak row)) hx hb hK hP hD hS 3 0 rfl rfl i rfl (by omega) (by decide) rfl rfl dX2_hourOn_144 (fun H locs hP hD hS => ?_)
                          refine lv_aload_n hx hb dX2_hourOn_145 rfl (lv_at hl 0 rfl) ?_
                          refine va_get (D := D) (ci := 2) (v := .ref (ad 8)) (C := RX2) (T := TX2) (N := 12) hx hb hts (fun _ h9 => (List.mem_cons_of_mem _ (List.mem_append_right _ h9))) hown hK hP 0 rfl rfl 8 (by decide) (hts (Cond.fieldLink RX2 31 "FloodGridModel" "numbers" "[I") (List.mem_of_getElem? (i := 3) rfl)) (fun _ h9 => h9) rfl dX2_hourOn_146 ?_
                          refine lv_iconst (v := 1) hx hb dX2_hourOn_149 (by decide) ?_
                          refine lv_dup2_11 hx hb dX2_hourOn_150 rfl rfl ?_
                          refine ct_iald (v := b1) hx hb hK hP 8 0 rfl rfl 1 rfl (by decide) (by decide) rfl dX2_hourOn_151 ?_
                          refine lv_iconst (v := 1) hx hb dX2_hourOn_152 (by decide) ?_
                          refine lv_iadd hx hb dX2_hourOn_153 ?_
                          refine ct_iast (g := (q_num (nI (m_t σ)) (b1 + 1) b2 b3)) (ws1 := (mW h ad cI thr hei (upd w i ((q_w2 hei (m_dam σ) (q_w1 rai (m_t σ) (m_wat σ))) i)) (upd d i 0) (upd (upd v i ((m_wea σ i) + 1)) i 0) dra p9 rai (q_num (nI (m_t σ)) (b1 + 1) b2 b3) (q_gain hei (q_w1 rai (m_t σ) (m_wat σ)) (m_dam σ) (q_cre hei (m_dam σ) (q_w1 rai (m_t σ) (m_wat σ))) 64) lak row)) hx hb hK hP hD hS 8 0 rfl rfl 1 rfl (by decide) (by decide) (q_num_1 _ _ _ _ _) rfl dX2_hourOn_154 (fun H locs hP hD hS => ?_)
                          refine lv_aload_n hx hb dX2_hourOn_155 rfl (lv_at hl 0 rfl) ?_
                          refine va_get (D := D) (ci := 2) (v := .ref (ad 5)) (C := RX2) (T := TX2) (N := 12) hx hb hts (fun _ h9 => (List.mem_cons_of_mem _ (List.mem_append_right _ h9))) hown hK hP 0 rfl rfl 5 (by decide) (hts (Cond.fieldLink RX2 22 "FloodGridModel" "drains" "[I") (List.mem_of_getElem? (i := 7) rfl)) (fun _ h9 => h9) rfl dX2_hourOn_156 ?_
                          refine lv_iload_n hx hb dX2_hourOn_159 rfl (lv_at hl 1 rfl) ?_
                          refine ct_iald (v := dra i) hx hb hK hP 5 0 rfl rfl i rfl (by omega) (by decide) rfl dX2_hourOn_160 ?_
                          refine lv_aload_n hx hb dX2_hourOn_161 rfl (lv_at hl 0 rfl) ?_
                          refine va_get (D := D) (ci := 2) (v := .ref (ad 2)) (C := RX2) (T := TX2) (N := 12) hx hb hts (fun _ h9 => (List.mem_cons_of_mem _ (List.mem_append_right _ h9))) hown hK hP 0 rfl rfl 2 (by decide) (hts (Cond.fieldLink RX2 13 "FloodGridModel" "water" "[I") (List.mem_of_getElem? (i := 1) rfl)) (fun _ h9 => h9) rfl dX2_hourOn_162 ?_
                          refine lv_iload_n hx hb dX2_hourOn_165 rfl (lv_at hl 1 rfl) ?_
                          refine ct_iald (v := ((q_w2 hei (m_dam σ) (q_w1 rai (m_t σ) (m_wat σ))) i)) hx hb hK hP 2 0 rfl rfl i rfl (by omega) (by decide) pk_us dX2_hourOn_166 ?_
                          refine ct_mmin (v := (q_tak dra (q_w2 hei (m_dam σ) (q_w1 rai (m_t σ) (m_wat σ))) i)) hx hb (hml.trans hl.1.symm) hown (hts (Cond.methodLink RX2 98 Lib.Math.min.name) (List.mem_of_getElem? (i := 8) rfl)) (hts (Cond.static Lib.Math.min.name) (List.mem_of_getElem? (i := 9) rfl)) (hts (Cond.initialized "java/lang/Math") (List.mem_of_getElem? (i := 10) rfl)) (hts (Cond.code Lib.Math.min.name Lib.Math.min.code 2 (some .int)) (List.mem_of_getElem? (i := 11) rfl)) (Nat.le_of_ble_eq_true rfl) (Nat.le_of_ble_eq_true rfl) (Nat.le_of_ble_eq_true rfl) (Nat.le_of_ble_eq_true rfl) rfl dX2_hourOn_167 ?_
                          refine lv_istore_n (lv' := [(2, .int (q_tak dra (q_w2 hei (m_dam σ) (q_w1 rai (m_t σ) (m_wat σ))) i)), (0, .ref h), (1, .int (nI i))]) hx hb dX2_hourOn_170 rfl hl (by decide) rfl (fun ls hl => ?_)
                          refine lv_aload_n hx hb dX2_hourOn_171 rfl (lv_at hl 1 rfl) ?_
                          refine va_get (D := D) (ci := 2) (v := .ref (ad 2)) (C := RX2) (T := TX2) (N := 12) hx hb hts (fun _ h9 => (List.mem_cons_of_mem _ (List.mem_append_right _ h9))) hown hK hP 0 rfl rfl 2 (by decide) (hts (Cond.fieldLink RX2 13 "FloodGridModel" "water" "[I") (List.mem_of_getElem? (i := 1) rfl)) (fun _ h9 => h9) rfl dX2_hourOn_172 ?_
                          refine lv_iload_n hx hb dX2_hourOn_175 rfl (lv_at hl 2 rfl) ?_
                          refine lv_dup2_11 hx hb dX2_hourOn_176 rfl rfl ?_
                          refine ct_iald (v := ((q_w2 hei (m_dam σ) (q_w1 rai (m_t σ) (m_wat σ))) i)) hx hb hK hP 2 0 rfl rfl i rfl (by omega) (by decide) pk_us dX2_hourOn_177 ?_
                          refine lv_iload_n hx hb dX2_hourOn_178 rfl (lv_at hl 0 rfl) ?_
                          refine lv_isub hx hb dX2_hourOn_179 ?_
                          refine ct_top (y := ((q_w3 dra (q_w2 hei (m_dam σ) (q_w1 rai (m_t σ) (m_wat σ)))) i)) rfl ?_
                          refine ct_iast (g := upd (upd w i ((q_w2 hei (m_dam σ) (q_w1 rai (m_t σ) (m_wat σ))) i)) i ((q_w3 dra (q_w2 hei (m_dam σ) (q_w1 rai (m_t σ) (m_wat σ)))) i)) (ws1 := (mW h ad cI thr hei (upd (upd w i ((q_w2 hei (m_dam σ) (q_w1 rai (m_t σ) (m_wat σ))) i)) i ((q_w3 dra (q_w2 hei (m_dam σ) (q_w1 rai (m_t σ) (m_wat σ)))) i)) (upd d i 0) (upd (upd v i ((m_wea σ i) + 1)) i 0) dra p9 rai (q_num (nI (m_t σ)) (b1 + 1) b2 b3) (q_gain hei (q_w1 rai (m_t σ) (m_wat σ)) (m_dam σ) (q_cre hei (m_dam σ) (q_w1 rai (m_t σ) (m_wat σ))) 64) lak row)) hx hb hK hP hD hS 2 0 rfl rfl i rfl (by omega) (by decide) rfl rfl dX2_hourOn_180 (fun H locs hP hD hS => ?_)
                          refine lv_aload_n hx hb dX2_hourOn_181 rfl (lv_at hl 1 rfl) ?_
                          refine va_get (D := D) (ci := 2) (v := .ref (ad 8)) (C := RX2) (T := TX2) (N := 12) hx hb hts (fun _ h9 => (List.mem_cons_of_mem _ (List.mem_append_right _ h9))) hown hK hP 0 rfl rfl 8 (by decide) (hts (Cond.fieldLink RX2 31 "FloodGridModel" "numbers" "[I") (List.mem_of_getElem? (i := 3) rfl)) (fun _ h9 => h9) rfl dX2_hourOn_182 ?_
                          refine lv_iconst (v := 2) hx hb dX2_hourOn_185 (by decide) ?_
                          refine lv_dup2_11 hx hb dX2_hourOn_186 rfl rfl ?_
                          refine ct_iald (v := b2) hx hb hK hP 8 0 rfl rfl 2 rfl (by decide) (by decide) rfl dX2_hourOn_187 ?_
                          refine lv_iload_n hx hb dX2_hourOn_188 rfl (lv_at hl 0 rfl) ?_
                          refine lv_iadd hx hb dX2_hourOn_189 ?_
                          refine ct_iast (g := (q_num (nI (m_t σ)) (b1 + 1) (b2 + (q_tak dra (q_w2 hei (m_dam σ) (q_w1 rai (m_t σ) (m_wat σ))) i)) b3)) (ws1 := (mW h ad cI thr hei (upd (upd w i ((q_w2 hei (m_dam σ) (q_w1 rai (m_t σ) (m_wat σ))) i)) i ((q_w3 dra (q_w2 hei (m_dam σ) (q_w1 rai (m_t σ) (m_wat σ)))) i)) (upd d i 0) (upd (upd v i ((m_wea σ i) + 1)) i 0) dra p9 rai (q_num (nI (m_t σ)) (b1 + 1) (b2 + (q_tak dra (q_w2 hei (m_dam σ) (q_w1 rai (m_t σ) (m_wat σ))) i)) b3) (q_gain hei (q_w1 rai (m_t σ) (m_wat σ)) (m_dam σ) (q_cre hei (m_dam σ) (q_w1 rai (m_t σ) (m_wat σ))) 64) lak row)) hx hb hK hP hD hS 8 0 rfl rfl 2 rfl (by decide) (by decide) (q_num_2 _ _ _ _ _) rfl dX2_hourOn_190 (fun H locs hP hD hS => ?_)
                          refine lv_aload_n hx hb dX2_hourOn_191 rfl (lv_at hl 1 rfl) ?_
                          refine va_get (D := D) (ci := 2) (v := .ref (ad 2)) (C := RX2) (T := TX2) (N := 12) hx hb hts (fun _ h9 => (List.mem_cons_of_mem _ (List.mem_append_right _ h9))) hown hK hP 0 rfl rfl 2 (by decide) (hts (Cond.fieldLink RX2 13 "FloodGridModel" "water" "[I") (List.mem_of_getElem? (i := 1) rfl)) (fun _ h9 => h9) rfl dX2_hourOn_192 ?_
                          refine lv_iload_n hx hb dX2_hourOn_195 rfl (lv_at hl 2 rfl) ?_
                          refine ct_iald (v := ((q_w3 dra (q_w2 hei (m_dam σ) (q_w1 rai (m_t σ) (m_wat σ)))) i)) hx hb hK hP 2 0 rfl rfl i rfl (by omega) (by decide) pk_us dX2_hourOn_196 ?_
                          refine lv_iconst (v := 3) hx hb dX2_hourOn_197 (by decide) ?_
                          refine lv_icmp_ge (tgt := 204) hx hb dX2_hourOn_198 (by decide) (fun hc9 => ?_) (fun hc9 => ?_)
                          · skip
                            refine lv_aload_n hx hb dX2_hourOn_204 rfl (lv_at hl 1 rfl) ?_
                            refine va_get (D := D) (ci := 2) (v := .ref (ad 6)) (C := RX2) (T := TX2) (N := 12) hx hb hts (fun _ h9 => (List.mem_cons_of_mem _ (List.mem_append_right _ h9))) hown hK hP 0 rfl rfl 6 (by decide) (hts (Cond.fieldLink RX2 25 "FloodGridModel" "towns" "[I") (List.mem_of_getElem? (i := 12) rfl)) (fun _ h9 => h9) rfl dX2_hourOn_205 ?_
                            refine lv_iload_n hx hb dX2_hourOn_208 rfl (lv_at hl 2 rfl) ?_
                            refine ct_iald (v := (m_peo σ i)) hx hb hK hP 6 0 rfl rfl i rfl (by omega) (by decide) (by rw [hp, q_mix_at]) dX2_hourOn_209 ?_
                            refine lv_aload_n hx hb dX2_hourOn_210 rfl (lv_at hl 1 rfl) ?_
                            refine va_get (D := D) (ci := 2) (v := .ref (ad 6)) (C := RX2) (T := TX2) (N := 12) hx hb hts (fun _ h9 => (List.mem_cons_of_mem _ (List.mem_append_right _ h9))) hown hK hP 0 rfl rfl 6 (by decide) (hts (Cond.fieldLink RX2 25 "FloodGridModel" "towns" "[I") (List.mem_of_getElem? (i := 12) rfl)) (fun _ h9 => h9) rfl dX2_hourOn_211 ?_
                            refine lv_iload_n hx hb dX2_hourOn_214 rfl (lv_at hl 2 rfl) ?_
                            refine ct_iald (v := (m_peo σ i)) hx hb hK hP 6 0 rfl rfl i rfl (by omega) (by decide) (by rw [hp, q_mix_at]) dX2_hourOn_215 ?_
                            refine lv_iconst (v := 3) hx hb dX2_hourOn_216 (by decide) ?_
                            refine lv_idiv hx hb dX2_hourOn_217 (by decide) ?_
                            refine lv_iconst (v := 1) hx hb dX2_hourOn_218 (by decide) ?_
                            refine lv_iadd hx hb dX2_hourOn_219 ?_
                            refine ct_mmin (v := (i_min (m_peo σ i) (((m_peo σ i) / 3) + 1))) hx hb (hml.trans hl.1.symm) hown (hts (Cond.methodLink RX2 98 Lib.Math.min.name) (List.mem_of_getElem? (i := 8) rfl)) (hts (Cond.static Lib.Math.min.name) (List.mem_of_getElem? (i := 9) rfl)) (hts (Cond.initialized "java/lang/Math") (List.mem_of_getElem? (i := 10) rfl)) (hts (Cond.code Lib.Math.min.name Lib.Math.min.code 2 (some .int)) (List.mem_of_getElem? (i := 11) rfl)) (Nat.le_of_ble_eq_true rfl) (Nat.le_of_ble_eq_true rfl) (Nat.le_of_ble_eq_true rfl) (Nat.le_of_ble_eq_true rfl) rfl dX2_hourOn_220 ?_
                            refine ct_top (y := (i_min (m_peo σ i / 3 + 1) (m_peo σ i))) (i_min_comm _ _) ?_
                            have h3 : 3 ≤ (q_w3 dra (q_w2 hei (m_dam σ) (q_w1 rai (m_t σ) (m_wat σ)))) i := hc9
                            refine lv_istore_n (lv' := [(3, .int (i_min (m_peo σ i / 3 + 1) (m_peo σ i))), (2, .int (q_tak dra (q_w2 hei (m_dam σ) (q_w1 rai (m_t σ) (m_wat σ))) i)), (0, .ref h), (1, .int (nI i))]) hx hb dX2_hourOn_223 rfl hl (by decide) rfl (fun ls hl => ?_)
                            refine lv_aload_n hx hb dX2_hourOn_224 rfl (lv_at hl 2 rfl) ?_
                            refine va_get (D := D) (ci := 2) (v := .ref (ad 6)) (C := RX2) (T := TX2) (N := 12) hx hb hts (fun _ h9 => (List.mem_cons_of_mem _ (List.mem_append_right _ h9))) hown hK hP 0 rfl rfl 6 (by decide) (hts (Cond.fieldLink RX2 25 "FloodGridModel" "towns" "[I") (List.mem_of_getElem? (i := 12) rfl)) (fun _ h9 => h9) rfl dX2_hourOn_225 ?_
                            refine lv_iload_n hx hb dX2_hourOn_228 rfl (lv_at hl 3 rfl) ?_
                            refine lv_dup2_11 hx hb dX2_hourOn_229 rfl rfl ?_
                            refine ct_iald (v := (m_peo σ i)) hx hb hK hP 6 0 rfl rfl i rfl (by omega) (by decide) (by rw [hp, q_mix_at]) dX2_hourOn_230 ?_
                            refine lv_iload_n hx hb dX2_hourOn_231 rfl (lv_at hl 0 rfl) ?_
                            refine lv_isub hx hb dX2_hourOn_232 ?_
                            refine ct_iast (g := upd p9 i ((m_peo σ i) - (i_min (m_peo σ i / 3 + 1) (m_peo σ i)))) (ws1 := (mW h ad cI thr hei (upd (upd w i ((q_w2 hei (m_dam σ) (q_w1 rai (m_t σ) (m_wat σ))) i)) i ((q_w3 dra (q_w2 hei (m_dam σ) (q_w1 rai (m_t σ) (m_wat σ)))) i)) (upd d i 0) (upd (upd v i ((m_wea σ i) + 1)) i 0) dra (upd p9 i ((m_peo σ i) - (i_min (m_peo σ i / 3 + 1) (m_peo σ i)))) rai (q_num (nI (m_t σ)) (b1 + 1) (b2 + (q_tak dra (q_w2 hei (m_dam σ) (q_w1 rai (m_t σ) (m_wat σ))) i)) b3) (q_gain hei (q_w1 rai (m_t σ) (m_wat σ)) (m_dam σ) (q_cre hei (m_dam σ) (q_w1 rai (m_t σ) (m_wat σ))) 64) lak row)) hx hb hK hP hD hS 6 0 rfl rfl i rfl (by omega) (by decide) rfl rfl dX2_hourOn_233 (fun H locs hP hD hS => ?_)
                            refine lv_aload_n hx hb dX2_hourOn_234 rfl (lv_at hl 2 rfl) ?_
                            refine va_get (D := D) (ci := 2) (v := .ref (ad 8)) (C := RX2) (T := TX2) (N := 12) hx hb hts (fun _ h9 => (List.mem_cons_of_mem _ (List.mem_append_right _ h9))) hown hK hP 0 rfl rfl 8 (by decide) (hts (Cond.fieldLink RX2 31 "FloodGridModel" "numbers" "[I") (List.mem_of_getElem? (i := 3) rfl)) (fun _ h9 => h9) rfl dX2_hourOn_235 ?_
                            refine lv_iconst (v := 3) hx hb dX2_hourOn_238 (by decide) ?_
                            refine lv_dup2_11 hx hb dX2_hourOn_239 rfl rfl ?_
                            refine ct_iald (v := b3) hx hb hK hP 8 0 rfl rfl 3 rfl (by decide) (by decide) rfl dX2_hourOn_240 ?_
                            refine lv_iload_n hx hb dX2_hourOn_241 rfl (lv_at hl 0 rfl) ?_
                            refine lv_iadd hx hb dX2_hourOn_242 ?_
                            refine ct_iast (g := (q_num (nI (m_t σ)) (b1 + 1) (b2 + (q_tak dra (q_w2 hei (m_dam σ) (q_w1 rai (m_t σ) (m_wat σ))) i)) (b3 + (i_min (m_peo σ i / 3 + 1) (m_peo σ i))))) (ws1 := (mW h ad cI thr hei (upd (upd w i ((q_w2 hei (m_dam σ) (q_w1 rai (m_t σ) (m_wat σ))) i)) i ((q_w3 dra (q_w2 hei (m_dam σ) (q_w1 rai (m_t σ) (m_wat σ)))) i)) (upd d i 0) (upd (upd v i ((m_wea σ i) + 1)) i 0) dra (upd p9 i ((m_peo σ i) - (i_min (m_peo σ i / 3 + 1) (m_peo σ i)))) rai (q_num (nI (m_t σ)) (b1 + 1) (b2 + (q_tak dra (q_w2 hei (m_dam σ) (q_w1 rai (m_t σ) (m_wat σ))) i)) (b3 + (i_min (m_peo σ i / 3 + 1) (m_peo σ i)))) (q_gain hei (q_w1 rai (m_t σ) (m_wat σ)) (m_dam σ) (q_cre hei (m_dam σ) (q_w1 rai (m_t σ) (m_wat σ))) 64) lak row)) hx hb hK hP hD hS 8 0 rfl rfl 3 rfl (by decide) (by decide) (q_num_3 _ _ _ _ _) rfl dX2_hourOn_243 (fun H locs hP hD hS => ?_)
                            refine lv_iinc (v := (nI (i + 1))) (lv' := [(1, .int (nI (i + 1))), (3, .int (i_min (m_peo σ i / 3 + 1) (m_peo σ i))), (2, .int (q_tak dra (q_w2 hei (m_dam σ) (q_w1 rai (m_t σ) (m_wat σ))) i)), (0, .ref h)]) hx hb dX2_hourOn_244 hl (k := 3) rfl (nI_1 i) (by decide) rfl (fun ls hl => ?_)
                            refine lv_goto (tgt := 65) hx hb dX2_hourOn_247 (by decide) ?_
                            exact ih (i + 1) (by omega) (upd (upd w i ((q_w2 hei (m_dam σ) (q_w1 rai (m_t σ) (m_wat σ))) i)) i ((q_w3 dra (q_w2 hei (m_dam σ) (q_w1 rai (m_t σ) (m_wat σ)))) i)) (upd d i 0) (upd (upd v i (m_wea σ i + 1)) i 0) (upd p9 i (m_peo σ i - (i_min (m_peo σ i / 3 + 1) (m_peo σ i)))) (b1 + 1) (b2 + q_tak dra (q_w2 hei (m_dam σ) (q_w1 rai (m_t σ) (m_wat σ))) i) (b3 + (i_min (m_peo σ i / 3 + 1) (m_peo σ i))) H locs ls (by rw [hw0, upd_twice]; exact q_mix_up rfl) (by rw [hd]; exact q_mix_up (by simp only [q_dam]; rw [if_pos ⟨h3d.1, h3d.2, h10⟩])) (by rw [hv, upd_twice]; exact q_mix_up (by simp only [q_wea]; rw [if_pos h3d, if_pos h10])) (by rw [hp]; exact q_mix_up (by simp only [q_peo]; rw [if_pos h3])) (by rw [hb1]; exact q_sum_up' _ _ _ (by simp only [q_brk]; rw [if_pos ⟨h3d.1, h3d.2, h10⟩])) (by rw [hb2]; exact q_sum_up _ _ _) (by rw [hb3]; exact q_sum_up' _ _ _ (by simp only [q_lv]; rw [if_pos h3])) hP hD hS (lv_sub hl [3, 0] rfl)
                          · skip
                            refine lv_goto (tgt := 244) hx hb dX2_hourOn_201 (by decide) ?_
                            refine lv_iinc (v := (nI (i + 1))) (lv' := [(1, .int (nI (i + 1))), (2, .int (q_tak dra (q_w2 hei (m_dam σ) (q_w1 rai (m_t σ) (m_wat σ))) i)), (0, .ref h)]) hx hb dX2_hourOn_244 hl (k := 2) rfl (nI_1 i) (by decide) rfl (fun ls hl => ?_)
                            refine lv_goto (tgt := 65) hx hb dX2_hourOn_247 (by decide) ?_
                            exact ih (i + 1) (by omega) (upd (upd w i ((q_w2 hei (m_dam σ) (q_w1 rai (m_t σ) (m_wat σ))) i)) i ((q_w3 dra (q_w2 hei (m_dam σ) (q_w1 rai (m_t σ) (m_wat σ)))) i)) (upd d i 0) (upd (upd v i (m_wea σ i + 1)) i 0) p9 (b1 + 1) (b2 + q_tak dra (q_w2 hei (m_dam σ) (q_w1 rai (m_t σ) (m_wat σ))) i) b3 H locs ls (by rw [hw0, upd_twice]; exact q_mix_up rfl) (by rw [hd]; exact q_mix_up (by simp only [q_dam]; rw [if_pos ⟨h3d.1, h3d.2, h10⟩])) (by rw [hv, upd_twice]; exact q_mix_up (by simp only [q_wea]; rw [if_pos h3d, if_pos h10])) (by rw [hp]; exact q_mix_same (by simp only [q_peo]; rw [if_neg hc9])) (by rw [hb1]; exact q_sum_up' _ _ _ (by simp only [q_brk]; rw [if_pos ⟨h3d.1, h3d.2, h10⟩])) (by rw [hb2]; exact q_sum_up _ _ _) (by rw [hb3]; exact q_sum_no _ _ _ (by simp only [q_lv]; rw [if_neg hc9])) hP hD hS (lv_sub hl [2, 0] rfl)
              exact loop3 64 0 (by omega) (q_w1 rai (m_t σ) (m_wat σ)) (m_dam σ) (m_wea σ) (m_peo σ) (m_bro σ) (m_drd σ) (m_lef σ) H locs ls (q_mix_0 _ _).symm (q_mix_0 _ _).symm (q_mix_0 _ _).symm (q_mix_0 _ _).symm (Int32.add_zero _).symm (Int32.add_zero _).symm (Int32.add_zero _).symm hP hD hS (lv_sub hl [1, 0] rfl)
            · skip
              exact absurd (show (64 : Int32) ≤ nI 64 by decide) hc
          | succ fu ih =>
            intro i hi f2 H locs ls hf2 hP hD hS hl
            have hlt : i < 64 := by omega
            refine lv_iload_n hx hb dX2_hourOn_46 rfl (lv_at hl 1 rfl) ?_
            refine lv_bipush (v := 64) hx hb dX2_hourOn_47 (by decide) ?_
            refine lv_icmp_ge (tgt := 63) hx hb dX2_hourOn_49 (by decide) (fun hc => ?_) (fun hc => ?_)
            · skip
              exact absurd hc (nI_ge (b := 64) hlt (by decide))
            · skip
              refine lv_aload_n hx hb dX2_hourOn_52 rfl (lv_at hl 0 rfl) ?_
              refine lv_iload_n hx hb dX2_hourOn_53 rfl (lv_at hl 1 rfl) ?_
              refine ct_Vv (As := [.int (nI i)]) (rest := []) (wr := []) (W1 := fun u => (mW h ad cI thr hei (q_w1 rai (m_t σ) (m_wat σ)) (m_dam σ) (m_wea σ) dra (m_peo σ) rai (q_num (nI (m_t σ)) (m_bro σ) (m_drd σ) (m_lef σ)) (if m_dam σ i < (q_w1 rai (m_t σ) (m_wat σ)) i then q_give hei (q_w1 rai (m_t σ) (m_wat σ)) (m_dam σ) (q_cre hei (m_dam σ) (q_w1 rai (m_t σ) (m_wat σ))) i (q_low (q_cre hei (m_dam σ) (q_w1 rai (m_t σ) (m_wat σ))) i 4) f2 else f2) lak row)) (cells1 := 0) (slots1 := 0) ⟨hx, hb, hml, hown, hts⟩ (c_X2_run l D cI h ad thr hei (q_w1 rai (m_t σ) (m_wat σ)) (m_dam σ) (m_wea σ) dra (m_peo σ) rai (q_num (nI (m_t σ)) (m_bro σ) (m_drd σ) (m_lef σ)) f2 lak row i hlt (hinv i hlt).1) (cwV 1 hts gX2_hourOn_X2_run rfl rfl rfl (by decide +kernel) ⟨Nat.le_of_ble_eq_true rfl, Nat.le_of_ble_eq_true rfl⟩) hK hP hD hS hA [0, 1, 2, 3, 4, 5, 6, 7, 8, 9, 10, 11] [] ⟨rfl, rfl, rfl, rfl, rfl⟩ [0, 1, 2, 3, 4, 5, 6, 7, 8, 9, 10, 11] rfl (fun _ => rfl) [0] rfl (va_recv hK hP (ci := 2) (q0 := 0) rfl rfl) rfl hl.1 rfl (Nat.le_of_ble_eq_true rfl) rfl rfl ⟨(Nat.le_of_ble_eq_true rfl), (Nat.le_of_ble_eq_true rfl)⟩ dX2_hourOn_54 (fun u H locs hw hP hD hS => ?_)
              refine lv_iinc (v := (nI (i + 1))) (lv' := [(1, .int (nI (i + 1))), (0, .ref h)]) hx hb dX2_hourOn_57 hl (k := 1) rfl (nI_1 i) (by decide) rfl (fun ls hl => ?_)
              refine lv_goto (tgt := 46) hx hb dX2_hourOn_60 (by decide) ?_
              exact ih (i + 1) (by omega) (if m_dam σ i < (q_w1 rai (m_t σ) (m_wat σ)) i then q_give hei (q_w1 rai (m_t σ) (m_wat σ)) (m_dam σ) (q_cre hei (m_dam σ) (q_w1 rai (m_t σ) (m_wat σ))) i (q_low (q_cre hei (m_dam σ) (q_w1 rai (m_t σ) (m_wat σ))) i 4) f2 else f2) H locs ls (by rw [hf2]; simp only [q_gain]) hP hD hS (lv_sub hl [1, 0] rfl)
        exact loop2 64 0 (by omega) (fun _ => 0) H locs ls rfl hP hD hS (lv_sub hl [1, 0] rfl)
      · skip
        exact absurd (show (64 : Int32) ≤ nI 64 by decide) hc
    | succ fu ih =>
      intro i hi g f1 H locs ls hg hf1 hP hD hS hl
      have hlt : i < 64 := by omega
      refine lv_iload_n hx hb dX2_hourOn_2 rfl (lv_at hl 1 rfl) ?_
      refine lv_bipush (v := 64) hx hb dX2_hourOn_3 (by decide) ?_
      refine lv_icmp_ge (tgt := 44) hx hb dX2_hourOn_5 (by decide) (fun hc => ?_) (fun hc => ?_)
      · skip
        exact absurd hc (nI_ge (b := 64) hlt (by decide))
      · skip
        refine lv_aload_n hx hb dX2_hourOn_8 rfl (lv_at hl 0 rfl) ?_
        refine va_get (D := D) (ci := 2) (v := .ref (ad 2)) (C := RX2) (T := TX2) (N := 12) hx hb hts (fun _ h9 => (List.mem_cons_of_mem _ (List.mem_append_right _ h9))) hown hK hP 0 rfl rfl 2 (by decide) (hts (Cond.fieldLink RX2 13 "FloodGridModel" "water" "[I") (List.mem_of_getElem? (i := 1) rfl)) (fun _ h9 => h9) rfl dX2_hourOn_9 ?_
        refine lv_iload_n hx hb dX2_hourOn_12 rfl (lv_at hl 1 rfl) ?_
        refine lv_dup2_11 hx hb dX2_hourOn_13 rfl rfl ?_
        refine ct_iald (v := (m_wat σ i)) hx hb hK hP 2 0 rfl rfl i rfl (by omega) (by decide) (by rw [hg, q_mix_at]) dX2_hourOn_14 ?_
        refine lv_aload_n hx hb dX2_hourOn_15 rfl (lv_at hl 0 rfl) ?_
        refine va_get (D := D) (ci := 2) (v := .ref (ad 7)) (C := RX2) (T := TX2) (N := 12) hx hb hts (fun _ h9 => (List.mem_cons_of_mem _ (List.mem_append_right _ h9))) hown hK hP 0 rfl rfl 7 (by decide) (hts (Cond.fieldLink RX2 28 "FloodGridModel" "table" "[I") (List.mem_of_getElem? (i := 2) rfl)) (fun _ h9 => h9) rfl dX2_hourOn_16 ?_
        refine lv_aload_n hx hb dX2_hourOn_19 rfl (lv_at hl 0 rfl) ?_
        refine va_get (D := D) (ci := 2) (v := .ref (ad 8)) (C := RX2) (T := TX2) (N := 12) hx hb hts (fun _ h9 => (List.mem_cons_of_mem _ (List.mem_append_right _ h9))) hown hK hP 0 rfl rfl 8 (by decide) (hts (Cond.fieldLink RX2 31 "FloodGridModel" "numbers" "[I") (List.mem_of_getElem? (i := 3) rfl)) (fun _ h9 => h9) rfl dX2_hourOn_20 ?_
        refine lv_iconst (v := 0) hx hb dX2_hourOn_23 (by decide) ?_
        refine ct_iald (v := (nI (m_t σ))) hx hb hK hP 8 0 rfl rfl 0 rfl (by decide) (by decide) rfl dX2_hourOn_24 ?_
        refine lv_bipush (v := 12) hx hb dX2_hourOn_25 (by decide) ?_
        refine ct_irem hx hb (m_t σ) 12 rfl rfl (by omega) (by decide) (by decide) dX2_hourOn_27 ?_
        refine ct_iald (v := rai ((m_t σ) % 12)) hx hb hK hP 7 0 rfl rfl ((m_t σ) % 12) rfl (by omega) (by decide) rfl dX2_hourOn_28 ?_
        refine lv_iadd hx hb dX2_hourOn_29 ?_
        refine ct_iast (g := upd g i ((m_wat σ i) + (rai ((m_t σ) % 12)))) (ws1 := (mW h ad cI thr hei (upd g i ((m_wat σ i) + (rai ((m_t σ) % 12)))) (m_dam σ) (m_wea σ) dra (m_peo σ) rai (q_num (nI (m_t σ)) (m_bro σ) (m_drd σ) (m_lef σ)) f1 lak row)) hx hb hK hP hD hS 2 0 rfl rfl i rfl (by omega) (by decide) rfl rfl dX2_hourOn_30 (fun H locs hP hD hS => ?_)
        refine lv_aload_n hx hb dX2_hourOn_31 rfl (lv_at hl 0 rfl) ?_
        refine va_get (D := D) (ci := 2) (v := .ref (ad 9)) (C := RX2) (T := TX2) (N := 12) hx hb hts (fun _ h9 => (List.mem_cons_of_mem _ (List.mem_append_right _ h9))) hown hK hP 0 rfl rfl 9 (by decide) (hts (Cond.fieldLink RX2 34 "FloodGridModel" "flow" "[I") (List.mem_of_getElem? (i := 4) rfl)) (fun _ h9 => h9) rfl dX2_hourOn_32 ?_
        refine lv_iload_n hx hb dX2_hourOn_35 rfl (lv_at hl 1 rfl) ?_
        refine lv_iconst (v := 0) hx hb dX2_hourOn_36 (by decide) ?_
        refine ct_iast (g := upd f1 i 0) (ws1 := (mW h ad cI thr hei (upd g i ((m_wat σ i) + (rai ((m_t σ) % 12)))) (m_dam σ) (m_wea σ) dra (m_peo σ) rai (q_num (nI (m_t σ)) (m_bro σ) (m_drd σ) (m_lef σ)) (upd f1 i 0) lak row)) hx hb hK hP hD hS 9 0 rfl rfl i rfl (by omega) (by decide) rfl rfl dX2_hourOn_37 (fun H locs hP hD hS => ?_)
        refine lv_iinc (v := (nI (i + 1))) (lv' := [(1, .int (nI (i + 1))), (0, .ref h)]) hx hb dX2_hourOn_38 hl (k := 1) rfl (nI_1 i) (by decide) rfl (fun ls hl => ?_)
        refine lv_goto (tgt := 2) hx hb dX2_hourOn_41 (by decide) ?_
        exact ih (i + 1) (by omega) (upd g i (m_wat σ i + rai ((m_t σ) % 12))) (upd f1 i 0) H locs ls (by rw [hg]; exact q_mix_up rfl) (by rw [hf1]; exact q_mix_up rfl) hP hD hS (lv_sub hl [1, 0] rfl)
  exact loop 64 0 (by omega) (m_wat σ) flo H locs ls (q_mix_0 _ _).symm (q_mix_0 _ _).symm hP hD hS (lv_sub hl [1, 0] rfl)
abbrev rm_X2_hoursOn : Room := { frames := 4, cells := 0, slots := 0, locals := 89 }
set_option maxHeartbeats 4000000 in
set_option maxRecDepth 100000 in
theorem c_X2_hours (l : Launch) (D : va_G) (cI : ClassId) (h : Nat) (ad : Nat → Nat) (thr : Int32) (hei dra rai : Nat → Int32) (σ : Ms) (flo lak row : Nat → Int32) (n : Nat) (hn : n < 2 ^ 20) (ht : m_t σ + n < 2 ^ 30) (hinv : inv1 σ) : ct_i (S := Nat → Int32) l D yX2_hoursOn wsX2_hoursOn rm_X2_hoursOn [.ref h, .int (nI n)] (mM h ad cI thr hei dra rai σ flo lak row) [(cI, .int)] (fun r _ => r = q_leave hei dra rai n σ) (fun u => (mM h ad cI thr hei dra rai (q_hours hei dra rai n σ) u lak row)) := by
  refine ct_ofi (cc := cX2_hoursOn) (maxL := 4) (by decide) rfl (Nat.le_of_ble_eq_true rfl) ?_
  intro p e s m args below meth c A Q hx hb hml hown hts hin hA hK H locs hP hD hS fin ls hl
  have hown : s.vm.findClass RX2 = some m.cls := hown
  have hl : lv_has ls 4 [(0, .ref h), (1, .int (nI n))] := hl
  refine lv_aload_n hx hb dX2_hoursOn_0 rfl (lv_at hl 0 rfl) ?_
  refine va_get (D := D) (ci := 2) (v := .ref (ad 8)) (C := RX2) (T := TX2) (N := 12) hx hb hts (fun _ h9 => (List.mem_cons_of_mem _ (List.mem_append_right _ h9))) hown hK hP 0 rfl rfl 8 (by decide) (hts (Cond.fieldLink RX2 31 "FloodGridModel" "numbers" "[I") (List.mem_of_getElem? (i := 1) rfl)) (fun _ h9 => h9) rfl dX2_hoursOn_1 ?_
  refine lv_iconst (v := 3) hx hb dX2_hoursOn_4 (by decide) ?_
  refine ct_iald (v := (m_lef σ)) hx hb hK hP 8 0 rfl rfl 3 rfl (by decide) (by decide) rfl dX2_hoursOn_5 ?_
  refine lv_istore_n (lv' := [(2, .int (m_lef σ)), (0, .ref h), (1, .int (nI n))]) hx hb dX2_hoursOn_6 rfl hl (by decide) rfl (fun ls hl => ?_)
  refine lv_iconst (v := 0) hx hb dX2_hoursOn_7 (by decide) ?_
  refine lv_istore_n (lv' := [(3, .int 0), (2, .int (m_lef σ)), (0, .ref h), (1, .int (nI n))]) hx hb dX2_hoursOn_8 rfl hl (by decide) rfl (fun ls hl => ?_)
  have loop : ∀ (fu i : Nat), i + fu = n → ∀ (g1 : Nat → Int32) (H : Heap) (locs : List Loc) (ls : Array Slot), va_P D vwCl (mM h ad cI thr hei dra rai (q_hours hei dra rai i σ) g1 lak row) H → va_D A (mM h ad cI thr hei dra rai (q_hours hei dra rai i σ) g1 lak row) → va_S A s.heap H locs → lv_has ls 4 [(0, .ref h), (1, .int (nI n)), (2, .int (m_lef σ)), (3, .int (nI i))] → W p l e rm_X2_hoursOn s m args below meth c H locs 0 0 Q (F0 m 9 ls []) := by
    intro fu
    induction fu with
    | zero =>
      intro i hi g1 H locs ls  hP hD hS hl
      obtain rfl : n = i := by omega
      refine lv_iload_n hx hb dX2_hoursOn_9 rfl (lv_at hl 3 rfl) ?_
      refine lv_iload_n hx hb dX2_hoursOn_10 rfl (lv_at hl 1 rfl) ?_
      refine lv_icmp_ge (tgt := 24) hx hb dX2_hoursOn_11 (by decide) (fun hc => ?_) (fun hc => ?_)
      · skip
        refine lv_aload_n hx hb dX2_hoursOn_24 rfl (lv_at hl 0 rfl) ?_
        refine va_get (D := D) (ci := 2) (v := .ref (ad 8)) (C := RX2) (T := TX2) (N := 12) hx hb hts (fun _ h9 => (List.mem_cons_of_mem _ (List.mem_append_right _ h9))) hown hK hP 0 rfl rfl 8 (by decide) (hts (Cond.fieldLink RX2 31 "FloodGridModel" "numbers" "[I") (List.mem_of_getElem? (i := 1) rfl)) (fun _ h9 => h9) rfl dX2_hoursOn_25 ?_
        refine lv_iconst (v := 3) hx hb dX2_hoursOn_28 (by decide) ?_
        refine ct_iald (v := (m_lef (q_hours hei dra rai n σ))) hx hb hK hP 8 0 rfl rfl 3 rfl (by decide) (by decide) rfl dX2_hoursOn_29 ?_
        refine lv_iload_n hx hb dX2_hoursOn_30 rfl (lv_at hl 2 rfl) ?_
        refine lv_isub hx hb dX2_hoursOn_31 ?_
        exact fin ((m_lef (q_hours hei dra rai n σ)) - (m_lef σ)) g1 H locs 0 0 32 ls dX2_hoursOn_32 rfl hP hD hS (Nat.le_of_ble_eq_true rfl) (Nat.le_of_ble_eq_true rfl)
      · skip
        exact absurd (Int32.le_refl _) hc
    | succ fu ih =>
      intro i hi g1 H locs ls  hP hD hS hl
      have hlt : i < n := by omega
      refine lv_iload_n hx hb dX2_hoursOn_9 rfl (lv_at hl 3 rfl) ?_
      refine lv_iload_n hx hb dX2_hoursOn_10 rfl (lv_at hl 1 rfl) ?_
      refine lv_icmp_ge (tgt := 24) hx hb dX2_hoursOn_11 (by decide) (fun hc => ?_) (fun hc => ?_)
      · skip
        exact absurd hc (nI_ge hlt (by omega))
      · skip
        refine lv_aload_n hx hb dX2_hoursOn_14 rfl (lv_at hl 0 rfl) ?_
        refine ct_Vv (As := []) (rest := []) (wr := []) (W1 := fun u => (mM h ad cI thr hei dra rai (q_hours hei dra rai (i + 1) σ) u lak row)) (cells1 := 0) (slots1 := 0) ⟨hx, hb, hml, hown, hts⟩ (c_X2_hour l D cI h ad thr hei dra rai (q_hours hei dra rai i σ) g1 lak row (by rw [q_hours_t]; omega) (inv1_hours hinv i)) (cwV 0 hts gX2_hoursOn_X2_hourOn rfl rfl rfl (by decide +kernel) ⟨Nat.le_of_ble_eq_true rfl, Nat.le_of_ble_eq_true rfl⟩) hK hP hD hS hA [0, 1, 2, 3, 4, 5, 6, 7, 8, 9, 10, 11] [] ⟨rfl, rfl, rfl, rfl, rfl⟩ [0, 1, 2, 3, 4, 5, 6, 7, 8, 9, 10, 11] rfl (fun _ => rfl) [0] rfl (va_recv hK hP (ci := 2) (q0 := 0) rfl rfl) rfl hl.1 rfl (Nat.le_of_ble_eq_true rfl) rfl rfl ⟨(Nat.le_of_ble_eq_true rfl), (Nat.le_of_ble_eq_true rfl)⟩ dX2_hoursOn_15 (fun u H locs hw hP hD hS => ?_)
        refine lv_iinc (v := (nI (i + 1))) (lv' := [(3, .int (nI (i + 1))), (0, .ref h), (1, .int (nI n)), (2, .int (m_lef σ))]) hx hb dX2_hoursOn_18 hl (k := 3) rfl (nI_1 i) (by decide) rfl (fun ls hl => ?_)
        refine lv_goto (tgt := 9) hx hb dX2_hoursOn_21 (by decide) ?_
        exact ih (i + 1) (by omega) u H locs ls  hP hD hS (lv_sub hl [1, 2, 3, 0] rfl)
  exact loop n 0 (by omega) flo H locs ls  hP hD hS (lv_sub hl [2, 3, 1, 0] rfl)
