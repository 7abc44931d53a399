abbrev rm_X0_letRainFall : Room := { frames := 1, cells := 0, slots := 0, locals := 22 }
set_option maxHeartbeats 4000000 in
set_option maxRecDepth 100000 in
theorem c_X0_rain (l : Launch) (D : va_G) (cI : ClassId) (h : Nat) (ad : Nat → Nat) (hei wat dam wea dra peo rai : Nat → Int32) (bro drd lef : Int32) (cre gai see fou : Nat → Int32) (t : Nat) (ht : t < 2 ^ 31) : ct_v (S := Unit) l D yX0_letRainFall wsX0_letRainFall rm_X0_letRainFall [.ref h] (pW h ad cI hei wat dam wea dra peo rai (nI t) bro drd lef cre gai see fou) [(cI, .int)] (fun _ => True) (fun _ => (pW h ad cI hei (q_w1 rai t wat) dam wea dra peo rai (nI t) bro drd lef cre gai see fou)) := by
  refine ct_ofv (cc := cX0_letRainFall) (maxL := 3) (by decide) rfl (Nat.le_of_ble_eq_true rfl) ?_
  intro p e s m args below meth c A Q hx hb hml hown hts hin hA hK H locs hP hD hS fin ls hl
  have hown : s.vm.findClass RX0 = some m.cls := hown
  have hl : lv_has ls 3 [(0, .ref h)] := hl
  refine lv_aload_n hx hb dX0_letRainFall_0 rfl (lv_at hl 0 rfl) ?_
  refine va_get (D := D) (ci := 0) (v := .ref (ad 6)) (C := RX0) (T := TX0) (N := 15) hx hb hts (fun _ h9 => (List.mem_cons_of_mem _ (List.mem_append_right _ h9))) hown hK hP 0 rfl rfl 6 (by decide) (hts (Cond.fieldLink RX0 30 "FloodGrid$Plain" "rain" "[I") (List.mem_of_getElem? (i := 1) rfl)) (fun _ h9 => h9) rfl dX0_letRainFall_1 ?_
  refine lv_aload_n hx hb dX0_letRainFall_4 rfl (lv_at hl 0 rfl) ?_
  refine va_get (D := D) (ci := 0) (v := .int (nI t)) (C := RX0) (T := TX0) (N := 15) hx hb hts (fun _ h9 => (List.mem_cons_of_mem _ (List.mem_append_right _ h9))) hown hK hP 0 rfl rfl 7 (by decide) (hts (Cond.fieldLink RX0 57 "FloodGrid$Plain" "hour" "I") (List.mem_of_getElem? (i := 2) rfl)) (fun _ h9 => h9) rfl dX0_letRainFall_5 ?_
  refine lv_bipush (v := 12) hx hb dX0_letRainFall_8 (by decide) ?_
  refine ct_Si (As := [.int (nI t), .int 12]) (rest := [.ref (ad 6)]) (wr := [(h, .inr (0, [.ref (ad 0), .ref (ad 1), .ref (ad 2), .ref (ad 3), .ref (ad 4), .ref (ad 5), .ref (ad 6), .int (nI t), .int bro, .int drd, .int lef, .ref (ad 11), .ref (ad 12), .ref (ad 13), .ref (ad 14)])), ((ad 0), .inl (cI, 64, .inl hei)), ((ad 1), .inl (cI, 64, .inl wat)), ((ad 2), .inl (cI, 64, .inl dam)), ((ad 3), .inl (cI, 64, .inl wea)), ((ad 4), .inl (cI, 64, .inl dra)), ((ad 5), .inl (cI, 64, .inl peo)), ((ad 6), .inl (cI, 12, .inl rai)), ((ad 11), .inl (cI, 64, .inl cre)), ((ad 12), .inl (cI, 64, .inl gai)), ((ad 13), .inl (cI, 64, .inl see)), ((ad 14), .inl (cI, 64, .inl fou))]) (W1 := fun u => (pW h ad cI hei wat dam wea dra peo rai (nI t) bro drd lef cre gai see fou)) (cells1 := 0) (slots1 := 0) ⟨hx, hb, hml, hown, hts⟩ (c_floorMod l D cI t ht) (va_cwS 2 hts gX0_letRainFall_J9_floorMod_7cf53 rfl rfl rfl (by decide +kernel) ⟨Nat.le_of_ble_eq_true rfl, Nat.le_of_ble_eq_true rfl⟩) hK hP hD hS hA [] [0, 1, 2, 3, 4, 5, 6, 7, 8, 9, 10, 11] ⟨rfl, rfl, rfl, rfl, rfl⟩ [0, 1, 2, 3, 4, 5, 6, 7, 8, 9, 10, 11] rfl (fun _ => rfl) [0] rfl rfl hl.1 rfl (Nat.le_of_ble_eq_true rfl) rfl rfl ⟨Nat.le_of_ble_eq_true rfl, Nat.le_of_ble_eq_true rfl⟩ dX0_letRainFall_10 (fun r u H locs hw hP hD hS => ?_)
  subst hw
  refine ct_iald (v := rai (t % 12)) hx hb hK hP 7 0 rfl rfl (t % 12) rfl (by omega) (by decide) rfl dX0_letRainFall_13 ?_
  refine lv_istore_n (lv' := [(1, .int (rai (t % 12))), (0, .ref h)]) hx hb dX0_letRainFall_14 rfl hl (by decide) rfl (fun ls hl => ?_)
  refine lv_iconst (v := 0) hx hb dX0_letRainFall_15 (by decide) ?_
  refine lv_istore_n (lv' := [(2, .int 0), (1, .int (rai (t % 12))), (0, .ref h)]) hx hb dX0_letRainFall_16 rfl hl (by decide) rfl (fun ls hl => ?_)
  have loop : ∀ (fu i : Nat), i + fu = 64 → ∀ (g : Nat → Int32) (H : Heap) (locs : List Loc) (ls : Array Slot), (g = q_mix i (q_w1 rai t wat) wat) → va_P D vwCl (pW h ad cI hei g dam wea dra peo rai (nI t) bro drd lef cre gai see fou) H → va_D A (pW h ad cI hei g dam wea dra peo rai (nI t) bro drd lef cre gai see fou) → va_S A s.heap H locs → lv_has ls 3 [(0, .ref h), (1, .int (rai (t % 12))), (2, .int (nI i))] → W p l e rm_X0_letRainFall s m args below meth c H locs 0 0 Q (F0 m 17 ls []) := by
    intro fu
    induction fu with
    | zero =>
      intro i hi g H locs ls hg hP hD hS hl
      obtain rfl : 64 = i := by omega
      refine lv_iload_n hx hb dX0_letRainFall_17 rfl (lv_at hl 2 rfl) ?_
      refine lv_bipush (v := 64) hx hb dX0_letRainFall_18 (by decide) ?_
      refine lv_icmp_ge (tgt := 39) hx hb dX0_letRainFall_20 (by decide) (fun hc => ?_) (fun hc => ?_)
      · skip
        obtain ⟨hP, hD⟩ := ct_ext hP hD 2 rfl (q_w1 rai t wat) (fun j hj => by rw [hg]; exact q_mix_lt hj) (ws1 := (pW h ad cI hei (q_w1 rai t wat) dam wea dra peo rai (nI t) bro drd lef cre gai see fou)) rfl
        exact fin () H locs 0 0 39 ls dX0_letRainFall_39 trivial hP hD hS (Nat.le_of_ble_eq_true rfl) (Nat.le_of_ble_eq_true rfl)
      · skip
        exact absurd (show (64 : Int32) ≤ nI 64 by decide) hc
    | succ fu ih =>
      intro i hi g H locs ls hg hP hD hS hl
      have hlt : i < 64 := by omega
      refine lv_iload_n hx hb dX0_letRainFall_17 rfl (lv_at hl 2 rfl) ?_
      refine lv_bipush (v := 64) hx hb dX0_letRainFall_18 (by decide) ?_
      refine lv_icmp_ge (tgt := 39) hx hb dX0_letRainFall_20 (by decide) (fun hc => ?_) (fun hc => ?_)
      · skip
        exact absurd hc (nI_ge (b := 64) hlt (by decide))
      · skip
        refine lv_aload_n hx hb dX0_letRainFall_23 rfl (lv_at hl 0 rfl) ?_
        refine va_get (D := D) (ci := 0) (v := .ref (ad 1)) (C := RX0) (T := TX0) (N := 15) hx hb hts (fun _ h9 => (List.mem_cons_of_mem _ (List.mem_append_right _ h9))) hown hK hP 0 rfl rfl 1 (by decide) (hts (Cond.fieldLink RX0 15 "FloodGrid$Plain" "water" "[I") (List.mem_of_getElem? (i := 3) rfl)) (fun _ h9 => h9) rfl dX0_letRainFall_24 ?_
        refine lv_iload_n hx hb dX0_letRainFall_27 rfl (lv_at hl 2 rfl) ?_
        refine lv_dup2_11 hx hb dX0_letRainFall_28 rfl rfl ?_
        refine ct_iald (v := (wat i)) hx hb hK hP 2 0 rfl rfl i rfl (by omega) (by decide) (by rw [hg, q_mix_at]) dX0_letRainFall_29 ?_
        refine lv_iload_n hx hb dX0_letRainFall_30 rfl (lv_at hl 1 rfl) ?_
        refine lv_iadd hx hb dX0_letRainFall_31 ?_
        refine ct_iast (g := upd g i ((wat i) + (rai (t % 12)))) (ws1 := (pW h ad cI hei (upd g i ((wat i) + (rai (t % 12)))) dam wea dra peo rai (nI t) bro drd lef cre gai see fou)) hx hb hK hP hD hS 2 0 rfl rfl i rfl (by omega) (by decide) rfl rfl dX0_letRainFall_32 (fun H locs hP hD hS => ?_)
        refine lv_iinc (v := (nI (i + 1))) (lv' := [(2, .int (nI (i + 1))), (0, .ref h), (1, .int (rai (t % 12)))]) hx hb dX0_letRainFall_33 hl (k := 2) rfl (nI_1 i) (by decide) rfl (fun ls hl => ?_)
        refine lv_goto (tgt := 17) hx hb dX0_letRainFall_36 (by decide) ?_
        exact ih (i + 1) (by omega) (upd g i (wat i + rai (t % 12))) H locs ls (by rw [hg]; exact q_mix_up rfl) hP hD hS (lv_sub hl [1, 2, 0] rfl)
  exact loop 64 0 (by omega) wat H locs ls (q_mix_0 _ _).symm hP hD hS (lv_sub hl [2, 1, 0] rfl)
abbrev rm_X0_drainCells : Room := { frames := 1, cells := 0, slots := 0, locals := 21 }
set_option maxHeartbeats 4000000 in
set_option maxRecDepth 100000 in
theorem c_X0_drain (l : Launch) (D : va_G) (cI : ClassId) (h : Nat) (ad : Nat → Nat) (hei wat dam wea dra peo rai : Nat → Int32) (hou bro drd lef : Int32) (cre gai see fou : Nat → Int32) : ct_v (S := Unit) l D yX0_drainCells wsX0_drainCells rm_X0_drainCells [.ref h] (pW h ad cI hei wat dam wea dra peo rai hou bro drd lef cre gai see fou) [(cI, .int)] (fun _ => True) (fun _ => (pW h ad cI hei (q_w3 dra wat) dam wea dra peo rai hou bro (drd + q_sum (q_tak dra wat) 64) lef cre gai see fou)) := by
  refine ct_ofv (cc := cX0_drainCells) (maxL := 3) (by decide) rfl (Nat.le_of_ble_eq_true rfl) ?_
  intro p e s m args below meth c A Q hx hb hml hown hts hin hA hK H locs hP hD hS fin ls hl
  have hown : s.vm.findClass RX0 = some m.cls := hown
  have hl : lv_has ls 3 [(0, .ref h)] := hl
  refine lv_iconst (v := 0) hx hb dX0_drainCells_0 (by decide) ?_
  refine lv_istore_n (lv' := [(1, .int 0), (0, .ref h)]) hx hb dX0_drainCells_1 rfl hl (by decide) rfl (fun ls hl => ?_)
  have loop : ∀ (fu i : Nat), i + fu = 64 → ∀ (g : Nat → Int32) (b : Int32) (H : Heap) (locs : List Loc) (ls : Array Slot), (g = q_mix i (q_w3 dra wat) wat) → (b = drd + q_sum (q_tak dra wat) i) → va_P D vwCl (pW h ad cI hei g dam wea dra peo rai hou bro b lef cre gai see fou) H → va_D A (pW h ad cI hei g dam wea dra peo rai hou bro b lef cre gai see fou) → va_S A s.heap H locs → lv_has ls 3 [(0, .ref h), (1, .int (nI i))] → W p l e rm_X0_drainCells s m args below meth c H locs 0 0 Q (F0 m 2 ls []) := by
    intro fu
    induction fu with
    | zero =>
      intro i hi g b H locs ls hg hb2 hP hD hS hl
      obtain rfl : 64 = i := by omega
      refine lv_iload_n hx hb dX0_drainCells_2 rfl (lv_at hl 1 rfl) ?_
      refine lv_bipush (v := 64) hx hb dX0_drainCells_3 (by decide) ?_
      refine lv_icmp_ge (tgt := 50) hx hb dX0_drainCells_5 (by decide) (fun hc => ?_) (fun hc => ?_)
      · skip
        subst hb2
        obtain ⟨hP, hD⟩ := ct_ext hP hD 2 rfl (q_w3 dra wat) (fun j hj => by rw [hg]; exact q_mix_lt hj) (ws1 := (pW h ad cI hei (q_w3 dra wat) dam wea dra peo rai hou bro (drd + q_sum (q_tak dra wat) 64) lef cre gai see fou)) rfl
        exact fin () H locs 0 0 50 ls dX0_drainCells_50 trivial hP hD hS (Nat.le_of_ble_eq_true rfl) (Nat.le_of_ble_eq_true rfl)
      · skip
        exact absurd (show (64 : Int32) ≤ nI 64 by decide) hc
    | succ fu ih =>
      intro i hi g b H locs ls hg hb2 hP hD hS hl
      have hlt : i < 64 := by omega
      refine lv_iload_n hx hb dX0_drainCells_2 rfl (lv_at hl 1 rfl) ?_
      refine lv_bipush (v := 64) hx hb dX0_drainCells_3 (by decide) ?_
      refine lv_icmp_ge (tgt := 50) hx hb dX0_drainCells_5 (by decide) (fun hc => ?_) (fun hc => ?_)
      · skip
        exact absurd hc (nI_ge (b := 64) hlt (by decide))
      · skip
        refine lv_aload_n hx hb dX0_drainCells_8 rfl (lv_at hl 0 rfl) ?_
        refine va_get (D := D) (ci := 0) (v := .ref (ad 4)) (C := RX0) (T := TX0) (N := 15) hx hb hts (fun _ h9 => (List.mem_cons_of_mem _ (List.mem_append_right _ h9))) hown hK hP 0 rfl rfl 4 (by decide) (hts (Cond.fieldLink RX0 24 "FloodGrid$Plain" "drain" "[I") (List.mem_of_getElem? (i := 1) rfl)) (fun _ h9 => h9) rfl dX0_drainCells_9 ?_
        refine lv_iload_n hx hb dX0_drainCells_12 rfl (lv_at hl 1 rfl) ?_
        refine ct_iald (v := dra i) hx hb hK hP 5 0 rfl rfl i rfl (by omega) (by decide) rfl dX0_drainCells_13 ?_
        refine lv_aload_n hx hb dX0_drainCells_14 rfl (lv_at hl 0 rfl) ?_
        refine va_get (D := D) (ci := 0) (v := .ref (ad 1)) (C := RX0) (T := TX0) (N := 15) hx hb hts (fun _ h9 => (List.mem_cons_of_mem _ (List.mem_append_right _ h9))) hown hK hP 0 rfl rfl 1 (by decide) (hts (Cond.fieldLink RX0 15 "FloodGrid$Plain" "water" "[I") (List.mem_of_getElem? (i := 2) rfl)) (fun _ h9 => h9) rfl dX0_drainCells_15 ?_
        refine lv_iload_n hx hb dX0_drainCells_18 rfl (lv_at hl 1 rfl) ?_
        refine ct_iald (v := (wat i)) hx hb hK hP 2 0 rfl rfl i rfl (by omega) (by decide) (by rw [hg, q_mix_at]) dX0_drainCells_19 ?_
        refine ct_mmin (v := (q_tak dra wat i)) hx hb (hml.trans hl.1.symm) hown (hts (Cond.methodLink RX0 108 Lib.Math.min.name) (List.mem_of_getElem? (i := 3) rfl)) (hts (Cond.static Lib.Math.min.name) (List.mem_of_getElem? (i := 4) rfl)) (hts (Cond.initialized "java/lang/Math") (List.mem_of_getElem? (i := 5) rfl)) (hts (Cond.code Lib.Math.min.name Lib.Math.min.code 2 (some .int)) (List.mem_of_getElem? (i := 6) rfl)) (Nat.le_of_ble_eq_true rfl) (Nat.le_of_ble_eq_true rfl) (Nat.le_of_ble_eq_true rfl) (Nat.le_of_ble_eq_true rfl) rfl dX0_drainCells_20 ?_
        refine lv_istore_n (lv' := [(2, .int (q_tak dra wat i)), (0, .ref h), (1, .int (nI i))]) hx hb dX0_drainCells_23 rfl hl (by decide) rfl (fun ls hl => ?_)
        refine lv_aload_n hx hb dX0_drainCells_24 rfl (lv_at hl 1 rfl) ?_
        refine va_get (D := D) (ci := 0) (v := .ref (ad 1)) (C := RX0) (T := TX0) (N := 15) hx hb hts (fun _ h9 => (List.mem_cons_of_mem _ (List.mem_append_right _ h9))) hown hK hP 0 rfl rfl 1 (by decide) (hts (Cond.fieldLink RX0 15 "FloodGrid$Plain" "water" "[I") (List.mem_of_getElem? (i := 2) rfl)) (fun _ h9 => h9) rfl dX0_drainCells_25 ?_
        refine lv_iload_n hx hb dX0_drainCells_28 rfl (lv_at hl 2 rfl) ?_
        refine lv_dup2_11 hx hb dX0_drainCells_29 rfl rfl ?_
        refine ct_iald (v := (wat i)) hx hb hK hP 2 0 rfl rfl i rfl (by omega) (by decide) (by rw [hg, q_mix_at]) dX0_drainCells_30 ?_
        refine lv_iload_n hx hb dX0_drainCells_31 rfl (lv_at hl 0 rfl) ?_
        refine lv_isub hx hb dX0_drainCells_32 ?_
        refine ct_iast (g := upd g i ((wat i) - (q_tak dra wat i))) (ws1 := (pW h ad cI hei (upd g i ((wat i) - (q_tak dra wat i))) dam wea dra peo rai hou bro b lef cre gai see fou)) hx hb hK hP hD hS 2 0 rfl rfl i rfl (by omega) (by decide) rfl rfl dX0_drainCells_33 (fun H locs hP hD hS => ?_)
        refine lv_aload_n hx hb dX0_drainCells_34 rfl (lv_at hl 1 rfl) ?_
        refine lv_dup hx hb dX0_drainCells_35 rfl ?_
        refine va_get (D := D) (ci := 0) (v := .int b) (C := RX0) (T := TX0) (N := 15) hx hb hts (fun _ h9 => (List.mem_cons_of_mem _ (List.mem_append_right _ h9))) hown hK hP 0 rfl rfl 9 (by decide) (hts (Cond.fieldLink RX0 64 "FloodGrid$Plain" "drained" "I") (List.mem_of_getElem? (i := 7) rfl)) (fun _ h9 => h9) rfl dX0_drainCells_36 ?_
        refine lv_iload_n hx hb dX0_drainCells_39 rfl (lv_at hl 0 rfl) ?_
        refine lv_iadd hx hb dX0_drainCells_40 ?_
        refine va_put (D := D) (ci := 0) (v := .int (b + (q_tak dra wat i))) (ty := .int) (C := RX0) (T := TX0) (N := 15) hx hb hts (fun _ h9 => (List.mem_cons_of_mem _ (List.mem_append_right _ h9))) tyX0 tyX0_ok nmX0 hown hK hP hD hS 0 rfl rfl 9 (by decide) (hts (Cond.fieldLink RX0 64 "FloodGrid$Plain" "drained" "I") (List.mem_of_getElem? (i := 7) rfl)) (fun _ h9 => h9) rfl (by decide +kernel) rfl rfl (Nat.le_of_ble_eq_true rfl) dX0_drainCells_41 (fun H locs hP hD hS => ?_)
        have hP : va_P D vwCl (pW h ad cI hei (upd g i ((wat i) - (q_tak dra wat i))) dam wea dra peo rai hou bro (b + (q_tak dra wat i)) lef cre gai see fou) H := hP
        have hD : va_D A (pW h ad cI hei (upd g i ((wat i) - (q_tak dra wat i))) dam wea dra peo rai hou bro (b + (q_tak dra wat i)) lef cre gai see fou) := hD
        refine lv_iinc (v := (nI (i + 1))) (lv' := [(1, .int (nI (i + 1))), (2, .int (q_tak dra wat i)), (0, .ref h)]) hx hb dX0_drainCells_44 hl (k := 2) rfl (nI_1 i) (by decide) rfl (fun ls hl => ?_)
        refine lv_goto (tgt := 2) hx hb dX0_drainCells_47 (by decide) ?_
        exact ih (i + 1) (by omega) (upd g i (wat i - q_tak dra wat i)) (b + q_tak dra wat i) H locs ls (by rw [hg]; exact q_mix_up rfl) (by rw [hb2]; exact q_sum_up _ _ _) hP hD hS (lv_sub hl [2, 0] rfl)
  exact loop 64 0 (by omega) wat drd H locs ls (q_mix_0 _ _).symm (Int32.add_zero _).symm hP hD hS (lv_sub hl [1, 0] rfl)
abbrev rm_X0_leaveTowns : Room := { frames := 1, cells := 0, slots := 0, locals := 21 }
set_option maxHeartbeats 4000000 in
set_option maxRecDepth 100000 in
theorem c_X0_leave (l : Launch) (D : va_G) (cI : ClassId) (h : Nat) (ad : Nat → Nat) (hei wat dam wea dra peo rai : Nat → Int32) (hou bro drd lef : Int32) (cre gai see fou : Nat → Int32) : ct_v (S := Unit) l D yX0_leaveTowns wsX0_leaveTowns rm_X0_leaveTowns [.ref h] (pW h ad cI hei wat dam wea dra peo rai hou bro drd lef cre gai see fou) [(cI, .int)] (fun _ => True) (fun _ => (pW h ad cI hei wat dam wea dra (q_peo wat peo) rai hou bro drd (lef + q_sum (q_lv wat peo) 64) cre gai see fou)) := by
  refine ct_ofv (cc := cX0_leaveTowns) (maxL := 3) (by decide) rfl (Nat.le_of_ble_eq_true rfl) ?_
  intro p e s m args below meth c A Q hx hb hml hown hts hin hA hK H locs hP hD hS fin ls hl
  have hown : s.vm.findClass RX0 = some m.cls := hown
  have hl : lv_has ls 3 [(0, .ref h)] := hl
  refine lv_iconst (v := 0) hx hb dX0_leaveTowns_0 (by decide) ?_
  refine lv_istore_n (lv' := [(1, .int 0), (0, .ref h)]) hx hb dX0_leaveTowns_1 rfl hl (by decide) rfl (fun ls hl => ?_)
  have loop : ∀ (fu i : Nat), i + fu = 64 → ∀ (g : Nat → Int32) (b : Int32) (H : Heap) (locs : List Loc) (ls : Array Slot), (g = q_mix i (q_peo wat peo) peo) → (b = lef + q_sum (q_lv wat peo) i) → va_P D vwCl (pW h ad cI hei wat dam wea dra g rai hou bro drd b cre gai see fou) H → va_D A (pW h ad cI hei wat dam wea dra g rai hou bro drd b cre gai see fou) → va_S A s.heap H locs → lv_has ls 3 [(0, .ref h), (1, .int (nI i))] → W p l e rm_X0_leaveTowns s m args below meth c H locs 0 0 Q (F0 m 2 ls []) := by
    intro fu
    induction fu with
    | zero =>
      intro i hi g b H locs ls hg hb2 hP hD hS hl
      obtain rfl : 64 = i := by omega
      refine lv_iload_n hx hb dX0_leaveTowns_2 rfl (lv_at hl 1 rfl) ?_
      refine lv_bipush (v := 64) hx hb dX0_leaveTowns_3 (by decide) ?_
      refine lv_icmp_ge (tgt := 64) hx hb dX0_leaveTowns_5 (by decide) (fun hc => ?_) (fun hc => ?_)
      · skip
        subst hb2
        obtain ⟨hP, hD⟩ := ct_ext hP hD 6 rfl (q_peo wat peo) (fun j hj => by rw [hg]; exact q_mix_lt hj) (ws1 := (pW h ad cI hei wat dam wea dra (q_peo wat peo) rai hou bro drd (lef + q_sum (q_lv wat peo) 64) cre gai see fou)) rfl
        exact fin () H locs 0 0 64 ls dX0_leaveTowns_64 trivial hP hD hS (Nat.le_of_ble_eq_true rfl) (Nat.le_of_ble_eq_true rfl)
      · skip
        exact absurd (show (64 : Int32) ≤ nI 64 by decide) hc
    | succ fu ih =>
      intro i hi g b H locs ls hg hb2 hP hD hS hl
      have hlt : i < 64 := by omega
      refine lv_iload_n hx hb dX0_leaveTowns_2 rfl (lv_at hl 1 rfl) ?_
      refine lv_bipush (v := 64) hx hb dX0_leaveTowns_3 (by decide) ?_
      refine lv_icmp_ge (tgt := 64) hx hb dX0_leaveTowns_5 (by decide) (fun hc => ?_) (fun hc => ?_)
      · skip
        exact absurd hc (nI_ge (b := 64) hlt (by decide))
      · skip
        refine lv_aload_n hx hb dX0_leaveTowns_8 rfl (lv_at hl 0 rfl) ?_
        refine va_get (D := D) (ci := 0) (v := .ref (ad 1)) (C := RX0) (T := TX0) (N := 15) hx hb hts (fun _ h9 => (List.mem_cons_of_mem _ (List.mem_append_right _ h9))) hown hK hP 0 rfl rfl 1 (by decide) (hts (Cond.fieldLink RX0 15 "FloodGrid$Plain" "water" "[I") (List.mem_of_getElem? (i := 1) rfl)) (fun _ h9 => h9) rfl dX0_leaveTowns_9 ?_
        refine lv_iload_n hx hb dX0_leaveTowns_12 rfl (lv_at hl 1 rfl) ?_
        refine ct_iald (v := wat i) hx hb hK hP 2 0 rfl rfl i rfl (by omega) (by decide) rfl dX0_leaveTowns_13 ?_
        refine lv_iconst (v := 3) hx hb dX0_leaveTowns_14 (by decide) ?_
        refine lv_icmp_lt (tgt := 58) hx hb dX0_leaveTowns_15 (by decide) (fun hc2 => ?_) (fun hc2 => ?_)
        · skip
          refine lv_iinc (v := (nI (i + 1))) (lv' := [(1, .int (nI (i + 1))), (0, .ref h)]) hx hb dX0_leaveTowns_58 hl (k := 1) rfl (nI_1 i) (by decide) rfl (fun ls hl => ?_)
          have hn3 : ¬ 3 ≤ wat i := Int32.not_le.mpr hc2
          refine lv_goto (tgt := 2) hx hb dX0_leaveTowns_61 (by decide) ?_
          exact ih (i + 1) (by omega) g b H locs ls (by rw [hg]; exact q_mix_same (by simp only [q_peo]; rw [if_neg hn3])) (by rw [hb2]; exact q_sum_no _ _ _ (by simp only [q_lv]; rw [if_neg hn3])) hP hD hS (lv_sub hl [1, 0] rfl)
        · skip
          refine lv_aload_n hx hb dX0_leaveTowns_18 rfl (lv_at hl 0 rfl) ?_
          refine va_get (D := D) (ci := 0) (v := .ref (ad 5)) (C := RX0) (T := TX0) (N := 15) hx hb hts (fun _ h9 => (List.mem_cons_of_mem _ (List.mem_append_right _ h9))) hown hK hP 0 rfl rfl 5 (by decide) (hts (Cond.fieldLink RX0 27 "FloodGrid$Plain" "people" "[I") (List.mem_of_getElem? (i := 2) rfl)) (fun _ h9 => h9) rfl dX0_leaveTowns_19 ?_
          refine lv_iload_n hx hb dX0_leaveTowns_22 rfl (lv_at hl 1 rfl) ?_
          refine ct_iald (v := (peo i)) hx hb hK hP 6 0 rfl rfl i rfl (by omega) (by decide) (by rw [hg, q_mix_at]) dX0_leaveTowns_23 ?_
          refine lv_iconst (v := 3) hx hb dX0_leaveTowns_24 (by decide) ?_
          refine lv_idiv hx hb dX0_leaveTowns_25 (by decide) ?_
          refine lv_iconst (v := 1) hx hb dX0_leaveTowns_26 (by decide) ?_
          refine lv_iadd hx hb dX0_leaveTowns_27 ?_
          refine lv_aload_n hx hb dX0_leaveTowns_28 rfl (lv_at hl 0 rfl) ?_
          refine va_get (D := D) (ci := 0) (v := .ref (ad 5)) (C := RX0) (T := TX0) (N := 15) hx hb hts (fun _ h9 => (List.mem_cons_of_mem _ (List.mem_append_right _ h9))) hown hK hP 0 rfl rfl 5 (by decide) (hts (Cond.fieldLink RX0 27 "FloodGrid$Plain" "people" "[I") (List.mem_of_getElem? (i := 2) rfl)) (fun _ h9 => h9) rfl dX0_leaveTowns_29 ?_
          refine lv_iload_n hx hb dX0_leaveTowns_32 rfl (lv_at hl 1 rfl) ?_
          refine ct_iald (v := (peo i)) hx hb hK hP 6 0 rfl rfl i rfl (by omega) (by decide) (by rw [hg, q_mix_at]) dX0_leaveTowns_33 ?_
          refine ct_mmin (v := (i_min (peo i / 3 + 1) (peo i))) hx hb (hml.trans hl.1.symm) hown (hts (Cond.methodLink RX0 108 Lib.Math.min.name) (List.mem_of_getElem? (i := 3) rfl)) (hts (Cond.static Lib.Math.min.name) (List.mem_of_getElem? (i := 4) rfl)) (hts (Cond.initialized "java/lang/Math") (List.mem_of_getElem? (i := 5) rfl)) (hts (Cond.code Lib.Math.min.name Lib.Math.min.code 2 (some .int)) (List.mem_of_getElem? (i := 6) rfl)) (Nat.le_of_ble_eq_true rfl) (Nat.le_of_ble_eq_true rfl) (Nat.le_of_ble_eq_true rfl) (Nat.le_of_ble_eq_true rfl) rfl dX0_leaveTowns_34 ?_
          refine lv_istore_n (lv' := [(2, .int (i_min (peo i / 3 + 1) (peo i))), (0, .ref h), (1, .int (nI i))]) hx hb dX0_leaveTowns_37 rfl hl (by decide) rfl (fun ls hl => ?_)
          refine lv_aload_n hx hb dX0_leaveTowns_38 rfl (lv_at hl 1 rfl) ?_
          refine va_get (D := D) (ci := 0) (v := .ref (ad 5)) (C := RX0) (T := TX0) (N := 15) hx hb hts (fun _ h9 => (List.mem_cons_of_mem _ (List.mem_append_right _ h9))) hown hK hP 0 rfl rfl 5 (by decide) (hts (Cond.fieldLink RX0 27 "FloodGrid$Plain" "people" "[I") (List.mem_of_getElem? (i := 2) rfl)) (fun _ h9 => h9) rfl dX0_leaveTowns_39 ?_
          refine lv_iload_n hx hb dX0_leaveTowns_42 rfl (lv_at hl 2 rfl) ?_
          refine lv_dup2_11 hx hb dX0_leaveTowns_43 rfl rfl ?_
          refine ct_iald (v := (peo i)) hx hb hK hP 6 0 rfl rfl i rfl (by omega) (by decide) (by rw [hg, q_mix_at]) dX0_leaveTowns_44 ?_
          refine lv_iload_n hx hb dX0_leaveTowns_45 rfl (lv_at hl 0 rfl) ?_
          refine lv_isub hx hb dX0_leaveTowns_46 ?_
          refine ct_iast (g := upd g i ((peo i) - (i_min (peo i / 3 + 1) (peo i)))) (ws1 := (pW h ad cI hei wat dam wea dra (upd g i ((peo i) - (i_min (peo i / 3 + 1) (peo i)))) rai hou bro drd b cre gai see fou)) hx hb hK hP hD hS 6 0 rfl rfl i rfl (by omega) (by decide) rfl rfl dX0_leaveTowns_47 (fun H locs hP hD hS => ?_)
          refine lv_aload_n hx hb dX0_leaveTowns_48 rfl (lv_at hl 1 rfl) ?_
          refine lv_dup hx hb dX0_leaveTowns_49 rfl ?_
          refine va_get (D := D) (ci := 0) (v := .int b) (C := RX0) (T := TX0) (N := 15) hx hb hts (fun _ h9 => (List.mem_cons_of_mem _ (List.mem_append_right _ h9))) hown hK hP 0 rfl rfl 10 (by decide) (hts (Cond.fieldLink RX0 67 "FloodGrid$Plain" "left" "I") (List.mem_of_getElem? (i := 7) rfl)) (fun _ h9 => h9) rfl dX0_leaveTowns_50 ?_
          refine lv_iload_n hx hb dX0_leaveTowns_53 rfl (lv_at hl 0 rfl) ?_
          refine lv_iadd hx hb dX0_leaveTowns_54 ?_
          refine va_put (D := D) (ci := 0) (v := .int (b + (i_min (peo i / 3 + 1) (peo i)))) (ty := .int) (C := RX0) (T := TX0) (N := 15) hx hb hts (fun _ h9 => (List.mem_cons_of_mem _ (List.mem_append_right _ h9))) tyX0 tyX0_ok nmX0 hown hK hP hD hS 0 rfl rfl 10 (by decide) (hts (Cond.fieldLink RX0 67 "FloodGrid$Plain" "left" "I") (List.mem_of_getElem? (i := 7) rfl)) (fun _ h9 => h9) rfl (by decide +kernel) rfl rfl (Nat.le_of_ble_eq_true rfl) dX0_leaveTowns_55 (fun H locs hP hD hS => ?_)
          have hP : va_P D vwCl (pW h ad cI hei wat dam wea dra (upd g i ((peo i) - (i_min (peo i / 3 + 1) (peo i)))) rai hou bro drd (b + (i_min (peo i / 3 + 1) (peo i))) cre gai see fou) H := hP
          have hD : va_D A (pW h ad cI hei wat dam wea dra (upd g i ((peo i) - (i_min (peo i / 3 + 1) (peo i)))) rai hou bro drd (b + (i_min (peo i / 3 + 1) (peo i))) cre gai see fou) := hD
          refine lv_iinc (v := (nI (i + 1))) (lv' := [(1, .int (nI (i + 1))), (2, .int (i_min (peo i / 3 + 1) (peo i))), (0, .ref h)]) hx hb dX0_leaveTowns_58 hl (k := 2) rfl (nI_1 i) (by decide) rfl (fun ls hl => ?_)
          have h3 : 3 ≤ wat i := Int32.not_lt.mp hc2
          refine lv_goto (tgt := 2) hx hb dX0_leaveTowns_61 (by decide) ?_
          exact ih (i + 1) (by omega) (upd g i (peo i - i_min (peo i / 3 + 1) (peo i))) (b + i_min (peo i / 3 + 1) (peo i)) H locs ls (by rw [hg]; exact q_mix_up (by simp only [q_peo]; rw [if_pos h3])) (by rw [hb2]; exact q_sum_up' _ _ _ (by simp only [q_lv]; rw [if_pos h3])) hP hD hS (lv_sub hl [2, 0] rfl)
  exact loop 64 0 (by omega) peo lef H locs ls (q_mix_0 _ _).symm (Int32.add_zero _).symm hP hD hS (lv_sub hl [1, 0] rfl)
abbrev rm_X0_wearDams : Room := { frames := 0, cells := 0, slots := 0, locals := 0 }
theorem upd_twice (f : Nat → Int32) (k : Nat) (x y : Int32) : upd (upd f k x) k y = upd f k y := by
  funext j
  unfold upd
  by_cases h1 : j = k
  · simp [h1]
  · simp [h1]
set_option maxHeartbeats 4000000 in
set_option maxRecDepth 100000 in
theorem c_X0_wear (l : Launch) (D : va_G) (cI : ClassId) (h : Nat) (ad : Nat → Nat) (hei wat dam wea dra peo rai : Nat → Int32) (hou bro drd lef : Int32) (cre gai see fou : Nat → Int32) : ct_v (S := Unit) l D yX0_wearDams wsX0_wearDams rm_X0_wearDams [.ref h] (pW h ad cI hei wat dam wea dra peo rai hou bro drd lef cre gai see fou) [(cI, .int)] (fun _ => True) (fun _ => (pW h ad cI hei wat (q_dam dam wat wea) (q_wea dam wat wea) dra peo rai hou (bro + q_sum (q_brk dam wat wea) 64) drd lef cre gai see fou)) := by
  refine ct_ofv (cc := cX0_wearDams) (maxL := 2) (by decide) rfl (Nat.le_of_ble_eq_true rfl) ?_
  intro p e s m args below meth c A Q hx hb hml hown hts hin hA hK H locs hP hD hS fin ls hl
  have hown : s.vm.findClass RX0 = some m.cls := hown
  have hl : lv_has ls 2 [(0, .ref h)] := hl
  refine lv_iconst (v := 0) hx hb dX0_wearDams_0 (by decide) ?_
  refine lv_istore_n (lv' := [(1, .int 0), (0, .ref h)]) hx hb dX0_wearDams_1 rfl hl (by decide) rfl (fun ls hl => ?_)
  have loop : ∀ (fu i : Nat), i + fu = 64 → ∀ (g : Nat → Int32) (v : Nat → Int32) (b : Int32) (H : Heap) (locs : List Loc) (ls : Array Slot), (g = q_mix i (q_dam dam wat wea) dam) → (v = q_mix i (q_wea dam wat wea) wea) → (b = bro + q_sum (q_brk dam wat wea) i) → va_P D vwCl (pW h ad cI hei wat g v dra peo rai hou b drd lef cre gai see fou) H → va_D A (pW h ad cI hei wat g v dra peo rai hou b drd lef cre gai see fou) → va_S A s.heap H locs → lv_has ls 2 [(0, .ref h), (1, .int (nI i))] → W p l e rm_X0_wearDams s m args below meth c H locs 0 0 Q (F0 m 2 ls []) := by
    intro fu
    induction fu with
    | zero =>
      intro i hi g v b H locs ls hg hv hb2 hP hD hS hl
      obtain rfl : 64 = i := by omega
      refine lv_iload_n hx hb dX0_wearDams_2 rfl (lv_at hl 1 rfl) ?_
      refine lv_bipush (v := 64) hx hb dX0_wearDams_3 (by decide) ?_
      refine lv_icmp_ge (tgt := 83) hx hb dX0_wearDams_5 (by decide) (fun hc => ?_) (fun hc => ?_)
      · skip
        subst hb2
        obtain ⟨hP, hD⟩ := ct_ext hP hD 3 rfl (q_dam dam wat wea) (fun j hj => by rw [hg]; exact q_mix_lt hj) (ws1 := (pW h ad cI hei wat (q_dam dam wat wea) v dra peo rai hou (bro + q_sum (q_brk dam wat wea) 64) drd lef cre gai see fou)) rfl
        obtain ⟨hP, hD⟩ := ct_ext hP hD 4 rfl (q_wea dam wat wea) (fun j hj => by rw [hv]; exact q_mix_lt hj) (ws1 := (pW h ad cI hei wat (q_dam dam wat wea) (q_wea dam wat wea) dra peo rai hou (bro + q_sum (q_brk dam wat wea) 64) drd lef cre gai see fou)) rfl
        exact fin () H locs 0 0 83 ls dX0_wearDams_83 trivial hP hD hS (Nat.le_of_ble_eq_true rfl) (Nat.le_of_ble_eq_true rfl)
      · skip
        exact absurd (show (64 : Int32) ≤ nI 64 by decide) hc
    | succ fu ih =>
      intro i hi g v b H locs ls hg hv hb2 hP hD hS hl
      have hlt : i < 64 := by omega
      refine lv_iload_n hx hb dX0_wearDams_2 rfl (lv_at hl 1 rfl) ?_
      refine lv_bipush (v := 64) hx hb dX0_wearDams_3 (by decide) ?_
      refine lv_icmp_ge (tgt := 83) hx hb dX0_wearDams_5 (by decide) (fun hc => ?_) (fun hc => ?_)
      · skip
        exact absurd hc (nI_ge (b := 64) hlt (by decide))
      · skip
        refine lv_aload_n hx hb dX0_wearDams_8 rfl (lv_at hl 0 rfl) ?_
        refine va_get (D := D) (ci := 0) (v := .ref (ad 2)) (C := RX0) (T := TX0) (N := 15) hx hb hts (fun _ h9 => (List.mem_cons_of_mem _ (List.mem_append_right _ h9))) hown hK hP 0 rfl rfl 2 (by decide) (hts (Cond.fieldLink RX0 18 "FloodGrid$Plain" "dam" "[I") (List.mem_of_getElem? (i := 1) rfl)) (fun _ h9 => h9) rfl dX0_wearDams_9 ?_
        refine lv_iload_n hx hb dX0_wearDams_12 rfl (lv_at hl 1 rfl) ?_
        refine ct_iald (v := (dam i)) hx hb hK hP 3 0 rfl rfl i rfl (by omega) (by decide) (by rw [hg, q_mix_at]) dX0_wearDams_13 ?_
        refine lv_if_le (tgt := 77) hx hb dX0_wearDams_14 (by decide) (fun hc2 => ?_) (fun hc2 => ?_)
        · skip
          refine lv_iinc (v := (nI (i + 1))) (lv' := [(1, .int (nI (i + 1))), (0, .ref h)]) hx hb dX0_wearDams_77 hl (k := 1) rfl (nI_1 i) (by decide) rfl (fun ls hl => ?_)
          have hn3 : ¬ (0 < dam i ∧ dam i ≤ wat i) := fun z => absurd z.1 (Int32.not_lt.mpr hc2)
          refine lv_goto (tgt := 2) hx hb dX0_wearDams_80 (by decide) ?_
          exact ih (i + 1) (by omega) g v b H locs ls (by rw [hg]; exact q_mix_same (by simp only [q_dam]; rw [if_neg (fun z => hn3 ⟨z.1, z.2.1⟩)])) (by rw [hv]; exact q_mix_same (by simp only [q_wea]; rw [if_neg hn3])) (by rw [hb2]; exact q_sum_no _ _ _ (by simp only [q_brk]; rw [if_neg (fun z => hn3 ⟨z.1, z.2.1⟩)])) hP hD hS (lv_sub hl [1, 0] rfl)
        · skip
          refine lv_aload_n hx hb dX0_wearDams_17 rfl (lv_at hl 0 rfl) ?_
          refine va_get (D := D) (ci := 0) (v := .ref (ad 1)) (C := RX0) (T := TX0) (N := 15) hx hb hts (fun _ h9 => (List.mem_cons_of_mem _ (List.mem_append_right _ h9))) hown hK hP 0 rfl rfl 1 (by decide) (hts (Cond.fieldLink RX0 15 "FloodGrid$Plain" "water" "[I") (List.mem_of_getElem? (i := 2) rfl)) (fun _ h9 => h9) rfl dX0_wearDams_18 ?_
          refine lv_iload_n hx hb dX0_wearDams_21 rfl (lv_at hl 1 rfl) ?_
          refine ct_iald (v := wat i) hx hb hK hP 2 0 rfl rfl i rfl (by omega) (by decide) rfl dX0_wearDams_22 ?_
          refine lv_aload_n hx hb dX0_wearDams_23 rfl (lv_at hl 0 rfl) ?_
          refine va_get (D := D) (ci := 0) (v := .ref (ad 2)) (C := RX0) (T := TX0) (N := 15) hx hb hts (fun _ h9 => (List.mem_cons_of_mem _ (List.mem_append_right _ h9))) hown hK hP 0 rfl rfl 2 (by decide) (hts (Cond.fieldLink RX0 18 "FloodGrid$Plain" "dam" "[I") (List.mem_of_getElem? (i := 1) rfl)) (fun _ h9 => h9) rfl dX0_wearDams_24 ?_
          refine lv_iload_n hx hb dX0_wearDams_27 rfl (lv_at hl 1 rfl) ?_
          refine ct_iald (v := (dam i)) hx hb hK hP 3 0 rfl rfl i rfl (by omega) (by decide) (by rw [hg, q_mix_at]) dX0_wearDams_28 ?_
          refine lv_icmp_lt (tgt := 77) hx hb dX0_wearDams_29 (by decide) (fun hc3 => ?_) (fun hc3 => ?_)
          · skip
            refine lv_iinc (v := (nI (i + 1))) (lv' := [(1, .int (nI (i + 1))), (0, .ref h)]) hx hb dX0_wearDams_77 hl (k := 1) rfl (nI_1 i) (by decide) rfl (fun ls hl => ?_)
            have hn3 : ¬ (0 < dam i ∧ dam i ≤ wat i) := fun z => absurd z.2 (Int32.not_le.mpr hc3)
            refine lv_goto (tgt := 2) hx hb dX0_wearDams_80 (by decide) ?_
            exact ih (i + 1) (by omega) g v b H locs ls (by rw [hg]; exact q_mix_same (by simp only [q_dam]; rw [if_neg (fun z => hn3 ⟨z.1, z.2.1⟩)])) (by rw [hv]; exact q_mix_same (by simp only [q_wea]; rw [if_neg hn3])) (by rw [hb2]; exact q_sum_no _ _ _ (by simp only [q_brk]; rw [if_neg (fun z => hn3 ⟨z.1, z.2.1⟩)])) hP hD hS (lv_sub hl [1, 0] rfl)
          · skip
            have h3 : 0 < dam i ∧ dam i ≤ wat i := ⟨Int32.not_le.mp hc2, Int32.not_lt.mp hc3⟩
            refine lv_aload_n hx hb dX0_wearDams_32 rfl (lv_at hl 0 rfl) ?_
            refine va_get (D := D) (ci := 0) (v := .ref (ad 3)) (C := RX0) (T := TX0) (N := 15) hx hb hts (fun _ h9 => (List.mem_cons_of_mem _ (List.mem_append_right _ h9))) hown hK hP 0 rfl rfl 3 (by decide) (hts (Cond.fieldLink RX0 21 "FloodGrid$Plain" "wear" "[I") (List.mem_of_getElem? (i := 3) rfl)) (fun _ h9 => h9) rfl dX0_wearDams_33 ?_
            refine lv_iload_n hx hb dX0_wearDams_36 rfl (lv_at hl 1 rfl) ?_
            refine lv_dup2_11 hx hb dX0_wearDams_37 rfl rfl ?_
            refine ct_iald (v := (wea i)) hx hb hK hP 4 0 rfl rfl i rfl (by omega) (by decide) (by rw [hv, q_mix_at]) dX0_wearDams_38 ?_
            refine lv_iconst (v := 1) hx hb dX0_wearDams_39 (by decide) ?_
            refine lv_iadd hx hb dX0_wearDams_40 ?_
            refine ct_iast (g := upd v i ((wea i) + 1)) (ws1 := (pW h ad cI hei wat g (upd v i ((wea i) + 1)) dra peo rai hou b drd lef cre gai see fou)) hx hb hK hP hD hS 4 0 rfl rfl i rfl (by omega) (by decide) rfl rfl dX0_wearDams_41 (fun H locs hP hD hS => ?_)
            refine lv_aload_n hx hb dX0_wearDams_42 rfl (lv_at hl 0 rfl) ?_
            refine va_get (D := D) (ci := 0) (v := .ref (ad 3)) (C := RX0) (T := TX0) (N := 15) hx hb hts (fun _ h9 => (List.mem_cons_of_mem _ (List.mem_append_right _ h9))) hown hK hP 0 rfl rfl 3 (by decide) (hts (Cond.fieldLink RX0 21 "FloodGrid$Plain" "wear" "[I") (List.mem_of_getElem? (i := 3) rfl)) (fun _ h9 => h9) rfl dX0_wearDams_43 ?_
            refine lv_iload_n hx hb dX0_wearDams_46 rfl (lv_at hl 1 rfl) ?_
            refine ct_iald (v := (wea i + 1)) hx hb hK hP 4 0 rfl rfl i rfl (by omega) (by decide) (pk_us) dX0_wearDams_47 ?_
            refine lv_bipush (v := 10) hx hb dX0_wearDams_48 (by decide) ?_
            refine lv_icmp_lt (tgt := 77) hx hb dX0_wearDams_50 (by decide) (fun hc4 => ?_) (fun hc4 => ?_)
            · skip
              refine lv_iinc (v := (nI (i + 1))) (lv' := [(1, .int (nI (i + 1))), (0, .ref h)]) hx hb dX0_wearDams_77 hl (k := 1) rfl (nI_1 i) (by decide) rfl (fun ls hl => ?_)
              have h10 : ¬ 10 ≤ wea i + 1 := Int32.not_le.mpr hc4
              refine lv_goto (tgt := 2) hx hb dX0_wearDams_80 (by decide) ?_
              exact ih (i + 1) (by omega) g (upd v i (wea i + 1)) b H locs ls (by rw [hg]; exact q_mix_same (by simp only [q_dam]; rw [if_neg (fun z => h10 z.2.2)])) (by rw [hv]; exact q_mix_up (by simp only [q_wea]; rw [if_pos h3, if_neg h10])) (by rw [hb2]; exact q_sum_no _ _ _ (by simp only [q_brk]; rw [if_neg (fun z => h10 z.2.2)])) hP hD hS (lv_sub hl [1, 0] rfl)
            · skip
              have h10 : 10 ≤ wea i + 1 := Int32.not_lt.mp hc4
              refine lv_aload_n hx hb dX0_wearDams_53 rfl (lv_at hl 0 rfl) ?_
              refine va_get (D := D) (ci := 0) (v := .ref (ad 2)) (C := RX0) (T := TX0) (N := 15) hx hb hts (fun _ h9 => (List.mem_cons_of_mem _ (List.mem_append_right _ h9))) hown hK hP 0 rfl rfl 2 (by decide) (hts (Cond.fieldLink RX0 18 "FloodGrid$Plain" "dam" "[I") (List.mem_of_getElem? (i := 1) rfl)) (fun _ h9 => h9) rfl dX0_wearDams_54 ?_
              refine lv_iload_n hx hb dX0_wearDams_57 rfl (lv_at hl 1 rfl) ?_
              refine lv_iconst (v := 0) hx hb dX0_wearDams_58 (by decide) ?_
              refine ct_iast (g := upd g i 0) (ws1 := (pW h ad cI hei wat (upd g i 0) (upd v i ((wea i) + 1)) dra peo rai hou b drd lef cre gai see fou)) hx hb hK hP hD hS 3 0 rfl rfl i rfl (by omega) (by decide) rfl rfl dX0_wearDams_59 (fun H locs hP hD hS => ?_)
              refine lv_aload_n hx hb dX0_wearDams_60 rfl (lv_at hl 0 rfl) ?_
              refine va_get (D := D) (ci := 0) (v := .ref (ad 3)) (C := RX0) (T := TX0) (N := 15) hx hb hts (fun _ h9 => (List.mem_cons_of_mem _ (List.mem_append_right _ h9))) hown hK hP 0 rfl rfl 3 (by decide) (hts (Cond.fieldLink RX0 21 "FloodGrid$Plain" "wear" "[I") (List.mem_of_getElem? (i := 3) rfl)) (fun _ h9 => h9) rfl dX0_wearDams_61 ?_
              refine lv_iload_n hx hb dX0_wearDams_64 rfl (lv_at hl 1 rfl) ?_
              refine lv_iconst (v := 0) hx hb dX0_wearDams_65 (by decide) ?_
              refine ct_iast (g := upd (upd v i ((wea i) + 1)) i 0) (ws1 := (pW h ad cI hei wat (upd g i 0) (upd (upd v i ((wea i) + 1)) i 0) dra peo rai hou b drd lef cre gai see fou)) hx hb hK hP hD hS 4 0 rfl rfl i rfl (by omega) (by decide) rfl rfl dX0_wearDams_66 (fun H locs hP hD hS => ?_)
              refine lv_aload_n hx hb dX0_wearDams_67 rfl (lv_at hl 0 rfl) ?_
              refine lv_dup hx hb dX0_wearDams_68 rfl ?_
              refine va_get (D := D) (ci := 0) (v := .int b) (C := RX0) (T := TX0) (N := 15) hx hb hts (fun _ h9 => (List.mem_cons_of_mem _ (List.mem_append_right _ h9))) hown hK hP 0 rfl rfl 8 (by decide) (hts (Cond.fieldLink RX0 61 "FloodGrid$Plain" "broken" "I") (List.mem_of_getElem? (i := 4) rfl)) (fun _ h9 => h9) rfl dX0_wearDams_69 ?_
              refine lv_iconst (v := 1) hx hb dX0_wearDams_72 (by decide) ?_
              refine lv_iadd hx hb dX0_wearDams_73 ?_
              refine va_put (D := D) (ci := 0) (v := .int (b + 1)) (ty := .int) (C := RX0) (T := TX0) (N := 15) hx hb hts (fun _ h9 => (List.mem_cons_of_mem _ (List.mem_append_right _ h9))) tyX0 tyX0_ok nmX0 hown hK hP hD hS 0 rfl rfl 8 (by decide) (hts (Cond.fieldLink RX0 61 "FloodGrid$Plain" "broken" "I") (List.mem_of_getElem? (i := 4) rfl)) (fun _ h9 => h9) rfl (by decide +kernel) rfl rfl (Nat.le_of_ble_eq_true rfl) dX0_wearDams_74 (fun H locs hP hD hS => ?_)
              have hP : va_P D vwCl (pW h ad cI hei wat (upd g i 0) (upd (upd v i ((wea i) + 1)) i 0) dra peo rai hou (b + 1) drd lef cre gai see fou) H := hP
              have hD : va_D A (pW h ad cI hei wat (upd g i 0) (upd (upd v i ((wea i) + 1)) i 0) dra peo rai hou (b + 1) drd lef cre gai see fou) := hD
              refine lv_iinc (v := (nI (i + 1))) (lv' := [(1, .int (nI (i + 1))), (0, .ref h)]) hx hb dX0_wearDams_77 hl (k := 1) rfl (nI_1 i) (by decide) rfl (fun ls hl => ?_)
              refine lv_goto (tgt := 2) hx hb dX0_wearDams_80 (by decide) ?_
              exact ih (i + 1) (by omega) (upd g i 0) (upd (upd v i (wea i + 1)) i 0) (b + 1) H locs ls (by rw [hg]; exact q_mix_up (by simp only [q_dam]; rw [if_pos ⟨h3.1, h3.2, h10⟩])) (by rw [hv, upd_twice]; exact q_mix_up (by simp only [q_wea]; rw [if_pos h3, if_pos h10])) (by rw [hb2]; exact q_sum_up' _ _ _ (by simp only [q_brk]; rw [if_pos ⟨h3.1, h3.2, h10⟩])) hP hD hS (lv_sub hl [1, 0] rfl)
  exact loop 64 0 (by omega) dam wea bro H locs ls (q_mix_0 _ _).symm (q_mix_0 _ _).symm (Int32.add_zero _).symm hP hD hS (lv_sub hl [1, 0] rfl)
