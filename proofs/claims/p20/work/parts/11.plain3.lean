abbrev rm_X0_letWaterRun : Room := { frames := 2, cells := 0, slots := 0, locals := 47 }
set_option maxHeartbeats 4000000 in
set_option maxRecDepth 100000 in
theorem c_X0_run (l : Launch) (D : va_G) (cI : ClassId) (h : Nat) (ad : Nat → Nat) (hei wat dam wea dra peo rai : Nat → Int32) (hou bro drd lef : Int32) (cre gai see fou : Nat → Int32) : ct_v (S := Unit) l D yX0_letWaterRun wsX0_letWaterRun rm_X0_letWaterRun [.ref h] (pW h ad cI hei wat dam wea dra peo rai hou bro drd lef cre gai see fou) [(cI, .int)] (fun _ => True) (fun _ => (pW h ad cI hei (q_w2 hei dam wat) dam wea dra peo rai hou bro drd lef (q_cre hei dam wat) (q_gain hei wat dam (q_cre hei dam wat) 64) see fou)) := by
  refine ct_ofv (cc := cX0_letWaterRun) (maxL := 2) (by decide) rfl (Nat.le_of_ble_eq_true rfl) ?_
  intro p e s m args below meth c A Q hx hb hml hown hts hin hA hK H locs hP hD hS fin ls hl
  have hown : s.vm.findClass RX0 = some m.cls := hown
  have hl : lv_has ls 2 [(0, .ref h)] := hl
  refine lv_iconst (v := 0) hx hb dX0_letWaterRun_0 (by decide) ?_
  refine lv_istore_n (lv' := [(1, .int 0), (0, .ref h)]) hx hb dX0_letWaterRun_1 rfl hl (by decide) rfl (fun ls hl => ?_)
  have loop : ∀ (fu i : Nat), i + fu = 64 → ∀ (g : Nat → Int32) (H : Heap) (locs : List Loc) (ls : Array Slot), (g = q_mix i (q_cre hei dam wat) cre) → va_P D vwCl (pW h ad cI hei wat dam wea dra peo rai hou bro drd lef g gai see fou) H → va_D A (pW h ad cI hei wat dam wea dra peo rai hou bro drd lef g gai see fou) → va_S A s.heap H locs → lv_has ls 2 [(0, .ref h), (1, .int (nI i))] → W p l e rm_X0_letWaterRun s m args below meth c H locs 0 0 Q (F0 m 2 ls []) := by
    intro fu
    induction fu with
    | zero =>
      intro i hi g H locs ls hg hP hD hS hl
      obtain rfl : 64 = i := by omega
      refine lv_iload_n hx hb dX0_letWaterRun_2 rfl (lv_at hl 1 rfl) ?_
      refine lv_bipush (v := 64) hx hb dX0_letWaterRun_3 (by decide) ?_
      refine lv_icmp_ge (tgt := 25) hx hb dX0_letWaterRun_5 (by decide) (fun hc => ?_) (fun hc => ?_)
      · skip
        obtain ⟨hP, hD⟩ := ct_ext hP hD 8 rfl (q_cre hei dam wat) (fun j hj => by rw [hg]; exact q_mix_lt hj) (ws1 := (pW h ad cI hei wat dam wea dra peo rai hou bro drd lef (q_cre hei dam wat) gai see fou)) rfl
        refine lv_aload_n hx hb dX0_letWaterRun_25 rfl (lv_at hl 0 rfl) ?_
        refine va_get (D := D) (ci := 0) (v := .ref (ad 12)) (C := RX0) (T := TX0) (N := 15) hx hb hts (fun _ h9 => (List.mem_cons_of_mem _ (List.mem_append_right _ h9))) hown hK hP 0 rfl rfl 12 (by decide) (hts (Cond.fieldLink RX0 36 "FloodGrid$Plain" "gained" "[I") (List.mem_of_getElem? (i := 2) rfl)) (fun _ h9 => h9) rfl dX0_letWaterRun_26 ?_
        refine lv_iconst (v := 0) hx hb dX0_letWaterRun_29 (by decide) ?_
        refine ct_Sv (As := [.ref (ad 12), .int 0]) (rest := []) (wr := [(h, .inr (0, [.ref (ad 0), .ref (ad 1), .ref (ad 2), .ref (ad 3), .ref (ad 4), .ref (ad 5), .ref (ad 6), .int hou, .int bro, .int drd, .int lef, .ref (ad 11), .ref (ad 12), .ref (ad 13), .ref (ad 14)])), ((ad 0), .inl (cI, 64, .inl hei)), ((ad 1), .inl (cI, 64, .inl wat)), ((ad 2), .inl (cI, 64, .inl dam)), ((ad 3), .inl (cI, 64, .inl wea)), ((ad 4), .inl (cI, 64, .inl dra)), ((ad 5), .inl (cI, 64, .inl peo)), ((ad 6), .inl (cI, 12, .inl rai)), ((ad 11), .inl (cI, 64, .inl (q_cre hei dam wat))), ((ad 13), .inl (cI, 64, .inl see)), ((ad 14), .inl (cI, 64, .inl fou))]) (W1 := fun u => (pW h ad cI hei wat dam wea dra peo rai hou bro drd lef (q_cre hei dam wat) (fun _ => 0) see fou)) (cells1 := 0) (slots1 := 0) ⟨hx, hb, hml, hown, hts⟩ (c_fill l D cI (ad 12) 64 (by decide) gai 0) (va_cwS 2 hts gX0_letWaterRun_J7_fill_53178 rfl rfl rfl (by decide +kernel) ⟨Nat.le_of_ble_eq_true rfl, Nat.le_of_ble_eq_true rfl⟩) hK hP hD hS hA [9] [0, 1, 2, 3, 4, 5, 6, 7, 8, 10, 11] ⟨rfl, rfl, rfl, rfl, rfl⟩ [0, 1, 2, 3, 4, 5, 6, 7, 8, 11, 9, 10] rfl (fun _ => rfl) [0] rfl rfl hl.1 rfl (Nat.le_of_ble_eq_true rfl) rfl rfl ⟨Nat.le_of_ble_eq_true rfl, Nat.le_of_ble_eq_true rfl⟩ dX0_letWaterRun_30 (fun u H locs hw hP hD hS => ?_)
        refine lv_iconst (v := 0) hx hb dX0_letWaterRun_33 (by decide) ?_
        refine lv_istore_n (lv' := [(1, .int 0), (0, .ref h)]) hx hb dX0_letWaterRun_34 rfl hl (by decide) rfl (fun ls hl => ?_)
        have loop2 : ∀ (fu i : Nat), i + fu = 64 → ∀ (ga : Nat → Int32) (H : Heap) (locs : List Loc) (ls : Array Slot), (ga = q_gain hei wat dam (q_cre hei dam wat) i) → va_P D vwCl (pW h ad cI hei wat dam wea dra peo rai hou bro drd lef (q_cre hei dam wat) ga see fou) H → va_D A (pW h ad cI hei wat dam wea dra peo rai hou bro drd lef (q_cre hei dam wat) ga see fou) → va_S A s.heap H locs → lv_has ls 2 [(0, .ref h), (1, .int (nI i))] → W p l e rm_X0_letWaterRun s m args below meth c H locs 0 0 Q (F0 m 35 ls []) := by
          intro fu
          induction fu with
          | zero =>
            intro i hi ga H locs ls hga hP hD hS hl
            obtain rfl : 64 = i := by omega
            refine lv_iload_n hx hb dX0_letWaterRun_35 rfl (lv_at hl 1 rfl) ?_
            refine lv_bipush (v := 64) hx hb dX0_letWaterRun_36 (by decide) ?_
            refine lv_icmp_ge (tgt := 72) hx hb dX0_letWaterRun_38 (by decide) (fun hc => ?_) (fun hc => ?_)
            · skip
              subst hga
              refine lv_iconst (v := 0) hx hb dX0_letWaterRun_72 (by decide) ?_
              refine lv_istore_n (lv' := [(1, .int 0), (0, .ref h)]) hx hb dX0_letWaterRun_73 rfl hl (by decide) rfl (fun ls hl => ?_)
              have loop3 : ∀ (fu i : Nat), i + fu = 64 → ∀ (g3 : Nat → Int32) (H : Heap) (locs : List Loc) (ls : Array Slot), (g3 = q_mix i (q_w2 hei dam wat) wat) → va_P D vwCl (pW h ad cI hei g3 dam wea dra peo rai hou bro drd lef (q_cre hei dam wat) (q_gain hei wat dam (q_cre hei dam wat) 64) see fou) H → va_D A (pW h ad cI hei g3 dam wea dra peo rai hou bro drd lef (q_cre hei dam wat) (q_gain hei wat dam (q_cre hei dam wat) 64) see fou) → va_S A s.heap H locs → lv_has ls 2 [(0, .ref h), (1, .int (nI i))] → W p l e rm_X0_letWaterRun s m args below meth c H locs 0 0 Q (F0 m 74 ls []) := by
                intro fu
                induction fu with
                | zero =>
                  intro i hi g3 H locs ls hg3 hP hD hS hl
                  obtain rfl : 64 = i := by omega
                  refine lv_iload_n hx hb dX0_letWaterRun_74 rfl (lv_at hl 1 rfl) ?_
                  refine lv_bipush (v := 64) hx hb dX0_letWaterRun_75 (by decide) ?_
                  refine lv_icmp_ge (tgt := 101) hx hb dX0_letWaterRun_77 (by decide) (fun hc => ?_) (fun hc => ?_)
                  · skip
                    obtain ⟨hP, hD⟩ := ct_ext hP hD 2 rfl (q_w2 hei dam wat) (fun j hj => by rw [hg3]; exact q_mix_lt hj) (ws1 := (pW h ad cI hei (q_w2 hei dam wat) dam wea dra peo rai hou bro drd lef (q_cre hei dam wat) (q_gain hei wat dam (q_cre hei dam wat) 64) see fou)) rfl
                    exact fin () H locs 0 0 101 ls dX0_letWaterRun_101 trivial hP hD hS (Nat.le_of_ble_eq_true rfl) (Nat.le_of_ble_eq_true rfl)
                  · skip
                    exact absurd (show (64 : Int32) ≤ nI 64 by decide) hc
                | succ fu ih =>
                  intro i hi g3 H locs ls hg3 hP hD hS hl
                  have hlt : i < 64 := by omega
                  refine lv_iload_n hx hb dX0_letWaterRun_74 rfl (lv_at hl 1 rfl) ?_
                  refine lv_bipush (v := 64) hx hb dX0_letWaterRun_75 (by decide) ?_
                  refine lv_icmp_ge (tgt := 101) hx hb dX0_letWaterRun_77 (by decide) (fun hc => ?_) (fun hc => ?_)
                  · skip
                    exact absurd hc (nI_ge (b := 64) hlt (by decide))
                  · skip
                    refine lv_aload_n hx hb dX0_letWaterRun_80 rfl (lv_at hl 0 rfl) ?_
                    refine va_get (D := D) (ci := 0) (v := .ref (ad 1)) (C := RX0) (T := TX0) (N := 15) hx hb hts (fun _ h9 => (List.mem_cons_of_mem _ (List.mem_append_right _ h9))) hown hK hP 0 rfl rfl 1 (by decide) (hts (Cond.fieldLink RX0 15 "FloodGrid$Plain" "water" "[I") (List.mem_of_getElem? (i := 3) rfl)) (fun _ h9 => h9) rfl dX0_letWaterRun_81 ?_
                    refine lv_iload_n hx hb dX0_letWaterRun_84 rfl (lv_at hl 1 rfl) ?_
                    refine lv_dup2_11 hx hb dX0_letWaterRun_85 rfl rfl ?_
                    refine ct_iald (v := (wat i)) hx hb hK hP 2 0 rfl rfl i rfl (by omega) (by decide) (by rw [hg3, q_mix_at]) dX0_letWaterRun_86 ?_
                    refine lv_aload_n hx hb dX0_letWaterRun_87 rfl (lv_at hl 0 rfl) ?_
                    refine va_get (D := D) (ci := 0) (v := .ref (ad 12)) (C := RX0) (T := TX0) (N := 15) hx hb hts (fun _ h9 => (List.mem_cons_of_mem _ (List.mem_append_right _ h9))) hown hK hP 0 rfl rfl 12 (by decide) (hts (Cond.fieldLink RX0 36 "FloodGrid$Plain" "gained" "[I") (List.mem_of_getElem? (i := 2) rfl)) (fun _ h9 => h9) rfl dX0_letWaterRun_88 ?_
                    refine lv_iload_n hx hb dX0_letWaterRun_91 rfl (lv_at hl 1 rfl) ?_
                    refine ct_iald (v := (q_gain hei wat dam (q_cre hei dam wat) 64) i) hx hb hK hP 9 0 rfl rfl i rfl (by omega) (by decide) rfl dX0_letWaterRun_92 ?_
                    refine lv_iadd hx hb dX0_letWaterRun_93 ?_
                    refine ct_iast (g := upd g3 i ((wat i) + ((q_gain hei wat dam (q_cre hei dam wat) 64) i))) (ws1 := (pW h ad cI hei (upd g3 i ((wat i) + ((q_gain hei wat dam (q_cre hei dam wat) 64) i))) dam wea dra peo rai hou bro drd lef (q_cre hei dam wat) (q_gain hei wat dam (q_cre hei dam wat) 64) see fou)) hx hb hK hP hD hS 2 0 rfl rfl i rfl (by omega) (by decide) rfl rfl dX0_letWaterRun_94 (fun H locs hP hD hS => ?_)
                    refine lv_iinc (v := (nI (i + 1))) (lv' := [(1, .int (nI (i + 1))), (0, .ref h)]) hx hb dX0_letWaterRun_95 hl (k := 1) rfl (nI_1 i) (by decide) rfl (fun ls hl => ?_)
                    refine lv_goto (tgt := 74) hx hb dX0_letWaterRun_98 (by decide) ?_
                    exact ih (i + 1) (by omega) (upd g3 i (wat i + (q_gain hei wat dam (q_cre hei dam wat) 64) i)) H locs ls (by rw [hg3]; exact q_mix_up rfl) hP hD hS (lv_sub hl [1, 0] rfl)
              exact loop3 64 0 (by omega) wat H locs ls (q_mix_0 _ _).symm hP hD hS (lv_sub hl [1, 0] rfl)
            · skip
              exact absurd (show (64 : Int32) ≤ nI 64 by decide) hc
          | succ fu ih =>
            intro i hi ga H locs ls hga hP hD hS hl
            have hlt : i < 64 := by omega
            refine lv_iload_n hx hb dX0_letWaterRun_35 rfl (lv_at hl 1 rfl) ?_
            refine lv_bipush (v := 64) hx hb dX0_letWaterRun_36 (by decide) ?_
            refine lv_icmp_ge (tgt := 72) hx hb dX0_letWaterRun_38 (by decide) (fun hc => ?_) (fun hc => ?_)
            · skip
              exact absurd hc (nI_ge (b := 64) hlt (by decide))
            · skip
              refine lv_aload_n hx hb dX0_letWaterRun_41 rfl (lv_at hl 0 rfl) ?_
              refine va_get (D := D) (ci := 0) (v := .ref (ad 1)) (C := RX0) (T := TX0) (N := 15) hx hb hts (fun _ h9 => (List.mem_cons_of_mem _ (List.mem_append_right _ h9))) hown hK hP 0 rfl rfl 1 (by decide) (hts (Cond.fieldLink RX0 15 "FloodGrid$Plain" "water" "[I") (List.mem_of_getElem? (i := 3) rfl)) (fun _ h9 => h9) rfl dX0_letWaterRun_42 ?_
              refine lv_iload_n hx hb dX0_letWaterRun_45 rfl (lv_at hl 1 rfl) ?_
              refine ct_iald (v := wat i) hx hb hK hP 2 0 rfl rfl i rfl (by omega) (by decide) rfl dX0_letWaterRun_46 ?_
              refine lv_aload_n hx hb dX0_letWaterRun_47 rfl (lv_at hl 0 rfl) ?_
              refine va_get (D := D) (ci := 0) (v := .ref (ad 2)) (C := RX0) (T := TX0) (N := 15) hx hb hts (fun _ h9 => (List.mem_cons_of_mem _ (List.mem_append_right _ h9))) hown hK hP 0 rfl rfl 2 (by decide) (hts (Cond.fieldLink RX0 18 "FloodGrid$Plain" "dam" "[I") (List.mem_of_getElem? (i := 4) rfl)) (fun _ h9 => h9) rfl dX0_letWaterRun_48 ?_
              refine lv_iload_n hx hb dX0_letWaterRun_51 rfl (lv_at hl 1 rfl) ?_
              refine ct_iald (v := dam i) hx hb hK hP 3 0 rfl rfl i rfl (by omega) (by decide) rfl dX0_letWaterRun_52 ?_
              refine lv_icmp_le (tgt := 66) hx hb dX0_letWaterRun_53 (by decide) (fun hc2 => ?_) (fun hc2 => ?_)
              · skip
                refine lv_iinc (v := (nI (i + 1))) (lv' := [(1, .int (nI (i + 1))), (0, .ref h)]) hx hb dX0_letWaterRun_66 hl (k := 1) rfl (nI_1 i) (by decide) rfl (fun ls hl => ?_)
                refine lv_goto (tgt := 35) hx hb dX0_letWaterRun_69 (by decide) ?_
                exact ih (i + 1) (by omega) ga H locs ls (by rw [hga]; simp only [q_gain]; rw [if_neg (Int32.not_lt.mpr hc2)]) hP hD hS (lv_sub hl [1, 0] rfl)
              · skip
                refine lv_aload_n hx hb dX0_letWaterRun_56 rfl (lv_at hl 0 rfl) ?_
                refine lv_iload_n hx hb dX0_letWaterRun_57 rfl (lv_at hl 1 rfl) ?_
                refine lv_aload_n hx hb dX0_letWaterRun_58 rfl (lv_at hl 0 rfl) ?_
                refine lv_iload_n hx hb dX0_letWaterRun_59 rfl (lv_at hl 1 rfl) ?_
                refine ct_Vi (As := [.int (nI i)]) (rest := [.int (nI i), .ref h]) (wr := []) (W1 := fun u => (pW h ad cI hei wat dam wea dra peo rai hou bro drd lef (q_cre hei dam wat) ga see fou)) (cells1 := 0) (slots1 := 0) ⟨hx, hb, hml, hown, hts⟩ (c_X0_lowest l D cI h ad hei wat dam wea dra peo rai hou bro drd lef (q_cre hei dam wat) ga see fou i hlt) (cwV 1 hts gX0_letWaterRun_X0_lowestNeighbour rfl rfl rfl (by decide +kernel) ⟨Nat.le_of_ble_eq_true rfl, Nat.le_of_ble_eq_true rfl⟩) hK hP hD hS hA [0, 1, 2, 3, 4, 5, 6, 7, 8, 9, 10, 11] [] ⟨rfl, rfl, rfl, rfl, rfl⟩ [0, 1, 2, 3, 4, 5, 6, 7, 8, 9, 10, 11] rfl (fun _ => rfl) [0] rfl (va_recv hK hP (ci := 0) (q0 := 0) rfl rfl) rfl hl.1 rfl (Nat.le_of_ble_eq_true rfl) rfl rfl ⟨Nat.le_of_ble_eq_true rfl, Nat.le_of_ble_eq_true rfl⟩ dX0_letWaterRun_60 (fun r u H locs hw hP hD hS => ?_)
                subst hw
                refine ct_Vv (As := [.int (nI i), .int (q_v (q_low (q_cre hei dam wat) i 4))]) (rest := []) (wr := []) (W1 := fun u => (pW h ad cI hei wat dam wea dra peo rai hou bro drd lef (q_cre hei dam wat) (q_give hei wat dam (q_cre hei dam wat) i (q_low (q_cre hei dam wat) i 4) ga) see fou)) (cells1 := 0) (slots1 := 0) ⟨hx, hb, hml, hown, hts⟩ (c_X0_give l D cI h ad hei wat dam wea dra peo rai hou bro drd lef (q_cre hei dam wat) ga see fou i hlt (q_low (q_cre hei dam wat) i 4) (fun j hj => q_low_lt hlt hj)) (cwV 2 hts gX0_letWaterRun_X0_give rfl rfl rfl (by decide +kernel) ⟨Nat.le_of_ble_eq_true rfl, Nat.le_of_ble_eq_true rfl⟩) hK hP hD hS hA [0, 1, 2, 3, 4, 5, 6, 7, 8, 9, 10, 11] [] ⟨rfl, rfl, rfl, rfl, rfl⟩ [0, 1, 2, 3, 4, 5, 6, 7, 8, 9, 10, 11] rfl (fun _ => rfl) [0] rfl (va_recv hK hP (ci := 0) (q0 := 0) rfl rfl) rfl hl.1 rfl (Nat.le_of_ble_eq_true rfl) rfl rfl ⟨Nat.le_of_ble_eq_true rfl, Nat.le_of_ble_eq_true rfl⟩ dX0_letWaterRun_63 (fun u H locs hw hP hD hS => ?_)
                refine lv_iinc (v := (nI (i + 1))) (lv' := [(1, .int (nI (i + 1))), (0, .ref h)]) hx hb dX0_letWaterRun_66 hl (k := 1) rfl (nI_1 i) (by decide) rfl (fun ls hl => ?_)
                refine lv_goto (tgt := 35) hx hb dX0_letWaterRun_69 (by decide) ?_
                exact ih (i + 1) (by omega) (q_give hei wat dam (q_cre hei dam wat) i (q_low (q_cre hei dam wat) i 4) ga) H locs ls (by rw [hga]; simp only [q_gain]; rw [if_pos (Int32.not_le.mp hc2)]) hP hD hS (lv_sub hl [1, 0] rfl)
        exact loop2 64 0 (by omega) (fun _ => 0) H locs ls rfl hP hD hS (lv_sub hl [1, 0] rfl)
      · skip
        exact absurd (show (64 : Int32) ≤ nI 64 by decide) hc
    | succ fu ih =>
      intro i hi g H locs ls hg hP hD hS hl
      have hlt : i < 64 := by omega
      refine lv_iload_n hx hb dX0_letWaterRun_2 rfl (lv_at hl 1 rfl) ?_
      refine lv_bipush (v := 64) hx hb dX0_letWaterRun_3 (by decide) ?_
      refine lv_icmp_ge (tgt := 25) hx hb dX0_letWaterRun_5 (by decide) (fun hc => ?_) (fun hc => ?_)
      · skip
        exact absurd hc (nI_ge (b := 64) hlt (by decide))
      · skip
        refine lv_aload_n hx hb dX0_letWaterRun_8 rfl (lv_at hl 0 rfl) ?_
        refine va_get (D := D) (ci := 0) (v := .ref (ad 11)) (C := RX0) (T := TX0) (N := 15) hx hb hts (fun _ h9 => (List.mem_cons_of_mem _ (List.mem_append_right _ h9))) hown hK hP 0 rfl rfl 11 (by decide) (hts (Cond.fieldLink RX0 33 "FloodGrid$Plain" "crests" "[I") (List.mem_of_getElem? (i := 1) rfl)) (fun _ h9 => h9) rfl dX0_letWaterRun_9 ?_
        refine lv_iload_n hx hb dX0_letWaterRun_12 rfl (lv_at hl 1 rfl) ?_
        refine lv_aload_n hx hb dX0_letWaterRun_13 rfl (lv_at hl 0 rfl) ?_
        refine lv_iload_n hx hb dX0_letWaterRun_14 rfl (lv_at hl 1 rfl) ?_
        refine ct_Vi (As := [.int (nI i)]) (rest := [.int (nI i), .ref (ad 11)]) (wr := []) (W1 := fun u => (pW h ad cI hei wat dam wea dra peo rai hou bro drd lef g gai see fou)) (cells1 := 0) (slots1 := 0) ⟨hx, hb, hml, hown, hts⟩ (c_X0_crestOf l D cI h ad hei wat dam wea dra peo rai hou bro drd lef g gai see fou i hlt) (cwV 1 hts gX0_letWaterRun_X0_crestOf rfl rfl rfl (by decide +kernel) ⟨Nat.le_of_ble_eq_true rfl, Nat.le_of_ble_eq_true rfl⟩) hK hP hD hS hA [0, 1, 2, 3, 4, 5, 6, 7, 8, 9, 10, 11] [] ⟨rfl, rfl, rfl, rfl, rfl⟩ [0, 1, 2, 3, 4, 5, 6, 7, 8, 9, 10, 11] rfl (fun _ => rfl) [0] rfl (va_recv hK hP (ci := 0) (q0 := 0) rfl rfl) rfl hl.1 rfl (Nat.le_of_ble_eq_true rfl) rfl rfl ⟨Nat.le_of_ble_eq_true rfl, Nat.le_of_ble_eq_true rfl⟩ dX0_letWaterRun_15 (fun r u H locs hw hP hD hS => ?_)
        subst hw
        refine ct_iast (g := upd g i ((q_cre hei dam wat) i)) (ws1 := (pW h ad cI hei wat dam wea dra peo rai hou bro drd lef (upd g i ((q_cre hei dam wat) i)) gai see fou)) hx hb hK hP hD hS 8 0 rfl rfl i rfl (by omega) (by decide) rfl rfl dX0_letWaterRun_18 (fun H locs hP hD hS => ?_)
        refine lv_iinc (v := (nI (i + 1))) (lv' := [(1, .int (nI (i + 1))), (0, .ref h)]) hx hb dX0_letWaterRun_19 hl (k := 1) rfl (nI_1 i) (by decide) rfl (fun ls hl => ?_)
        refine lv_goto (tgt := 2) hx hb dX0_letWaterRun_22 (by decide) ?_
        exact ih (i + 1) (by omega) (upd g i ((q_cre hei dam wat) i)) H locs ls (by rw [hg]; exact q_mix_up rfl) hP hD hS (lv_sub hl [1, 0] rfl)
  exact loop 64 0 (by omega) cre H locs ls (q_mix_0 _ _).symm hP hD hS (lv_sub hl [1, 0] rfl)
abbrev rm_X0_goOneHour : Room := { frames := 3, cells := 0, slots := 0, locals := 68 }
set_option maxHeartbeats 4000000 in
set_option maxRecDepth 100000 in
theorem c_X0_hour (l : Launch) (D : va_G) (cI : ClassId) (h : Nat) (ad : Nat → Nat) (hei dra rai : Nat → Int32) (σ : Ms) (cre gai see fou : Nat → Int32) (ht : m_t σ < 2 ^ 30) : ct_v (S := (Nat → Int32) × (Nat → Int32)) l D yX0_goOneHour wsX0_goOneHour rm_X0_goOneHour [.ref h] (pM h ad cI hei dra rai σ cre gai see fou) [(cI, .int)] (fun _ => True) (fun u => (pM h ad cI hei dra rai (q_hour hei dra rai σ) u.1 u.2 see fou)) := by
  refine ct_ofv (cc := cX0_goOneHour) (maxL := 1) (by decide) rfl (Nat.le_of_ble_eq_true rfl) ?_
  intro p e s m args below meth c A Q hx hb hml hown hts hin hA hK H locs hP hD hS fin ls hl
  have hown : s.vm.findClass RX0 = some m.cls := hown
  have hl : lv_has ls 1 [(0, .ref h)] := hl
  refine lv_aload_n hx hb dX0_goOneHour_0 rfl (lv_at hl 0 rfl) ?_
  refine ct_Vv (As := []) (rest := []) (wr := []) (W1 := fun u => (pW h ad cI hei (q_w1 rai (m_t σ) (m_wat σ)) (m_dam σ) (m_wea σ) dra (m_peo σ) rai (nI (m_t σ)) (m_bro σ) (m_drd σ) (m_lef σ) cre gai see fou)) (cells1 := 0) (slots1 := 0) ⟨hx, hb, hml, hown, hts⟩ (c_X0_rain l D cI h ad hei (m_wat σ) (m_dam σ) (m_wea σ) dra (m_peo σ) rai (m_bro σ) (m_drd σ) (m_lef σ) cre gai see fou (m_t σ) (by omega)) (cwV 0 hts gX0_goOneHour_X0_letRainFall rfl rfl rfl (by decide +kernel) ⟨Nat.le_of_ble_eq_true rfl, Nat.le_of_ble_eq_true rfl⟩) hK hP hD hS hA [0, 1, 2, 3, 4, 5, 6, 7, 8, 9, 10, 11] [] ⟨rfl, rfl, rfl, rfl, rfl⟩ [0, 1, 2, 3, 4, 5, 6, 7, 8, 9, 10, 11] rfl (fun _ => rfl) [0] rfl (va_recv hK hP (ci := 0) (q0 := 0) rfl rfl) rfl hl.1 rfl (Nat.le_of_ble_eq_true rfl) rfl rfl ⟨Nat.le_of_ble_eq_true rfl, Nat.le_of_ble_eq_true rfl⟩ dX0_goOneHour_1 (fun u H locs hw hP hD hS => ?_)
  refine lv_aload_n hx hb dX0_goOneHour_4 rfl (lv_at hl 0 rfl) ?_
  refine ct_Vv (As := []) (rest := []) (wr := []) (W1 := fun u => (pW h ad cI hei (q_w2 hei (m_dam σ) (q_w1 rai (m_t σ) (m_wat σ))) (m_dam σ) (m_wea σ) dra (m_peo σ) rai (nI (m_t σ)) (m_bro σ) (m_drd σ) (m_lef σ) (q_cre hei (m_dam σ) (q_w1 rai (m_t σ) (m_wat σ))) (q_gain hei (q_w1 rai (m_t σ) (m_wat σ)) (m_dam σ) (q_cre hei (m_dam σ) (q_w1 rai (m_t σ) (m_wat σ))) 64) see fou)) (cells1 := 0) (slots1 := 0) ⟨hx, hb, hml, hown, hts⟩ (c_X0_run l D cI h ad hei (q_w1 rai (m_t σ) (m_wat σ)) (m_dam σ) (m_wea σ) dra (m_peo σ) rai (nI (m_t σ)) (m_bro σ) (m_drd σ) (m_lef σ) cre gai see fou) (cwV 0 hts gX0_goOneHour_X0_letWaterRun rfl rfl rfl (by decide +kernel) ⟨Nat.le_of_ble_eq_true rfl, Nat.le_of_ble_eq_true rfl⟩) hK hP hD hS hA [0, 1, 2, 3, 4, 5, 6, 7, 8, 9, 10, 11] [] ⟨rfl, rfl, rfl, rfl, rfl⟩ [0, 1, 2, 3, 4, 5, 6, 7, 8, 9, 10, 11] rfl (fun _ => rfl) [0] rfl (va_recv hK hP (ci := 0) (q0 := 0) rfl rfl) rfl hl.1 rfl (Nat.le_of_ble_eq_true rfl) rfl rfl ⟨Nat.le_of_ble_eq_true rfl, Nat.le_of_ble_eq_true rfl⟩ dX0_goOneHour_5 (fun u H locs hw hP hD hS => ?_)
  refine lv_aload_n hx hb dX0_goOneHour_8 rfl (lv_at hl 0 rfl) ?_
  refine ct_Vv (As := []) (rest := []) (wr := []) (W1 := fun u => (pW h ad cI hei (q_w2 hei (m_dam σ) (q_w1 rai (m_t σ) (m_wat σ))) (q_dam (m_dam σ) (q_w2 hei (m_dam σ) (q_w1 rai (m_t σ) (m_wat σ))) (m_wea σ)) (q_wea (m_dam σ) (q_w2 hei (m_dam σ) (q_w1 rai (m_t σ) (m_wat σ))) (m_wea σ)) dra (m_peo σ) rai (nI (m_t σ)) (m_bro σ + q_sum (q_brk (m_dam σ) (q_w2 hei (m_dam σ) (q_w1 rai (m_t σ) (m_wat σ))) (m_wea σ)) 64) (m_drd σ) (m_lef σ) (q_cre hei (m_dam σ) (q_w1 rai (m_t σ) (m_wat σ))) (q_gain hei (q_w1 rai (m_t σ) (m_wat σ)) (m_dam σ) (q_cre hei (m_dam σ) (q_w1 rai (m_t σ) (m_wat σ))) 64) see fou)) (cells1 := 0) (slots1 := 0) ⟨hx, hb, hml, hown, hts⟩ (c_X0_wear l D cI h ad hei (q_w2 hei (m_dam σ) (q_w1 rai (m_t σ) (m_wat σ))) (m_dam σ) (m_wea σ) dra (m_peo σ) rai (nI (m_t σ)) (m_bro σ) (m_drd σ) (m_lef σ) (q_cre hei (m_dam σ) (q_w1 rai (m_t σ) (m_wat σ))) (q_gain hei (q_w1 rai (m_t σ) (m_wat σ)) (m_dam σ) (q_cre hei (m_dam σ) (q_w1 rai (m_t σ) (m_wat σ))) 64) see fou) (cwV 0 hts gX0_goOneHour_X0_wearDams rfl rfl rfl (by decide +kernel) ⟨Nat.le_of_ble_eq_true rfl, Nat.le_of_ble_eq_true rfl⟩) hK hP hD hS hA [0, 1, 2, 3, 4, 5, 6, 7, 8, 9, 10, 11] [] ⟨rfl, rfl, rfl, rfl, rfl⟩ [0, 1, 2, 3, 4, 5, 6, 7, 8, 9, 10, 11] rfl (fun _ => rfl) [0] rfl (va_recv hK hP (ci := 0) (q0 := 0) rfl rfl) rfl hl.1 rfl (Nat.le_of_ble_eq_true rfl) rfl rfl ⟨Nat.le_of_ble_eq_true rfl, Nat.le_of_ble_eq_true rfl⟩ dX0_goOneHour_9 (fun u H locs hw hP hD hS => ?_)
  refine lv_aload_n hx hb dX0_goOneHour_12 rfl (lv_at hl 0 rfl) ?_
  refine ct_Vv (As := []) (rest := []) (wr := []) (W1 := fun u => (pW h ad cI hei (q_w3 dra (q_w2 hei (m_dam σ) (q_w1 rai (m_t σ) (m_wat σ)))) (q_dam (m_dam σ) (q_w2 hei (m_dam σ) (q_w1 rai (m_t σ) (m_wat σ))) (m_wea σ)) (q_wea (m_dam σ) (q_w2 hei (m_dam σ) (q_w1 rai (m_t σ) (m_wat σ))) (m_wea σ)) dra (m_peo σ) rai (nI (m_t σ)) (m_bro σ + q_sum (q_brk (m_dam σ) (q_w2 hei (m_dam σ) (q_w1 rai (m_t σ) (m_wat σ))) (m_wea σ)) 64) (m_drd σ + q_sum (q_tak dra (q_w2 hei (m_dam σ) (q_w1 rai (m_t σ) (m_wat σ)))) 64) (m_lef σ) (q_cre hei (m_dam σ) (q_w1 rai (m_t σ) (m_wat σ))) (q_gain hei (q_w1 rai (m_t σ) (m_wat σ)) (m_dam σ) (q_cre hei (m_dam σ) (q_w1 rai (m_t σ) (m_wat σ))) 64) see fou)) (cells1 := 0) (slots1 := 0) ⟨hx, hb, hml, hown, hts⟩ (c_X0_drain l D cI h ad hei (q_w2 hei (m_dam σ) (q_w1 rai (m_t σ) (m_wat σ))) (q_dam (m_dam σ) (q_w2 hei (m_dam σ) (q_w1 rai (m_t σ) (m_wat σ))) (m_wea σ)) (q_wea (m_dam σ) (q_w2 hei (m_dam σ) (q_w1 rai (m_t σ) (m_wat σ))) (m_wea σ)) dra (m_peo σ) rai (nI (m_t σ)) (m_bro σ + q_sum (q_brk (m_dam σ) (q_w2 hei (m_dam σ) (q_w1 rai (m_t σ) (m_wat σ))) (m_wea σ)) 64) (m_drd σ) (m_lef σ) (q_cre hei (m_dam σ) (q_w1 rai (m_t σ) (m_wat σ))) (q_gain hei (q_w1 rai (m_t σ) (m_wat σ)) (m_dam σ) (q_cre hei (m_dam σ) (q_w1 rai (m_t σ) (m_wat σ))) 64) see fou) (cwV 0 hts gX0_goOneHour_X0_drainCells rfl rfl rfl (by decide +kernel) ⟨Nat.le_of_ble_eq_true rfl, Nat.le_of_ble_eq_true rfl⟩) hK hP hD hS hA [0, 1, 2, 3, 4, 5, 6, 7, 8, 9, 10, 11] [] ⟨rfl, rfl, rfl, rfl, rfl⟩ [0, 1, 2, 3, 4, 5, 6, 7, 8, 9, 10, 11] rfl (fun _ => rfl) [0] rfl (va_recv hK hP (ci := 0) (q0 := 0) rfl rfl) rfl hl.1 rfl (Nat.le_of_ble_eq_true rfl) rfl rfl ⟨Nat.le_of_ble_eq_true rfl, Nat.le_of_ble_eq_true rfl⟩ dX0_goOneHour_13 (fun u H locs hw hP hD hS => ?_)
  refine lv_aload_n hx hb dX0_goOneHour_16 rfl (lv_at hl 0 rfl) ?_
  refine ct_Vv (As := []) (rest := []) (wr := []) (W1 := fun u => (pW h ad cI hei (q_w3 dra (q_w2 hei (m_dam σ) (q_w1 rai (m_t σ) (m_wat σ)))) (q_dam (m_dam σ) (q_w2 hei (m_dam σ) (q_w1 rai (m_t σ) (m_wat σ))) (m_wea σ)) (q_wea (m_dam σ) (q_w2 hei (m_dam σ) (q_w1 rai (m_t σ) (m_wat σ))) (m_wea σ)) dra (q_peo (q_w3 dra (q_w2 hei (m_dam σ) (q_w1 rai (m_t σ) (m_wat σ)))) (m_peo σ)) rai (nI (m_t σ)) (m_bro σ + q_sum (q_brk (m_dam σ) (q_w2 hei (m_dam σ) (q_w1 rai (m_t σ) (m_wat σ))) (m_wea σ)) 64) (m_drd σ + q_sum (q_tak dra (q_w2 hei (m_dam σ) (q_w1 rai (m_t σ) (m_wat σ)))) 64) (m_lef σ + q_sum (q_lv (q_w3 dra (q_w2 hei (m_dam σ) (q_w1 rai (m_t σ) (m_wat σ)))) (m_peo σ)) 64) (q_cre hei (m_dam σ) (q_w1 rai (m_t σ) (m_wat σ))) (q_gain hei (q_w1 rai (m_t σ) (m_wat σ)) (m_dam σ) (q_cre hei (m_dam σ) (q_w1 rai (m_t σ) (m_wat σ))) 64) see fou)) (cells1 := 0) (slots1 := 0) ⟨hx, hb, hml, hown, hts⟩ (c_X0_leave l D cI h ad hei (q_w3 dra (q_w2 hei (m_dam σ) (q_w1 rai (m_t σ) (m_wat σ)))) (q_dam (m_dam σ) (q_w2 hei (m_dam σ) (q_w1 rai (m_t σ) (m_wat σ))) (m_wea σ)) (q_wea (m_dam σ) (q_w2 hei (m_dam σ) (q_w1 rai (m_t σ) (m_wat σ))) (m_wea σ)) dra (m_peo σ) rai (nI (m_t σ)) (m_bro σ + q_sum (q_brk (m_dam σ) (q_w2 hei (m_dam σ) (q_w1 rai (m_t σ) (m_wat σ))) (m_wea σ)) 64) (m_drd σ + q_sum (q_tak dra (q_w2 hei (m_dam σ) (q_w1 rai (m_t σ) (m_wat σ)))) 64) (m_lef σ) (q_cre hei (m_dam σ) (q_w1 rai (m_t σ) (m_wat σ))) (q_gain hei (q_w1 rai (m_t σ) (m_wat σ)) (m_dam σ) (q_cre hei (m_dam σ) (q_w1 rai (m_t σ) (m_wat σ))) 64) see fou) (cwV 0 hts gX0_goOneHour_X0_leaveTowns rfl rfl rfl (by decide +kernel) ⟨Nat.le_of_ble_eq_true rfl, Nat.le_of_ble_eq_true rfl⟩) hK hP hD hS hA [0, 1, 2, 3, 4, 5, 6, 7, 8, 9, 10, 11] [] ⟨rfl, rfl, rfl, rfl, rfl⟩ [0, 1, 2, 3, 4, 5, 6, 7, 8, 9, 10, 11] rfl (fun _ => rfl) [0] rfl (va_recv hK hP (ci := 0) (q0 := 0) rfl rfl) rfl hl.1 rfl (Nat.le_of_ble_eq_true rfl) rfl rfl ⟨Nat.le_of_ble_eq_true rfl, Nat.le_of_ble_eq_true rfl⟩ dX0_goOneHour_17 (fun u H locs hw hP hD hS => ?_)
  refine lv_aload_n hx hb dX0_goOneHour_20 rfl (lv_at hl 0 rfl) ?_
  refine lv_dup hx hb dX0_goOneHour_21 rfl ?_
  refine va_get (D := D) (ci := 0) (v := .int (nI (m_t σ))) (C := RX0) (T := TX0) (N := 15) hx hb hts (fun _ h9 => (List.mem_cons_of_mem _ (List.mem_append_right _ h9))) hown hK hP 0 rfl rfl 7 (by decide) (hts (Cond.fieldLink RX0 57 "FloodGrid$Plain" "hour" "I") (List.mem_of_getElem? (i := 1) rfl)) (fun _ h9 => h9) rfl dX0_goOneHour_22 ?_
  refine lv_iconst (v := 1) hx hb dX0_goOneHour_25 (by decide) ?_
  refine lv_iadd hx hb dX0_goOneHour_26 ?_
  refine ct_top (y := (nI ((m_t σ) + 1))) (nI_1 (m_t σ)) ?_
  refine va_put (D := D) (ci := 0) (v := .int (nI ((m_t σ) + 1))) (ty := .int) (C := RX0) (T := TX0) (N := 15) hx hb hts (fun _ h9 => (List.mem_cons_of_mem _ (List.mem_append_right _ h9))) tyX0 tyX0_ok nmX0 hown hK hP hD hS 0 rfl rfl 7 (by decide) (hts (Cond.fieldLink RX0 57 "FloodGrid$Plain" "hour" "I") (List.mem_of_getElem? (i := 1) rfl)) (fun _ h9 => h9) rfl (by decide +kernel) rfl rfl (Nat.le_of_ble_eq_true rfl) dX0_goOneHour_27 (fun H locs hP hD hS => ?_)
  have hP : va_P D vwCl (pW h ad cI hei (q_w3 dra (q_w2 hei (m_dam σ) (q_w1 rai (m_t σ) (m_wat σ)))) (q_dam (m_dam σ) (q_w2 hei (m_dam σ) (q_w1 rai (m_t σ) (m_wat σ))) (m_wea σ)) (q_wea (m_dam σ) (q_w2 hei (m_dam σ) (q_w1 rai (m_t σ) (m_wat σ))) (m_wea σ)) dra (q_peo (q_w3 dra (q_w2 hei (m_dam σ) (q_w1 rai (m_t σ) (m_wat σ)))) (m_peo σ)) rai (nI ((m_t σ) + 1)) (m_bro σ + q_sum (q_brk (m_dam σ) (q_w2 hei (m_dam σ) (q_w1 rai (m_t σ) (m_wat σ))) (m_wea σ)) 64) (m_drd σ + q_sum (q_tak dra (q_w2 hei (m_dam σ) (q_w1 rai (m_t σ) (m_wat σ)))) 64) (m_lef σ + q_sum (q_lv (q_w3 dra (q_w2 hei (m_dam σ) (q_w1 rai (m_t σ) (m_wat σ)))) (m_peo σ)) 64) (q_cre hei (m_dam σ) (q_w1 rai (m_t σ) (m_wat σ))) (q_gain hei (q_w1 rai (m_t σ) (m_wat σ)) (m_dam σ) (q_cre hei (m_dam σ) (q_w1 rai (m_t σ) (m_wat σ))) 64) see fou) H := hP
  have hD : va_D A (pW h ad cI hei (q_w3 dra (q_w2 hei (m_dam σ) (q_w1 rai (m_t σ) (m_wat σ)))) (q_dam (m_dam σ) (q_w2 hei (m_dam σ) (q_w1 rai (m_t σ) (m_wat σ))) (m_wea σ)) (q_wea (m_dam σ) (q_w2 hei (m_dam σ) (q_w1 rai (m_t σ) (m_wat σ))) (m_wea σ)) dra (q_peo (q_w3 dra (q_w2 hei (m_dam σ) (q_w1 rai (m_t σ) (m_wat σ)))) (m_peo σ)) rai (nI ((m_t σ) + 1)) (m_bro σ + q_sum (q_brk (m_dam σ) (q_w2 hei (m_dam σ) (q_w1 rai (m_t σ) (m_wat σ))) (m_wea σ)) 64) (m_drd σ + q_sum (q_tak dra (q_w2 hei (m_dam σ) (q_w1 rai (m_t σ) (m_wat σ)))) 64) (m_lef σ + q_sum (q_lv (q_w3 dra (q_w2 hei (m_dam σ) (q_w1 rai (m_t σ) (m_wat σ)))) (m_peo σ)) 64) (q_cre hei (m_dam σ) (q_w1 rai (m_t σ) (m_wat σ))) (q_gain hei (q_w1 rai (m_t σ) (m_wat σ)) (m_dam σ) (q_cre hei (m_dam σ) (q_w1 rai (m_t σ) (m_wat σ))) 64) see fou) := hD
  exact fin ((q_cre hei (m_dam σ) (q_w1 rai (m_t σ) (m_wat σ))), (q_gain hei (q_w1 rai (m_t σ) (m_wat σ)) (m_dam σ) (q_cre hei (m_dam σ) (q_w1 rai (m_t σ) (m_wat σ))) 64)) H locs 0 0 30 ls dX0_goOneHour_30 trivial hP hD hS (Nat.le_of_ble_eq_true rfl) (Nat.le_of_ble_eq_true rfl)
abbrev rm_X0_goHours : Room := { frames := 4, cells := 0, slots := 0, locals := 88 }
set_option maxHeartbeats 4000000 in
set_option maxRecDepth 100000 in
theorem c_X0_hours (l : Launch) (D : va_G) (cI : ClassId) (h : Nat) (ad : Nat → Nat) (hei dra rai : Nat → Int32) (σ : Ms) (cre gai see fou : Nat → Int32) (n : Nat) (hn : n < 2 ^ 20) (ht : m_t σ + n < 2 ^ 30) : ct_i (S := (Nat → Int32) × (Nat → Int32)) l D yX0_goHours wsX0_goHours rm_X0_goHours [.ref h, .int (nI n)] (pM h ad cI hei dra rai σ cre gai see fou) [(cI, .int)] (fun r _ => r = m_lef (q_hours hei dra rai n σ) - m_lef σ) (fun u => (pM h ad cI hei dra rai (q_hours hei dra rai n σ) u.1 u.2 see fou)) := by
  refine ct_ofi (cc := cX0_goHours) (maxL := 4) (by decide) rfl (Nat.le_of_ble_eq_true rfl) ?_
  intro p e s m args below meth c A Q hx hb hml hown hts hin hA hK H locs hP hD hS fin ls hl
  have hown : s.vm.findClass RX0 = some m.cls := hown
  have hl : lv_has ls 4 [(0, .ref h), (1, .int (nI n))] := hl
  refine lv_aload_n hx hb dX0_goHours_0 rfl (lv_at hl 0 rfl) ?_
  refine va_get (D := D) (ci := 0) (v := .int (m_lef σ)) (C := RX0) (T := TX0) (N := 15) hx hb hts (fun _ h9 => (List.mem_cons_of_mem _ (List.mem_append_right _ h9))) hown hK hP 0 rfl rfl 10 (by decide) (hts (Cond.fieldLink RX0 67 "FloodGrid$Plain" "left" "I") (List.mem_of_getElem? (i := 1) rfl)) (fun _ h9 => h9) rfl dX0_goHours_1 ?_
  refine lv_istore_n (lv' := [(2, .int (m_lef σ)), (0, .ref h), (1, .int (nI n))]) hx hb dX0_goHours_4 rfl hl (by decide) rfl (fun ls hl => ?_)
  refine lv_iconst (v := 0) hx hb dX0_goHours_5 (by decide) ?_
  refine lv_istore_n (lv' := [(3, .int 0), (2, .int (m_lef σ)), (0, .ref h), (1, .int (nI n))]) hx hb dX0_goHours_6 rfl hl (by decide) rfl (fun ls hl => ?_)
  have loop : ∀ (fu i : Nat), i + fu = n → ∀ (c1 : Nat → Int32) (g1 : Nat → Int32) (H : Heap) (locs : List Loc) (ls : Array Slot), va_P D vwCl (pM h ad cI hei dra rai (q_hours hei dra rai i σ) c1 g1 see fou) H → va_D A (pM h ad cI hei dra rai (q_hours hei dra rai i σ) c1 g1 see fou) → va_S A s.heap H locs → lv_has ls 4 [(0, .ref h), (1, .int (nI n)), (2, .int (m_lef σ)), (3, .int (nI i))] → W p l e rm_X0_goHours s m args below meth c H locs 0 0 Q (F0 m 7 ls []) := by
    intro fu
    induction fu with
    | zero =>
      intro i hi c1 g1 H locs ls  hP hD hS hl
      obtain rfl : n = i := by omega
      refine lv_iload_n hx hb dX0_goHours_7 rfl (lv_at hl 3 rfl) ?_
      refine lv_iload_n hx hb dX0_goHours_8 rfl (lv_at hl 1 rfl) ?_
      refine lv_icmp_ge (tgt := 22) hx hb dX0_goHours_9 (by decide) (fun hc => ?_) (fun hc => ?_)
      · skip
        refine lv_aload_n hx hb dX0_goHours_22 rfl (lv_at hl 0 rfl) ?_
        refine va_get (D := D) (ci := 0) (v := .int (m_lef (q_hours hei dra rai n σ))) (C := RX0) (T := TX0) (N := 15) hx hb hts (fun _ h9 => (List.mem_cons_of_mem _ (List.mem_append_right _ h9))) hown hK hP 0 rfl rfl 10 (by decide) (hts (Cond.fieldLink RX0 67 "FloodGrid$Plain" "left" "I") (List.mem_of_getElem? (i := 1) rfl)) (fun _ h9 => h9) rfl dX0_goHours_23 ?_
        refine lv_iload_n hx hb dX0_goHours_26 rfl (lv_at hl 2 rfl) ?_
        refine lv_isub hx hb dX0_goHours_27 ?_
        exact fin ((m_lef (q_hours hei dra rai n σ)) - (m_lef σ)) (c1, g1) H locs 0 0 28 ls dX0_goHours_28 rfl hP hD hS (Nat.le_of_ble_eq_true rfl) (Nat.le_of_ble_eq_true rfl)
      · skip
        exact absurd (Int32.le_refl _) hc
    | succ fu ih =>
      intro i hi c1 g1 H locs ls  hP hD hS hl
      have hlt : i < n := by omega
      refine lv_iload_n hx hb dX0_goHours_7 rfl (lv_at hl 3 rfl) ?_
      refine lv_iload_n hx hb dX0_goHours_8 rfl (lv_at hl 1 rfl) ?_
      refine lv_icmp_ge (tgt := 22) hx hb dX0_goHours_9 (by decide) (fun hc => ?_) (fun hc => ?_)
      · skip
        exact absurd hc (nI_ge hlt (by omega))
      · skip
        refine lv_aload_n hx hb dX0_goHours_12 rfl (lv_at hl 0 rfl) ?_
        refine ct_Vv (As := []) (rest := []) (wr := []) (W1 := fun u => (pM h ad cI hei dra rai (q_hours hei dra rai (i + 1) σ) u.1 u.2 see fou)) (cells1 := 0) (slots1 := 0) ⟨hx, hb, hml, hown, hts⟩ (c_X0_hour l D cI h ad hei dra rai (q_hours hei dra rai i σ) c1 g1 see fou (by rw [q_hours_t]; omega)) (cwV 0 hts gX0_goHours_X0_goOneHour rfl rfl rfl (by decide +kernel) ⟨Nat.le_of_ble_eq_true rfl, Nat.le_of_ble_eq_true rfl⟩) hK hP hD hS hA [0, 1, 2, 3, 4, 5, 6, 7, 8, 9, 10, 11] [] ⟨rfl, rfl, rfl, rfl, rfl⟩ [0, 1, 2, 3, 4, 5, 6, 7, 8, 9, 10, 11] rfl (fun _ => rfl) [0] rfl (va_recv hK hP (ci := 0) (q0 := 0) rfl rfl) rfl hl.1 rfl (Nat.le_of_ble_eq_true rfl) rfl rfl ⟨Nat.le_of_ble_eq_true rfl, Nat.le_of_ble_eq_true rfl⟩ dX0_goHours_13 (fun u H locs hw hP hD hS => ?_)
        refine lv_iinc (v := (nI (i + 1))) (lv' := [(3, .int (nI (i + 1))), (0, .ref h), (1, .int (nI n)), (2, .int (m_lef σ))]) hx hb dX0_goHours_16 hl (k := 3) rfl (nI_1 i) (by decide) rfl (fun ls hl => ?_)
        refine lv_goto (tgt := 7) hx hb dX0_goHours_19 (by decide) ?_
        exact ih (i + 1) (by omega) u.1 u.2 H locs ls  hP hD hS (lv_sub hl [1, 2, 3, 0] rfl)
  exact loop n 0 (by omega) cre gai H locs ls  hP hD hS (lv_sub hl [2, 3, 1, 0] rfl)
