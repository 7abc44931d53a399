theorem le0 {x : Int32} (h0 : 0 ≤ x) (h : x ≤ 0) : x = 0 := Int32.le_antisymm h h0
theorem adv_pos {x : Int32} (h0 : 0 ≤ x) (h : x ≤ 20) : 0 ≤ i_min 20 (x + 5) := by
  obtain ⟨j, hj, rfl⟩ := nI_of (Int32.not_lt.mpr h0)
  have hj20 : j ≤ 20 := (nI_leI (b := 20) hj (by decide)).mp h
  unfold i_min
  split
  · show 0 ≤ nI j + nI 5
    rw [nI_add]
    exact nI_pos' (by omega)
  · decide
abbrev rm_X2_floods : Room := { frames := 4, cells := 7, slots := 270, locals := 89 }
set_option maxHeartbeats 4000000 in
set_option maxRecDepth 100000 in
theorem c_X2_floods (l : Launch) (D : va_G) (cI cJ : ClassId) (h : Nat) (ad : Nat → Nat) (thr : Int32) (hei dra rai : Nat → Int32) (σ : Ms) (flo lak row : Nat → Int32) (ht : m_t σ < 2 ^ 29) (hinv : inv1 σ) (x y : Int32) : cy_i (S := Int32 × (Nat → Int32)) l D yX2_floods wsX2_floods rm_X2_floods [.ref h, .int x, .int y] (mM h ad cI thr hei dra rai σ flo lak row) [(cI, .int), (cJ, .array .int)] (fun r u => (¬ inC x y ∧ u.1 = 1) ∨ (inC x y ∧ u.1 = 0 ∧ r = (q_floods hei dra rai σ (q_at x y)))) (fun u => (mM h ad cI u.1 hei dra rai σ u.2 lak row)) := by
  refine cy_ofi (cc := cX2_floods) (maxL := 6) (by decide) rfl (Nat.le_of_ble_eq_true rfl) ?_
  intro p e s m args below meth c A Q hx hb hml hown hts hA hK hY H locs hP hD hS fin ls hl
  have hown : s.vm.findClass RX2 = some m.cls := hown
  have hl : lv_has ls 6 [(0, .ref h), (1, .int x), (2, .int y)] := hl
  refine lv_aload_n hx hb dX2_floods_0 rfl (lv_at hl 0 rfl) ?_
  refine lv_iconst (v := 0) hx hb dX2_floods_1 (by decide) ?_
  refine va_put (D := D) (ci := 2) (v := .int 0) (ty := .int) (C := RX2) (T := TX2) (N := 12) hx hb hts (fun _ h9 => (List.mem_cons_of_mem _ (List.mem_append_right _ h9))) tyX2 tyX2_ok nmX2 hown hK hP hD hS 0 rfl rfl 0 (by decide) (hts (Cond.fieldLink RX2 43 "FloodGridModel" "thrown" "I") (List.mem_of_getElem? (i := 1) rfl)) (fun _ h9 => h9) rfl (by decide +kernel) rfl rfl (Nat.le_of_ble_eq_true rfl) dX2_floods_2 (fun H locs hP hD hS => ?_)
  have hP : va_P D vwCl (mM h ad cI 0 hei dra rai σ flo lak row) H := hP
  have hD : va_D A (mM h ad cI 0 hei dra rai σ flo lak row) := hD
  refine lv_iload_n hx hb dX2_floods_5 rfl (lv_at hl 1 rfl) ?_
  refine lv_iload_n hx hb dX2_floods_6 rfl (lv_at hl 2 rfl) ?_
  refine ct_Si (As := [.int x, .int y]) (rest := []) (wr := [(h, .inr (2, [.int 0, .ref (ad 1), .ref (ad 2), .ref (ad 3), .ref (ad 4), .ref (ad 5), .ref (ad 6), .ref (ad 7), .ref (ad 8), .ref (ad 9), .ref (ad 10), .ref (ad 11)])), ((ad 1), .inl (cI, 64, .inl hei)), ((ad 2), .inl (cI, 64, .inl (m_wat σ))), ((ad 3), .inl (cI, 64, .inl (m_dam σ))), ((ad 4), .inl (cI, 64, .inl (m_wea σ))), ((ad 5), .inl (cI, 64, .inl dra)), ((ad 6), .inl (cI, 64, .inl (m_peo σ))), ((ad 7), .inl (cI, 12, .inl rai)), ((ad 8), .inl (cI, 4, .inl (q_num (nI (m_t σ)) (m_bro σ) (m_drd σ) (m_lef σ)))), ((ad 9), .inl (cI, 64, .inl flo)), ((ad 10), .inl (cI, 64, .inl lak)), ((ad 11), .inl (cI, 64, .inl row))]) (W1 := fun u => (mM h ad cI 0 hei dra rai σ flo lak row)) (cells1 := 0) (slots1 := 0) ⟨hx, hb, hml, hown, hts⟩ (c_isCell l D cI x y) (va_cwS 2 hts gX2_floods_X2_isCell rfl rfl rfl (by decide +kernel) ⟨Nat.le_of_ble_eq_true rfl, Nat.le_of_ble_eq_true rfl⟩) hK hP hD hS hA [] [0, 1, 2, 3, 4, 5, 6, 7, 8, 9, 10, 11] ⟨rfl, rfl, rfl, rfl, rfl⟩ [0, 1, 2, 3, 4, 5, 6, 7, 8, 9, 10, 11] rfl (fun _ => rfl) [0] rfl rfl hl.1 rfl (Nat.le_of_ble_eq_true rfl) rfl rfl ⟨(Nat.le_of_ble_eq_true rfl), (Nat.le_of_ble_eq_true rfl)⟩ dX2_floods_7 (fun r u H locs hw hP hD hS => ?_)
  subst hw
  refine lv_if_ne (tgt := 19) hx hb dX2_floods_10 (by decide) (fun hc => ?_) (fun hc => ?_)
  · skip
    have hin : inC x y := b_v_1 hc
    have hat := q_at_lt hin
    refine lv_bipush (v := 8) hx hb dX2_floods_19 (by decide) ?_
    refine lv_iload_n hx hb dX2_floods_21 rfl (lv_at hl 2 rfl) ?_
    refine lv_imul hx hb dX2_floods_22 ?_
    refine lv_iload_n hx hb dX2_floods_23 rfl (lv_at hl 1 rfl) ?_
    refine lv_iadd hx hb dX2_floods_24 ?_
    refine ct_top (y := (nI (q_at x y))) (q_at_eq hin) ?_
    refine lv_istore_n (lv' := [(3, .int (nI (q_at x y))), (0, .ref h), (1, .int x), (2, .int y)]) hx hb dX2_floods_25 rfl hl (by decide) rfl (fun ls hl => ?_)
    refine lv_aload_n hx hb dX2_floods_26 rfl (lv_at hl 1 rfl) ?_
    refine cy_Vr (As := []) (rest := []) (wr := []) (W1 := fun u ka => ((mM h ad cI 0 hei dra rai σ flo lak row) ++ (kW ka u cJ cI (m_wat σ) (m_dam σ) (m_wea σ) (m_peo σ) (q_num (nI (m_t σ)) (m_bro σ) (m_drd σ) (m_lef σ))))) (cells1 := 6) (slots1 := 265) ⟨hx, hb, hml, hown, hts⟩ (c_X2_kept l D cI cJ h ad 0 hei (m_wat σ) (m_dam σ) (m_wea σ) dra (m_peo σ) rai (q_num (nI (m_t σ)) (m_bro σ) (m_drd σ) (m_lef σ)) flo lak row) (cwV 0 hts gX2_floods_X2_kept rfl rfl rfl (by decide +kernel) ⟨Nat.le_of_ble_eq_true rfl, Nat.le_of_ble_eq_true rfl⟩) hK hP hD hS hA hY [0, 1, 2, 3, 4, 5, 6, 7, 8, 9, 10, 11] [] ⟨rfl, rfl, rfl, rfl, rfl⟩ [0, 1, 2, 3, 4, 5, 6, 7, 8, 9, 10, 11, 12, 13, 14, 15, 16, 17] rfl (fun _ _ => rfl) [0, 1] rfl (va_recv hK hP (ci := 2) (q0 := 0) rfl rfl) rfl hl.1 rfl (Nat.le_of_ble_eq_true rfl) rfl rfl ⟨Nat.le_of_ble_eq_true rfl, Nat.le_of_ble_eq_true rfl⟩ dX2_floods_27 (fun u ka H locs hw hP hD hS => ?_)
    obtain ⟨ku, hu0⟩ : ∃ y, y = u := ⟨_, rfl⟩
    subst hu0
    refine lv_astore (lv' := [(4, .ref ka), (3, .int (nI (q_at x y))), (0, .ref h), (1, .int x), (2, .int y)]) hx hb dX2_floods_30 hl (by decide) rfl (fun ls hl => ?_)
    refine lv_iconst (v := 0) hx hb dX2_floods_32 (by decide) ?_
    refine lv_istore (lv' := [(5, .int 0), (4, .ref ka), (3, .int (nI (q_at x y))), (0, .ref h), (1, .int x), (2, .int y)]) hx hb dX2_floods_33 hl (by decide) rfl (fun ls hl => ?_)
    have loop : ∀ (fu i : Nat), i + fu = 48 → ∀ (g1 : Nat → Int32) (H : Heap) (locs : List Loc) (ls : Array Slot), ((q_floods hei dra rai σ (q_at x y)) = q_seek hei dra rai (q_wet3 (q_at x y)) σ (fu + 1) i) → va_P D vwCl ((mM h ad cI 0 hei dra rai (q_hours hei dra rai i σ) g1 lak row) ++ (kW ka ku cJ cI (m_wat σ) (m_dam σ) (m_wea σ) (m_peo σ) (q_num (nI (m_t σ)) (m_bro σ) (m_drd σ) (m_lef σ)))) H → va_D A ((mM h ad cI 0 hei dra rai (q_hours hei dra rai i σ) g1 lak row) ++ (kW ka ku cJ cI (m_wat σ) (m_dam σ) (m_wea σ) (m_peo σ) (q_num (nI (m_t σ)) (m_bro σ) (m_drd σ) (m_lef σ)))) → va_S A s.heap H locs → lv_has ls 6 [(0, .ref h), (1, .int x), (2, .int y), (3, .int (nI (q_at x y))), (4, .ref ka), (5, .int (nI i))] → W p l e rm_X2_floods s m args below meth c H locs 6 265 Q (F0 m 35 ls []) := by
      intro fu
      induction fu with
      | zero =>
        intro i hi g1 H locs ls hV hP hD hS hl
        obtain rfl : 48 = i := by omega
        refine lv_iload hx hb dX2_floods_35 (lv_at hl 5 rfl) ?_
        refine lv_bipush (v := 48) hx hb dX2_floods_37 (by decide) ?_
        refine lv_icmp_ge (tgt := 62) hx hb dX2_floods_39 (by decide) (fun hc2 => ?_) (fun hc2 => ?_)
        · skip
          by_cases h8 : 3 ≤ m_wat (q_hours hei dra rai 48 σ) (q_at x y)
          · skip
            refine lv_aload_n hx hb dX2_floods_62 rfl (lv_at hl 0 rfl) ?_
            refine va_get (D := D) (ci := 2) (v := .ref (ad 2)) (C := RX2) (T := TX2) (N := 12) hx hb hts (fun _ h9 => (List.mem_cons_of_mem _ (List.mem_append_right _ h9))) hown hK hP 0 rfl rfl 2 (by decide) (hts (Cond.fieldLink RX2 13 "FloodGridModel" "water" "[I") (List.mem_of_getElem? (i := 2) rfl)) (fun _ h9 => h9) rfl dX2_floods_63 ?_
            refine lv_iload_n hx hb dX2_floods_66 rfl (lv_at hl 3 rfl) ?_
            refine ct_iald (v := (m_wat (q_hours hei dra rai 48 σ)) (q_at x y)) hx hb hK hP 2 0 rfl rfl (q_at x y) rfl hat (by decide) rfl dX2_floods_67 ?_
            refine lv_iconst (v := 3) hx hb dX2_floods_68 (by decide) ?_
            refine lv_icmp_ge (tgt := 75) hx hb dX2_floods_69 (by decide) (fun hc8 => ?_) (fun hc8 => ?_)
            · skip
              refine lv_aload_n hx hb dX2_floods_75 rfl (lv_at hl 0 rfl) ?_
              refine lv_aload hx hb dX2_floods_76 (lv_at hl 4 rfl) ?_
              refine cy_Vv (As := [.ref ka]) (rest := []) (wr := []) (W1 := fun u => ((mM h ad cI 0 hei dra rai σ g1 lak row) ++ (kW ka ku cJ cI (m_wat σ) (m_dam σ) (m_wea σ) (m_peo σ) (q_num (nI (m_t σ)) (m_bro σ) (m_drd σ) (m_lef σ))))) (cells1 := 7) (slots1 := 270) ⟨hx, hb, hml, hown, hts⟩ (c_X2_bring l D cI cJ h ad 0 hei (m_wat (q_hours hei dra rai 48 σ)) (m_dam (q_hours hei dra rai 48 σ)) (m_wea (q_hours hei dra rai 48 σ)) dra (m_peo (q_hours hei dra rai 48 σ)) rai (q_num (nI (m_t (q_hours hei dra rai 48 σ))) (m_bro (q_hours hei dra rai 48 σ)) (m_drd (q_hours hei dra rai 48 σ)) (m_lef (q_hours hei dra rai 48 σ))) g1 lak row ka ku (m_wat σ) (m_dam σ) (m_wea σ) (m_peo σ) (q_num (nI (m_t σ)) (m_bro σ) (m_drd σ) (m_lef σ))) (cwV 1 hts gX2_floods_X2_bringBack rfl rfl rfl (by decide +kernel) ⟨Nat.le_of_ble_eq_true rfl, Nat.le_of_ble_eq_true rfl⟩) hK hP hD hS hA hY [0, 1, 2, 3, 4, 5, 6, 7, 8, 9, 10, 11, 12, 13, 14, 15, 16, 17] [] ⟨rfl, rfl, rfl, rfl, rfl⟩ [0, 1, 2, 3, 4, 5, 6, 7, 8, 9, 10, 11, 12, 13, 14, 15, 16, 17] rfl (fun _ => rfl) [0, 1] rfl (va_recv hK hP (ci := 2) (q0 := 0) rfl rfl) rfl hl.1 rfl (Nat.le_of_ble_eq_true rfl) rfl rfl ⟨Nat.le_of_ble_eq_true rfl, Nat.le_of_ble_eq_true rfl⟩ dX2_floods_78 (fun u H locs hw hP hD hS => ?_)
              refine lv_iload hx hb dX2_floods_81 (lv_at hl 5 rfl) ?_
              have hP := hP.sub (ws' := (mM h ad cI 0 hei dra rai σ g1 lak row)) [0, 1, 2, 3, 4, 5, 6, 7, 8, 9, 10, 11] rfl
              have hD := hD.sub (ws' := (mM h ad cI 0 hei dra rai σ g1 lak row)) [0, 1, 2, 3, 4, 5, 6, 7, 8, 9, 10, 11] (by decide) rfl
              exact fin (nI 48) (0, g1) H locs 7 270 83 ls dX2_floods_83 (Or.inr ⟨hin, rfl, (by rw [hV]; exact (q_seek_yes (test := q_wet3 (q_at x y) ) (f := 0) h8).symm)⟩) hP hD hS (Nat.le_of_ble_eq_true rfl) (Nat.le_of_ble_eq_true rfl)
            · skip
              exact absurd h8 hc8
          · skip
            refine lv_aload_n hx hb dX2_floods_62 rfl (lv_at hl 0 rfl) ?_
            refine va_get (D := D) (ci := 2) (v := .ref (ad 2)) (C := RX2) (T := TX2) (N := 12) hx hb hts (fun _ h9 => (List.mem_cons_of_mem _ (List.mem_append_right _ h9))) hown hK hP 0 rfl rfl 2 (by decide) (hts (Cond.fieldLink RX2 13 "FloodGridModel" "water" "[I") (List.mem_of_getElem? (i := 2) rfl)) (fun _ h9 => h9) rfl dX2_floods_63 ?_
            refine lv_iload_n hx hb dX2_floods_66 rfl (lv_at hl 3 rfl) ?_
            refine ct_iald (v := (m_wat (q_hours hei dra rai 48 σ)) (q_at x y)) hx hb hK hP 2 0 rfl rfl (q_at x y) rfl hat (by decide) rfl dX2_floods_67 ?_
            refine lv_iconst (v := 3) hx hb dX2_floods_68 (by decide) ?_
            refine lv_icmp_ge (tgt := 75) hx hb dX2_floods_69 (by decide) (fun hc8 => ?_) (fun hc8 => ?_)
            · skip
              exact absurd hc8 h8
            · skip
              refine lv_iconst (v := (-1)) hx hb dX2_floods_72 (by decide) ?_
              refine lv_istore (lv' := [(5, .int (-1)), (0, .ref h), (1, .int x), (2, .int y), (3, .int (nI (q_at x y))), (4, .ref ka)]) hx hb dX2_floods_73 hl (by decide) rfl (fun ls hl => ?_)
              refine lv_aload_n hx hb dX2_floods_75 rfl (lv_at hl 1 rfl) ?_
              refine lv_aload hx hb dX2_floods_76 (lv_at hl 5 rfl) ?_
              refine cy_Vv (As := [.ref ka]) (rest := []) (wr := []) (W1 := fun u => ((mM h ad cI 0 hei dra rai σ g1 lak row) ++ (kW ka ku cJ cI (m_wat σ) (m_dam σ) (m_wea σ) (m_peo σ) (q_num (nI (m_t σ)) (m_bro σ) (m_drd σ) (m_lef σ))))) (cells1 := 7) (slots1 := 270) ⟨hx, hb, hml, hown, hts⟩ (c_X2_bring l D cI cJ h ad 0 hei (m_wat (q_hours hei dra rai 48 σ)) (m_dam (q_hours hei dra rai 48 σ)) (m_wea (q_hours hei dra rai 48 σ)) dra (m_peo (q_hours hei dra rai 48 σ)) rai (q_num (nI (m_t (q_hours hei dra rai 48 σ))) (m_bro (q_hours hei dra rai 48 σ)) (m_drd (q_hours hei dra rai 48 σ)) (m_lef (q_hours hei dra rai 48 σ))) g1 lak row ka ku (m_wat σ) (m_dam σ) (m_wea σ) (m_peo σ) (q_num (nI (m_t σ)) (m_bro σ) (m_drd σ) (m_lef σ))) (cwV 1 hts gX2_floods_X2_bringBack rfl rfl rfl (by decide +kernel) ⟨Nat.le_of_ble_eq_true rfl, Nat.le_of_ble_eq_true rfl⟩) hK hP hD hS hA hY [0, 1, 2, 3, 4, 5, 6, 7, 8, 9, 10, 11, 12, 13, 14, 15, 16, 17] [] ⟨rfl, rfl, rfl, rfl, rfl⟩ [0, 1, 2, 3, 4, 5, 6, 7, 8, 9, 10, 11, 12, 13, 14, 15, 16, 17] rfl (fun _ => rfl) [0, 1] rfl (va_recv hK hP (ci := 2) (q0 := 0) rfl rfl) rfl hl.1 rfl (Nat.le_of_ble_eq_true rfl) rfl rfl ⟨Nat.le_of_ble_eq_true rfl, Nat.le_of_ble_eq_true rfl⟩ dX2_floods_78 (fun u H locs hw hP hD hS => ?_)
              refine lv_iload hx hb dX2_floods_81 (lv_at hl 0 rfl) ?_
              have hP := hP.sub (ws' := (mM h ad cI 0 hei dra rai σ g1 lak row)) [0, 1, 2, 3, 4, 5, 6, 7, 8, 9, 10, 11] rfl
              have hD := hD.sub (ws' := (mM h ad cI 0 hei dra rai σ g1 lak row)) [0, 1, 2, 3, 4, 5, 6, 7, 8, 9, 10, 11] (by decide) rfl
              exact fin (-1) (0, g1) H locs 7 270 83 ls dX2_floods_83 (Or.inr ⟨hin, rfl, (by rw [hV]; exact (q_seek_no (test := q_wet3 (q_at x y) ) (f := 0) h8).symm)⟩) hP hD hS (Nat.le_of_ble_eq_true rfl) (Nat.le_of_ble_eq_true rfl)
        · skip
          exact absurd (show (48 : Int32) ≤ nI 48 by decide) hc2
      | succ fu ih =>
        intro i hi g1 H locs ls hV hP hD hS hl
        have hlt : i < 48 := by omega
        refine lv_iload hx hb dX2_floods_35 (lv_at hl 5 rfl) ?_
        refine lv_bipush (v := 48) hx hb dX2_floods_37 (by decide) ?_
        refine lv_icmp_ge (tgt := 62) hx hb dX2_floods_39 (by decide) (fun hc2 => ?_) (fun hc2 => ?_)
        · skip
          exact absurd hc2 (nI_ge (b := 48) hlt (by decide))
        · skip
          refine lv_aload_n hx hb dX2_floods_42 rfl (lv_at hl 0 rfl) ?_
          refine va_get (D := D) (ci := 2) (v := .ref (ad 2)) (C := RX2) (T := TX2) (N := 12) hx hb hts (fun _ h9 => (List.mem_cons_of_mem _ (List.mem_append_right _ h9))) hown hK hP 0 rfl rfl 2 (by decide) (hts (Cond.fieldLink RX2 13 "FloodGridModel" "water" "[I") (List.mem_of_getElem? (i := 2) rfl)) (fun _ h9 => h9) rfl dX2_floods_43 ?_
          refine lv_iload_n hx hb dX2_floods_46 rfl (lv_at hl 3 rfl) ?_
          refine ct_iald (v := (m_wat (q_hours hei dra rai i σ)) (q_at x y)) hx hb hK hP 2 0 rfl rfl (q_at x y) rfl hat (by decide) rfl dX2_floods_47 ?_
          refine lv_iconst (v := 3) hx hb dX2_floods_48 (by decide) ?_
          refine lv_icmp_ge (tgt := 62) hx hb dX2_floods_49 (by decide) (fun h8 => ?_) (fun h8 => ?_)
          · skip
            refine lv_aload_n hx hb dX2_floods_62 rfl (lv_at hl 0 rfl) ?_
            refine va_get (D := D) (ci := 2) (v := .ref (ad 2)) (C := RX2) (T := TX2) (N := 12) hx hb hts (fun _ h9 => (List.mem_cons_of_mem _ (List.mem_append_right _ h9))) hown hK hP 0 rfl rfl 2 (by decide) (hts (Cond.fieldLink RX2 13 "FloodGridModel" "water" "[I") (List.mem_of_getElem? (i := 2) rfl)) (fun _ h9 => h9) rfl dX2_floods_63 ?_
            refine lv_iload_n hx hb dX2_floods_66 rfl (lv_at hl 3 rfl) ?_
            refine ct_iald (v := (m_wat (q_hours hei dra rai i σ)) (q_at x y)) hx hb hK hP 2 0 rfl rfl (q_at x y) rfl hat (by decide) rfl dX2_floods_67 ?_
            refine lv_iconst (v := 3) hx hb dX2_floods_68 (by decide) ?_
            refine lv_icmp_ge (tgt := 75) hx hb dX2_floods_69 (by decide) (fun hc8 => ?_) (fun hc8 => ?_)
            · skip
              refine lv_aload_n hx hb dX2_floods_75 rfl (lv_at hl 0 rfl) ?_
              refine lv_aload hx hb dX2_floods_76 (lv_at hl 4 rfl) ?_
              refine cy_Vv (As := [.ref ka]) (rest := []) (wr := []) (W1 := fun u => ((mM h ad cI 0 hei dra rai σ g1 lak row) ++ (kW ka ku cJ cI (m_wat σ) (m_dam σ) (m_wea σ) (m_peo σ) (q_num (nI (m_t σ)) (m_bro σ) (m_drd σ) (m_lef σ))))) (cells1 := 7) (slots1 := 270) ⟨hx, hb, hml, hown, hts⟩ (c_X2_bring l D cI cJ h ad 0 hei (m_wat (q_hours hei dra rai i σ)) (m_dam (q_hours hei dra rai i σ)) (m_wea (q_hours hei dra rai i σ)) dra (m_peo (q_hours hei dra rai i σ)) rai (q_num (nI (m_t (q_hours hei dra rai i σ))) (m_bro (q_hours hei dra rai i σ)) (m_drd (q_hours hei dra rai i σ)) (m_lef (q_hours hei dra rai i σ))) g1 lak row ka ku (m_wat σ) (m_dam σ) (m_wea σ) (m_peo σ) (q_num (nI (m_t σ)) (m_bro σ) (m_drd σ) (m_lef σ))) (cwV 1 hts gX2_floods_X2_bringBack rfl rfl rfl (by decide +kernel) ⟨Nat.le_of_ble_eq_true rfl, Nat.le_of_ble_eq_true rfl⟩) hK hP hD hS hA hY [0, 1, 2, 3, 4, 5, 6, 7, 8, 9, 10, 11, 12, 13, 14, 15, 16, 17] [] ⟨rfl, rfl, rfl, rfl, rfl⟩ [0, 1, 2, 3, 4, 5, 6, 7, 8, 9, 10, 11, 12, 13, 14, 15, 16, 17] rfl (fun _ => rfl) [0, 1] rfl (va_recv hK hP (ci := 2) (q0 := 0) rfl rfl) rfl hl.1 rfl (Nat.le_of_ble_eq_true rfl) rfl rfl ⟨Nat.le_of_ble_eq_true rfl, Nat.le_of_ble_eq_true rfl⟩ dX2_floods_78 (fun u H locs hw hP hD hS => ?_)
              refine lv_iload hx hb dX2_floods_81 (lv_at hl 5 rfl) ?_
              have hP := hP.sub (ws' := (mM h ad cI 0 hei dra rai σ g1 lak row)) [0, 1, 2, 3, 4, 5, 6, 7, 8, 9, 10, 11] rfl
              have hD := hD.sub (ws' := (mM h ad cI 0 hei dra rai σ g1 lak row)) [0, 1, 2, 3, 4, 5, 6, 7, 8, 9, 10, 11] (by decide) rfl
              exact fin (nI i) (0, g1) H locs 7 270 83 ls dX2_floods_83 (Or.inr ⟨hin, rfl, (by rw [hV]; exact (q_seek_yes (test := q_wet3 (q_at x y) ) h8).symm)⟩) hP hD hS (Nat.le_of_ble_eq_true rfl) (Nat.le_of_ble_eq_true rfl)
            · skip
              exact absurd h8 hc8
          · skip
            refine lv_aload_n hx hb dX2_floods_52 rfl (lv_at hl 0 rfl) ?_
            refine ct_Vv (As := []) (rest := []) (wr := [(ka, .inl (cJ, 5, rf5 (kR ku))), ((ku 0), .inl (cI, 64, .inl (m_wat σ))), ((ku 1), .inl (cI, 64, .inl (m_dam σ))), ((ku 2), .inl (cI, 64, .inl (m_wea σ))), ((ku 3), .inl (cI, 64, .inl (m_peo σ))), ((ku 4), .inl (cI, 4, .inl (q_num (nI (m_t σ)) (m_bro σ) (m_drd σ) (m_lef σ))))]) (W1 := fun u => ((mM h ad cI 0 hei dra rai (q_hours hei dra rai (i + 1) σ) u lak row) ++ (kW ka ku cJ cI (m_wat σ) (m_dam σ) (m_wea σ) (m_peo σ) (q_num (nI (m_t σ)) (m_bro σ) (m_drd σ) (m_lef σ))))) (cells1 := 6) (slots1 := 265) ⟨hx, hb, hml, hown, hts⟩ (c_X2_hour l D cI h ad 0 hei dra rai (q_hours hei dra rai i σ) g1 lak row (by rw [q_hours_t]; omega) (inv1_hours hinv i)) (cwV 0 hts gX2_floods_X2_hourOn rfl rfl rfl (by decide +kernel) ⟨Nat.le_of_ble_eq_true rfl, Nat.le_of_ble_eq_true rfl⟩) hK hP hD hS hA [0, 1, 2, 3, 4, 5, 6, 7, 8, 9, 10, 11] [12, 13, 14, 15, 16, 17] ⟨rfl, rfl, rfl, rfl, rfl⟩ [6, 7, 8, 9, 10, 11, 12, 13, 14, 15, 16, 17, 0, 1, 2, 3, 4, 5] rfl (fun _ => rfl) [0] rfl (va_recv hK hP (ci := 2) (q0 := 0) rfl rfl) rfl hl.1 rfl (Nat.le_of_ble_eq_true rfl) rfl rfl ⟨(Nat.le_of_ble_eq_true rfl), (Nat.le_of_ble_eq_true rfl)⟩ dX2_floods_53 (fun u H locs hw hP hD hS => ?_)
            refine lv_iinc (v := (nI (i + 1))) (lv' := [(5, .int (nI (i + 1))), (0, .ref h), (1, .int x), (2, .int y), (3, .int (nI (q_at x y))), (4, .ref ka)]) hx hb dX2_floods_56 hl (k := 5) rfl (nI_1 i) (by decide) rfl (fun ls hl => ?_)
            refine lv_goto (tgt := 35) hx hb dX2_floods_59 (by decide) ?_
            exact ih (i + 1) (by omega) u H locs ls (by rw [hV]; exact q_seek_no (test := q_wet3 (q_at x y) ) h8) hP hD hS (lv_sub hl [1, 2, 3, 4, 5, 0] rfl)
    exact loop 48 0 (by omega) flo H locs ls rfl hP hD hS (lv_sub hl [3, 4, 5, 2, 1, 0] rfl)
  · skip
    refine lv_aload_n hx hb dX2_floods_13 rfl (lv_at hl 0 rfl) ?_
    refine lv_iconst (v := 1) hx hb dX2_floods_14 (by decide) ?_
    refine ct_Vi (As := [.int 1]) (rest := []) (wr := []) (W1 := fun u => (mM h ad cI 1 hei dra rai σ flo lak row)) (cells1 := 0) (slots1 := 0) ⟨hx, hb, hml, hown, hts⟩ (c_X2_fail l D cI h ad 0 hei (m_wat σ) (m_dam σ) (m_wea σ) dra (m_peo σ) rai (q_num (nI (m_t σ)) (m_bro σ) (m_drd σ) (m_lef σ)) flo lak row 1) (cwV 1 hts gX2_floods_X2_fail rfl rfl rfl (by decide +kernel) ⟨Nat.le_of_ble_eq_true rfl, Nat.le_of_ble_eq_true rfl⟩) hK hP hD hS hA [0, 1, 2, 3, 4, 5, 6, 7, 8, 9, 10, 11] [] ⟨rfl, rfl, rfl, rfl, rfl⟩ [0, 1, 2, 3, 4, 5, 6, 7, 8, 9, 10, 11] rfl (fun _ => rfl) [0] rfl (va_recv hK hP (ci := 2) (q0 := 0) rfl rfl) rfl hl.1 rfl (Nat.le_of_ble_eq_true rfl) rfl rfl ⟨(Nat.le_of_ble_eq_true rfl), (Nat.le_of_ble_eq_true rfl)⟩ dX2_floods_15 (fun r u H locs hw hP hD hS => ?_)
    exact fin r (1, flo) H locs 0 0 18 ls dX2_floods_18 (Or.inl ⟨b_v_0 hc, rfl⟩) hP hD hS (Nat.le_of_ble_eq_true rfl) (Nat.le_of_ble_eq_true rfl)
abbrev rm_X2_breaks : Room := { frames := 4, cells := 7, slots := 270, locals := 89 }
set_option maxHeartbeats 4000000 in
set_option maxRecDepth 100000 in
theorem c_X2_breaks (l : Launch) (D : va_G) (cI cJ : ClassId) (h : Nat) (ad : Nat → Nat) (thr : Int32) (hei dra rai : Nat → Int32) (σ : Ms) (flo lak row : Nat → Int32) (ht : m_t σ < 2 ^ 29) (hinv : inv1 σ) (x y : Int32) : cy_i (S := Int32 × (Nat → Int32)) l D yX2_breaks wsX2_breaks rm_X2_breaks [.ref h, .int x, .int y] (mM h ad cI thr hei dra rai σ flo lak row) [(cI, .int), (cJ, .array .int)] (fun r u => (¬ inC x y ∧ u.1 = 1) ∨ (inC x y ∧ u.1 = 0 ∧ r = (q_breaks hei dra rai σ (q_at x y)))) (fun u => (mM h ad cI u.1 hei dra rai σ u.2 lak row)) := by
  refine cy_ofi (cc := cX2_breaks) (maxL := 6) (by decide) rfl (Nat.le_of_ble_eq_true rfl) ?_
  intro p e s m args below meth c A Q hx hb hml hown hts hA hK hY H locs hP hD hS fin ls hl
  have hown : s.vm.findClass RX2 = some m.cls := hown
  have hl : lv_has ls 6 [(0, .ref h), (1, .int x), (2, .int y)] := hl
  refine lv_aload_n hx hb dX2_breaks_0 rfl (lv_at hl 0 rfl) ?_
  refine lv_iconst (v := 0) hx hb dX2_breaks_1 (by decide) ?_
  refine va_put (D := D) (ci := 2) (v := .int 0) (ty := .int) (C := RX2) (T := TX2) (N := 12) hx hb hts (fun _ h9 => (List.mem_cons_of_mem _ (List.mem_append_right _ h9))) tyX2 tyX2_ok nmX2 hown hK hP hD hS 0 rfl rfl 0 (by decide) (hts (Cond.fieldLink RX2 43 "FloodGridModel" "thrown" "I") (List.mem_of_getElem? (i := 1) rfl)) (fun _ h9 => h9) rfl (by decide +kernel) rfl rfl (Nat.le_of_ble_eq_true rfl) dX2_breaks_2 (fun H locs hP hD hS => ?_)
  have hP : va_P D vwCl (mM h ad cI 0 hei dra rai σ flo lak row) H := hP
  have hD : va_D A (mM h ad cI 0 hei dra rai σ flo lak row) := hD
  refine lv_iload_n hx hb dX2_breaks_5 rfl (lv_at hl 1 rfl) ?_
  refine lv_iload_n hx hb dX2_breaks_6 rfl (lv_at hl 2 rfl) ?_
  refine ct_Si (As := [.int x, .int y]) (rest := []) (wr := [(h, .inr (2, [.int 0, .ref (ad 1), .ref (ad 2), .ref (ad 3), .ref (ad 4), .ref (ad 5), .ref (ad 6), .ref (ad 7), .ref (ad 8), .ref (ad 9), .ref (ad 10), .ref (ad 11)])), ((ad 1), .inl (cI, 64, .inl hei)), ((ad 2), .inl (cI, 64, .inl (m_wat σ))), ((ad 3), .inl (cI, 64, .inl (m_dam σ))), ((ad 4), .inl (cI, 64, .inl (m_wea σ))), ((ad 5), .inl (cI, 64, .inl dra)), ((ad 6), .inl (cI, 64, .inl (m_peo σ))), ((ad 7), .inl (cI, 12, .inl rai)), ((ad 8), .inl (cI, 4, .inl (q_num (nI (m_t σ)) (m_bro σ) (m_drd σ) (m_lef σ)))), ((ad 9), .inl (cI, 64, .inl flo)), ((ad 10), .inl (cI, 64, .inl lak)), ((ad 11), .inl (cI, 64, .inl row))]) (W1 := fun u => (mM h ad cI 0 hei dra rai σ flo lak row)) (cells1 := 0) (slots1 := 0) ⟨hx, hb, hml, hown, hts⟩ (c_isCell l D cI x y) (va_cwS 2 hts gX2_breaks_X2_isCell rfl rfl rfl (by decide +kernel) ⟨Nat.le_of_ble_eq_true rfl, Nat.le_of_ble_eq_true rfl⟩) hK hP hD hS hA [] [0, 1, 2, 3, 4, 5, 6, 7, 8, 9, 10, 11] ⟨rfl, rfl, rfl, rfl, rfl⟩ [0, 1, 2, 3, 4, 5, 6, 7, 8, 9, 10, 11] rfl (fun _ => rfl) [0] rfl rfl hl.1 rfl (Nat.le_of_ble_eq_true rfl) rfl rfl ⟨(Nat.le_of_ble_eq_true rfl), (Nat.le_of_ble_eq_true rfl)⟩ dX2_breaks_7 (fun r u H locs hw hP hD hS => ?_)
  subst hw
  refine lv_if_ne (tgt := 19) hx hb dX2_breaks_10 (by decide) (fun hc => ?_) (fun hc => ?_)
  · skip
    have hin : inC x y := b_v_1 hc
    have hat := q_at_lt hin
    refine lv_bipush (v := 8) hx hb dX2_breaks_19 (by decide) ?_
    refine lv_iload_n hx hb dX2_breaks_21 rfl (lv_at hl 2 rfl) ?_
    refine lv_imul hx hb dX2_breaks_22 ?_
    refine lv_iload_n hx hb dX2_breaks_23 rfl (lv_at hl 1 rfl) ?_
    refine lv_iadd hx hb dX2_breaks_24 ?_
    refine ct_top (y := (nI (q_at x y))) (q_at_eq hin) ?_
    refine lv_istore_n (lv' := [(3, .int (nI (q_at x y))), (0, .ref h), (1, .int x), (2, .int y)]) hx hb dX2_breaks_25 rfl hl (by decide) rfl (fun ls hl => ?_)
    refine lv_aload_n hx hb dX2_breaks_26 rfl (lv_at hl 1 rfl) ?_
    refine va_get (D := D) (ci := 2) (v := .ref (ad 3)) (C := RX2) (T := TX2) (N := 12) hx hb hts (fun _ h9 => (List.mem_cons_of_mem _ (List.mem_append_right _ h9))) hown hK hP 0 rfl rfl 3 (by decide) (hts (Cond.fieldLink RX2 16 "FloodGridModel" "dams" "[I") (List.mem_of_getElem? (i := 2) rfl)) (fun _ h9 => h9) rfl dX2_breaks_27 ?_
    refine lv_iload_n hx hb dX2_breaks_30 rfl (lv_at hl 0 rfl) ?_
    refine ct_iald (v := (m_dam σ) (q_at x y)) hx hb hK hP 3 0 rfl rfl (q_at x y) rfl hat (by decide) rfl dX2_breaks_31 ?_
    refine lv_if_ne (tgt := 37) hx hb dX2_breaks_32 (by decide) (fun hc5 => ?_) (fun hc5 => ?_)
    · skip
      refine lv_aload_n hx hb dX2_breaks_37 rfl (lv_at hl 1 rfl) ?_
      refine cy_Vr (As := []) (rest := []) (wr := []) (W1 := fun u ka => ((mM h ad cI 0 hei dra rai σ flo lak row) ++ (kW ka u cJ cI (m_wat σ) (m_dam σ) (m_wea σ) (m_peo σ) (q_num (nI (m_t σ)) (m_bro σ) (m_drd σ) (m_lef σ))))) (cells1 := 6) (slots1 := 265) ⟨hx, hb, hml, hown, hts⟩ (c_X2_kept l D cI cJ h ad 0 hei (m_wat σ) (m_dam σ) (m_wea σ) dra (m_peo σ) rai (q_num (nI (m_t σ)) (m_bro σ) (m_drd σ) (m_lef σ)) flo lak row) (cwV 0 hts gX2_breaks_X2_kept rfl rfl rfl (by decide +kernel) ⟨Nat.le_of_ble_eq_true rfl, Nat.le_of_ble_eq_true rfl⟩) hK hP hD hS hA hY [0, 1, 2, 3, 4, 5, 6, 7, 8, 9, 10, 11] [] ⟨rfl, rfl, rfl, rfl, rfl⟩ [0, 1, 2, 3, 4, 5, 6, 7, 8, 9, 10, 11, 12, 13, 14, 15, 16, 17] rfl (fun _ _ => rfl) [0, 1] rfl (va_recv hK hP (ci := 2) (q0 := 0) rfl rfl) rfl hl.1 rfl (Nat.le_of_ble_eq_true rfl) rfl rfl ⟨Nat.le_of_ble_eq_true rfl, Nat.le_of_ble_eq_true rfl⟩ dX2_breaks_38 (fun u ka H locs hw hP hD hS => ?_)
      obtain ⟨ku, hu0⟩ : ∃ y, y = u := ⟨_, rfl⟩
      subst hu0
      refine lv_astore (lv' := [(4, .ref ka), (3, .int (nI (q_at x y))), (0, .ref h), (1, .int x), (2, .int y)]) hx hb dX2_breaks_41 hl (by decide) rfl (fun ls hl => ?_)
      refine lv_iconst (v := 0) hx hb dX2_breaks_43 (by decide) ?_
      refine lv_istore (lv' := [(5, .int 0), (4, .ref ka), (3, .int (nI (q_at x y))), (0, .ref h), (1, .int x), (2, .int y)]) hx hb dX2_breaks_44 hl (by decide) rfl (fun ls hl => ?_)
      have loop : ∀ (fu i : Nat), i + fu = 48 → ∀ (g1 : Nat → Int32) (H : Heap) (locs : List Loc) (ls : Array Slot), ((q_breaks hei dra rai σ (q_at x y)) = q_seek hei dra rai (q_noDam (q_at x y)) σ (fu + 1) i) → va_P D vwCl ((mM h ad cI 0 hei dra rai (q_hours hei dra rai i σ) g1 lak row) ++ (kW ka ku cJ cI (m_wat σ) (m_dam σ) (m_wea σ) (m_peo σ) (q_num (nI (m_t σ)) (m_bro σ) (m_drd σ) (m_lef σ)))) H → va_D A ((mM h ad cI 0 hei dra rai (q_hours hei dra rai i σ) g1 lak row) ++ (kW ka ku cJ cI (m_wat σ) (m_dam σ) (m_wea σ) (m_peo σ) (q_num (nI (m_t σ)) (m_bro σ) (m_drd σ) (m_lef σ)))) → va_S A s.heap H locs → lv_has ls 6 [(0, .ref h), (1, .int x), (2, .int y), (3, .int (nI (q_at x y))), (4, .ref ka), (5, .int (nI i))] → W p l e rm_X2_breaks s m args below meth c H locs 6 265 Q (F0 m 46 ls []) := by
        intro fu
        induction fu with
        | zero =>
          intro i hi g1 H locs ls hV hP hD hS hl
          obtain rfl : 48 = i := by omega
          refine lv_iload hx hb dX2_breaks_46 (lv_at hl 5 rfl) ?_
          refine lv_bipush (v := 48) hx hb dX2_breaks_48 (by decide) ?_
          refine lv_icmp_ge (tgt := 72) hx hb dX2_breaks_50 (by decide) (fun hc2 => ?_) (fun hc2 => ?_)
          · skip
            by_cases h8 : m_dam (q_hours hei dra rai 48 σ) (q_at x y) ≤ 0
            · skip
              have h7 : m_dam (q_hours hei dra rai 48 σ) (q_at x y) = 0 := le0 (inv1_hours hinv 48 _ hat).1 h8
              refine lv_aload_n hx hb dX2_breaks_72 rfl (lv_at hl 0 rfl) ?_
              refine va_get (D := D) (ci := 2) (v := .ref (ad 3)) (C := RX2) (T := TX2) (N := 12) hx hb hts (fun _ h9 => (List.mem_cons_of_mem _ (List.mem_append_right _ h9))) hown hK hP 0 rfl rfl 3 (by decide) (hts (Cond.fieldLink RX2 16 "FloodGridModel" "dams" "[I") (List.mem_of_getElem? (i := 2) rfl)) (fun _ h9 => h9) rfl dX2_breaks_73 ?_
              refine lv_iload_n hx hb dX2_breaks_76 rfl (lv_at hl 3 rfl) ?_
              refine ct_iald (v := (m_dam (q_hours hei dra rai 48 σ)) (q_at x y)) hx hb hK hP 3 0 rfl rfl (q_at x y) rfl hat (by decide) rfl dX2_breaks_77 ?_
              refine lv_if_le (tgt := 84) hx hb dX2_breaks_78 (by decide) (fun hc8 => ?_) (fun hc8 => ?_)
              · skip
                refine lv_aload_n hx hb dX2_breaks_84 rfl (lv_at hl 0 rfl) ?_
                refine lv_aload hx hb dX2_breaks_85 (lv_at hl 4 rfl) ?_
                refine cy_Vv (As := [.ref ka]) (rest := []) (wr := []) (W1 := fun u => ((mM h ad cI 0 hei dra rai σ g1 lak row) ++ (kW ka ku cJ cI (m_wat σ) (m_dam σ) (m_wea σ) (m_peo σ) (q_num (nI (m_t σ)) (m_bro σ) (m_drd σ) (m_lef σ))))) (cells1 := 7) (slots1 := 270) ⟨hx, hb, hml, hown, hts⟩ (c_X2_bring l D cI cJ h ad 0 hei (m_wat (q_hours hei dra rai 48 σ)) (m_dam (q_hours hei dra rai 48 σ)) (m_wea (q_hours hei dra rai 48 σ)) dra (m_peo (q_hours hei dra rai 48 σ)) rai (q_num (nI (m_t (q_hours hei dra rai 48 σ))) (m_bro (q_hours hei dra rai 48 σ)) (m_drd (q_hours hei dra rai 48 σ)) (m_lef (q_hours hei dra rai 48 σ))) g1 lak row ka ku (m_wat σ) (m_dam σ) (m_wea σ) (m_peo σ) (q_num (nI (m_t σ)) (m_bro σ) (m_drd σ) (m_lef σ))) (cwV 1 hts gX2_breaks_X2_bringBack rfl rfl rfl (by decide +kernel) ⟨Nat.le_of_ble_eq_true rfl, Nat.le_of_ble_eq_true rfl⟩) hK hP hD hS hA hY [0, 1, 2, 3, 4, 5, 6, 7, 8, 9, 10, 11, 12, 13, 14, 15, 16, 17] [] ⟨rfl, rfl, rfl, rfl, rfl⟩ [0, 1, 2, 3, 4, 5, 6, 7, 8, 9, 10, 11, 12, 13, 14, 15, 16, 17] rfl (fun _ => rfl) [0, 1] rfl (va_recv hK hP (ci := 2) (q0 := 0) rfl rfl) rfl hl.1 rfl (Nat.le_of_ble_eq_true rfl) rfl rfl ⟨Nat.le_of_ble_eq_true rfl, Nat.le_of_ble_eq_true rfl⟩ dX2_breaks_87 (fun u H locs hw hP hD hS => ?_)
                refine lv_iload hx hb dX2_breaks_90 (lv_at hl 5 rfl) ?_
                have hP := hP.sub (ws' := (mM h ad cI 0 hei dra rai σ g1 lak row)) [0, 1, 2, 3, 4, 5, 6, 7, 8, 9, 10, 11] rfl
                have hD := hD.sub (ws' := (mM h ad cI 0 hei dra rai σ g1 lak row)) [0, 1, 2, 3, 4, 5, 6, 7, 8, 9, 10, 11] (by decide) rfl
                exact fin (nI 48) (0, g1) H locs 7 270 92 ls dX2_breaks_92 (Or.inr ⟨hin, rfl, (by rw [hV]; exact (q_seek_yes (test := q_noDam (q_at x y) ) (f := 0) h7).symm)⟩) hP hD hS (Nat.le_of_ble_eq_true rfl) (Nat.le_of_ble_eq_true rfl)
              · skip
                exact absurd h8 hc8
            · skip
              have h7 : ¬ m_dam (q_hours hei dra rai 48 σ) (q_at x y) = 0 := fun z9 => h8 (by rw [z9]; decide)
              refine lv_aload_n hx hb dX2_breaks_72 rfl (lv_at hl 0 rfl) ?_
              refine va_get (D := D) (ci := 2) (v := .ref (ad 3)) (C := RX2) (T := TX2) (N := 12) hx hb hts (fun _ h9 => (List.mem_cons_of_mem _ (List.mem_append_right _ h9))) hown hK hP 0 rfl rfl 3 (by decide) (hts (Cond.fieldLink RX2 16 "FloodGridModel" "dams" "[I") (List.mem_of_getElem? (i := 2) rfl)) (fun _ h9 => h9) rfl dX2_breaks_73 ?_
              refine lv_iload_n hx hb dX2_breaks_76 rfl (lv_at hl 3 rfl) ?_
              refine ct_iald (v := (m_dam (q_hours hei dra rai 48 σ)) (q_at x y)) hx hb hK hP 3 0 rfl rfl (q_at x y) rfl hat (by decide) rfl dX2_breaks_77 ?_
              refine lv_if_le (tgt := 84) hx hb dX2_breaks_78 (by decide) (fun hc8 => ?_) (fun hc8 => ?_)
              · skip
                exact absurd hc8 h8
              · skip
                refine lv_iconst (v := (-1)) hx hb dX2_breaks_81 (by decide) ?_
                refine lv_istore (lv' := [(5, .int (-1)), (0, .ref h), (1, .int x), (2, .int y), (3, .int (nI (q_at x y))), (4, .ref ka)]) hx hb dX2_breaks_82 hl (by decide) rfl (fun ls hl => ?_)
                refine lv_aload_n hx hb dX2_breaks_84 rfl (lv_at hl 1 rfl) ?_
                refine lv_aload hx hb dX2_breaks_85 (lv_at hl 5 rfl) ?_
                refine cy_Vv (As := [.ref ka]) (rest := []) (wr := []) (W1 := fun u => ((mM h ad cI 0 hei dra rai σ g1 lak row) ++ (kW ka ku cJ cI (m_wat σ) (m_dam σ) (m_wea σ) (m_peo σ) (q_num (nI (m_t σ)) (m_bro σ) (m_drd σ) (m_lef σ))))) (cells1 := 7) (slots1 := 270) ⟨hx, hb, hml, hown, hts⟩ (c_X2_bring l D cI cJ h ad 0 hei (m_wat (q_hours hei dra rai 48 σ)) (m_dam (q_hours hei dra rai 48 σ)) (m_wea (q_hours hei dra rai 48 σ)) dra (m_peo (q_hours hei dra rai 48 σ)) rai (q_num (nI (m_t (q_hours hei dra rai 48 σ))) (m_bro (q_hours hei dra rai 48 σ)) (m_drd (q_hours hei dra rai 48 σ)) (m_lef (q_hours hei dra rai 48 σ))) g1 lak row ka ku (m_wat σ) (m_dam σ) (m_wea σ) (m_peo σ) (q_num (nI (m_t σ)) (m_bro σ) (m_drd σ) (m_lef σ))) (cwV 1 hts gX2_breaks_X2_bringBack rfl rfl rfl (by decide +kernel) ⟨Nat.le_of_ble_eq_true rfl, Nat.le_of_ble_eq_true rfl⟩) hK hP hD hS hA hY [0, 1, 2, 3, 4, 5, 6, 7, 8, 9, 10, 11, 12, 13, 14, 15, 16, 17] [] ⟨rfl, rfl, rfl, rfl, rfl⟩ [0, 1, 2, 3, 4, 5, 6, 7, 8, 9, 10, 11, 12, 13, 14, 15, 16, 17] rfl (fun _ => rfl) [0, 1] rfl (va_recv hK hP (ci := 2) (q0 := 0) rfl rfl) rfl hl.1 rfl (Nat.le_of_ble_eq_true rfl) rfl rfl ⟨Nat.le_of_ble_eq_true rfl, Nat.le_of_ble_eq_true rfl⟩ dX2_breaks_87 (fun u H locs hw hP hD hS => ?_)
                refine lv_iload hx hb dX2_breaks_90 (lv_at hl 0 rfl) ?_
                have hP := hP.sub (ws' := (mM h ad cI 0 hei dra rai σ g1 lak row)) [0, 1, 2, 3, 4, 5, 6, 7, 8, 9, 10, 11] rfl
                have hD := hD.sub (ws' := (mM h ad cI 0 hei dra rai σ g1 lak row)) [0, 1, 2, 3, 4, 5, 6, 7, 8, 9, 10, 11] (by decide) rfl
                exact fin (-1) (0, g1) H locs 7 270 92 ls dX2_breaks_92 (Or.inr ⟨hin, rfl, (by rw [hV]; exact (q_seek_no (test := q_noDam (q_at x y) ) (f := 0) h7).symm)⟩) hP hD hS (Nat.le_of_ble_eq_true rfl) (Nat.le_of_ble_eq_true rfl)
          · skip
            exact absurd (show (48 : Int32) ≤ nI 48 by decide) hc2
        | succ fu ih =>
          intro i hi g1 H locs ls hV hP hD hS hl
          have hlt : i < 48 := by omega
          refine lv_iload hx hb dX2_breaks_46 (lv_at hl 5 rfl) ?_
          refine lv_bipush (v := 48) hx hb dX2_breaks_48 (by decide) ?_
          refine lv_icmp_ge (tgt := 72) hx hb dX2_breaks_50 (by decide) (fun hc2 => ?_) (fun hc2 => ?_)
          · skip
            exact absurd hc2 (nI_ge (b := 48) hlt (by decide))
          · skip
            refine lv_aload_n hx hb dX2_breaks_53 rfl (lv_at hl 0 rfl) ?_
            refine va_get (D := D) (ci := 2) (v := .ref (ad 3)) (C := RX2) (T := TX2) (N := 12) hx hb hts (fun _ h9 => (List.mem_cons_of_mem _ (List.mem_append_right _ h9))) hown hK hP 0 rfl rfl 3 (by decide) (hts (Cond.fieldLink RX2 16 "FloodGridModel" "dams" "[I") (List.mem_of_getElem? (i := 2) rfl)) (fun _ h9 => h9) rfl dX2_breaks_54 ?_
            refine lv_iload_n hx hb dX2_breaks_57 rfl (lv_at hl 3 rfl) ?_
            refine ct_iald (v := (m_dam (q_hours hei dra rai i σ)) (q_at x y)) hx hb hK hP 3 0 rfl rfl (q_at x y) rfl hat (by decide) rfl dX2_breaks_58 ?_
            refine lv_if_le (tgt := 72) hx hb dX2_breaks_59 (by decide) (fun h8 => ?_) (fun h8 => ?_)
            · skip
              have h7 : m_dam (q_hours hei dra rai i σ) (q_at x y) = 0 := le0 (inv1_hours hinv i _ hat).1 h8
              refine lv_aload_n hx hb dX2_breaks_72 rfl (lv_at hl 0 rfl) ?_
              refine va_get (D := D) (ci := 2) (v := .ref (ad 3)) (C := RX2) (T := TX2) (N := 12) hx hb hts (fun _ h9 => (List.mem_cons_of_mem _ (List.mem_append_right _ h9))) hown hK hP 0 rfl rfl 3 (by decide) (hts (Cond.fieldLink RX2 16 "FloodGridModel" "dams" "[I") (List.mem_of_getElem? (i := 2) rfl)) (fun _ h9 => h9) rfl dX2_breaks_73 ?_
              refine lv_iload_n hx hb dX2_breaks_76 rfl (lv_at hl 3 rfl) ?_
              refine ct_iald (v := (m_dam (q_hours hei dra rai i σ)) (q_at x y)) hx hb hK hP 3 0 rfl rfl (q_at x y) rfl hat (by decide) rfl dX2_breaks_77 ?_
              refine lv_if_le (tgt := 84) hx hb dX2_breaks_78 (by decide) (fun hc8 => ?_) (fun hc8 => ?_)
              · skip
                refine lv_aload_n hx hb dX2_breaks_84 rfl (lv_at hl 0 rfl) ?_
                refine lv_aload hx hb dX2_breaks_85 (lv_at hl 4 rfl) ?_
                refine cy_Vv (As := [.ref ka]) (rest := []) (wr := []) (W1 := fun u => ((mM h ad cI 0 hei dra rai σ g1 lak row) ++ (kW ka ku cJ cI (m_wat σ) (m_dam σ) (m_wea σ) (m_peo σ) (q_num (nI (m_t σ)) (m_bro σ) (m_drd σ) (m_lef σ))))) (cells1 := 7) (slots1 := 270) ⟨hx, hb, hml, hown, hts⟩ (c_X2_bring l D cI cJ h ad 0 hei (m_wat (q_hours hei dra rai i σ)) (m_dam (q_hours hei dra rai i σ)) (m_wea (q_hours hei dra rai i σ)) dra (m_peo (q_hours hei dra rai i σ)) rai (q_num (nI (m_t (q_hours hei dra rai i σ))) (m_bro (q_hours hei dra rai i σ)) (m_drd (q_hours hei dra rai i σ)) (m_lef (q_hours hei dra rai i σ))) g1 lak row ka ku (m_wat σ) (m_dam σ) (m_wea σ) (m_peo σ) (q_num (nI (m_t σ)) (m_bro σ) (m_drd σ) (m_lef σ))) (cwV 1 hts gX2_breaks_X2_bringBack rfl rfl rfl (by decide +kernel) ⟨Nat.le_of_ble_eq_true rfl, Nat.le_of_ble_eq_true rfl⟩) hK hP hD hS hA hY [0, 1, 2, 3, 4, 5, 6, 7, 8, 9, 10, 11, 12, 13, 14, 15, 16, 17] [] ⟨rfl, rfl, rfl, rfl, rfl⟩ [0, 1, 2, 3, 4, 5, 6, 7, 8, 9, 10, 11, 12, 13, 14, 15, 16, 17] rfl (fun _ => rfl) [0, 1] rfl (va_recv hK hP (ci := 2) (q0 := 0) rfl rfl) rfl hl.1 rfl (Nat.le_of_ble_eq_true rfl) rfl rfl ⟨Nat.le_of_ble_eq_true rfl, Nat.le_of_ble_eq_true rfl⟩ dX2_breaks_87 (fun u H locs hw hP hD hS => ?_)
                refine lv_iload hx hb dX2_breaks_90 (lv_at hl 5 rfl) ?_
                have hP := hP.sub (ws' := (mM h ad cI 0 hei dra rai σ g1 lak row)) [0, 1, 2, 3, 4, 5, 6, 7, 8, 9, 10, 11] rfl
                have hD := hD.sub (ws' := (mM h ad cI 0 hei dra rai σ g1 lak row)) [0, 1, 2, 3, 4, 5, 6, 7, 8, 9, 10, 11] (by decide) rfl
                exact fin (nI i) (0, g1) H locs 7 270 92 ls dX2_breaks_92 (Or.inr ⟨hin, rfl, (by rw [hV]; exact (q_seek_yes (test := q_noDam (q_at x y) ) h7).symm)⟩) hP hD hS (Nat.le_of_ble_eq_true rfl) (Nat.le_of_ble_eq_true rfl)
              · skip
                exact absurd h8 hc8
            · skip
              refine lv_aload_n hx hb dX2_breaks_62 rfl (lv_at hl 0 rfl) ?_
              refine ct_Vv (As := []) (rest := []) (wr := [(ka, .inl (cJ, 5, rf5 (kR ku))), ((ku 0), .inl (cI, 64, .inl (m_wat σ))), ((ku 1), .inl (cI, 64, .inl (m_dam σ))), ((ku 2), .inl (cI, 64, .inl (m_wea σ))), ((ku 3), .inl (cI, 64, .inl (m_peo σ))), ((ku 4), .inl (cI, 4, .inl (q_num (nI (m_t σ)) (m_bro σ) (m_drd σ) (m_lef σ))))]) (W1 := fun u => ((mM h ad cI 0 hei dra rai (q_hours hei dra rai (i + 1) σ) u lak row) ++ (kW ka ku cJ cI (m_wat σ) (m_dam σ) (m_wea σ) (m_peo σ) (q_num (nI (m_t σ)) (m_bro σ) (m_drd σ) (m_lef σ))))) (cells1 := 6) (slots1 := 265) ⟨hx, hb, hml, hown, hts⟩ (c_X2_hour l D cI h ad 0 hei dra rai (q_hours hei dra rai i σ) g1 lak row (by rw [q_hours_t]; omega) (inv1_hours hinv i)) (cwV 0 hts gX2_breaks_X2_hourOn rfl rfl rfl (by decide +kernel) ⟨Nat.le_of_ble_eq_true rfl, Nat.le_of_ble_eq_true rfl⟩) hK hP hD hS hA [0, 1, 2, 3, 4, 5, 6, 7, 8, 9, 10, 11] [12, 13, 14, 15, 16, 17] ⟨rfl, rfl, rfl, rfl, rfl⟩ [6, 7, 8, 9, 10, 11, 12, 13, 14, 15, 16, 17, 0, 1, 2, 3, 4, 5] rfl (fun _ => rfl) [0] rfl (va_recv hK hP (ci := 2) (q0 := 0) rfl rfl) rfl hl.1 rfl (Nat.le_of_ble_eq_true rfl) rfl rfl ⟨(Nat.le_of_ble_eq_true rfl), (Nat.le_of_ble_eq_true rfl)⟩ dX2_breaks_63 (fun u H locs hw hP hD hS => ?_)
              refine lv_iinc (v := (nI (i + 1))) (lv' := [(5, .int (nI (i + 1))), (0, .ref h), (1, .int x), (2, .int y), (3, .int (nI (q_at x y))), (4, .ref ka)]) hx hb dX2_breaks_66 hl (k := 5) rfl (nI_1 i) (by decide) rfl (fun ls hl => ?_)
              refine lv_goto (tgt := 46) hx hb dX2_breaks_69 (by decide) ?_
              exact ih (i + 1) (by omega) u H locs ls (by rw [hV]; exact q_seek_no (test := q_noDam (q_at x y) ) (fun z9 => h8 (by rw [z9]; decide))) hP hD hS (lv_sub hl [1, 2, 3, 4, 5, 0] rfl)
      exact loop 48 0 (by omega) flo H locs ls (by unfold q_breaks; rw [if_neg hc5]; exact (q_seek_no (test := q_noDam (q_at x y) ) (n := 0) hc5).symm) hP hD hS (lv_sub hl [3, 4, 5, 2, 1, 0] rfl)
    · skip
      refine lv_iconst (v := (-1)) hx hb dX2_breaks_35 (by decide) ?_
      exact fin (-1) (0, flo) H locs 0 0 36 ls dX2_breaks_36 (Or.inr ⟨hin, rfl, (by unfold q_breaks; rw [if_pos hc5])⟩) hP hD hS (Nat.le_of_ble_eq_true rfl) (Nat.le_of_ble_eq_true rfl)
  · skip
    refine lv_aload_n hx hb dX2_breaks_13 rfl (lv_at hl 0 rfl) ?_
    refine lv_iconst (v := 1) hx hb dX2_breaks_14 (by decide) ?_
    refine ct_Vi (As := [.int 1]) (rest := []) (wr := []) (W1 := fun u => (mM h ad cI 1 hei dra rai σ flo lak row)) (cells1 := 0) (slots1 := 0) ⟨hx, hb, hml, hown, hts⟩ (c_X2_fail l D cI h ad 0 hei (m_wat σ) (m_dam σ) (m_wea σ) dra (m_peo σ) rai (q_num (nI (m_t σ)) (m_bro σ) (m_drd σ) (m_lef σ)) flo lak row 1) (cwV 1 hts gX2_breaks_X2_fail rfl rfl rfl (by decide +kernel) ⟨Nat.le_of_ble_eq_true rfl, Nat.le_of_ble_eq_true rfl⟩) hK hP hD hS hA [0, 1, 2, 3, 4, 5, 6, 7, 8, 9, 10, 11] [] ⟨rfl, rfl, rfl, rfl, rfl⟩ [0, 1, 2, 3, 4, 5, 6, 7, 8, 9, 10, 11] rfl (fun _ => rfl) [0] rfl (va_recv hK hP (ci := 2) (q0 := 0) rfl rfl) rfl hl.1 rfl (Nat.le_of_ble_eq_true rfl) rfl rfl ⟨(Nat.le_of_ble_eq_true rfl), (Nat.le_of_ble_eq_true rfl)⟩ dX2_breaks_15 (fun r u H locs hw hP hD hS => ?_)
    exact fin r (1, flo) H locs 0 0 18 ls dX2_breaks_18 (Or.inl ⟨b_v_0 hc, rfl⟩) hP hD hS (Nat.le_of_ble_eq_true rfl) (Nat.le_of_ble_eq_true rfl)
abbrev rm_X2_foresee : Room := { frames := 5, cells := 7, slots := 270, locals := 112 }
set_option maxHeartbeats 4000000 in
set_option maxRecDepth 100000 in
theorem c_X2_foresee (l : Launch) (D : va_G) (cI cJ : ClassId) (h : Nat) (ad : Nat → Nat) (thr : Int32) (hei dra rai : Nat → Int32) (σ : Ms) (flo lak row : Nat → Int32) (ht : m_t σ < 2 ^ 29) (hinv : inv1 σ) (hw0 : ∀ n, n ≤ 48 → ∀ c, c < 64 → 0 ≤ m_wat (q_hours hei dra rai n σ) c) (v q : Int32) : cy_i (S := Int32 × (Nat → Int32) × (Nat → Int32) × (Nat → Int32)) l D yX2_foresee wsX2_foresee rm_X2_foresee [.ref h, .int v, .int q] (mM h ad cI thr hei dra rai σ flo lak row) [(cI, .int), (cJ, .array .int)] (fun r u => (¬ (1 ≤ v ∧ v ≤ 48) ∧ u.1 = 1) ∨ ((1 ≤ v ∧ v ≤ 48) ∧ ¬ (1 ≤ q ∧ q ≤ 8) ∧ u.1 = 2) ∨ ((1 ≤ v ∧ v ≤ 48) ∧ (1 ≤ q ∧ q ≤ 8) ∧ u.1 = 0 ∧ r = q_tally (q_hours hei dra rai v.toNatClampNeg σ) q.toNatClampNeg)) (fun u => (mM h ad cI u.1 hei dra rai σ u.2.1 u.2.2.1 u.2.2.2)) := by
  refine cy_ofi (cc := cX2_foresee) (maxL := 5) (by decide) rfl (Nat.le_of_ble_eq_true rfl) ?_
  intro p e s m args below meth c A Q hx hb hml hown hts hA hK hY H locs hP hD hS fin ls hl
  have hown : s.vm.findClass RX2 = some m.cls := hown
  have hl : lv_has ls 5 [(0, .ref h), (1, .int v), (2, .int q)] := hl
  refine lv_aload_n hx hb dX2_foresee_0 rfl (lv_at hl 0 rfl) ?_
  refine lv_iconst (v := 0) hx hb dX2_foresee_1 (by decide) ?_
  refine va_put (D := D) (ci := 2) (v := .int 0) (ty := .int) (C := RX2) (T := TX2) (N := 12) hx hb hts (fun _ h9 => (List.mem_cons_of_mem _ (List.mem_append_right _ h9))) tyX2 tyX2_ok nmX2 hown hK hP hD hS 0 rfl rfl 0 (by decide) (hts (Cond.fieldLink RX2 43 "FloodGridModel" "thrown" "I") (List.mem_of_getElem? (i := 1) rfl)) (fun _ h9 => h9) rfl (by decide +kernel) rfl rfl (Nat.le_of_ble_eq_true rfl) dX2_foresee_2 (fun H locs hP hD hS => ?_)
  have hP : va_P D vwCl (mM h ad cI 0 hei dra rai σ flo lak row) H := hP
  have hD : va_D A (mM h ad cI 0 hei dra rai σ flo lak row) := hD
  refine lv_iload_n hx hb dX2_foresee_5 rfl (lv_at hl 1 rfl) ?_
  refine lv_iconst (v := 1) hx hb dX2_foresee_6 (by decide) ?_
  refine lv_bipush (v := 48) hx hb dX2_foresee_7 (by decide) ?_
  refine ct_Si (As := [.int v, .int 1, .int 48]) (rest := []) (wr := [(h, .inr (2, [.int 0, .ref (ad 1), .ref (ad 2), .ref (ad 3), .ref (ad 4), .ref (ad 5), .ref (ad 6), .ref (ad 7), .ref (ad 8), .ref (ad 9), .ref (ad 10), .ref (ad 11)])), ((ad 1), .inl (cI, 64, .inl hei)), ((ad 2), .inl (cI, 64, .inl (m_wat σ))), ((ad 3), .inl (cI, 64, .inl (m_dam σ))), ((ad 4), .inl (cI, 64, .inl (m_wea σ))), ((ad 5), .inl (cI, 64, .inl dra)), ((ad 6), .inl (cI, 64, .inl (m_peo σ))), ((ad 7), .inl (cI, 12, .inl rai)), ((ad 8), .inl (cI, 4, .inl (q_num (nI (m_t σ)) (m_bro σ) (m_drd σ) (m_lef σ)))), ((ad 9), .inl (cI, 64, .inl flo)), ((ad 10), .inl (cI, 64, .inl lak)), ((ad 11), .inl (cI, 64, .inl row))]) (W1 := fun u => (mM h ad cI 0 hei dra rai σ flo lak row)) (cells1 := 0) (slots1 := 0) ⟨hx, hb, hml, hown, hts⟩ (c_isIn l D cI v 1 48) (va_cwS 3 hts gX2_foresee_X2_isIn rfl rfl rfl (by decide +kernel) ⟨Nat.le_of_ble_eq_true rfl, Nat.le_of_ble_eq_true rfl⟩) hK hP hD hS hA [] [0, 1, 2, 3, 4, 5, 6, 7, 8, 9, 10, 11] ⟨rfl, rfl, rfl, rfl, rfl⟩ [0, 1, 2, 3, 4, 5, 6, 7, 8, 9, 10, 11] rfl (fun _ => rfl) [0] rfl rfl hl.1 rfl (Nat.le_of_ble_eq_true rfl) rfl rfl ⟨(Nat.le_of_ble_eq_true rfl), (Nat.le_of_ble_eq_true rfl)⟩ dX2_foresee_9 (fun r u H locs hw hP hD hS => ?_)
  subst hw
  refine lv_if_ne (tgt := 21) hx hb dX2_foresee_12 (by decide) (fun hc => ?_) (fun hc => ?_)
  · skip
    refine lv_iload_n hx hb dX2_foresee_21 rfl (lv_at hl 2 rfl) ?_
    refine lv_iconst (v := 1) hx hb dX2_foresee_22 (by decide) ?_
    refine lv_bipush (v := 8) hx hb dX2_foresee_23 (by decide) ?_
    refine ct_Si (As := [.int q, .int 1, .int 8]) (rest := []) (wr := [(h, .inr (2, [.int 0, .ref (ad 1), .ref (ad 2), .ref (ad 3), .ref (ad 4), .ref (ad 5), .ref (ad 6), .ref (ad 7), .ref (ad 8), .ref (ad 9), .ref (ad 10), .ref (ad 11)])), ((ad 1), .inl (cI, 64, .inl hei)), ((ad 2), .inl (cI, 64, .inl (m_wat σ))), ((ad 3), .inl (cI, 64, .inl (m_dam σ))), ((ad 4), .inl (cI, 64, .inl (m_wea σ))), ((ad 5), .inl (cI, 64, .inl dra)), ((ad 6), .inl (cI, 64, .inl (m_peo σ))), ((ad 7), .inl (cI, 12, .inl rai)), ((ad 8), .inl (cI, 4, .inl (q_num (nI (m_t σ)) (m_bro σ) (m_drd σ) (m_lef σ)))), ((ad 9), .inl (cI, 64, .inl flo)), ((ad 10), .inl (cI, 64, .inl lak)), ((ad 11), .inl (cI, 64, .inl row))]) (W1 := fun u => (mM h ad cI 0 hei dra rai σ flo lak row)) (cells1 := 0) (slots1 := 0) ⟨hx, hb, hml, hown, hts⟩ (c_isIn l D cI q 1 8) (va_cwS 3 hts gX2_foresee_X2_isIn rfl rfl rfl (by decide +kernel) ⟨Nat.le_of_ble_eq_true rfl, Nat.le_of_ble_eq_true rfl⟩) hK hP hD hS hA [] [0, 1, 2, 3, 4, 5, 6, 7, 8, 9, 10, 11] ⟨rfl, rfl, rfl, rfl, rfl⟩ [0, 1, 2, 3, 4, 5, 6, 7, 8, 9, 10, 11] rfl (fun _ => rfl) [0] rfl rfl hl.1 rfl (Nat.le_of_ble_eq_true rfl) rfl rfl ⟨(Nat.le_of_ble_eq_true rfl), (Nat.le_of_ble_eq_true rfl)⟩ dX2_foresee_25 (fun r u H locs hw hP hD hS => ?_)
    subst hw
    refine lv_if_ne (tgt := 37) hx hb dX2_foresee_28 (by decide) (fun hc1 => ?_) (fun hc1 => ?_)
    · skip
      have hv := b_v_1 hc
      have hq := b_v_1 hc1
      obtain ⟨e7, h7⟩ := q_n7 (Int32.le_trans (show (0 : Int32) ≤ 1 by decide) hv.1) (n := 48) rfl (by decide) hv.2
      generalize v.toNatClampNeg = k7 at e7 h7 fin
      subst e7
      obtain ⟨e8, h8⟩ := q_n7 (Int32.le_trans (show (0 : Int32) ≤ 1 by decide) hq.1) (n := 8) rfl (by decide) hq.2
      generalize q.toNatClampNeg = k8 at e8 h8 fin
      subst e8
      refine lv_aload_n hx hb dX2_foresee_37 rfl (lv_at hl 0 rfl) ?_
      refine cy_Vr (As := []) (rest := []) (wr := []) (W1 := fun u ka => ((mM h ad cI 0 hei dra rai σ flo lak row) ++ (kW ka u cJ cI (m_wat σ) (m_dam σ) (m_wea σ) (m_peo σ) (q_num (nI (m_t σ)) (m_bro σ) (m_drd σ) (m_lef σ))))) (cells1 := 6) (slots1 := 265) ⟨hx, hb, hml, hown, hts⟩ (c_X2_kept l D cI cJ h ad 0 hei (m_wat σ) (m_dam σ) (m_wea σ) dra (m_peo σ) rai (q_num (nI (m_t σ)) (m_bro σ) (m_drd σ) (m_lef σ)) flo lak row) (cwV 0 hts gX2_foresee_X2_kept rfl rfl rfl (by decide +kernel) ⟨Nat.le_of_ble_eq_true rfl, Nat.le_of_ble_eq_true rfl⟩) hK hP hD hS hA hY [0, 1, 2, 3, 4, 5, 6, 7, 8, 9, 10, 11] [] ⟨rfl, rfl, rfl, rfl, rfl⟩ [0, 1, 2, 3, 4, 5, 6, 7, 8, 9, 10, 11, 12, 13, 14, 15, 16, 17] rfl (fun _ _ => rfl) [0, 1] rfl (va_recv hK hP (ci := 2) (q0 := 0) rfl rfl) rfl hl.1 rfl (Nat.le_of_ble_eq_true rfl) rfl rfl ⟨Nat.le_of_ble_eq_true rfl, Nat.le_of_ble_eq_true rfl⟩ dX2_foresee_38 (fun u ka H locs hw hP hD hS => ?_)
      obtain ⟨ku, hu0⟩ : ∃ y, y = u := ⟨_, rfl⟩
      subst hu0
      refine lv_astore_n (lv' := [(3, .ref ka), (0, .ref h), (1, .int (nI k7)), (2, .int (nI k8))]) hx hb dX2_foresee_41 rfl hl (by decide) rfl (fun ls hl => ?_)
      refine lv_aload_n hx hb dX2_foresee_42 rfl (lv_at hl 1 rfl) ?_
      refine lv_iload_n hx hb dX2_foresee_43 rfl (lv_at hl 2 rfl) ?_
      refine ct_Vi (As := [.int (nI k7)]) (rest := []) (wr := [(ka, .inl (cJ, 5, rf5 (kR ku))), ((ku 0), .inl (cI, 64, .inl (m_wat σ))), ((ku 1), .inl (cI, 64, .inl (m_dam σ))), ((ku 2), .inl (cI, 64, .inl (m_wea σ))), ((ku 3), .inl (cI, 64, .inl (m_peo σ))), ((ku 4), .inl (cI, 4, .inl (q_num (nI (m_t σ)) (m_bro σ) (m_drd σ) (m_lef σ))))]) (W1 := fun u => ((mM h ad cI 0 hei dra rai (q_hours hei dra rai k7 σ) u lak row) ++ (kW ka ku cJ cI (m_wat σ) (m_dam σ) (m_wea σ) (m_peo σ) (q_num (nI (m_t σ)) (m_bro σ) (m_drd σ) (m_lef σ))))) (cells1 := 6) (slots1 := 265) ⟨hx, hb, hml, hown, hts⟩ (c_X2_hours l D cI h ad 0 hei dra rai σ flo lak row k7 (by omega) (by omega) hinv) (cwV 1 hts gX2_foresee_X2_hoursOn rfl rfl rfl (by decide +kernel) ⟨Nat.le_of_ble_eq_true rfl, Nat.le_of_ble_eq_true rfl⟩) hK hP hD hS hA [0, 1, 2, 3, 4, 5, 6, 7, 8, 9, 10, 11] [12, 13, 14, 15, 16, 17] ⟨rfl, rfl, rfl, rfl, rfl⟩ [6, 7, 8, 9, 10, 11, 12, 13, 14, 15, 16, 17, 0, 1, 2, 3, 4, 5] rfl (fun _ => rfl) [0] rfl (va_recv hK hP (ci := 2) (q0 := 0) rfl rfl) rfl hl.1 rfl (Nat.le_of_ble_eq_true rfl) rfl rfl ⟨(Nat.le_of_ble_eq_true rfl), (Nat.le_of_ble_eq_true rfl)⟩ dX2_foresee_44 (fun r0 u H locs hw hP hD hS => ?_)
      obtain ⟨g1, hu0⟩ : ∃ y, y = u := ⟨_, rfl⟩
      subst hu0
      refine lv_pop hx hb dX2_foresee_47 rfl ?_
      refine lv_aload_n hx hb dX2_foresee_48 rfl (lv_at hl 1 rfl) ?_
      refine lv_iload_n hx hb dX2_foresee_49 rfl (lv_at hl 3 rfl) ?_
      refine ct_Vi (As := [.int (nI k8)]) (rest := []) (wr := [(ka, .inl (cJ, 5, rf5 (kR ku))), ((ku 0), .inl (cI, 64, .inl (m_wat σ))), ((ku 1), .inl (cI, 64, .inl (m_dam σ))), ((ku 2), .inl (cI, 64, .inl (m_wea σ))), ((ku 3), .inl (cI, 64, .inl (m_peo σ))), ((ku 4), .inl (cI, 4, .inl (q_num (nI (m_t σ)) (m_bro σ) (m_drd σ) (m_lef σ))))]) (W1 := fun u => ((mM h ad cI 0 hei dra rai (q_hours hei dra rai k7 σ) g1 u.1 u.2) ++ (kW ka ku cJ cI (m_wat σ) (m_dam σ) (m_wea σ) (m_peo σ) (q_num (nI (m_t σ)) (m_bro σ) (m_drd σ) (m_lef σ))))) (cells1 := 6) (slots1 := 265) ⟨hx, hb, hml, hown, hts⟩ (c_X2_counted l D cI h ad 0 hei dra rai (q_hours hei dra rai k7 σ) g1 lak row (hw0 k7 h7) k8 (by omega)) (cwV 1 hts gX2_foresee_X2_counted rfl rfl rfl (by decide +kernel) ⟨Nat.le_of_ble_eq_true rfl, Nat.le_of_ble_eq_true rfl⟩) hK hP hD hS hA [0, 1, 2, 3, 4, 5, 6, 7, 8, 9, 10, 11] [12, 13, 14, 15, 16, 17] ⟨rfl, rfl, rfl, rfl, rfl⟩ [6, 7, 8, 9, 10, 11, 12, 13, 14, 15, 16, 17, 0, 1, 2, 3, 4, 5] rfl (fun _ => rfl) [0] rfl (va_recv hK hP (ci := 2) (q0 := 0) rfl rfl) rfl hl.1 rfl (Nat.le_of_ble_eq_true rfl) rfl rfl ⟨(Nat.le_of_ble_eq_true rfl), (Nat.le_of_ble_eq_true rfl)⟩ dX2_foresee_50 (fun r u H locs hw hP hD hS => ?_)
      obtain ⟨u9, hu0⟩ : ∃ y, y = u := ⟨_, rfl⟩
      subst hu0
      have hw9 := hw
      refine lv_istore (lv' := [(4, .int r), (3, .ref ka), (0, .ref h), (1, .int (nI k7)), (2, .int (nI k8))]) hx hb dX2_foresee_53 hl (by decide) rfl (fun ls hl => ?_)
      refine lv_aload_n hx hb dX2_foresee_55 rfl (lv_at hl 2 rfl) ?_
      refine lv_aload_n hx hb dX2_foresee_56 rfl (lv_at hl 1 rfl) ?_
      refine cy_Vv (As := [.ref ka]) (rest := []) (wr := []) (W1 := fun u => ((mM h ad cI 0 hei dra rai σ g1 u9.1 u9.2) ++ (kW ka ku cJ cI (m_wat σ) (m_dam σ) (m_wea σ) (m_peo σ) (q_num (nI (m_t σ)) (m_bro σ) (m_drd σ) (m_lef σ))))) (cells1 := 7) (slots1 := 270) ⟨hx, hb, hml, hown, hts⟩ (c_X2_bring l D cI cJ h ad 0 hei (m_wat (q_hours hei dra rai k7 σ)) (m_dam (q_hours hei dra rai k7 σ)) (m_wea (q_hours hei dra rai k7 σ)) dra (m_peo (q_hours hei dra rai k7 σ)) rai (q_num (nI (m_t (q_hours hei dra rai k7 σ))) (m_bro (q_hours hei dra rai k7 σ)) (m_drd (q_hours hei dra rai k7 σ)) (m_lef (q_hours hei dra rai k7 σ))) g1 u9.1 u9.2 ka ku (m_wat σ) (m_dam σ) (m_wea σ) (m_peo σ) (q_num (nI (m_t σ)) (m_bro σ) (m_drd σ) (m_lef σ))) (cwV 1 hts gX2_foresee_X2_bringBack rfl rfl rfl (by decide +kernel) ⟨Nat.le_of_ble_eq_true rfl, Nat.le_of_ble_eq_true rfl⟩) hK hP hD hS hA hY [0, 1, 2, 3, 4, 5, 6, 7, 8, 9, 10, 11, 12, 13, 14, 15, 16, 17] [] ⟨rfl, rfl, rfl, rfl, rfl⟩ [0, 1, 2, 3, 4, 5, 6, 7, 8, 9, 10, 11, 12, 13, 14, 15, 16, 17] rfl (fun _ => rfl) [0, 1] rfl (va_recv hK hP (ci := 2) (q0 := 0) rfl rfl) rfl hl.1 rfl (Nat.le_of_ble_eq_true rfl) rfl rfl ⟨Nat.le_of_ble_eq_true rfl, Nat.le_of_ble_eq_true rfl⟩ dX2_foresee_57 (fun u H locs hw hP hD hS => ?_)
      refine lv_iload hx hb dX2_foresee_60 (lv_at hl 0 rfl) ?_
      have hP := hP.sub (ws' := (mM h ad cI 0 hei dra rai σ g1 u9.1 u9.2)) [0, 1, 2, 3, 4, 5, 6, 7, 8, 9, 10, 11] rfl
      have hD := hD.sub (ws' := (mM h ad cI 0 hei dra rai σ g1 u9.1 u9.2)) [0, 1, 2, 3, 4, 5, 6, 7, 8, 9, 10, 11] (by decide) rfl
      exact fin r (0, g1, u9.1, u9.2) H locs 7 270 62 ls dX2_foresee_62 (Or.inr (Or.inr ⟨hv, hq, rfl, hw9⟩)) hP hD hS (Nat.le_of_ble_eq_true rfl) (Nat.le_of_ble_eq_true rfl)
    · skip
      refine lv_aload_n hx hb dX2_foresee_31 rfl (lv_at hl 0 rfl) ?_
      refine lv_iconst (v := 2) hx hb dX2_foresee_32 (by decide) ?_
      refine ct_Vi (As := [.int 2]) (rest := []) (wr := []) (W1 := fun u => (mM h ad cI 2 hei dra rai σ flo lak row)) (cells1 := 0) (slots1 := 0) ⟨hx, hb, hml, hown, hts⟩ (c_X2_fail l D cI h ad 0 hei (m_wat σ) (m_dam σ) (m_wea σ) dra (m_peo σ) rai (q_num (nI (m_t σ)) (m_bro σ) (m_drd σ) (m_lef σ)) flo lak row 2) (cwV 1 hts gX2_foresee_X2_fail rfl rfl rfl (by decide +kernel) ⟨Nat.le_of_ble_eq_true rfl, Nat.le_of_ble_eq_true rfl⟩) hK hP hD hS hA [0, 1, 2, 3, 4, 5, 6, 7, 8, 9, 10, 11] [] ⟨rfl, rfl, rfl, rfl, rfl⟩ [0, 1, 2, 3, 4, 5, 6, 7, 8, 9, 10, 11] rfl (fun _ => rfl) [0] rfl (va_recv hK hP (ci := 2) (q0 := 0) rfl rfl) rfl hl.1 rfl (Nat.le_of_ble_eq_true rfl) rfl rfl ⟨(Nat.le_of_ble_eq_true rfl), (Nat.le_of_ble_eq_true rfl)⟩ dX2_foresee_33 (fun r u H locs hw hP hD hS => ?_)
      exact fin r (2, flo, lak, row) H locs 0 0 36 ls dX2_foresee_36 (Or.inr (Or.inl ⟨b_v_1 hc, b_v_0 hc1, rfl⟩)) hP hD hS (Nat.le_of_ble_eq_true rfl) (Nat.le_of_ble_eq_true rfl)
  · skip
    refine lv_aload_n hx hb dX2_foresee_15 rfl (lv_at hl 0 rfl) ?_
    refine lv_iconst (v := 1) hx hb dX2_foresee_16 (by decide) ?_
    refine ct_Vi (As := [.int 1]) (rest := []) (wr := []) (W1 := fun u => (mM h ad cI 1 hei dra rai σ flo lak row)) (cells1 := 0) (slots1 := 0) ⟨hx, hb, hml, hown, hts⟩ (c_X2_fail l D cI h ad 0 hei (m_wat σ) (m_dam σ) (m_wea σ) dra (m_peo σ) rai (q_num (nI (m_t σ)) (m_bro σ) (m_drd σ) (m_lef σ)) flo lak row 1) (cwV 1 hts gX2_foresee_X2_fail rfl rfl rfl (by decide +kernel) ⟨Nat.le_of_ble_eq_true rfl, Nat.le_of_ble_eq_true rfl⟩) hK hP hD hS hA [0, 1, 2, 3, 4, 5, 6, 7, 8, 9, 10, 11] [] ⟨rfl, rfl, rfl, rfl, rfl⟩ [0, 1, 2, 3, 4, 5, 6, 7, 8, 9, 10, 11] rfl (fun _ => rfl) [0] rfl (va_recv hK hP (ci := 2) (q0 := 0) rfl rfl) rfl hl.1 rfl (Nat.le_of_ble_eq_true rfl) rfl rfl ⟨(Nat.le_of_ble_eq_true rfl), (Nat.le_of_ble_eq_true rfl)⟩ dX2_foresee_17 (fun r u H locs hw hP hD hS => ?_)
    exact fin r (1, flo, lak, row) H locs 0 0 20 ls dX2_foresee_20 (Or.inl ⟨b_v_0 hc, rfl⟩) hP hD hS (Nat.le_of_ble_eq_true rfl) (Nat.le_of_ble_eq_true rfl)
abbrev rm_X2_holds : Room := { frames := 5, cells := 71, slots := 590, locals := 112 }
set_option maxHeartbeats 4000000 in
set_option maxRecDepth 100000 in
theorem c_X2_holds (l : Launch) (D : va_G) (cI cJ : ClassId) (h : Nat) (ad : Nat → Nat) (thr : Int32) (hei dra rai : Nat → Int32) (σ : Ms) (flo lak row : Nat → Int32) (ht : m_t σ < 2 ^ 29) (hinv : inv1 σ) (hdm : ∀ c, c < 64 → m_dam σ c ≤ 20) (v : Int32) : cy_i (S := Int32 × (Nat → Int32)) l D yX2_holds wsX2_holds rm_X2_holds [.ref h, .int v] (mM h ad cI thr hei dra rai σ flo lak row) [(cI, .int), (cJ, .array .int)] (fun r u => (¬ (1 ≤ v ∧ v ≤ 12) ∧ u.1 = 1) ∨ ((1 ≤ v ∧ v ≤ 12) ∧ u.1 = 0 ∧ r = q_holds hei dra rai v.toNatClampNeg σ)) (fun u => (mM h ad cI u.1 hei dra rai σ u.2 lak row)) := by
  refine cy_ofi (cc := cX2_holds) (maxL := 7) (by decide) rfl (Nat.le_of_ble_eq_true rfl) ?_
  intro p e s m args below meth c A Q hx hb hml hown hts hA hK hY H locs hP hD hS fin ls hl
  have hown : s.vm.findClass RX2 = some m.cls := hown
  have hl : lv_has ls 7 [(0, .ref h), (1, .int v)] := hl
  refine lv_aload_n hx hb dX2_holds_0 rfl (lv_at hl 0 rfl) ?_
  refine lv_iconst (v := 0) hx hb dX2_holds_1 (by decide) ?_
  refine va_put (D := D) (ci := 2) (v := .int 0) (ty := .int) (C := RX2) (T := TX2) (N := 12) hx hb hts (fun _ h9 => (List.mem_cons_of_mem _ (List.mem_append_right _ h9))) tyX2 tyX2_ok nmX2 hown hK hP hD hS 0 rfl rfl 0 (by decide) (hts (Cond.fieldLink RX2 43 "FloodGridModel" "thrown" "I") (List.mem_of_getElem? (i := 1) rfl)) (fun _ h9 => h9) rfl (by decide +kernel) rfl rfl (Nat.le_of_ble_eq_true rfl) dX2_holds_2 (fun H locs hP hD hS => ?_)
  have hP : va_P D vwCl (mM h ad cI 0 hei dra rai σ flo lak row) H := hP
  have hD : va_D A (mM h ad cI 0 hei dra rai σ flo lak row) := hD
  refine lv_iload_n hx hb dX2_holds_5 rfl (lv_at hl 1 rfl) ?_
  refine lv_iconst (v := 1) hx hb dX2_holds_6 (by decide) ?_
  refine lv_bipush (v := 12) hx hb dX2_holds_7 (by decide) ?_
  refine ct_Si (As := [.int v, .int 1, .int 12]) (rest := []) (wr := [(h, .inr (2, [.int 0, .ref (ad 1), .ref (ad 2), .ref (ad 3), .ref (ad 4), .ref (ad 5), .ref (ad 6), .ref (ad 7), .ref (ad 8), .ref (ad 9), .ref (ad 10), .ref (ad 11)])), ((ad 1), .inl (cI, 64, .inl hei)), ((ad 2), .inl (cI, 64, .inl (m_wat σ))), ((ad 3), .inl (cI, 64, .inl (m_dam σ))), ((ad 4), .inl (cI, 64, .inl (m_wea σ))), ((ad 5), .inl (cI, 64, .inl dra)), ((ad 6), .inl (cI, 64, .inl (m_peo σ))), ((ad 7), .inl (cI, 12, .inl rai)), ((ad 8), .inl (cI, 4, .inl (q_num (nI (m_t σ)) (m_bro σ) (m_drd σ) (m_lef σ)))), ((ad 9), .inl (cI, 64, .inl flo)), ((ad 10), .inl (cI, 64, .inl lak)), ((ad 11), .inl (cI, 64, .inl row))]) (W1 := fun u => (mM h ad cI 0 hei dra rai σ flo lak row)) (cells1 := 0) (slots1 := 0) ⟨hx, hb, hml, hown, hts⟩ (c_isIn l D cI v 1 12) (va_cwS 3 hts gX2_holds_X2_isIn rfl rfl rfl (by decide +kernel) ⟨Nat.le_of_ble_eq_true rfl, Nat.le_of_ble_eq_true rfl⟩) hK hP hD hS hA [] [0, 1, 2, 3, 4, 5, 6, 7, 8, 9, 10, 11] ⟨rfl, rfl, rfl, rfl, rfl⟩ [0, 1, 2, 3, 4, 5, 6, 7, 8, 9, 10, 11] rfl (fun _ => rfl) [0] rfl rfl hl.1 rfl (Nat.le_of_ble_eq_true rfl) rfl rfl ⟨(Nat.le_of_ble_eq_true rfl), (Nat.le_of_ble_eq_true rfl)⟩ dX2_holds_9 (fun r u H locs hw hP hD hS => ?_)
  subst hw
  refine lv_if_ne (tgt := 21) hx hb dX2_holds_12 (by decide) (fun hc => ?_) (fun hc => ?_)
  · skip
    have hv := b_v_1 hc
    obtain ⟨e7, h7⟩ := q_n7 (Int32.le_trans (show (0 : Int32) ≤ 1 by decide) hv.1) (n := 12) rfl (by decide) hv.2
    generalize v.toNatClampNeg = k7 at e7 h7 fin
    subst e7
    refine lv_aload_n hx hb dX2_holds_21 rfl (lv_at hl 0 rfl) ?_
    refine cy_Vr (As := []) (rest := []) (wr := []) (W1 := fun u ka => ((mM h ad cI 0 hei dra rai σ flo lak row) ++ (kW ka u cJ cI (m_wat σ) (m_dam σ) (m_wea σ) (m_peo σ) (q_num (nI (m_t σ)) (m_bro σ) (m_drd σ) (m_lef σ))))) (cells1 := 6) (slots1 := 265) ⟨hx, hb, hml, hown, hts⟩ (c_X2_kept l D cI cJ h ad 0 hei (m_wat σ) (m_dam σ) (m_wea σ) dra (m_peo σ) rai (q_num (nI (m_t σ)) (m_bro σ) (m_drd σ) (m_lef σ)) flo lak row) (cwV 0 hts gX2_holds_X2_kept rfl rfl rfl (by decide +kernel) ⟨Nat.le_of_ble_eq_true rfl, Nat.le_of_ble_eq_true rfl⟩) hK hP hD hS hA hY [0, 1, 2, 3, 4, 5, 6, 7, 8, 9, 10, 11] [] ⟨rfl, rfl, rfl, rfl, rfl⟩ [0, 1, 2, 3, 4, 5, 6, 7, 8, 9, 10, 11, 12, 13, 14, 15, 16, 17] rfl (fun _ _ => rfl) [0, 1] rfl (va_recv hK hP (ci := 2) (q0 := 0) rfl rfl) rfl hl.1 rfl (Nat.le_of_ble_eq_true rfl) rfl rfl ⟨Nat.le_of_ble_eq_true rfl, Nat.le_of_ble_eq_true rfl⟩ dX2_holds_22 (fun u ka H locs hw hP hD hS => ?_)
    obtain ⟨ku, hu0⟩ : ∃ y, y = u := ⟨_, rfl⟩
    subst hu0
    refine lv_astore_n (lv' := [(2, .ref ka), (0, .ref h), (1, .int (nI k7))]) hx hb dX2_holds_25 rfl hl (by decide) rfl (fun ls hl => ?_)
    refine lv_iconst (v := (-1)) hx hb dX2_holds_26 (by decide) ?_
    refine lv_istore_n (lv' := [(3, .int (-1)), (2, .ref ka), (0, .ref h), (1, .int (nI k7))]) hx hb dX2_holds_27 rfl hl (by decide) rfl (fun ls hl => ?_)
    refine lv_aload_n hx hb dX2_holds_28 rfl (lv_at hl 2 rfl) ?_
    refine lv_iload_n hx hb dX2_holds_29 rfl (lv_at hl 3 rfl) ?_
    refine ct_Vi (As := [.int (nI k7)]) (rest := []) (wr := [(ka, .inl (cJ, 5, rf5 (kR ku))), ((ku 0), .inl (cI, 64, .inl (m_wat σ))), ((ku 1), .inl (cI, 64, .inl (m_dam σ))), ((ku 2), .inl (cI, 64, .inl (m_wea σ))), ((ku 3), .inl (cI, 64, .inl (m_peo σ))), ((ku 4), .inl (cI, 4, .inl (q_num (nI (m_t σ)) (m_bro σ) (m_drd σ) (m_lef σ))))]) (W1 := fun u => ((mM h ad cI 0 hei dra rai (q_hours hei dra rai k7 σ) u lak row) ++ (kW ka ku cJ cI (m_wat σ) (m_dam σ) (m_wea σ) (m_peo σ) (q_num (nI (m_t σ)) (m_bro σ) (m_drd σ) (m_lef σ))))) (cells1 := 6) (slots1 := 265) ⟨hx, hb, hml, hown, hts⟩ (c_X2_hours l D cI h ad 0 hei dra rai σ flo lak row k7 (by omega) (by omega) hinv) (cwV 1 hts gX2_holds_X2_hoursOn rfl rfl rfl (by decide +kernel) ⟨Nat.le_of_ble_eq_true rfl, Nat.le_of_ble_eq_true rfl⟩) hK hP hD hS hA [0, 1, 2, 3, 4, 5, 6, 7, 8, 9, 10, 11] [12, 13, 14, 15, 16, 17] ⟨rfl, rfl, rfl, rfl, rfl⟩ [6, 7, 8, 9, 10, 11, 12, 13, 14, 15, 16, 17, 0, 1, 2, 3, 4, 5] rfl (fun _ => rfl) [0] rfl (va_recv hK hP (ci := 2) (q0 := 0) rfl rfl) rfl hl.1 rfl (Nat.le_of_ble_eq_true rfl) rfl rfl ⟨(Nat.le_of_ble_eq_true rfl), (Nat.le_of_ble_eq_true rfl)⟩ dX2_holds_30 (fun r u H locs hw hP hD hS => ?_)
    subst hw
    obtain ⟨g0, hu0⟩ : ∃ y, y = u := ⟨_, rfl⟩
    subst hu0
    refine lv_istore (lv' := [(4, .int (q_leave hei dra rai k7 σ)), (3, .int (-1)), (2, .ref ka), (0, .ref h), (1, .int (nI k7))]) hx hb dX2_holds_33 hl (by decide) rfl (fun ls hl => ?_)
    refine lv_aload_n hx hb dX2_holds_35 rfl (lv_at hl 3 rfl) ?_
    refine lv_aload_n hx hb dX2_holds_36 rfl (lv_at hl 2 rfl) ?_
    refine cy_Vv (As := [.ref ka]) (rest := []) (wr := []) (W1 := fun u => ((mM h ad cI 0 hei dra rai σ g0 lak row) ++ (kW ka ku cJ cI (m_wat σ) (m_dam σ) (m_wea σ) (m_peo σ) (q_num (nI (m_t σ)) (m_bro σ) (m_drd σ) (m_lef σ))))) (cells1 := 7) (slots1 := 270) ⟨hx, hb, hml, hown, hts⟩ (c_X2_bring l D cI cJ h ad 0 hei (m_wat (q_hours hei dra rai k7 σ)) (m_dam (q_hours hei dra rai k7 σ)) (m_wea (q_hours hei dra rai k7 σ)) dra (m_peo (q_hours hei dra rai k7 σ)) rai (q_num (nI (m_t (q_hours hei dra rai k7 σ))) (m_bro (q_hours hei dra rai k7 σ)) (m_drd (q_hours hei dra rai k7 σ)) (m_lef (q_hours hei dra rai k7 σ))) g0 lak row ka ku (m_wat σ) (m_dam σ) (m_wea σ) (m_peo σ) (q_num (nI (m_t σ)) (m_bro σ) (m_drd σ) (m_lef σ))) (cwV 1 hts gX2_holds_X2_bringBack rfl rfl rfl (by decide +kernel) ⟨Nat.le_of_ble_eq_true rfl, Nat.le_of_ble_eq_true rfl⟩) hK hP hD hS hA hY [0, 1, 2, 3, 4, 5, 6, 7, 8, 9, 10, 11, 12, 13, 14, 15, 16, 17] [] ⟨rfl, rfl, rfl, rfl, rfl⟩ [0, 1, 2, 3, 4, 5, 6, 7, 8, 9, 10, 11, 12, 13, 14, 15, 16, 17] rfl (fun _ => rfl) [0, 1] rfl (va_recv hK hP (ci := 2) (q0 := 0) rfl rfl) rfl hl.1 rfl (Nat.le_of_ble_eq_true rfl) rfl rfl ⟨Nat.le_of_ble_eq_true rfl, Nat.le_of_ble_eq_true rfl⟩ dX2_holds_37 (fun u H locs hw hP hD hS => ?_)
    refine lv_iconst (v := 0) hx hb dX2_holds_40 (by decide) ?_
    refine lv_istore (lv' := [(5, .int 0), (4, .int (q_leave hei dra rai k7 σ)), (3, .int (-1)), (2, .ref ka), (0, .ref h), (1, .int (nI k7))]) hx hb dX2_holds_41 hl (by decide) rfl (fun ls hl => ?_)
    have loop : ∀ (fu i : Nat), i + fu = 64 → ∀ (mf : Int32 × Int32) (g1 : Nat → Int32) (H : Heap) (locs : List Loc) (ls : Array Slot), (mf = q_holdS hei dra rai k7 σ i) → va_P D vwCl ((mM h ad cI 0 hei dra rai σ g1 lak row) ++ (kW ka ku cJ cI (m_wat σ) (m_dam σ) (m_wea σ) (m_peo σ) (q_num (nI (m_t σ)) (m_bro σ) (m_drd σ) (m_lef σ)))) H → va_D A ((mM h ad cI 0 hei dra rai σ g1 lak row) ++ (kW ka ku cJ cI (m_wat σ) (m_dam σ) (m_wea σ) (m_peo σ) (q_num (nI (m_t σ)) (m_bro σ) (m_drd σ) (m_lef σ)))) → va_S A s.heap H locs → lv_has ls 7 [(0, .ref h), (1, .int (nI k7)), (2, .ref ka), (3, .int mf.2), (4, .int mf.1), (5, .int (nI i))] → W p l e rm_X2_holds s m args below meth c H locs (7 + i) (270 + 5 * i) Q (F0 m 43 ls []) := by
      intro fu
      induction fu with
      | zero =>
        intro i hi mf g1 H locs ls hmf hP hD hS hl
        obtain rfl : 64 = i := by omega
        refine lv_iload hx hb dX2_holds_43 (lv_at hl 5 rfl) ?_
        refine lv_bipush (v := 64) hx hb dX2_holds_45 (by decide) ?_
        refine lv_icmp_ge (tgt := 114) hx hb dX2_holds_47 (by decide) (fun hc => ?_) (fun hc => ?_)
        · skip
          refine lv_iload_n hx hb dX2_holds_114 rfl (lv_at hl 3 rfl) ?_
          have hP := hP.sub (ws' := (mM h ad cI 0 hei dra rai σ g1 lak row)) [0, 1, 2, 3, 4, 5, 6, 7, 8, 9, 10, 11] rfl
          have hD := hD.sub (ws' := (mM h ad cI 0 hei dra rai σ g1 lak row)) [0, 1, 2, 3, 4, 5, 6, 7, 8, 9, 10, 11] (by decide) rfl
          exact fin mf.2 (0, g1) H locs (7 + 64) (270 + 5 * 64) 115 ls dX2_holds_115 (Or.inr ⟨hv, rfl, (by rw [hmf]; exact q_holds_eq hei dra rai k7 σ)⟩) hP hD hS (Nat.le_of_ble_eq_true rfl) (Nat.le_of_ble_eq_true rfl)
        · skip
          exact absurd (show (64 : Int32) ≤ nI 64 by decide) hc
      | succ fu ih =>
        intro i hi mf g1 H locs ls hmf hP hD hS hl
        have hlt : i < 64 := by omega
        refine lv_iload hx hb dX2_holds_43 (lv_at hl 5 rfl) ?_
        refine lv_bipush (v := 64) hx hb dX2_holds_45 (by decide) ?_
        refine lv_icmp_ge (tgt := 114) hx hb dX2_holds_47 (by decide) (fun hc => ?_) (fun hc => ?_)
        · skip
          exact absurd hc (nI_ge (b := 64) hlt (by decide))
        · skip
          refine lv_aload_n hx hb dX2_holds_50 rfl (lv_at hl 0 rfl) ?_
          refine va_get (D := D) (ci := 2) (v := .ref (ad 3)) (C := RX2) (T := TX2) (N := 12) hx hb hts (fun _ h9 => (List.mem_cons_of_mem _ (List.mem_append_right _ h9))) hown hK hP 0 rfl rfl 3 (by decide) (hts (Cond.fieldLink RX2 16 "FloodGridModel" "dams" "[I") (List.mem_of_getElem? (i := 2) rfl)) (fun _ h9 => h9) rfl dX2_holds_51 ?_
          refine lv_iload hx hb dX2_holds_54 (lv_at hl 5 rfl) ?_
          refine ct_iald (v := (m_dam σ) i) hx hb hK hP 3 0 rfl rfl i rfl (by omega) (by decide) rfl dX2_holds_56 ?_
          refine lv_if_ne (tgt := 63) hx hb dX2_holds_57 (by decide) (fun hc2 => ?_) (fun hc2 => ?_)
          · skip
            refine lv_aload_n hx hb dX2_holds_63 rfl (lv_at hl 0 rfl) ?_
            refine va_get (D := D) (ci := 2) (v := .ref (ad 3)) (C := RX2) (T := TX2) (N := 12) hx hb hts (fun _ h9 => (List.mem_cons_of_mem _ (List.mem_append_right _ h9))) hown hK hP 0 rfl rfl 3 (by decide) (hts (Cond.fieldLink RX2 16 "FloodGridModel" "dams" "[I") (List.mem_of_getElem? (i := 2) rfl)) (fun _ h9 => h9) rfl dX2_holds_64 ?_
            refine lv_iload hx hb dX2_holds_67 (lv_at hl 5 rfl) ?_
            refine lv_iconst (v := 0) hx hb dX2_holds_69 (by decide) ?_
            refine ct_iast (g := upd (m_dam σ) i 0) (ws1 := ((mW h ad cI 0 hei (m_wat σ) (upd (m_dam σ) i 0) (m_wea σ) dra (m_peo σ) rai (q_num (nI (m_t σ)) (m_bro σ) (m_drd σ) (m_lef σ)) g1 lak row) ++ (kW ka ku cJ cI (m_wat σ) (m_dam σ) (m_wea σ) (m_peo σ) (q_num (nI (m_t σ)) (m_bro σ) (m_drd σ) (m_lef σ))))) hx hb hK hP hD hS 3 0 rfl rfl i rfl (by omega) (by decide) rfl rfl dX2_holds_70 (fun H locs hP hD hS => ?_)
            refine lv_aload_n hx hb dX2_holds_71 rfl (lv_at hl 0 rfl) ?_
            refine va_get (D := D) (ci := 2) (v := .ref (ad 4)) (C := RX2) (T := TX2) (N := 12) hx hb hts (fun _ h9 => (List.mem_cons_of_mem _ (List.mem_append_right _ h9))) hown hK hP 0 rfl rfl 4 (by decide) (hts (Cond.fieldLink RX2 19 "FloodGridModel" "wear" "[I") (List.mem_of_getElem? (i := 3) rfl)) (fun _ h9 => h9) rfl dX2_holds_72 ?_
            refine lv_iload hx hb dX2_holds_75 (lv_at hl 5 rfl) ?_
            refine lv_iconst (v := 0) hx hb dX2_holds_77 (by decide) ?_
            refine ct_iast (g := upd (m_wea σ) i 0) (ws1 := ((mW h ad cI 0 hei (m_wat σ) (upd (m_dam σ) i 0) (upd (m_wea σ) i 0) dra (m_peo σ) rai (q_num (nI (m_t σ)) (m_bro σ) (m_drd σ) (m_lef σ)) g1 lak row) ++ (kW ka ku cJ cI (m_wat σ) (m_dam σ) (m_wea σ) (m_peo σ) (q_num (nI (m_t σ)) (m_bro σ) (m_drd σ) (m_lef σ))))) hx hb hK hP hD hS 4 0 rfl rfl i rfl (by omega) (by decide) rfl rfl dX2_holds_78 (fun H locs hP hD hS => ?_)
            have hP : va_P D vwCl ((mM h ad cI 0 hei dra rai (q_with σ i 0) g1 lak row) ++ (kW ka ku cJ cI (m_wat σ) (m_dam σ) (m_wea σ) (m_peo σ) (q_num (nI (m_t σ)) (m_bro σ) (m_drd σ) (m_lef σ)))) H := hP
            have hD : va_D A ((mM h ad cI 0 hei dra rai (q_with σ i 0) g1 lak row) ++ (kW ka ku cJ cI (m_wat σ) (m_dam σ) (m_wea σ) (m_peo σ) (q_num (nI (m_t σ)) (m_bro σ) (m_drd σ) (m_lef σ)))) := hD
            refine lv_aload_n hx hb dX2_holds_79 rfl (lv_at hl 0 rfl) ?_
            refine lv_iload_n hx hb dX2_holds_80 rfl (lv_at hl 1 rfl) ?_
            refine ct_Vi (As := [.int (nI k7)]) (rest := []) (wr := [(ka, .inl (cJ, 5, rf5 (kR ku))), ((ku 0), .inl (cI, 64, .inl (m_wat σ))), ((ku 1), .inl (cI, 64, .inl (m_dam σ))), ((ku 2), .inl (cI, 64, .inl (m_wea σ))), ((ku 3), .inl (cI, 64, .inl (m_peo σ))), ((ku 4), .inl (cI, 4, .inl (q_num (nI (m_t σ)) (m_bro σ) (m_drd σ) (m_lef σ))))]) (W1 := fun u => ((mM h ad cI 0 hei dra rai (q_hours hei dra rai k7 (q_with σ i 0)) u lak row) ++ (kW ka ku cJ cI (m_wat σ) (m_dam σ) (m_wea σ) (m_peo σ) (q_num (nI (m_t σ)) (m_bro σ) (m_drd σ) (m_lef σ))))) (cells1 := (7 + i)) (slots1 := (270 + 5 * i)) ⟨hx, hb, hml, hown, hts⟩ (c_X2_hours l D cI h ad 0 hei dra rai (q_with σ i 0) g1 lak row k7 (by omega) (by show m_t σ + k7 < 2 ^ 30; omega) (inv1_with hinv i (Int32.le_refl 0))) (cwV 1 hts gX2_holds_X2_hoursOn rfl rfl rfl (by decide +kernel) ⟨Nat.le_of_ble_eq_true rfl, Nat.le_of_ble_eq_true rfl⟩) hK hP hD hS hA [0, 1, 2, 3, 4, 5, 6, 7, 8, 9, 10, 11] [12, 13, 14, 15, 16, 17] ⟨rfl, rfl, rfl, rfl, rfl⟩ [6, 7, 8, 9, 10, 11, 12, 13, 14, 15, 16, 17, 0, 1, 2, 3, 4, 5] rfl (fun _ => rfl) [0] rfl (va_recv hK hP (ci := 2) (q0 := 0) rfl rfl) rfl hl.1 rfl (Nat.le_of_ble_eq_true rfl) rfl rfl ⟨(by show 7 + i ≤ 71; omega), (by show 270 + 5 * i ≤ 590; omega)⟩ dX2_holds_81 (fun r u H locs hw hP hD hS => ?_)
            subst hw
            obtain ⟨g2, hu0⟩ : ∃ y, y = u := ⟨_, rfl⟩
            subst hu0
            refine lv_istore (lv' := [(6, .int (q_leave hei dra rai k7 (q_with σ i 0))), (0, .ref h), (1, .int (nI k7)), (2, .ref ka), (3, .int mf.2), (4, .int mf.1), (5, .int (nI i))]) hx hb dX2_holds_84 hl (by decide) rfl (fun ls hl => ?_)
            refine lv_aload_n hx hb dX2_holds_86 rfl (lv_at hl 1 rfl) ?_
            refine lv_aload_n hx hb dX2_holds_87 rfl (lv_at hl 3 rfl) ?_
            refine cy_Vv (As := [.ref ka]) (rest := []) (wr := []) (W1 := fun u => ((mM h ad cI 0 hei dra rai σ g2 lak row) ++ (kW ka ku cJ cI (m_wat σ) (m_dam σ) (m_wea σ) (m_peo σ) (q_num (nI (m_t σ)) (m_bro σ) (m_drd σ) (m_lef σ))))) (cells1 := (7 + (i + 1))) (slots1 := (270 + 5 * (i + 1))) ⟨hx, hb, hml, hown, hts⟩ (c_X2_bring l D cI cJ h ad 0 hei (m_wat (q_hours hei dra rai k7 (q_with σ i 0))) (m_dam (q_hours hei dra rai k7 (q_with σ i 0))) (m_wea (q_hours hei dra rai k7 (q_with σ i 0))) dra (m_peo (q_hours hei dra rai k7 (q_with σ i 0))) rai (q_num (nI (m_t (q_hours hei dra rai k7 (q_with σ i 0)))) (m_bro (q_hours hei dra rai k7 (q_with σ i 0))) (m_drd (q_hours hei dra rai k7 (q_with σ i 0))) (m_lef (q_hours hei dra rai k7 (q_with σ i 0)))) g2 lak row ka ku (m_wat σ) (m_dam σ) (m_wea σ) (m_peo σ) (q_num (nI (m_t σ)) (m_bro σ) (m_drd σ) (m_lef σ))) (cwV 1 hts gX2_holds_X2_bringBack rfl rfl rfl (by decide +kernel) ⟨Nat.le_of_ble_eq_true rfl, Nat.le_of_ble_eq_true rfl⟩) hK hP hD hS hA hY [0, 1, 2, 3, 4, 5, 6, 7, 8, 9, 10, 11, 12, 13, 14, 15, 16, 17] [] ⟨rfl, rfl, rfl, rfl, rfl⟩ [0, 1, 2, 3, 4, 5, 6, 7, 8, 9, 10, 11, 12, 13, 14, 15, 16, 17] rfl (fun _ => rfl) [0, 1] rfl (va_recv hK hP (ci := 2) (q0 := 0) rfl rfl) rfl hl.1 rfl (Nat.le_of_ble_eq_true rfl) (by show 7 + i + 1 = 7 + (i + 1); omega) (by show 270 + 5 * i + 5 = 270 + 5 * (i + 1); omega) ⟨(by show 7 + (i + 1) ≤ 71; omega), (by show 270 + 5 * (i + 1) ≤ 590; omega)⟩ dX2_holds_88 (fun u H locs hw hP hD hS => ?_)
            refine lv_iload hx hb dX2_holds_91 (lv_at hl 0 rfl) ?_
            refine lv_iload hx hb dX2_holds_93 (lv_at hl 5 rfl) ?_
            refine lv_icmp_gt (tgt := 101) hx hb dX2_holds_95 (by decide) (fun hc9 => ?_) (fun hc9 => ?_)
            · skip
              refine lv_iload hx hb dX2_holds_101 (lv_at hl 6 rfl) ?_
              refine lv_istore_n (lv' := [(3, .int (nI i)), (6, .int (q_leave hei dra rai k7 (q_with σ i 0))), (0, .ref h), (1, .int (nI k7)), (2, .ref ka), (4, .int mf.1), (5, .int (nI i))]) hx hb dX2_holds_103 rfl hl (by decide) rfl (fun ls hl => ?_)
              refine lv_iload hx hb dX2_holds_104 (lv_at hl 1 rfl) ?_
              refine lv_istore (lv' := [(4, .int (q_leave hei dra rai k7 (q_with σ i 0))), (3, .int (nI i)), (6, .int (q_leave hei dra rai k7 (q_with σ i 0))), (0, .ref h), (1, .int (nI k7)), (2, .ref ka), (5, .int (nI i))]) hx hb dX2_holds_106 hl (by decide) rfl (fun ls hl => ?_)
              refine lv_iinc (v := (nI (i + 1))) (lv' := [(5, .int (nI (i + 1))), (4, .int (q_leave hei dra rai k7 (q_with σ i 0))), (3, .int (nI i)), (6, .int (q_leave hei dra rai k7 (q_with σ i 0))), (0, .ref h), (1, .int (nI k7)), (2, .ref ka)]) hx hb dX2_holds_108 hl (k := 6) rfl (nI_1 i) (by decide) rfl (fun ls hl => ?_)
              refine lv_goto (tgt := 43) hx hb dX2_holds_111 (by decide) ?_
              exact ih (i + 1) (by omega) ((q_leave hei dra rai k7 (q_with σ i 0)), nI i) g2 H locs ls (by rw [q_holdS_up, if_pos (pos_of (hinv i hlt).1 hc2), ← hmf, if_pos hc9]) hP hD hS (lv_sub hl [4, 5, 6, 2, 1, 0] rfl)
            · skip
              refine lv_goto (tgt := 108) hx hb dX2_holds_98 (by decide) ?_
              refine lv_iinc (v := (nI (i + 1))) (lv' := [(5, .int (nI (i + 1))), (6, .int (q_leave hei dra rai k7 (q_with σ i 0))), (0, .ref h), (1, .int (nI k7)), (2, .ref ka), (3, .int mf.2), (4, .int mf.1)]) hx hb dX2_holds_108 hl (k := 6) rfl (nI_1 i) (by decide) rfl (fun ls hl => ?_)
              refine lv_goto (tgt := 43) hx hb dX2_holds_111 (by decide) ?_
              exact ih (i + 1) (by omega) mf g2 H locs ls (by rw [q_holdS_up, if_pos (pos_of (hinv i hlt).1 hc2), ← hmf, if_neg hc9]) hP hD hS (lv_sub hl [2, 3, 4, 5, 6, 0] rfl)
          · skip
            refine lv_goto (tgt := 108) hx hb dX2_holds_60 (by decide) ?_
            refine lv_iinc (v := (nI (i + 1))) (lv' := [(5, .int (nI (i + 1))), (0, .ref h), (1, .int (nI k7)), (2, .ref ka), (3, .int mf.2), (4, .int mf.1)]) hx hb dX2_holds_108 hl (k := 5) rfl (nI_1 i) (by decide) rfl (fun ls hl => ?_)
            refine W.widen (k := 7 + (i + 1)) (n := 270 + 5 * (i + 1)) (by omega) (by omega) ?_
            refine lv_goto (tgt := 43) hx hb dX2_holds_111 (by decide) ?_
            exact ih (i + 1) (by omega) mf g1 H locs ls (by rw [q_holdS_up, if_neg (npos0 hc2)]; exact hmf) hP hD hS (lv_sub hl [1, 2, 3, 4, 5, 0] rfl)
    exact loop 64 0 (by omega) (q_leave hei dra rai k7 σ, -1) g0 H locs ls rfl hP hD hS (lv_sub hl [4, 5, 3, 2, 1, 0] rfl)
  · skip
    refine lv_aload_n hx hb dX2_holds_15 rfl (lv_at hl 0 rfl) ?_
    refine lv_iconst (v := 1) hx hb dX2_holds_16 (by decide) ?_
    refine ct_Vi (As := [.int 1]) (rest := []) (wr := []) (W1 := fun u => (mM h ad cI 1 hei dra rai σ flo lak row)) (cells1 := 0) (slots1 := 0) ⟨hx, hb, hml, hown, hts⟩ (c_X2_fail l D cI h ad 0 hei (m_wat σ) (m_dam σ) (m_wea σ) dra (m_peo σ) rai (q_num (nI (m_t σ)) (m_bro σ) (m_drd σ) (m_lef σ)) flo lak row 1) (cwV 1 hts gX2_holds_X2_fail rfl rfl rfl (by decide +kernel) ⟨Nat.le_of_ble_eq_true rfl, Nat.le_of_ble_eq_true rfl⟩) hK hP hD hS hA [0, 1, 2, 3, 4, 5, 6, 7, 8, 9, 10, 11] [] ⟨rfl, rfl, rfl, rfl, rfl⟩ [0, 1, 2, 3, 4, 5, 6, 7, 8, 9, 10, 11] rfl (fun _ => rfl) [0] rfl (va_recv hK hP (ci := 2) (q0 := 0) rfl rfl) rfl hl.1 rfl (Nat.le_of_ble_eq_true rfl) rfl rfl ⟨(Nat.le_of_ble_eq_true rfl), (Nat.le_of_ble_eq_true rfl)⟩ dX2_holds_17 (fun r u H locs hw hP hD hS => ?_)
    exact fin r (1, flo) H locs 0 0 20 ls dX2_holds_20 (Or.inl ⟨b_v_0 hc, rfl⟩) hP hD hS (Nat.le_of_ble_eq_true rfl) (Nat.le_of_ble_eq_true rfl)
abbrev rm_X2_advise : Room := { frames := 5, cells := 71, slots := 590, locals := 112 }
set_option maxHeartbeats 4000000 in
set_option maxRecDepth 100000 in
theorem c_X2_advise (l : Launch) (D : va_G) (cI cJ : ClassId) (h : Nat) (ad : Nat → Nat) (thr : Int32) (hei dra rai : Nat → Int32) (σ : Ms) (flo lak row : Nat → Int32) (ht : m_t σ < 2 ^ 29) (hinv : inv1 σ) (hdm : ∀ c, c < 64 → m_dam σ c ≤ 20) (v : Int32) : cy_i (S := Int32 × (Nat → Int32)) l D yX2_advise wsX2_advise rm_X2_advise [.ref h, .int v] (mM h ad cI thr hei dra rai σ flo lak row) [(cI, .int), (cJ, .array .int)] (fun r u => (¬ (1 ≤ v ∧ v ≤ 12) ∧ u.1 = 1) ∨ ((1 ≤ v ∧ v ≤ 12) ∧ u.1 = 0 ∧ r = q_advise hei dra rai v.toNatClampNeg σ)) (fun u => (mM h ad cI u.1 hei dra rai σ u.2 lak row)) := by
  refine cy_ofi (cc := cX2_advise) (maxL := 7) (by decide) rfl (Nat.le_of_ble_eq_true rfl) ?_
  intro p e s m args below meth c A Q hx hb hml hown hts hA hK hY H locs hP hD hS fin ls hl
  have hown : s.vm.findClass RX2 = some m.cls := hown
  have hl : lv_has ls 7 [(0, .ref h), (1, .int v)] := hl
  refine lv_aload_n hx hb dX2_advise_0 rfl (lv_at hl 0 rfl) ?_
  refine lv_iconst (v := 0) hx hb dX2_advise_1 (by decide) ?_
  refine va_put (D := D) (ci := 2) (v := .int 0) (ty := .int) (C := RX2) (T := TX2) (N := 12) hx hb hts (fun _ h9 => (List.mem_cons_of_mem _ (List.mem_append_right _ h9))) tyX2 tyX2_ok nmX2 hown hK hP hD hS 0 rfl rfl 0 (by decide) (hts (Cond.fieldLink RX2 43 "FloodGridModel" "thrown" "I") (List.mem_of_getElem? (i := 1) rfl)) (fun _ h9 => h9) rfl (by decide +kernel) rfl rfl (Nat.le_of_ble_eq_true rfl) dX2_advise_2 (fun H locs hP hD hS => ?_)
  have hP : va_P D vwCl (mM h ad cI 0 hei dra rai σ flo lak row) H := hP
  have hD : va_D A (mM h ad cI 0 hei dra rai σ flo lak row) := hD
  refine lv_iload_n hx hb dX2_advise_5 rfl (lv_at hl 1 rfl) ?_
  refine lv_iconst (v := 1) hx hb dX2_advise_6 (by decide) ?_
  refine lv_bipush (v := 12) hx hb dX2_advise_7 (by decide) ?_
  refine ct_Si (As := [.int v, .int 1, .int 12]) (rest := []) (wr := [(h, .inr (2, [.int 0, .ref (ad 1), .ref (ad 2), .ref (ad 3), .ref (ad 4), .ref (ad 5), .ref (ad 6), .ref (ad 7), .ref (ad 8), .ref (ad 9), .ref (ad 10), .ref (ad 11)])), ((ad 1), .inl (cI, 64, .inl hei)), ((ad 2), .inl (cI, 64, .inl (m_wat σ))), ((ad 3), .inl (cI, 64, .inl (m_dam σ))), ((ad 4), .inl (cI, 64, .inl (m_wea σ))), ((ad 5), .inl (cI, 64, .inl dra)), ((ad 6), .inl (cI, 64, .inl (m_peo σ))), ((ad 7), .inl (cI, 12, .inl rai)), ((ad 8), .inl (cI, 4, .inl (q_num (nI (m_t σ)) (m_bro σ) (m_drd σ) (m_lef σ)))), ((ad 9), .inl (cI, 64, .inl flo)), ((ad 10), .inl (cI, 64, .inl lak)), ((ad 11), .inl (cI, 64, .inl row))]) (W1 := fun u => (mM h ad cI 0 hei dra rai σ flo lak row)) (cells1 := 0) (slots1 := 0) ⟨hx, hb, hml, hown, hts⟩ (c_isIn l D cI v 1 12) (va_cwS 3 hts gX2_advise_X2_isIn rfl rfl rfl (by decide +kernel) ⟨Nat.le_of_ble_eq_true rfl, Nat.le_of_ble_eq_true rfl⟩) hK hP hD hS hA [] [0, 1, 2, 3, 4, 5, 6, 7, 8, 9, 10, 11] ⟨rfl, rfl, rfl, rfl, rfl⟩ [0, 1, 2, 3, 4, 5, 6, 7, 8, 9, 10, 11] rfl (fun _ => rfl) [0] rfl rfl hl.1 rfl (Nat.le_of_ble_eq_true rfl) rfl rfl ⟨(Nat.le_of_ble_eq_true rfl), (Nat.le_of_ble_eq_true rfl)⟩ dX2_advise_9 (fun r u H locs hw hP hD hS => ?_)
  subst hw
  refine lv_if_ne (tgt := 21) hx hb dX2_advise_12 (by decide) (fun hc => ?_) (fun hc => ?_)
  · skip
    have hv := b_v_1 hc
    obtain ⟨e7, h7⟩ := q_n7 (Int32.le_trans (show (0 : Int32) ≤ 1 by decide) hv.1) (n := 12) rfl (by decide) hv.2
    generalize v.toNatClampNeg = k7 at e7 h7 fin
    subst e7
    refine lv_aload_n hx hb dX2_advise_21 rfl (lv_at hl 0 rfl) ?_
    refine cy_Vr (As := []) (rest := []) (wr := []) (W1 := fun u ka => ((mM h ad cI 0 hei dra rai σ flo lak row) ++ (kW ka u cJ cI (m_wat σ) (m_dam σ) (m_wea σ) (m_peo σ) (q_num (nI (m_t σ)) (m_bro σ) (m_drd σ) (m_lef σ))))) (cells1 := 6) (slots1 := 265) ⟨hx, hb, hml, hown, hts⟩ (c_X2_kept l D cI cJ h ad 0 hei (m_wat σ) (m_dam σ) (m_wea σ) dra (m_peo σ) rai (q_num (nI (m_t σ)) (m_bro σ) (m_drd σ) (m_lef σ)) flo lak row) (cwV 0 hts gX2_advise_X2_kept rfl rfl rfl (by decide +kernel) ⟨Nat.le_of_ble_eq_true rfl, Nat.le_of_ble_eq_true rfl⟩) hK hP hD hS hA hY [0, 1, 2, 3, 4, 5, 6, 7, 8, 9, 10, 11] [] ⟨rfl, rfl, rfl, rfl, rfl⟩ [0, 1, 2, 3, 4, 5, 6, 7, 8, 9, 10, 11, 12, 13, 14, 15, 16, 17] rfl (fun _ _ => rfl) [0, 1] rfl (va_recv hK hP (ci := 2) (q0 := 0) rfl rfl) rfl hl.1 rfl (Nat.le_of_ble_eq_true rfl) rfl rfl ⟨Nat.le_of_ble_eq_true rfl, Nat.le_of_ble_eq_true rfl⟩ dX2_advise_22 (fun u ka H locs hw hP hD hS => ?_)
    obtain ⟨ku, hu0⟩ : ∃ y, y = u := ⟨_, rfl⟩
    subst hu0
    refine lv_astore_n (lv' := [(2, .ref ka), (0, .ref h), (1, .int (nI k7))]) hx hb dX2_advise_25 rfl hl (by decide) rfl (fun ls hl => ?_)
    refine lv_iconst (v := (-1)) hx hb dX2_advise_26 (by decide) ?_
    refine lv_istore_n (lv' := [(3, .int (-1)), (2, .ref ka), (0, .ref h), (1, .int (nI k7))]) hx hb dX2_advise_27 rfl hl (by decide) rfl (fun ls hl => ?_)
    refine lv_aload_n hx hb dX2_advise_28 rfl (lv_at hl 2 rfl) ?_
    refine lv_iload_n hx hb dX2_advise_29 rfl (lv_at hl 3 rfl) ?_
    refine ct_Vi (As := [.int (nI k7)]) (rest := []) (wr := [(ka, .inl (cJ, 5, rf5 (kR ku))), ((ku 0), .inl (cI, 64, .inl (m_wat σ))), ((ku 1), .inl (cI, 64, .inl (m_dam σ))), ((ku 2), .inl (cI, 64, .inl (m_wea σ))), ((ku 3), .inl (cI, 64, .inl (m_peo σ))), ((ku 4), .inl (cI, 4, .inl (q_num (nI (m_t σ)) (m_bro σ) (m_drd σ) (m_lef σ))))]) (W1 := fun u => ((mM h ad cI 0 hei dra rai (q_hours hei dra rai k7 σ) u lak row) ++ (kW ka ku cJ cI (m_wat σ) (m_dam σ) (m_wea σ) (m_peo σ) (q_num (nI (m_t σ)) (m_bro σ) (m_drd σ) (m_lef σ))))) (cells1 := 6) (slots1 := 265) ⟨hx, hb, hml, hown, hts⟩ (c_X2_hours l D cI h ad 0 hei dra rai σ flo lak row k7 (by omega) (by omega) hinv) (cwV 1 hts gX2_advise_X2_hoursOn rfl rfl rfl (by decide +kernel) ⟨Nat.le_of_ble_eq_true rfl, Nat.le_of_ble_eq_true rfl⟩) hK hP hD hS hA [0, 1, 2, 3, 4, 5, 6, 7, 8, 9, 10, 11] [12, 13, 14, 15, 16, 17] ⟨rfl, rfl, rfl, rfl, rfl⟩ [6, 7, 8, 9, 10, 11, 12, 13, 14, 15, 16, 17, 0, 1, 2, 3, 4, 5] rfl (fun _ => rfl) [0] rfl (va_recv hK hP (ci := 2) (q0 := 0) rfl rfl) rfl hl.1 rfl (Nat.le_of_ble_eq_true rfl) rfl rfl ⟨(Nat.le_of_ble_eq_true rfl), (Nat.le_of_ble_eq_true rfl)⟩ dX2_advise_30 (fun r u H locs hw hP hD hS => ?_)
    subst hw
    obtain ⟨g0, hu0⟩ : ∃ y, y = u := ⟨_, rfl⟩
    subst hu0
    refine lv_istore (lv' := [(4, .int (q_leave hei dra rai k7 σ)), (3, .int (-1)), (2, .ref ka), (0, .ref h), (1, .int (nI k7))]) hx hb dX2_advise_33 hl (by decide) rfl (fun ls hl => ?_)
    refine lv_aload_n hx hb dX2_advise_35 rfl (lv_at hl 3 rfl) ?_
    refine lv_aload_n hx hb dX2_advise_36 rfl (lv_at hl 2 rfl) ?_
    refine cy_Vv (As := [.ref ka]) (rest := []) (wr := []) (W1 := fun u => ((mM h ad cI 0 hei dra rai σ g0 lak row) ++ (kW ka ku cJ cI (m_wat σ) (m_dam σ) (m_wea σ) (m_peo σ) (q_num (nI (m_t σ)) (m_bro σ) (m_drd σ) (m_lef σ))))) (cells1 := 7) (slots1 := 270) ⟨hx, hb, hml, hown, hts⟩ (c_X2_bring l D cI cJ h ad 0 hei (m_wat (q_hours hei dra rai k7 σ)) (m_dam (q_hours hei dra rai k7 σ)) (m_wea (q_hours hei dra rai k7 σ)) dra (m_peo (q_hours hei dra rai k7 σ)) rai (q_num (nI (m_t (q_hours hei dra rai k7 σ))) (m_bro (q_hours hei dra rai k7 σ)) (m_drd (q_hours hei dra rai k7 σ)) (m_lef (q_hours hei dra rai k7 σ))) g0 lak row ka ku (m_wat σ) (m_dam σ) (m_wea σ) (m_peo σ) (q_num (nI (m_t σ)) (m_bro σ) (m_drd σ) (m_lef σ))) (cwV 1 hts gX2_advise_X2_bringBack rfl rfl rfl (by decide +kernel) ⟨Nat.le_of_ble_eq_true rfl, Nat.le_of_ble_eq_true rfl⟩) hK hP hD hS hA hY [0, 1, 2, 3, 4, 5, 6, 7, 8, 9, 10, 11, 12, 13, 14, 15, 16, 17] [] ⟨rfl, rfl, rfl, rfl, rfl⟩ [0, 1, 2, 3, 4, 5, 6, 7, 8, 9, 10, 11, 12, 13, 14, 15, 16, 17] rfl (fun _ => rfl) [0, 1] rfl (va_recv hK hP (ci := 2) (q0 := 0) rfl rfl) rfl hl.1 rfl (Nat.le_of_ble_eq_true rfl) rfl rfl ⟨Nat.le_of_ble_eq_true rfl, Nat.le_of_ble_eq_true rfl⟩ dX2_advise_37 (fun u H locs hw hP hD hS => ?_)
    refine lv_iconst (v := 0) hx hb dX2_advise_40 (by decide) ?_
    refine lv_istore (lv' := [(5, .int 0), (4, .int (q_leave hei dra rai k7 σ)), (3, .int (-1)), (2, .ref ka), (0, .ref h), (1, .int (nI k7))]) hx hb dX2_advise_41 hl (by decide) rfl (fun ls hl => ?_)
    have loop : ∀ (fu i : Nat), i + fu = 64 → ∀ (mf : Int32 × Int32) (g1 : Nat → Int32) (H : Heap) (locs : List Loc) (ls : Array Slot), (mf = q_advS hei dra rai k7 σ i) → va_P D vwCl ((mM h ad cI 0 hei dra rai σ g1 lak row) ++ (kW ka ku cJ cI (m_wat σ) (m_dam σ) (m_wea σ) (m_peo σ) (q_num (nI (m_t σ)) (m_bro σ) (m_drd σ) (m_lef σ)))) H → va_D A ((mM h ad cI 0 hei dra rai σ g1 lak row) ++ (kW ka ku cJ cI (m_wat σ) (m_dam σ) (m_wea σ) (m_peo σ) (q_num (nI (m_t σ)) (m_bro σ) (m_drd σ) (m_lef σ)))) → va_S A s.heap H locs → lv_has ls 7 [(0, .ref h), (1, .int (nI k7)), (2, .ref ka), (3, .int mf.2), (4, .int mf.1), (5, .int (nI i))] → W p l e rm_X2_advise s m args below meth c H locs (7 + i) (270 + 5 * i) Q (F0 m 43 ls []) := by
      intro fu
      induction fu with
      | zero =>
        intro i hi mf g1 H locs ls hmf hP hD hS hl
        obtain rfl : 64 = i := by omega
        refine lv_iload hx hb dX2_advise_43 (lv_at hl 5 rfl) ?_
        refine lv_bipush (v := 64) hx hb dX2_advise_45 (by decide) ?_
        refine lv_icmp_ge (tgt := 114) hx hb dX2_advise_47 (by decide) (fun hc => ?_) (fun hc => ?_)
        · skip
          refine lv_iload_n hx hb dX2_advise_114 rfl (lv_at hl 3 rfl) ?_
          have hP := hP.sub (ws' := (mM h ad cI 0 hei dra rai σ g1 lak row)) [0, 1, 2, 3, 4, 5, 6, 7, 8, 9, 10, 11] rfl
          have hD := hD.sub (ws' := (mM h ad cI 0 hei dra rai σ g1 lak row)) [0, 1, 2, 3, 4, 5, 6, 7, 8, 9, 10, 11] (by decide) rfl
          exact fin mf.2 (0, g1) H locs (7 + 64) (270 + 5 * 64) 115 ls dX2_advise_115 (Or.inr ⟨hv, rfl, (by rw [hmf]; exact q_advise_eq hei dra rai k7 σ)⟩) hP hD hS (Nat.le_of_ble_eq_true rfl) (Nat.le_of_ble_eq_true rfl)
        · skip
          exact absurd (show (64 : Int32) ≤ nI 64 by decide) hc
      | succ fu ih =>
        intro i hi mf g1 H locs ls hmf hP hD hS hl
        have hlt : i < 64 := by omega
        refine lv_iload hx hb dX2_advise_43 (lv_at hl 5 rfl) ?_
        refine lv_bipush (v := 64) hx hb dX2_advise_45 (by decide) ?_
        refine lv_icmp_ge (tgt := 114) hx hb dX2_advise_47 (by decide) (fun hc => ?_) (fun hc => ?_)
        · skip
          exact absurd hc (nI_ge (b := 64) hlt (by decide))
        · skip
          refine lv_aload_n hx hb dX2_advise_50 rfl (lv_at hl 0 rfl) ?_
          refine va_get (D := D) (ci := 2) (v := .ref (ad 3)) (C := RX2) (T := TX2) (N := 12) hx hb hts (fun _ h9 => (List.mem_cons_of_mem _ (List.mem_append_right _ h9))) hown hK hP 0 rfl rfl 3 (by decide) (hts (Cond.fieldLink RX2 16 "FloodGridModel" "dams" "[I") (List.mem_of_getElem? (i := 2) rfl)) (fun _ h9 => h9) rfl dX2_advise_51 ?_
          refine lv_iload hx hb dX2_advise_54 (lv_at hl 5 rfl) ?_
          refine lv_bipush (v := 20) hx hb dX2_advise_56 (by decide) ?_
          refine lv_aload_n hx hb dX2_advise_58 rfl (lv_at hl 0 rfl) ?_
          refine va_get (D := D) (ci := 2) (v := .ref (ad 3)) (C := RX2) (T := TX2) (N := 12) hx hb hts (fun _ h9 => (List.mem_cons_of_mem _ (List.mem_append_right _ h9))) hown hK hP 0 rfl rfl 3 (by decide) (hts (Cond.fieldLink RX2 16 "FloodGridModel" "dams" "[I") (List.mem_of_getElem? (i := 2) rfl)) (fun _ h9 => h9) rfl dX2_advise_59 ?_
          refine lv_iload hx hb dX2_advise_62 (lv_at hl 5 rfl) ?_
          refine ct_iald (v := (m_dam σ) i) hx hb hK hP 3 0 rfl rfl i rfl (by omega) (by decide) rfl dX2_advise_64 ?_
          refine lv_iconst (v := 5) hx hb dX2_advise_65 (by decide) ?_
          refine lv_iadd hx hb dX2_advise_66 ?_
          refine ct_mmin (v := (i_min 20 (m_dam σ i + 5))) hx hb (hml.trans hl.1.symm) hown (hts (Cond.methodLink RX2 98 Lib.Math.min.name) (List.mem_of_getElem? (i := 3) rfl)) (hts (Cond.static Lib.Math.min.name) (List.mem_of_getElem? (i := 4) rfl)) (hts (Cond.initialized "java/lang/Math") (List.mem_of_getElem? (i := 5) rfl)) (hts (Cond.code Lib.Math.min.name Lib.Math.min.code 2 (some .int)) (List.mem_of_getElem? (i := 6) rfl)) (Nat.le_of_ble_eq_true rfl) (Nat.le_of_ble_eq_true rfl) (by show 7 + i ≤ 71; omega) (by show 270 + 5 * i ≤ 590; omega) rfl dX2_advise_67 ?_
          refine ct_iast (g := upd (m_dam σ) i (i_min 20 (m_dam σ i + 5))) (ws1 := ((mW h ad cI 0 hei (m_wat σ) (upd (m_dam σ) i (i_min 20 (m_dam σ i + 5))) (m_wea σ) dra (m_peo σ) rai (q_num (nI (m_t σ)) (m_bro σ) (m_drd σ) (m_lef σ)) g1 lak row) ++ (kW ka ku cJ cI (m_wat σ) (m_dam σ) (m_wea σ) (m_peo σ) (q_num (nI (m_t σ)) (m_bro σ) (m_drd σ) (m_lef σ))))) hx hb hK hP hD hS 3 0 rfl rfl i rfl (by omega) (by decide) rfl rfl dX2_advise_70 (fun H locs hP hD hS => ?_)
          refine lv_aload_n hx hb dX2_advise_71 rfl (lv_at hl 0 rfl) ?_
          refine va_get (D := D) (ci := 2) (v := .ref (ad 4)) (C := RX2) (T := TX2) (N := 12) hx hb hts (fun _ h9 => (List.mem_cons_of_mem _ (List.mem_append_right _ h9))) hown hK hP 0 rfl rfl 4 (by decide) (hts (Cond.fieldLink RX2 19 "FloodGridModel" "wear" "[I") (List.mem_of_getElem? (i := 7) rfl)) (fun _ h9 => h9) rfl dX2_advise_72 ?_
          refine lv_iload hx hb dX2_advise_75 (lv_at hl 5 rfl) ?_
          refine lv_iconst (v := 0) hx hb dX2_advise_77 (by decide) ?_
          refine ct_iast (g := upd (m_wea σ) i 0) (ws1 := ((mW h ad cI 0 hei (m_wat σ) (upd (m_dam σ) i (i_min 20 (m_dam σ i + 5))) (upd (m_wea σ) i 0) dra (m_peo σ) rai (q_num (nI (m_t σ)) (m_bro σ) (m_drd σ) (m_lef σ)) g1 lak row) ++ (kW ka ku cJ cI (m_wat σ) (m_dam σ) (m_wea σ) (m_peo σ) (q_num (nI (m_t σ)) (m_bro σ) (m_drd σ) (m_lef σ))))) hx hb hK hP hD hS 4 0 rfl rfl i rfl (by omega) (by decide) rfl rfl dX2_advise_78 (fun H locs hP hD hS => ?_)
          have hP : va_P D vwCl ((mM h ad cI 0 hei dra rai (q_with σ i (i_min 20 (m_dam σ i + 5))) g1 lak row) ++ (kW ka ku cJ cI (m_wat σ) (m_dam σ) (m_wea σ) (m_peo σ) (q_num (nI (m_t σ)) (m_bro σ) (m_drd σ) (m_lef σ)))) H := hP
          have hD : va_D A ((mM h ad cI 0 hei dra rai (q_with σ i (i_min 20 (m_dam σ i + 5))) g1 lak row) ++ (kW ka ku cJ cI (m_wat σ) (m_dam σ) (m_wea σ) (m_peo σ) (q_num (nI (m_t σ)) (m_bro σ) (m_drd σ) (m_lef σ)))) := hD
          refine lv_aload_n hx hb dX2_advise_79 rfl (lv_at hl 0 rfl) ?_
          refine lv_iload_n hx hb dX2_advise_80 rfl (lv_at hl 1 rfl) ?_
          refine ct_Vi (As := [.int (nI k7)]) (rest := []) (wr := [(ka, .inl (cJ, 5, rf5 (kR ku))), ((ku 0), .inl (cI, 64, .inl (m_wat σ))), ((ku 1), .inl (cI, 64, .inl (m_dam σ))), ((ku 2), .inl (cI, 64, .inl (m_wea σ))), ((ku 3), .inl (cI, 64, .inl (m_peo σ))), ((ku 4), .inl (cI, 4, .inl (q_num (nI (m_t σ)) (m_bro σ) (m_drd σ) (m_lef σ))))]) (W1 := fun u => ((mM h ad cI 0 hei dra rai (q_hours hei dra rai k7 (q_with σ i (i_min 20 (m_dam σ i + 5)))) u lak row) ++ (kW ka ku cJ cI (m_wat σ) (m_dam σ) (m_wea σ) (m_peo σ) (q_num (nI (m_t σ)) (m_bro σ) (m_drd σ) (m_lef σ))))) (cells1 := (7 + i)) (slots1 := (270 + 5 * i)) ⟨hx, hb, hml, hown, hts⟩ (c_X2_hours l D cI h ad 0 hei dra rai (q_with σ i (i_min 20 (m_dam σ i + 5))) g1 lak row k7 (by omega) (by show m_t σ + k7 < 2 ^ 30; omega) (inv1_with hinv i (adv_pos (hinv i hlt).1 (hdm i hlt)))) (cwV 1 hts gX2_advise_X2_hoursOn rfl rfl rfl (by decide +kernel) ⟨Nat.le_of_ble_eq_true rfl, Nat.le_of_ble_eq_true rfl⟩) hK hP hD hS hA [0, 1, 2, 3, 4, 5, 6, 7, 8, 9, 10, 11] [12, 13, 14, 15, 16, 17] ⟨rfl, rfl, rfl, rfl, rfl⟩ [6, 7, 8, 9, 10, 11, 12, 13, 14, 15, 16, 17, 0, 1, 2, 3, 4, 5] rfl (fun _ => rfl) [0] rfl (va_recv hK hP (ci := 2) (q0 := 0) rfl rfl) rfl hl.1 rfl (Nat.le_of_ble_eq_true rfl) rfl rfl ⟨(by show 7 + i ≤ 71; omega), (by show 270 + 5 * i ≤ 590; omega)⟩ dX2_advise_81 (fun r u H locs hw hP hD hS => ?_)
          subst hw
          obtain ⟨g2, hu0⟩ : ∃ y, y = u := ⟨_, rfl⟩
          subst hu0
          refine lv_istore (lv' := [(6, .int (q_leave hei dra rai k7 (q_with σ i (i_min 20 (m_dam σ i + 5))))), (0, .ref h), (1, .int (nI k7)), (2, .ref ka), (3, .int mf.2), (4, .int mf.1), (5, .int (nI i))]) hx hb dX2_advise_84 hl (by decide) rfl (fun ls hl => ?_)
          refine lv_aload_n hx hb dX2_advise_86 rfl (lv_at hl 1 rfl) ?_
          refine lv_aload_n hx hb dX2_advise_87 rfl (lv_at hl 3 rfl) ?_
          refine cy_Vv (As := [.ref ka]) (rest := []) (wr := []) (W1 := fun u => ((mM h ad cI 0 hei dra rai σ g2 lak row) ++ (kW ka ku cJ cI (m_wat σ) (m_dam σ) (m_wea σ) (m_peo σ) (q_num (nI (m_t σ)) (m_bro σ) (m_drd σ) (m_lef σ))))) (cells1 := (7 + (i + 1))) (slots1 := (270 + 5 * (i + 1))) ⟨hx, hb, hml, hown, hts⟩ (c_X2_bring l D cI cJ h ad 0 hei (m_wat (q_hours hei dra rai k7 (q_with σ i (i_min 20 (m_dam σ i + 5))))) (m_dam (q_hours hei dra rai k7 (q_with σ i (i_min 20 (m_dam σ i + 5))))) (m_wea (q_hours hei dra rai k7 (q_with σ i (i_min 20 (m_dam σ i + 5))))) dra (m_peo (q_hours hei dra rai k7 (q_with σ i (i_min 20 (m_dam σ i + 5))))) rai (q_num (nI (m_t (q_hours hei dra rai k7 (q_with σ i (i_min 20 (m_dam σ i + 5)))))) (m_bro (q_hours hei dra rai k7 (q_with σ i (i_min 20 (m_dam σ i + 5))))) (m_drd (q_hours hei dra rai k7 (q_with σ i (i_min 20 (m_dam σ i + 5))))) (m_lef (q_hours hei dra rai k7 (q_with σ i (i_min 20 (m_dam σ i + 5)))))) g2 lak row ka ku (m_wat σ) (m_dam σ) (m_wea σ) (m_peo σ) (q_num (nI (m_t σ)) (m_bro σ) (m_drd σ) (m_lef σ))) (cwV 1 hts gX2_advise_X2_bringBack rfl rfl rfl (by decide +kernel) ⟨Nat.le_of_ble_eq_true rfl, Nat.le_of_ble_eq_true rfl⟩) hK hP hD hS hA hY [0, 1, 2, 3, 4, 5, 6, 7, 8, 9, 10, 11, 12, 13, 14, 15, 16, 17] [] ⟨rfl, rfl, rfl, rfl, rfl⟩ [0, 1, 2, 3, 4, 5, 6, 7, 8, 9, 10, 11, 12, 13, 14, 15, 16, 17] rfl (fun _ => rfl) [0, 1] rfl (va_recv hK hP (ci := 2) (q0 := 0) rfl rfl) rfl hl.1 rfl (Nat.le_of_ble_eq_true rfl) (by show 7 + i + 1 = 7 + (i + 1); omega) (by show 270 + 5 * i + 5 = 270 + 5 * (i + 1); omega) ⟨(by show 7 + (i + 1) ≤ 71; omega), (by show 270 + 5 * (i + 1) ≤ 590; omega)⟩ dX2_advise_88 (fun u H locs hw hP hD hS => ?_)
          refine lv_iload hx hb dX2_advise_91 (lv_at hl 0 rfl) ?_
          refine lv_iload hx hb dX2_advise_93 (lv_at hl 5 rfl) ?_
          refine lv_icmp_lt (tgt := 101) hx hb dX2_advise_95 (by decide) (fun hc9 => ?_) (fun hc9 => ?_)
          · skip
            refine lv_iload hx hb dX2_advise_101 (lv_at hl 6 rfl) ?_
            refine lv_istore_n (lv' := [(3, .int (nI i)), (6, .int (q_leave hei dra rai k7 (q_with σ i (i_min 20 (m_dam σ i + 5))))), (0, .ref h), (1, .int (nI k7)), (2, .ref ka), (4, .int mf.1), (5, .int (nI i))]) hx hb dX2_advise_103 rfl hl (by decide) rfl (fun ls hl => ?_)
            refine lv_iload hx hb dX2_advise_104 (lv_at hl 1 rfl) ?_
            refine lv_istore (lv' := [(4, .int (q_leave hei dra rai k7 (q_with σ i (i_min 20 (m_dam σ i + 5))))), (3, .int (nI i)), (6, .int (q_leave hei dra rai k7 (q_with σ i (i_min 20 (m_dam σ i + 5))))), (0, .ref h), (1, .int (nI k7)), (2, .ref ka), (5, .int (nI i))]) hx hb dX2_advise_106 hl (by decide) rfl (fun ls hl => ?_)
            refine lv_iinc (v := (nI (i + 1))) (lv' := [(5, .int (nI (i + 1))), (4, .int (q_leave hei dra rai k7 (q_with σ i (i_min 20 (m_dam σ i + 5))))), (3, .int (nI i)), (6, .int (q_leave hei dra rai k7 (q_with σ i (i_min 20 (m_dam σ i + 5))))), (0, .ref h), (1, .int (nI k7)), (2, .ref ka)]) hx hb dX2_advise_108 hl (k := 6) rfl (nI_1 i) (by decide) rfl (fun ls hl => ?_)
            refine lv_goto (tgt := 43) hx hb dX2_advise_111 (by decide) ?_
            exact ih (i + 1) (by omega) ((q_leave hei dra rai k7 (q_with σ i (i_min 20 (m_dam σ i + 5)))), nI i) g2 H locs ls (by rw [q_advS_up, ← hmf, if_pos hc9]) hP hD hS (lv_sub hl [4, 5, 6, 2, 1, 0] rfl)
          · skip
            refine lv_goto (tgt := 108) hx hb dX2_advise_98 (by decide) ?_
            refine lv_iinc (v := (nI (i + 1))) (lv' := [(5, .int (nI (i + 1))), (6, .int (q_leave hei dra rai k7 (q_with σ i (i_min 20 (m_dam σ i + 5))))), (0, .ref h), (1, .int (nI k7)), (2, .ref ka), (3, .int mf.2), (4, .int mf.1)]) hx hb dX2_advise_108 hl (k := 6) rfl (nI_1 i) (by decide) rfl (fun ls hl => ?_)
            refine lv_goto (tgt := 43) hx hb dX2_advise_111 (by decide) ?_
            exact ih (i + 1) (by omega) mf g2 H locs ls (by rw [q_advS_up, ← hmf, if_neg hc9]) hP hD hS (lv_sub hl [2, 3, 4, 5, 6, 0] rfl)
    exact loop 64 0 (by omega) (q_leave hei dra rai k7 σ, -1) g0 H locs ls rfl hP hD hS (lv_sub hl [4, 5, 3, 2, 1, 0] rfl)
  · skip
    refine lv_aload_n hx hb dX2_advise_15 rfl (lv_at hl 0 rfl) ?_
    refine lv_iconst (v := 1) hx hb dX2_advise_16 (by decide) ?_
    refine ct_Vi (As := [.int 1]) (rest := []) (wr := []) (W1 := fun u => (mM h ad cI 1 hei dra rai σ flo lak row)) (cells1 := 0) (slots1 := 0) ⟨hx, hb, hml, hown, hts⟩ (c_X2_fail l D cI h ad 0 hei (m_wat σ) (m_dam σ) (m_wea σ) dra (m_peo σ) rai (q_num (nI (m_t σ)) (m_bro σ) (m_drd σ) (m_lef σ)) flo lak row 1) (cwV 1 hts gX2_advise_X2_fail rfl rfl rfl (by decide +kernel) ⟨Nat.le_of_ble_eq_true rfl, Nat.le_of_ble_eq_true rfl⟩) hK hP hD hS hA [0, 1, 2, 3, 4, 5, 6, 7, 8, 9, 10, 11] [] ⟨rfl, rfl, rfl, rfl, rfl⟩ [0, 1, 2, 3, 4, 5, 6, 7, 8, 9, 10, 11] rfl (fun _ => rfl) [0] rfl (va_recv hK hP (ci := 2) (q0 := 0) rfl rfl) rfl hl.1 rfl (Nat.le_of_ble_eq_true rfl) rfl rfl ⟨(Nat.le_of_ble_eq_true rfl), (Nat.le_of_ble_eq_true rfl)⟩ dX2_advise_17 (fun r u H locs hw hP hD hS => ?_)
    exact fin r (1, flo) H locs 0 0 20 ls dX2_advise_20 (Or.inl ⟨b_v_0 hc, rfl⟩) hP hD hS (Nat.le_of_ble_eq_true rfl) (Nat.le_of_ble_eq_true rfl)
