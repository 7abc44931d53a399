abbrev rm_X1_floods : Room := { frames := 8, cells := 2, slots := 12, locals := 133 }
set_option maxHeartbeats 4000000 in
set_option maxRecDepth 100000 in
theorem c_X1_floods (l : Launch) (hst : l.stackTraces = false) (D : va_G) (cI : ClassId) (sa1 sa2 : Nat) (g hn ha : Nat) (adn ada : Nat → Nat) (hei dra rai : Nat → Int32) (σ : Ms) (cre gai see fou : Nat → Int32) (z : Nat → Nat → Int32) (ht : m_t σ < 2 ^ 29) (x y : Int32) : cx_i (S := Nat → Nat → Int32) l D yX1_floods wsX1_floods rm_X1_floods [.ref g, .int x, .int y] ((gW g hn ha) ++ ((pM hn adn cI hei dra rai σ cre gai see fou) ++ ((pZ ha ada cI z)))) [(cI, .int)] sa1 sa2 (fun r _ => inC x y ∧ r = q_floods hei dra rai σ (q_at x y)) (fun u => (fW g hn ha adn ada cI hei dra rai σ cre gai see fou u)) (fun E => E = "java/lang/IndexOutOfBoundsException" ∧ ¬ inC x y) := by
  refine cx_ofi (cc := cX1_floods) (maxL := 5) (by decide) rfl (Nat.le_of_ble_eq_true rfl) ?_
  intro p e s m args below meth c A Q hx hb hml hown hts hA hK hT H locs hP hD hS fin finx ls hl
  have hown : s.vm.findClass RX1 = some m.cls := hown
  have hl : lv_has ls 5 [(0, .ref g), (1, .int x), (2, .int y)] := hl
  refine lv_iload_n hx hb dX1_floods_0 rfl (lv_at hl 1 rfl) ?_
  refine lv_iload_n hx hb dX1_floods_1 rfl (lv_at hl 2 rfl) ?_
  refine cx_Si (As := [.int x, .int y]) (rest := []) (wr := [(g, .inr (1, [.ref hn, .ref ha])), (hn, .inr (0, [.ref (adn 0), .ref (adn 1), .ref (adn 2), .ref (adn 3), .ref (adn 4), .ref (adn 5), .ref (adn 6), .int (nI (m_t σ)), .int (m_bro σ), .int (m_drd σ), .int (m_lef σ), .ref (adn 11), .ref (adn 12), .ref (adn 13), .ref (adn 14)])), ((adn 0), .inl (cI, 64, .inl hei)), ((adn 1), .inl (cI, 64, .inl (m_wat σ))), ((adn 2), .inl (cI, 64, .inl (m_dam σ))), ((adn 3), .inl (cI, 64, .inl (m_wea σ))), ((adn 4), .inl (cI, 64, .inl dra)), ((adn 5), .inl (cI, 64, .inl (m_peo σ))), ((adn 6), .inl (cI, 12, .inl rai)), ((adn 11), .inl (cI, 64, .inl cre)), ((adn 12), .inl (cI, 64, .inl gai)), ((adn 13), .inl (cI, 64, .inl see)), ((adn 14), .inl (cI, 64, .inl fou)), (ha, .inr (0, [.ref (ada 0), .ref (ada 1), .ref (ada 2), .ref (ada 3), .ref (ada 4), .ref (ada 5), .ref (ada 6), .int (z 7 0), .int (z 8 0), .int (z 9 0), .int (z 10 0), .ref (ada 11), .ref (ada 12), .ref (ada 13), .ref (ada 14)])), ((ada 0), .inl (cI, 64, .inl (z 0))), ((ada 1), .inl (cI, 64, .inl (z 1))), ((ada 2), .inl (cI, 64, .inl (z 2))), ((ada 3), .inl (cI, 64, .inl (z 3))), ((ada 4), .inl (cI, 64, .inl (z 4))), ((ada 5), .inl (cI, 64, .inl (z 5))), ((ada 6), .inl (cI, 12, .inl (z 6))), ((ada 11), .inl (cI, 64, .inl (z 11))), ((ada 12), .inl (cI, 64, .inl (z 12))), ((ada 13), .inl (cI, 64, .inl (z 13))), ((ada 14), .inl (cI, 64, .inl (z 14)))]) (W1 := fun u => ((gW g hn ha) ++ ((pM hn adn cI hei dra rai σ cre gai see fou) ++ ((pZ ha ada cI z))))) (cells1 := 2) (slots1 := 12) ⟨hx, hb, hml, hown, hts⟩ (c_place l hst D cI sa1 sa2 x y) (va_cwS 2 hts gX1_floods_X1_placeOf rfl rfl rfl (by decide +kernel) ⟨Nat.le_of_ble_eq_true rfl, Nat.le_of_ble_eq_true rfl⟩) hK hP hD hS hA hT [] [0, 1, 2, 3, 4, 5, 6, 7, 8, 9, 10, 11, 12, 13, 14, 15, 16, 17, 18, 19, 20, 21, 22, 23, 24] ⟨rfl, rfl, rfl, rfl, rfl⟩ [0, 1, 2, 3, 4, 5, 6, 7, 8, 9, 10, 11, 12, 13, 14, 15, 16, 17, 18, 19, 20, 21, 22, 23, 24] rfl (fun _ => rfl) [0, 1, 2, 3, 4, 5, 6, 7, 8, 9, 10, 11, 12, 13, 14, 15, 16, 17, 18, 19, 20, 21, 22, 23, 24] rfl rfl [0] rfl rfl hl.1 rfl (Nat.le_of_ble_eq_true rfl) rfl rfl ⟨Nat.le_of_ble_eq_true rfl, Nat.le_of_ble_eq_true rfl⟩ dX1_floods_2 (fun E ce q9 H locs hex hP hD hS hce hcv hcl => finx E ce q9 H locs 2 12 2 ls _ (hex) hP hD hS hce hcv hcl (Nat.le_of_ble_eq_true rfl) (Nat.le_of_ble_eq_true rfl)) (fun r u H locs hw hP hD hS => ?_)
  obtain ⟨hin, rfl⟩ := hw
  have hat := q_at_lt hin
  refine lv_istore_n (lv' := [(3, .int (nI (q_at x y))), (0, .ref g), (1, .int x), (2, .int y)]) hx hb dX1_floods_5 rfl hl (by decide) rfl (fun ls hl => ?_)
  refine lv_aload_n hx hb dX1_floods_6 rfl (lv_at hl 1 rfl) ?_
  refine va_get (D := D) (ci := 1) (v := .ref ha) (C := RX1) (T := TX1) (N := 2) hx hb hts (fun _ h9 => (List.mem_cons_of_mem _ (List.mem_append_left _ (List.mem_append_left _ (List.mem_append_right _ h9))))) hown hK hP 0 rfl rfl 1 (by decide) (hts (Cond.fieldLink RX1 16 "FloodGrid" "ahead" "LFloodGrid$Plain;") (List.mem_of_getElem? (i := 1) rfl)) (fun _ h9 => h9) rfl dX1_floods_7 ?_
  refine lv_aload_n hx hb dX1_floods_10 rfl (lv_at hl 1 rfl) ?_
  refine va_get (D := D) (ci := 1) (v := .ref hn) (C := RX1) (T := TX1) (N := 2) hx hb hts (fun _ h9 => (List.mem_cons_of_mem _ (List.mem_append_left _ (List.mem_append_left _ (List.mem_append_right _ h9))))) hown hK hP 0 rfl rfl 0 (by decide) (hts (Cond.fieldLink RX1 10 "FloodGrid" "now" "LFloodGrid$Plain;") (List.mem_of_getElem? (i := 2) rfl)) (fun _ h9 => h9) rfl dX1_floods_11 ?_
  refine ct_Vv (As := [.ref hn]) (rest := []) (wr := [(g, .inr (1, [.ref hn, .ref ha]))]) (W1 := fun u => ((gW g hn ha) ++ ((pM hn adn cI hei dra rai σ cre gai see fou) ++ ((pM ha ada cI hei dra rai σ (z 11) (z 12) (z 13) (z 14)))))) (cells1 := 2) (slots1 := 12) ⟨hx, hb, hml, hown, hts⟩ (c_X0_become l D cI ha ada (z 0) (z 1) (z 2) (z 3) (z 4) (z 5) (z 6) (z 7 0) (z 8 0) (z 9 0) (z 10 0) (z 11) (z 12) (z 13) (z 14) hn adn hei (m_wat σ) (m_dam σ) (m_wea σ) dra (m_peo σ) rai (nI (m_t σ)) (m_bro σ) (m_drd σ) (m_lef σ) cre gai see fou) (cwV 1 hts gX1_floods_X0_becomeLike rfl rfl rfl (by decide +kernel) ⟨Nat.le_of_ble_eq_true rfl, Nat.le_of_ble_eq_true rfl⟩) hK hP hD hS hA [13, 14, 15, 16, 17, 18, 19, 20, 21, 22, 23, 24, 1, 2, 3, 4, 5, 6, 7, 8, 9, 10, 11, 12] [0] ⟨rfl, rfl, rfl, rfl, rfl⟩ [0, 13, 14, 15, 16, 17, 18, 19, 20, 21, 22, 23, 24, 1, 2, 3, 4, 5, 6, 7, 8, 9, 10, 11, 12] rfl (fun _ => rfl) [0] rfl (va_recv hK hP (ci := 0) (q0 := 13) rfl rfl) rfl hl.1 rfl (Nat.le_of_ble_eq_true rfl) rfl rfl ⟨Nat.le_of_ble_eq_true rfl, Nat.le_of_ble_eq_true rfl⟩ dX1_floods_14 (fun u H locs hw hP hD hS => ?_)
  refine lv_aload_n hx hb dX1_floods_17 rfl (lv_at hl 1 rfl) ?_
  refine va_get (D := D) (ci := 1) (v := .ref ha) (C := RX1) (T := TX1) (N := 2) hx hb hts (fun _ h9 => (List.mem_cons_of_mem _ (List.mem_append_left _ (List.mem_append_left _ (List.mem_append_right _ h9))))) hown hK hP 0 rfl rfl 1 (by decide) (hts (Cond.fieldLink RX1 16 "FloodGrid" "ahead" "LFloodGrid$Plain;") (List.mem_of_getElem? (i := 1) rfl)) (fun _ h9 => h9) rfl dX1_floods_18 ?_
  refine va_get (D := D) (ci := 0) (v := .ref (ada 1)) (C := RX0) (T := TX0) (N := 15) hx hb hts (fun _ h9 => (List.mem_cons_of_mem _ (List.mem_append_left _ (List.mem_append_right _ h9)))) hown hK hP 13 rfl rfl 1 (by decide) (hts (Cond.fieldLink RX1 31 "FloodGrid$Plain" "water" "[I") (List.mem_of_getElem? (i := 3) rfl)) (fun _ h9 => h9) rfl dX1_floods_21 ?_
  refine lv_iload_n hx hb dX1_floods_24 rfl (lv_at hl 0 rfl) ?_
  refine ct_iald (v := (m_wat σ) (q_at x y)) hx hb hK hP 15 0 rfl rfl (q_at x y) rfl hat (by decide) rfl dX1_floods_25 ?_
  refine lv_iconst (v := 3) hx hb dX1_floods_26 (by decide) ?_
  refine lv_icmp_lt (tgt := 32) hx hb dX1_floods_27 (by decide) (fun hc => ?_) (fun hc => ?_)
  · skip
    refine lv_iconst (v := 1) hx hb dX1_floods_32 (by decide) ?_
    refine lv_istore (lv' := [(4, .int 1), (3, .int (nI (q_at x y))), (0, .ref g), (1, .int x), (2, .int y)]) hx hb dX1_floods_33 hl (by decide) rfl (fun ls hl => ?_)
    have loop : ∀ (fu i : Nat), i + fu = 48 → ∀ (c1 : Nat → Int32) (g1 : Nat → Int32) (H : Heap) (locs : List Loc) (ls : Array Slot), ((q_floods hei dra rai σ (q_at x y)) = q_seek hei dra rai (q_wet3 (q_at x y)) σ fu (i + 1)) → va_P D vwCl ((gW g hn ha) ++ ((pM hn adn cI hei dra rai σ cre gai see fou) ++ ((pM ha ada cI hei dra rai (q_hours hei dra rai i σ) c1 g1 (z 13) (z 14))))) H → va_D A ((gW g hn ha) ++ ((pM hn adn cI hei dra rai σ cre gai see fou) ++ ((pM ha ada cI hei dra rai (q_hours hei dra rai i σ) c1 g1 (z 13) (z 14))))) → va_S A s.heap H locs → lv_has ls 5 [(0, .ref g), (1, .int x), (2, .int y), (3, .int (nI (q_at x y))), (4, .int (nI (i + 1)))] → W p l e rm_X1_floods s m args below meth c H locs 2 12 Q (F0 m 35 ls []) := by
      intro fu
      induction fu with
      | zero =>
        intro i hi c1 g1 H locs ls hV hP hD hS hl
        obtain rfl : 48 = i := by omega
        refine lv_iload hx hb dX1_floods_35 (lv_at hl 4 rfl) ?_
        refine lv_bipush (v := 48) hx hb dX1_floods_37 (by decide) ?_
        refine lv_icmp_gt (tgt := 71) hx hb dX1_floods_39 (by decide) (fun hc2 => ?_) (fun hc2 => ?_)
        · skip
          refine lv_iconst (v := (-1)) hx hb dX1_floods_71 (by decide) ?_
          exact fin (-1) (q_z hei (m_wat (q_hours hei dra rai 48 σ)) (m_dam (q_hours hei dra rai 48 σ)) (m_wea (q_hours hei dra rai 48 σ)) dra (m_peo (q_hours hei dra rai 48 σ)) rai (nI (m_t (q_hours hei dra rai 48 σ))) (m_bro (q_hours hei dra rai 48 σ)) (m_drd (q_hours hei dra rai 48 σ)) (m_lef (q_hours hei dra rai 48 σ)) c1 g1 (z 13) (z 14)) H locs 2 12 72 ls dX1_floods_72 ⟨hin, hV.symm⟩ hP hD hS (Nat.le_of_ble_eq_true rfl) (Nat.le_of_ble_eq_true rfl)
        · skip
          exact absurd (show (48 : Int32) < nI (48 + 1) by decide) hc2
      | succ fu ih =>
        intro i hi c1 g1 H locs ls hV hP hD hS hl
        have hlt : i < 48 := by omega
        refine lv_iload hx hb dX1_floods_35 (lv_at hl 4 rfl) ?_
        refine lv_bipush (v := 48) hx hb dX1_floods_37 (by decide) ?_
        refine lv_icmp_gt (tgt := 71) hx hb dX1_floods_39 (by decide) (fun hc2 => ?_) (fun hc2 => ?_)
        · skip
          exact absurd hc2 (nI_nlt (b := i + 1) (a := 48) (by omega) (by decide))
        · skip
          refine lv_aload_n hx hb dX1_floods_42 rfl (lv_at hl 0 rfl) ?_
          refine va_get (D := D) (ci := 1) (v := .ref ha) (C := RX1) (T := TX1) (N := 2) hx hb hts (fun _ h9 => (List.mem_cons_of_mem _ (List.mem_append_left _ (List.mem_append_left _ (List.mem_append_right _ h9))))) hown hK hP 0 rfl rfl 1 (by decide) (hts (Cond.fieldLink RX1 16 "FloodGrid" "ahead" "LFloodGrid$Plain;") (List.mem_of_getElem? (i := 1) rfl)) (fun _ h9 => h9) rfl dX1_floods_43 ?_
          refine ct_Vv (As := []) (rest := []) (wr := [(g, .inr (1, [.ref hn, .ref ha])), (hn, .inr (0, [.ref (adn 0), .ref (adn 1), .ref (adn 2), .ref (adn 3), .ref (adn 4), .ref (adn 5), .ref (adn 6), .int (nI (m_t σ)), .int (m_bro σ), .int (m_drd σ), .int (m_lef σ), .ref (adn 11), .ref (adn 12), .ref (adn 13), .ref (adn 14)])), ((adn 0), .inl (cI, 64, .inl hei)), ((adn 1), .inl (cI, 64, .inl (m_wat σ))), ((adn 2), .inl (cI, 64, .inl (m_dam σ))), ((adn 3), .inl (cI, 64, .inl (m_wea σ))), ((adn 4), .inl (cI, 64, .inl dra)), ((adn 5), .inl (cI, 64, .inl (m_peo σ))), ((adn 6), .inl (cI, 12, .inl rai)), ((adn 11), .inl (cI, 64, .inl cre)), ((adn 12), .inl (cI, 64, .inl gai)), ((adn 13), .inl (cI, 64, .inl see)), ((adn 14), .inl (cI, 64, .inl fou))]) (W1 := fun u => ((gW g hn ha) ++ ((pM hn adn cI hei dra rai σ cre gai see fou) ++ ((pM ha ada cI hei dra rai (q_hours hei dra rai (i + 1) σ) u.1 u.2 (z 13) (z 14)))))) (cells1 := 2) (slots1 := 12) ⟨hx, hb, hml, hown, hts⟩ (c_X0_hour l D cI ha ada hei dra rai (q_hours hei dra rai i σ) c1 g1 (z 13) (z 14) (by rw [q_hours_t]; omega)) (cwV 0 hts gX1_floods_X0_goOneHour rfl rfl rfl (by decide +kernel) ⟨Nat.le_of_ble_eq_true rfl, Nat.le_of_ble_eq_true rfl⟩) hK hP hD hS hA [13, 14, 15, 16, 17, 18, 19, 20, 21, 22, 23, 24] [0, 1, 2, 3, 4, 5, 6, 7, 8, 9, 10, 11, 12] ⟨rfl, rfl, rfl, rfl, rfl⟩ [0, 1, 2, 3, 4, 5, 6, 7, 8, 9, 10, 11, 12, 13, 14, 15, 16, 17, 18, 19, 20, 21, 22, 23, 24] rfl (fun _ => rfl) [0] rfl (va_recv hK hP (ci := 0) (q0 := 13) rfl rfl) rfl hl.1 rfl (Nat.le_of_ble_eq_true rfl) rfl rfl ⟨Nat.le_of_ble_eq_true rfl, Nat.le_of_ble_eq_true rfl⟩ dX1_floods_46 (fun u H locs hw hP hD hS => ?_)
          refine lv_aload_n hx hb dX1_floods_49 rfl (lv_at hl 0 rfl) ?_
          refine va_get (D := D) (ci := 1) (v := .ref ha) (C := RX1) (T := TX1) (N := 2) hx hb hts (fun _ h9 => (List.mem_cons_of_mem _ (List.mem_append_left _ (List.mem_append_left _ (List.mem_append_right _ h9))))) hown hK hP 0 rfl rfl 1 (by decide) (hts (Cond.fieldLink RX1 16 "FloodGrid" "ahead" "LFloodGrid$Plain;") (List.mem_of_getElem? (i := 1) rfl)) (fun _ h9 => h9) rfl dX1_floods_50 ?_
          refine va_get (D := D) (ci := 0) (v := .ref (ada 1)) (C := RX0) (T := TX0) (N := 15) hx hb hts (fun _ h9 => (List.mem_cons_of_mem _ (List.mem_append_left _ (List.mem_append_right _ h9)))) hown hK hP 13 rfl rfl 1 (by decide) (hts (Cond.fieldLink RX1 31 "FloodGrid$Plain" "water" "[I") (List.mem_of_getElem? (i := 3) rfl)) (fun _ h9 => h9) rfl dX1_floods_53 ?_
          refine lv_iload_n hx hb dX1_floods_56 rfl (lv_at hl 3 rfl) ?_
          refine ct_iald (v := (m_wat (q_hours hei dra rai (i + 1) σ)) (q_at x y)) hx hb hK hP 15 0 rfl rfl (q_at x y) rfl hat (by decide) rfl dX1_floods_57 ?_
          refine lv_iconst (v := 3) hx hb dX1_floods_58 (by decide) ?_
          refine lv_icmp_lt (tgt := 65) hx hb dX1_floods_59 (by decide) (fun hc3 => ?_) (fun hc3 => ?_)
          · skip
            refine lv_iinc (v := (nI ((i + 1) + 1))) (lv' := [(4, .int (nI ((i + 1) + 1))), (0, .ref g), (1, .int x), (2, .int y), (3, .int (nI (q_at x y)))]) hx hb dX1_floods_65 hl (k := 4) rfl (nI_1 (i + 1)) (by decide) rfl (fun ls hl => ?_)
            refine lv_goto (tgt := 35) hx hb dX1_floods_68 (by decide) ?_
            exact ih (i + 1) (by omega) u.1 u.2 H locs ls (by rw [hV]; exact q_seek_no (Int32.not_le.mpr hc3)) hP hD hS (lv_sub hl [1, 2, 3, 4, 0] rfl)
          · skip
            refine lv_iload hx hb dX1_floods_62 (lv_at hl 4 rfl) ?_
            exact fin (nI (i + 1)) (q_z hei (m_wat (q_hours hei dra rai (i + 1) σ)) (m_dam (q_hours hei dra rai (i + 1) σ)) (m_wea (q_hours hei dra rai (i + 1) σ)) dra (m_peo (q_hours hei dra rai (i + 1) σ)) rai (nI (m_t (q_hours hei dra rai (i + 1) σ))) (m_bro (q_hours hei dra rai (i + 1) σ)) (m_drd (q_hours hei dra rai (i + 1) σ)) (m_lef (q_hours hei dra rai (i + 1) σ)) u.1 u.2 (z 13) (z 14)) H locs 2 12 64 ls dX1_floods_64 ⟨hin, (by rw [hV]; exact (q_seek_yes (Int32.not_lt.mp hc3)).symm)⟩ hP hD hS (Nat.le_of_ble_eq_true rfl) (Nat.le_of_ble_eq_true rfl)
    exact loop 48 0 (by omega) (z 11) (z 12) H locs ls (q_seek_no (Int32.not_le.mpr hc)) hP hD hS (lv_sub hl [2, 3, 4, 1, 0] rfl)
  · skip
    refine lv_iconst (v := 0) hx hb dX1_floods_30 (by decide) ?_
    exact fin 0 (q_z hei (m_wat σ) (m_dam σ) (m_wea σ) dra (m_peo σ) rai (nI (m_t σ)) (m_bro σ) (m_drd σ) (m_lef σ) (z 11) (z 12) (z 13) (z 14)) H locs 2 12 31 ls dX1_floods_31 ⟨hin, (q_seek_yes (n := 0) (Int32.not_lt.mp hc)).symm⟩ hP hD hS (Nat.le_of_ble_eq_true rfl) (Nat.le_of_ble_eq_true rfl)
abbrev rm_X1_breaks : Room := { frames := 8, cells := 2, slots := 12, locals := 133 }
set_option maxHeartbeats 4000000 in
set_option maxRecDepth 100000 in
theorem c_X1_breaks (l : Launch) (hst : l.stackTraces = false) (D : va_G) (cI : ClassId) (sa1 sa2 : Nat) (g hn ha : Nat) (adn ada : Nat → Nat) (hei dra rai : Nat → Int32) (σ : Ms) (cre gai see fou : Nat → Int32) (z : Nat → Nat → Int32) (ht : m_t σ < 2 ^ 29) (x y : Int32) : cx_i (S := Nat → Nat → Int32) l D yX1_breaks wsX1_breaks rm_X1_breaks [.ref g, .int x, .int y] ((gW g hn ha) ++ ((pM hn adn cI hei dra rai σ cre gai see fou) ++ ((pZ ha ada cI z)))) [(cI, .int)] sa1 sa2 (fun r _ => inC x y ∧ r = q_breaks hei dra rai σ (q_at x y)) (fun u => (fW g hn ha adn ada cI hei dra rai σ cre gai see fou u)) (fun E => E = "java/lang/IndexOutOfBoundsException" ∧ ¬ inC x y) := by
  refine cx_ofi (cc := cX1_breaks) (maxL := 5) (by decide) rfl (Nat.le_of_ble_eq_true rfl) ?_
  intro p e s m args below meth c A Q hx hb hml hown hts hA hK hT H locs hP hD hS fin finx ls hl
  have hown : s.vm.findClass RX1 = some m.cls := hown
  have hl : lv_has ls 5 [(0, .ref g), (1, .int x), (2, .int y)] := hl
  refine lv_iload_n hx hb dX1_breaks_0 rfl (lv_at hl 1 rfl) ?_
  refine lv_iload_n hx hb dX1_breaks_1 rfl (lv_at hl 2 rfl) ?_
  refine cx_Si (As := [.int x, .int y]) (rest := []) (wr := [(g, .inr (1, [.ref hn, .ref ha])), (hn, .inr (0, [.ref (adn 0), .ref (adn 1), .ref (adn 2), .ref (adn 3), .ref (adn 4), .ref (adn 5), .ref (adn 6), .int (nI (m_t σ)), .int (m_bro σ), .int (m_drd σ), .int (m_lef σ), .ref (adn 11), .ref (adn 12), .ref (adn 13), .ref (adn 14)])), ((adn 0), .inl (cI, 64, .inl hei)), ((adn 1), .inl (cI, 64, .inl (m_wat σ))), ((adn 2), .inl (cI, 64, .inl (m_dam σ))), ((adn 3), .inl (cI, 64, .inl (m_wea σ))), ((adn 4), .inl (cI, 64, .inl dra)), ((adn 5), .inl (cI, 64, .inl (m_peo σ))), ((adn 6), .inl (cI, 12, .inl rai)), ((adn 11), .inl (cI, 64, .inl cre)), ((adn 12), .inl (cI, 64, .inl gai)), ((adn 13), .inl (cI, 64, .inl see)), ((adn 14), .inl (cI, 64, .inl fou)), (ha, .inr (0, [.ref (ada 0), .ref (ada 1), .ref (ada 2), .ref (ada 3), .ref (ada 4), .ref (ada 5), .ref (ada 6), .int (z 7 0), .int (z 8 0), .int (z 9 0), .int (z 10 0), .ref (ada 11), .ref (ada 12), .ref (ada 13), .ref (ada 14)])), ((ada 0), .inl (cI, 64, .inl (z 0))), ((ada 1), .inl (cI, 64, .inl (z 1))), ((ada 2), .inl (cI, 64, .inl (z 2))), ((ada 3), .inl (cI, 64, .inl (z 3))), ((ada 4), .inl (cI, 64, .inl (z 4))), ((ada 5), .inl (cI, 64, .inl (z 5))), ((ada 6), .inl (cI, 12, .inl (z 6))), ((ada 11), .inl (cI, 64, .inl (z 11))), ((ada 12), .inl (cI, 64, .inl (z 12))), ((ada 13), .inl (cI, 64, .inl (z 13))), ((ada 14), .inl (cI, 64, .inl (z 14)))]) (W1 := fun u => ((gW g hn ha) ++ ((pM hn adn cI hei dra rai σ cre gai see fou) ++ ((pZ ha ada cI z))))) (cells1 := 2) (slots1 := 12) ⟨hx, hb, hml, hown, hts⟩ (c_place l hst D cI sa1 sa2 x y) (va_cwS 2 hts gX1_breaks_X1_placeOf rfl rfl rfl (by decide +kernel) ⟨Nat.le_of_ble_eq_true rfl, Nat.le_of_ble_eq_true rfl⟩) hK hP hD hS hA hT [] [0, 1, 2, 3, 4, 5, 6, 7, 8, 9, 10, 11, 12, 13, 14, 15, 16, 17, 18, 19, 20, 21, 22, 23, 24] ⟨rfl, rfl, rfl, rfl, rfl⟩ [0, 1, 2, 3, 4, 5, 6, 7, 8, 9, 10, 11, 12, 13, 14, 15, 16, 17, 18, 19, 20, 21, 22, 23, 24] rfl (fun _ => rfl) [0, 1, 2, 3, 4, 5, 6, 7, 8, 9, 10, 11, 12, 13, 14, 15, 16, 17, 18, 19, 20, 21, 22, 23, 24] rfl rfl [0] rfl rfl hl.1 rfl (Nat.le_of_ble_eq_true rfl) rfl rfl ⟨Nat.le_of_ble_eq_true rfl, Nat.le_of_ble_eq_true rfl⟩ dX1_breaks_2 (fun E ce q9 H locs hex hP hD hS hce hcv hcl => finx E ce q9 H locs 2 12 2 ls _ (hex) hP hD hS hce hcv hcl (Nat.le_of_ble_eq_true rfl) (Nat.le_of_ble_eq_true rfl)) (fun r u H locs hw hP hD hS => ?_)
  obtain ⟨hin, rfl⟩ := hw
  have hat := q_at_lt hin
  refine lv_istore_n (lv' := [(3, .int (nI (q_at x y))), (0, .ref g), (1, .int x), (2, .int y)]) hx hb dX1_breaks_5 rfl hl (by decide) rfl (fun ls hl => ?_)
  refine lv_aload_n hx hb dX1_breaks_6 rfl (lv_at hl 1 rfl) ?_
  refine va_get (D := D) (ci := 1) (v := .ref hn) (C := RX1) (T := TX1) (N := 2) hx hb hts (fun _ h9 => (List.mem_cons_of_mem _ (List.mem_append_left _ (List.mem_append_left _ (List.mem_append_right _ h9))))) hown hK hP 0 rfl rfl 0 (by decide) (hts (Cond.fieldLink RX1 10 "FloodGrid" "now" "LFloodGrid$Plain;") (List.mem_of_getElem? (i := 1) rfl)) (fun _ h9 => h9) rfl dX1_breaks_7 ?_
  refine va_get (D := D) (ci := 0) (v := .ref (adn 2)) (C := RX0) (T := TX0) (N := 15) hx hb hts (fun _ h9 => (List.mem_cons_of_mem _ (List.mem_append_left _ (List.mem_append_right _ h9)))) hown hK hP 1 rfl rfl 2 (by decide) (hts (Cond.fieldLink RX1 39 "FloodGrid$Plain" "dam" "[I") (List.mem_of_getElem? (i := 2) rfl)) (fun _ h9 => h9) rfl dX1_breaks_10 ?_
  refine lv_iload_n hx hb dX1_breaks_13 rfl (lv_at hl 0 rfl) ?_
  refine ct_iald (v := (m_dam σ) (q_at x y)) hx hb hK hP 4 0 rfl rfl (q_at x y) rfl hat (by decide) rfl dX1_breaks_14 ?_
  refine lv_if_ne (tgt := 20) hx hb dX1_breaks_15 (by decide) (fun hc => ?_) (fun hc => ?_)
  · skip
    refine lv_aload_n hx hb dX1_breaks_20 rfl (lv_at hl 1 rfl) ?_
    refine va_get (D := D) (ci := 1) (v := .ref ha) (C := RX1) (T := TX1) (N := 2) hx hb hts (fun _ h9 => (List.mem_cons_of_mem _ (List.mem_append_left _ (List.mem_append_left _ (List.mem_append_right _ h9))))) hown hK hP 0 rfl rfl 1 (by decide) (hts (Cond.fieldLink RX1 16 "FloodGrid" "ahead" "LFloodGrid$Plain;") (List.mem_of_getElem? (i := 3) rfl)) (fun _ h9 => h9) rfl dX1_breaks_21 ?_
    refine lv_aload_n hx hb dX1_breaks_24 rfl (lv_at hl 1 rfl) ?_
    refine va_get (D := D) (ci := 1) (v := .ref hn) (C := RX1) (T := TX1) (N := 2) hx hb hts (fun _ h9 => (List.mem_cons_of_mem _ (List.mem_append_left _ (List.mem_append_left _ (List.mem_append_right _ h9))))) hown hK hP 0 rfl rfl 0 (by decide) (hts (Cond.fieldLink RX1 10 "FloodGrid" "now" "LFloodGrid$Plain;") (List.mem_of_getElem? (i := 1) rfl)) (fun _ h9 => h9) rfl dX1_breaks_25 ?_
    refine ct_Vv (As := [.ref hn]) (rest := []) (wr := [(g, .inr (1, [.ref hn, .ref ha]))]) (W1 := fun u => ((gW g hn ha) ++ ((pM hn adn cI hei dra rai σ cre gai see fou) ++ ((pM ha ada cI hei dra rai σ (z 11) (z 12) (z 13) (z 14)))))) (cells1 := 2) (slots1 := 12) ⟨hx, hb, hml, hown, hts⟩ (c_X0_become l D cI ha ada (z 0) (z 1) (z 2) (z 3) (z 4) (z 5) (z 6) (z 7 0) (z 8 0) (z 9 0) (z 10 0) (z 11) (z 12) (z 13) (z 14) hn adn hei (m_wat σ) (m_dam σ) (m_wea σ) dra (m_peo σ) rai (nI (m_t σ)) (m_bro σ) (m_drd σ) (m_lef σ) cre gai see fou) (cwV 1 hts gX1_breaks_X0_becomeLike rfl rfl rfl (by decide +kernel) ⟨Nat.le_of_ble_eq_true rfl, Nat.le_of_ble_eq_true rfl⟩) hK hP hD hS hA [13, 14, 15, 16, 17, 18, 19, 20, 21, 22, 23, 24, 1, 2, 3, 4, 5, 6, 7, 8, 9, 10, 11, 12] [0] ⟨rfl, rfl, rfl, rfl, rfl⟩ [0, 13, 14, 15, 16, 17, 18, 19, 20, 21, 22, 23, 24, 1, 2, 3, 4, 5, 6, 7, 8, 9, 10, 11, 12] rfl (fun _ => rfl) [0] rfl (va_recv hK hP (ci := 0) (q0 := 13) rfl rfl) rfl hl.1 rfl (Nat.le_of_ble_eq_true rfl) rfl rfl ⟨Nat.le_of_ble_eq_true rfl, Nat.le_of_ble_eq_true rfl⟩ dX1_breaks_28 (fun u H locs hw hP hD hS => ?_)
    refine lv_iconst (v := 1) hx hb dX1_breaks_31 (by decide) ?_
    refine lv_istore (lv' := [(4, .int 1), (3, .int (nI (q_at x y))), (0, .ref g), (1, .int x), (2, .int y)]) hx hb dX1_breaks_32 hl (by decide) rfl (fun ls hl => ?_)
    have loop : ∀ (fu i : Nat), i + fu = 48 → ∀ (c1 : Nat → Int32) (g1 : Nat → Int32) (H : Heap) (locs : List Loc) (ls : Array Slot), ((q_breaks hei dra rai σ (q_at x y)) = q_seek hei dra rai (q_noDam (q_at x y)) σ fu (i + 1)) → va_P D vwCl ((gW g hn ha) ++ ((pM hn adn cI hei dra rai σ cre gai see fou) ++ ((pM ha ada cI hei dra rai (q_hours hei dra rai i σ) c1 g1 (z 13) (z 14))))) H → va_D A ((gW g hn ha) ++ ((pM hn adn cI hei dra rai σ cre gai see fou) ++ ((pM ha ada cI hei dra rai (q_hours hei dra rai i σ) c1 g1 (z 13) (z 14))))) → va_S A s.heap H locs → lv_has ls 5 [(0, .ref g), (1, .int x), (2, .int y), (3, .int (nI (q_at x y))), (4, .int (nI (i + 1)))] → W p l e rm_X1_breaks s m args below meth c H locs 2 12 Q (F0 m 34 ls []) := by
      intro fu
      induction fu with
      | zero =>
        intro i hi c1 g1 H locs ls hV hP hD hS hl
        obtain rfl : 48 = i := by omega
        refine lv_iload hx hb dX1_breaks_34 (lv_at hl 4 rfl) ?_
        refine lv_bipush (v := 48) hx hb dX1_breaks_36 (by decide) ?_
        refine lv_icmp_gt (tgt := 69) hx hb dX1_breaks_38 (by decide) (fun hc2 => ?_) (fun hc2 => ?_)
        · skip
          refine lv_iconst (v := (-1)) hx hb dX1_breaks_69 (by decide) ?_
          exact fin (-1) (q_z hei (m_wat (q_hours hei dra rai 48 σ)) (m_dam (q_hours hei dra rai 48 σ)) (m_wea (q_hours hei dra rai 48 σ)) dra (m_peo (q_hours hei dra rai 48 σ)) rai (nI (m_t (q_hours hei dra rai 48 σ))) (m_bro (q_hours hei dra rai 48 σ)) (m_drd (q_hours hei dra rai 48 σ)) (m_lef (q_hours hei dra rai 48 σ)) c1 g1 (z 13) (z 14)) H locs 2 12 70 ls dX1_breaks_70 ⟨hin, hV.symm⟩ hP hD hS (Nat.le_of_ble_eq_true rfl) (Nat.le_of_ble_eq_true rfl)
        · skip
          exact absurd (show (48 : Int32) < nI (48 + 1) by decide) hc2
      | succ fu ih =>
        intro i hi c1 g1 H locs ls hV hP hD hS hl
        have hlt : i < 48 := by omega
        refine lv_iload hx hb dX1_breaks_34 (lv_at hl 4 rfl) ?_
        refine lv_bipush (v := 48) hx hb dX1_breaks_36 (by decide) ?_
        refine lv_icmp_gt (tgt := 69) hx hb dX1_breaks_38 (by decide) (fun hc2 => ?_) (fun hc2 => ?_)
        · skip
          exact absurd hc2 (nI_nlt (b := i + 1) (a := 48) (by omega) (by decide))
        · skip
          refine lv_aload_n hx hb dX1_breaks_41 rfl (lv_at hl 0 rfl) ?_
          refine va_get (D := D) (ci := 1) (v := .ref ha) (C := RX1) (T := TX1) (N := 2) hx hb hts (fun _ h9 => (List.mem_cons_of_mem _ (List.mem_append_left _ (List.mem_append_left _ (List.mem_append_right _ h9))))) hown hK hP 0 rfl rfl 1 (by decide) (hts (Cond.fieldLink RX1 16 "FloodGrid" "ahead" "LFloodGrid$Plain;") (List.mem_of_getElem? (i := 3) rfl)) (fun _ h9 => h9) rfl dX1_breaks_42 ?_
          refine ct_Vv (As := []) (rest := []) (wr := [(g, .inr (1, [.ref hn, .ref ha])), (hn, .inr (0, [.ref (adn 0), .ref (adn 1), .ref (adn 2), .ref (adn 3), .ref (adn 4), .ref (adn 5), .ref (adn 6), .int (nI (m_t σ)), .int (m_bro σ), .int (m_drd σ), .int (m_lef σ), .ref (adn 11), .ref (adn 12), .ref (adn 13), .ref (adn 14)])), ((adn 0), .inl (cI, 64, .inl hei)), ((adn 1), .inl (cI, 64, .inl (m_wat σ))), ((adn 2), .inl (cI, 64, .inl (m_dam σ))), ((adn 3), .inl (cI, 64, .inl (m_wea σ))), ((adn 4), .inl (cI, 64, .inl dra)), ((adn 5), .inl (cI, 64, .inl (m_peo σ))), ((adn 6), .inl (cI, 12, .inl rai)), ((adn 11), .inl (cI, 64, .inl cre)), ((adn 12), .inl (cI, 64, .inl gai)), ((adn 13), .inl (cI, 64, .inl see)), ((adn 14), .inl (cI, 64, .inl fou))]) (W1 := fun u => ((gW g hn ha) ++ ((pM hn adn cI hei dra rai σ cre gai see fou) ++ ((pM ha ada cI hei dra rai (q_hours hei dra rai (i + 1) σ) u.1 u.2 (z 13) (z 14)))))) (cells1 := 2) (slots1 := 12) ⟨hx, hb, hml, hown, hts⟩ (c_X0_hour l D cI ha ada hei dra rai (q_hours hei dra rai i σ) c1 g1 (z 13) (z 14) (by rw [q_hours_t]; omega)) (cwV 0 hts gX1_breaks_X0_goOneHour rfl rfl rfl (by decide +kernel) ⟨Nat.le_of_ble_eq_true rfl, Nat.le_of_ble_eq_true rfl⟩) hK hP hD hS hA [13, 14, 15, 16, 17, 18, 19, 20, 21, 22, 23, 24] [0, 1, 2, 3, 4, 5, 6, 7, 8, 9, 10, 11, 12] ⟨rfl, rfl, rfl, rfl, rfl⟩ [0, 1, 2, 3, 4, 5, 6, 7, 8, 9, 10, 11, 12, 13, 14, 15, 16, 17, 18, 19, 20, 21, 22, 23, 24] rfl (fun _ => rfl) [0] rfl (va_recv hK hP (ci := 0) (q0 := 13) rfl rfl) rfl hl.1 rfl (Nat.le_of_ble_eq_true rfl) rfl rfl ⟨Nat.le_of_ble_eq_true rfl, Nat.le_of_ble_eq_true rfl⟩ dX1_breaks_45 (fun u H locs hw hP hD hS => ?_)
          refine lv_aload_n hx hb dX1_breaks_48 rfl (lv_at hl 0 rfl) ?_
          refine va_get (D := D) (ci := 1) (v := .ref ha) (C := RX1) (T := TX1) (N := 2) hx hb hts (fun _ h9 => (List.mem_cons_of_mem _ (List.mem_append_left _ (List.mem_append_left _ (List.mem_append_right _ h9))))) hown hK hP 0 rfl rfl 1 (by decide) (hts (Cond.fieldLink RX1 16 "FloodGrid" "ahead" "LFloodGrid$Plain;") (List.mem_of_getElem? (i := 3) rfl)) (fun _ h9 => h9) rfl dX1_breaks_49 ?_
          refine va_get (D := D) (ci := 0) (v := .ref (ada 2)) (C := RX0) (T := TX0) (N := 15) hx hb hts (fun _ h9 => (List.mem_cons_of_mem _ (List.mem_append_left _ (List.mem_append_right _ h9)))) hown hK hP 13 rfl rfl 2 (by decide) (hts (Cond.fieldLink RX1 39 "FloodGrid$Plain" "dam" "[I") (List.mem_of_getElem? (i := 2) rfl)) (fun _ h9 => h9) rfl dX1_breaks_52 ?_
          refine lv_iload_n hx hb dX1_breaks_55 rfl (lv_at hl 3 rfl) ?_
          refine ct_iald (v := (m_dam (q_hours hei dra rai (i + 1) σ)) (q_at x y)) hx hb hK hP 16 0 rfl rfl (q_at x y) rfl hat (by decide) rfl dX1_breaks_56 ?_
          refine lv_if_ne (tgt := 63) hx hb dX1_breaks_57 (by decide) (fun hc3 => ?_) (fun hc3 => ?_)
          · skip
            refine lv_iinc (v := (nI ((i + 1) + 1))) (lv' := [(4, .int (nI ((i + 1) + 1))), (0, .ref g), (1, .int x), (2, .int y), (3, .int (nI (q_at x y)))]) hx hb dX1_breaks_63 hl (k := 4) rfl (nI_1 (i + 1)) (by decide) rfl (fun ls hl => ?_)
            refine lv_goto (tgt := 34) hx hb dX1_breaks_66 (by decide) ?_
            exact ih (i + 1) (by omega) u.1 u.2 H locs ls (by rw [hV]; exact q_seek_no (hc3)) hP hD hS (lv_sub hl [1, 2, 3, 4, 0] rfl)
          · skip
            refine lv_iload hx hb dX1_breaks_60 (lv_at hl 4 rfl) ?_
            exact fin (nI (i + 1)) (q_z hei (m_wat (q_hours hei dra rai (i + 1) σ)) (m_dam (q_hours hei dra rai (i + 1) σ)) (m_wea (q_hours hei dra rai (i + 1) σ)) dra (m_peo (q_hours hei dra rai (i + 1) σ)) rai (nI (m_t (q_hours hei dra rai (i + 1) σ))) (m_bro (q_hours hei dra rai (i + 1) σ)) (m_drd (q_hours hei dra rai (i + 1) σ)) (m_lef (q_hours hei dra rai (i + 1) σ)) u.1 u.2 (z 13) (z 14)) H locs 2 12 62 ls dX1_breaks_62 ⟨hin, (by rw [hV]; exact (q_seek_yes (hc3)).symm)⟩ hP hD hS (Nat.le_of_ble_eq_true rfl) (Nat.le_of_ble_eq_true rfl)
    exact loop 48 0 (by omega) (z 11) (z 12) H locs ls (by unfold q_breaks; rw [if_neg hc]) hP hD hS (lv_sub hl [2, 3, 4, 1, 0] rfl)
  · skip
    refine lv_iconst (v := (-1)) hx hb dX1_breaks_18 (by decide) ?_
    exact fin (-1) z H locs 2 12 19 ls dX1_breaks_19 ⟨hin, (by unfold q_breaks; rw [if_pos hc])⟩ hP hD hS (Nat.le_of_ble_eq_true rfl) (Nat.le_of_ble_eq_true rfl)
