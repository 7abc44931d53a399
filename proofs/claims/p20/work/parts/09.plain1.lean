abbrev rm_X0_levelOf : Room := { frames := 0, cells := 0, slots := 0, locals := 0 }
set_option maxHeartbeats 4000000 in
set_option maxRecDepth 100000 in
theorem c_X0_levelOf (l : Launch) (D : va_G) (cI : ClassId) (h : Nat) (ad : Nat → Nat) (hei wat dam wea dra peo rai : Nat → Int32) (hou bro drd lef : Int32) (cre gai see fou : Nat → Int32) (k : Nat) (hk : k < 64) : ct_i (S := Unit) l D yX0_levelOf wsX0_levelOf rm_X0_levelOf [.ref h, .int (nI k)] (pW h ad cI hei wat dam wea dra peo rai hou bro drd lef cre gai see fou) [(cI, .int)] (fun r _ => r = hei k + wat k) (fun _ => (pW h ad cI hei wat dam wea dra peo rai hou bro drd lef cre gai see fou)) := by
  refine ct_ofi (cc := cX0_levelOf) (maxL := 2) (by decide) rfl (Nat.le_of_ble_eq_true rfl) ?_
  intro p e s m args below meth c A Q hx hb hml hown hts hin hA hK H locs hP hD hS fin ls hl
  have hown : s.vm.findClass RX0 = some m.cls := hown
  have hl : lv_has ls 2 [(0, .ref h), (1, .int (nI k))] := hl
  refine lv_aload_n hx hb dX0_levelOf_0 rfl (lv_at hl 0 rfl) ?_
  refine va_get (D := D) (ci := 0) (v := .ref (ad 0)) (C := RX0) (T := TX0) (N := 15) hx hb hts (fun _ h9 => (List.mem_cons_of_mem _ (List.mem_append_right _ h9))) hown hK hP 0 rfl rfl 0 (by decide) (hts (Cond.fieldLink RX0 9 "FloodGrid$Plain" "height" "[I") (List.mem_of_getElem? (i := 1) rfl)) (fun _ h9 => h9) rfl dX0_levelOf_1 ?_
  refine lv_iload_n hx hb dX0_levelOf_4 rfl (lv_at hl 1 rfl) ?_
  refine ct_iald (v := hei k) hx hb hK hP 1 0 rfl rfl k rfl (by omega) (by decide) rfl dX0_levelOf_5 ?_
  refine lv_aload_n hx hb dX0_levelOf_6 rfl (lv_at hl 0 rfl) ?_
  refine va_get (D := D) (ci := 0) (v := .ref (ad 1)) (C := RX0) (T := TX0) (N := 15) hx hb hts (fun _ h9 => (List.mem_cons_of_mem _ (List.mem_append_right _ h9))) hown hK hP 0 rfl rfl 1 (by decide) (hts (Cond.fieldLink RX0 15 "FloodGrid$Plain" "water" "[I") (List.mem_of_getElem? (i := 2) rfl)) (fun _ h9 => h9) rfl dX0_levelOf_7 ?_
  refine lv_iload_n hx hb dX0_levelOf_10 rfl (lv_at hl 1 rfl) ?_
  refine ct_iald (v := wat k) hx hb hK hP 2 0 rfl rfl k rfl (by omega) (by decide) rfl dX0_levelOf_11 ?_
  refine lv_iadd hx hb dX0_levelOf_12 ?_
  exact fin ((hei k) + (wat k)) () H locs 0 0 13 ls dX0_levelOf_13 rfl hP hD hS (Nat.le_of_ble_eq_true rfl) (Nat.le_of_ble_eq_true rfl)
abbrev rm_X0_crestOf : Room := { frames := 1, cells := 0, slots := 0, locals := 21 }
set_option maxHeartbeats 4000000 in
set_option maxRecDepth 100000 in
theorem c_X0_crestOf (l : Launch) (D : va_G) (cI : ClassId) (h : Nat) (ad : Nat → Nat) (hei wat dam wea dra peo rai : Nat → Int32) (hou bro drd lef : Int32) (cre gai see fou : Nat → Int32) (k : Nat) (hk : k < 64) : ct_i (S := Unit) l D yX0_crestOf wsX0_crestOf rm_X0_crestOf [.ref h, .int (nI k)] (pW h ad cI hei wat dam wea dra peo rai hou bro drd lef cre gai see fou) [(cI, .int)] (fun r _ => r = q_cre hei dam wat k) (fun _ => (pW h ad cI hei wat dam wea dra peo rai hou bro drd lef cre gai see fou)) := by
  refine ct_ofi (cc := cX0_crestOf) (maxL := 2) (by decide) rfl (Nat.le_of_ble_eq_true rfl) ?_
  intro p e s m args below meth c A Q hx hb hml hown hts hin hA hK H locs hP hD hS fin ls hl
  have hown : s.vm.findClass RX0 = some m.cls := hown
  have hl : lv_has ls 2 [(0, .ref h), (1, .int (nI k))] := hl
  refine lv_aload_n hx hb dX0_crestOf_0 rfl (lv_at hl 0 rfl) ?_
  refine va_get (D := D) (ci := 0) (v := .ref (ad 0)) (C := RX0) (T := TX0) (N := 15) hx hb hts (fun _ h9 => (List.mem_cons_of_mem _ (List.mem_append_right _ h9))) hown hK hP 0 rfl rfl 0 (by decide) (hts (Cond.fieldLink RX0 9 "FloodGrid$Plain" "height" "[I") (List.mem_of_getElem? (i := 1) rfl)) (fun _ h9 => h9) rfl dX0_crestOf_1 ?_
  refine lv_iload_n hx hb dX0_crestOf_4 rfl (lv_at hl 1 rfl) ?_
  refine ct_iald (v := hei k) hx hb hK hP 1 0 rfl rfl k rfl (by omega) (by decide) rfl dX0_crestOf_5 ?_
  refine lv_aload_n hx hb dX0_crestOf_6 rfl (lv_at hl 0 rfl) ?_
  refine va_get (D := D) (ci := 0) (v := .ref (ad 2)) (C := RX0) (T := TX0) (N := 15) hx hb hts (fun _ h9 => (List.mem_cons_of_mem _ (List.mem_append_right _ h9))) hown hK hP 0 rfl rfl 2 (by decide) (hts (Cond.fieldLink RX0 18 "FloodGrid$Plain" "dam" "[I") (List.mem_of_getElem? (i := 2) rfl)) (fun _ h9 => h9) rfl dX0_crestOf_7 ?_
  refine lv_iload_n hx hb dX0_crestOf_10 rfl (lv_at hl 1 rfl) ?_
  refine ct_iald (v := dam k) hx hb hK hP 3 0 rfl rfl k rfl (by omega) (by decide) rfl dX0_crestOf_11 ?_
  refine lv_aload_n hx hb dX0_crestOf_12 rfl (lv_at hl 0 rfl) ?_
  refine va_get (D := D) (ci := 0) (v := .ref (ad 1)) (C := RX0) (T := TX0) (N := 15) hx hb hts (fun _ h9 => (List.mem_cons_of_mem _ (List.mem_append_right _ h9))) hown hK hP 0 rfl rfl 1 (by decide) (hts (Cond.fieldLink RX0 15 "FloodGrid$Plain" "water" "[I") (List.mem_of_getElem? (i := 3) rfl)) (fun _ h9 => h9) rfl dX0_crestOf_13 ?_
  refine lv_iload_n hx hb dX0_crestOf_16 rfl (lv_at hl 1 rfl) ?_
  refine ct_iald (v := wat k) hx hb hK hP 2 0 rfl rfl k rfl (by omega) (by decide) rfl dX0_crestOf_17 ?_
  refine ct_mmax (v := (i_max (dam k) (wat k))) hx hb (hml.trans hl.1.symm) hown (hts (Cond.methodLink RX0 114 Lib.Math.max.name) (List.mem_of_getElem? (i := 4) rfl)) (hts (Cond.static Lib.Math.max.name) (List.mem_of_getElem? (i := 5) rfl)) (hts (Cond.initialized "java/lang/Math") (List.mem_of_getElem? (i := 6) rfl)) (hts (Cond.code Lib.Math.max.name Lib.Math.max.code 2 (some .int)) (List.mem_of_getElem? (i := 7) rfl)) (Nat.le_of_ble_eq_true rfl) (Nat.le_of_ble_eq_true rfl) (Nat.le_of_ble_eq_true rfl) (Nat.le_of_ble_eq_true rfl) rfl dX0_crestOf_18 ?_
  refine lv_iadd hx hb dX0_crestOf_21 ?_
  exact fin ((hei k) + (i_max (dam k) (wat k))) () H locs 0 0 22 ls dX0_crestOf_22 rfl hP hD hS (Nat.le_of_ble_eq_true rfl) (Nat.le_of_ble_eq_true rfl)
abbrev rm_X0_lowestNeighbour : Room := { frames := 1, cells := 0, slots := 0, locals := 23 }
set_option maxHeartbeats 4000000 in
set_option maxRecDepth 100000 in
theorem c_X0_lowest (l : Launch) (D : va_G) (cI : ClassId) (h : Nat) (ad : Nat → Nat) (hei wat dam wea dra peo rai : Nat → Int32) (hou bro drd lef : Int32) (cre gai see fou : Nat → Int32) (k : Nat) (hk : k < 64) : ct_i (S := Unit) l D yX0_lowestNeighbour wsX0_lowestNeighbour rm_X0_lowestNeighbour [.ref h, .int (nI k)] (pW h ad cI hei wat dam wea dra peo rai hou bro drd lef cre gai see fou) [(cI, .int)] (fun r _ => r = q_v (q_low cre k 4)) (fun _ => (pW h ad cI hei wat dam wea dra peo rai hou bro drd lef cre gai see fou)) := by
  refine ct_ofi (cc := cX0_lowestNeighbour) (maxL := 5) (by decide) rfl (Nat.le_of_ble_eq_true rfl) ?_
  intro p e s m args below meth c A Q hx hb hml hown hts hin hA hK H locs hP hD hS fin ls hl
  have hown : s.vm.findClass RX0 = some m.cls := hown
  have hl : lv_has ls 5 [(0, .ref h), (1, .int (nI k))] := hl
  refine lv_iconst (v := (-1)) hx hb dX0_lowestNeighbour_0 (by decide) ?_
  refine lv_istore_n (lv' := [(2, .int (-1)), (0, .ref h), (1, .int (nI k))]) hx hb dX0_lowestNeighbour_1 rfl hl (by decide) rfl (fun ls hl => ?_)
  refine lv_iconst (v := 0) hx hb dX0_lowestNeighbour_2 (by decide) ?_
  refine lv_istore_n (lv' := [(3, .int 0), (2, .int (-1)), (0, .ref h), (1, .int (nI k))]) hx hb dX0_lowestNeighbour_3 rfl hl (by decide) rfl (fun ls hl => ?_)
  have loop : ∀ (fu i : Nat), i + fu = 4 → ∀ (low : Option Nat) (H : Heap) (locs : List Loc) (ls : Array Slot), (low = q_low cre k i) → va_P D vwCl (pW h ad cI hei wat dam wea dra peo rai hou bro drd lef cre gai see fou) H → va_D A (pW h ad cI hei wat dam wea dra peo rai hou bro drd lef cre gai see fou) → va_S A s.heap H locs → lv_has ls 5 [(0, .ref h), (1, .int (nI k)), (2, .int (q_v low)), (3, .int (nI i))] → W p l e rm_X0_lowestNeighbour s m args below meth c H locs 0 0 Q (F0 m 4 ls []) := by
    intro fu
    induction fu with
    | zero =>
      intro i hi low H locs ls hlow hP hD hS hl
      obtain rfl : 4 = i := by omega
      refine lv_iload_n hx hb dX0_lowestNeighbour_4 rfl (lv_at hl 3 rfl) ?_
      refine lv_iconst (v := 4) hx hb dX0_lowestNeighbour_5 (by decide) ?_
      refine lv_icmp_ge (tgt := 50) hx hb dX0_lowestNeighbour_6 (by decide) (fun hc => ?_) (fun hc => ?_)
      · skip
        refine lv_iload_n hx hb dX0_lowestNeighbour_50 rfl (lv_at hl 2 rfl) ?_
        exact fin (q_v low) () H locs 0 0 51 ls dX0_lowestNeighbour_51 (by rw [hlow]) hP hD hS (Nat.le_of_ble_eq_true rfl) (Nat.le_of_ble_eq_true rfl)
      · skip
        exact absurd (show (4 : Int32) ≤ nI 4 by decide) hc
    | succ fu ih =>
      intro i hi low H locs ls hlow hP hD hS hl
      have hlt : i < 4 := by omega
      refine lv_iload_n hx hb dX0_lowestNeighbour_4 rfl (lv_at hl 3 rfl) ?_
      refine lv_iconst (v := 4) hx hb dX0_lowestNeighbour_5 (by decide) ?_
      refine lv_icmp_ge (tgt := 50) hx hb dX0_lowestNeighbour_6 (by decide) (fun hc => ?_) (fun hc => ?_)
      · skip
        exact absurd hc (nI_ge (b := 4) hlt (by decide))
      · skip
        refine lv_iload_n hx hb dX0_lowestNeighbour_9 rfl (lv_at hl 1 rfl) ?_
        refine lv_iload_n hx hb dX0_lowestNeighbour_10 rfl (lv_at hl 3 rfl) ?_
        refine ct_Si (As := [.int (nI k), .int (nI i)]) (rest := []) (wr := [(h, .inr (0, [.ref (ad 0), .ref (ad 1), .ref (ad 2), .ref (ad 3), .ref (ad 4), .ref (ad 5), .ref (ad 6), .int hou, .int bro, .int drd, .int lef, .ref (ad 11), .ref (ad 12), .ref (ad 13), .ref (ad 14)])), ((ad 0), .inl (cI, 64, .inl hei)), ((ad 1), .inl (cI, 64, .inl wat)), ((ad 2), .inl (cI, 64, .inl dam)), ((ad 3), .inl (cI, 64, .inl wea)), ((ad 4), .inl (cI, 64, .inl dra)), ((ad 5), .inl (cI, 64, .inl peo)), ((ad 6), .inl (cI, 12, .inl rai)), ((ad 11), .inl (cI, 64, .inl cre)), ((ad 12), .inl (cI, 64, .inl gai)), ((ad 13), .inl (cI, 64, .inl see)), ((ad 14), .inl (cI, 64, .inl fou))]) (W1 := fun u => (pW h ad cI hei wat dam wea dra peo rai hou bro drd lef cre gai see fou)) (cells1 := 0) (slots1 := 0) ⟨hx, hb, hml, hown, hts⟩ (c_nb l D cI k i hk hlt) (va_cwS 2 hts gX0_lowestNeighbour_X0_neighbourOf rfl rfl rfl (by decide +kernel) ⟨Nat.le_of_ble_eq_true rfl, Nat.le_of_ble_eq_true rfl⟩) hK hP hD hS hA [] [0, 1, 2, 3, 4, 5, 6, 7, 8, 9, 10, 11] ⟨rfl, rfl, rfl, rfl, rfl⟩ [0, 1, 2, 3, 4, 5, 6, 7, 8, 9, 10, 11] rfl (fun _ => rfl) [0] rfl rfl hl.1 rfl (Nat.le_of_ble_eq_true rfl) rfl rfl ⟨Nat.le_of_ble_eq_true rfl, Nat.le_of_ble_eq_true rfl⟩ dX0_lowestNeighbour_11 (fun r u H locs hw hP hD hS => ?_)
        subst hw
        refine lv_istore (lv' := [(4, .int (q_v (q_nb k i))), (0, .ref h), (1, .int (nI k)), (2, .int (q_v low)), (3, .int (nI i))]) hx hb dX0_lowestNeighbour_14 hl (by decide) rfl (fun ls hl => ?_)
        refine lv_iload hx hb dX0_lowestNeighbour_16 (lv_at hl 0 rfl) ?_
        cases ho : q_nb k i with
        | none =>
          rw [ho] at hl
          have hl : lv_has ls 5 [(4, .int (-1)), (0, .ref h), (1, .int (nI k)), (2, .int (q_v low)), (3, .int (nI i))] := hl
          show W p l e rm_X0_lowestNeighbour s m args below meth c H locs 0 0 Q (F0 m 18 ls [.int (-1)])
          refine lv_if_lt (tgt := 44) hx hb dX0_lowestNeighbour_18 (by decide) (fun hc2 => ?_) (fun hc2 => ?_)
          · skip
            refine lv_iinc (v := (nI (i + 1))) (lv' := [(3, .int (nI (i + 1))), (4, .int (-1)), (0, .ref h), (1, .int (nI k)), (2, .int (q_v low))]) hx hb dX0_lowestNeighbour_44 hl (k := 4) rfl (nI_1 i) (by decide) rfl (fun ls hl => ?_)
            refine lv_goto (tgt := 4) hx hb dX0_lowestNeighbour_47 (by decide) ?_
            exact ih (i + 1) (by omega) low H locs ls (by rw [hlow]; simp only [q_low, ho, q_lowStep]) hP hD hS (lv_sub hl [2, 3, 4, 0] rfl)
          · skip
            exact absurd (by decide) hc2
        | some j =>
          rw [ho] at hl
          have hj : j < 64 := q_nb_lt hk ho
          have hl : lv_has ls 5 [(4, .int (nI j)), (0, .ref h), (1, .int (nI k)), (2, .int (q_v low)), (3, .int (nI i))] := hl
          show W p l e rm_X0_lowestNeighbour s m args below meth c H locs 0 0 Q (F0 m 18 ls [.int (nI j)])
          refine lv_if_lt (tgt := 44) hx hb dX0_lowestNeighbour_18 (by decide) (fun hc2 => ?_) (fun hc2 => ?_)
          · skip
            exact absurd hc2 (nI_pos (by omega))
          · skip
            refine lv_iload_n hx hb dX0_lowestNeighbour_21 rfl (lv_at hl 3 rfl) ?_
            cases hb2 : low with
            | none =>
              rw [hb2] at hl
              have hl : lv_has ls 5 [(4, .int (nI j)), (0, .ref h), (1, .int (nI k)), (2, .int (-1)), (3, .int (nI i))] := hl
              show W p l e rm_X0_lowestNeighbour s m args below meth c H locs 0 0 Q (F0 m 22 ls [.int (-1)])
              refine lv_if_lt (tgt := 41) hx hb dX0_lowestNeighbour_22 (by decide) (fun hc3 => ?_) (fun hc3 => ?_)
              · skip
                refine lv_iload hx hb dX0_lowestNeighbour_41 (lv_at hl 0 rfl) ?_
                refine lv_istore_n (lv' := [(2, .int (nI j)), (4, .int (nI j)), (0, .ref h), (1, .int (nI k)), (3, .int (nI i))]) hx hb dX0_lowestNeighbour_43 rfl hl (by decide) rfl (fun ls hl => ?_)
                refine lv_iinc (v := (nI (i + 1))) (lv' := [(3, .int (nI (i + 1))), (2, .int (nI j)), (4, .int (nI j)), (0, .ref h), (1, .int (nI k))]) hx hb dX0_lowestNeighbour_44 hl (k := 4) rfl (nI_1 i) (by decide) rfl (fun ls hl => ?_)
                refine lv_goto (tgt := 4) hx hb dX0_lowestNeighbour_47 (by decide) ?_
                exact ih (i + 1) (by omega) (some j) H locs ls (by rw [hb2] at hlow; simp only [q_low, ho, ← hlow, q_lowStep]) hP hD hS (lv_sub hl [3, 4, 1, 0] rfl)
              · skip
                exact absurd (by decide) hc3
            | some b =>
              rw [hb2] at hl hlow
              have hb64 : b < 64 := q_low_lt hk hlow.symm
              have hl : lv_has ls 5 [(4, .int (nI j)), (0, .ref h), (1, .int (nI k)), (2, .int (nI b)), (3, .int (nI i))] := hl
              show W p l e rm_X0_lowestNeighbour s m args below meth c H locs 0 0 Q (F0 m 22 ls [.int (nI b)])
              refine lv_if_lt (tgt := 41) hx hb dX0_lowestNeighbour_22 (by decide) (fun hc3 => ?_) (fun hc3 => ?_)
              · skip
                exact absurd hc3 (nI_pos (by omega))
              · skip
                refine lv_aload_n hx hb dX0_lowestNeighbour_25 rfl (lv_at hl 1 rfl) ?_
                refine va_get (D := D) (ci := 0) (v := .ref (ad 11)) (C := RX0) (T := TX0) (N := 15) hx hb hts (fun _ h9 => (List.mem_cons_of_mem _ (List.mem_append_right _ h9))) hown hK hP 0 rfl rfl 11 (by decide) (hts (Cond.fieldLink RX0 33 "FloodGrid$Plain" "crests" "[I") (List.mem_of_getElem? (i := 1) rfl)) (fun _ h9 => h9) rfl dX0_lowestNeighbour_26 ?_
                refine lv_iload hx hb dX0_lowestNeighbour_29 (lv_at hl 0 rfl) ?_
                refine ct_iald (v := cre j) hx hb hK hP 8 0 rfl rfl j rfl (by omega) (by decide) rfl dX0_lowestNeighbour_31 ?_
                refine lv_aload_n hx hb dX0_lowestNeighbour_32 rfl (lv_at hl 1 rfl) ?_
                refine va_get (D := D) (ci := 0) (v := .ref (ad 11)) (C := RX0) (T := TX0) (N := 15) hx hb hts (fun _ h9 => (List.mem_cons_of_mem _ (List.mem_append_right _ h9))) hown hK hP 0 rfl rfl 11 (by decide) (hts (Cond.fieldLink RX0 33 "FloodGrid$Plain" "crests" "[I") (List.mem_of_getElem? (i := 1) rfl)) (fun _ h9 => h9) rfl dX0_lowestNeighbour_33 ?_
                refine lv_iload_n hx hb dX0_lowestNeighbour_36 rfl (lv_at hl 3 rfl) ?_
                refine ct_iald (v := cre b) hx hb hK hP 8 0 rfl rfl b rfl (by omega) (by decide) rfl dX0_lowestNeighbour_37 ?_
                refine lv_icmp_ge (tgt := 44) hx hb dX0_lowestNeighbour_38 (by decide) (fun hc4 => ?_) (fun hc4 => ?_)
                · skip
                  refine lv_iinc (v := (nI (i + 1))) (lv' := [(3, .int (nI (i + 1))), (4, .int (nI j)), (0, .ref h), (1, .int (nI k)), (2, .int (nI b))]) hx hb dX0_lowestNeighbour_44 hl (k := 4) rfl (nI_1 i) (by decide) rfl (fun ls hl => ?_)
                  refine lv_goto (tgt := 4) hx hb dX0_lowestNeighbour_47 (by decide) ?_
                  exact ih (i + 1) (by omega) (some b) H locs ls (by simp only [q_low, ho, ← hlow, q_lowStep]; rw [if_neg (Int32.not_lt.mpr hc4)]) hP hD hS (lv_sub hl [2, 3, 4, 0] rfl)
                · skip
                  refine lv_iload hx hb dX0_lowestNeighbour_41 (lv_at hl 0 rfl) ?_
                  refine lv_istore_n (lv' := [(2, .int (nI j)), (4, .int (nI j)), (0, .ref h), (1, .int (nI k)), (3, .int (nI i))]) hx hb dX0_lowestNeighbour_43 rfl hl (by decide) rfl (fun ls hl => ?_)
                  refine lv_iinc (v := (nI (i + 1))) (lv' := [(3, .int (nI (i + 1))), (2, .int (nI j)), (4, .int (nI j)), (0, .ref h), (1, .int (nI k))]) hx hb dX0_lowestNeighbour_44 hl (k := 4) rfl (nI_1 i) (by decide) rfl (fun ls hl => ?_)
                  refine lv_goto (tgt := 4) hx hb dX0_lowestNeighbour_47 (by decide) ?_
                  exact ih (i + 1) (by omega) (some j) H locs ls (by simp only [q_low, ho, ← hlow, q_lowStep]; rw [if_pos (Int32.not_le.mp hc4)]) hP hD hS (lv_sub hl [3, 4, 1, 0] rfl)
  exact loop 4 0 (by omega) none H locs ls rfl hP hD hS (lv_sub hl [2, 3, 1, 0] rfl)
abbrev rm_X0_give : Room := { frames := 1, cells := 0, slots := 0, locals := 21 }
set_option maxHeartbeats 4000000 in
set_option maxRecDepth 100000 in
theorem c_X0_give (l : Launch) (D : va_G) (cI : ClassId) (h : Nat) (ad : Nat → Nat) (hei wat dam wea dra peo rai : Nat → Int32) (hou bro drd lef : Int32) (cre gai see fou : Nat → Int32) (k : Nat) (hk : k < 64) (o : Option Nat) (ho : ∀ j, o = some j → j < 64) : ct_v (S := Unit) l D yX0_give wsX0_give rm_X0_give [.ref h, .int (nI k), .int (q_v o)] (pW h ad cI hei wat dam wea dra peo rai hou bro drd lef cre gai see fou) [(cI, .int)] (fun _ => True) (fun _ => (pW h ad cI hei wat dam wea dra peo rai hou bro drd lef cre (q_give hei wat dam cre k o gai) see fou)) := by
  refine ct_ofv (cc := cX0_give) (maxL := 5) (by decide) rfl (Nat.le_of_ble_eq_true rfl) ?_
  intro p e s m args below meth c A Q hx hb hml hown hts hin hA hK H locs hP hD hS fin ls hl
  have hown : s.vm.findClass RX0 = some m.cls := hown
  have hl : lv_has ls 5 [(0, .ref h), (1, .int (nI k)), (2, .int (q_v o))] := hl
  cases o with
  | none =>
    have hl : lv_has ls 5 [(0, .ref h), (1, .int (nI k)), (2, .int (-1))] := hl
    refine lv_iload_n hx hb dX0_give_0 rfl (lv_at hl 2 rfl) ?_
    refine lv_if_ge (tgt := 5) hx hb dX0_give_1 (by decide) (fun hc => ?_) (fun hc => ?_)
    · skip
      exact absurd hc (by decide)
    · skip
      exact fin () H locs 0 0 4 ls dX0_give_4 trivial hP hD hS (Nat.le_of_ble_eq_true rfl) (Nat.le_of_ble_eq_true rfl)
  | some j =>
    have hj : j < 64 := ho j rfl
    have hl : lv_has ls 5 [(0, .ref h), (1, .int (nI k)), (2, .int (nI j))] := hl
    refine lv_iload_n hx hb dX0_give_0 rfl (lv_at hl 2 rfl) ?_
    refine lv_if_ge (tgt := 5) hx hb dX0_give_1 (by decide) (fun hc => ?_) (fun hc => ?_)
    · skip
      refine lv_aload_n hx hb dX0_give_5 rfl (lv_at hl 0 rfl) ?_
      refine lv_iload_n hx hb dX0_give_6 rfl (lv_at hl 1 rfl) ?_
      refine ct_Vi (As := [.int (nI k)]) (rest := []) (wr := []) (W1 := fun u => (pW h ad cI hei wat dam wea dra peo rai hou bro drd lef cre gai see fou)) (cells1 := 0) (slots1 := 0) ⟨hx, hb, hml, hown, hts⟩ (c_X0_levelOf l D cI h ad hei wat dam wea dra peo rai hou bro drd lef cre gai see fou k hk) (cwV 1 hts gX0_give_X0_levelOf rfl rfl rfl (by decide +kernel) ⟨Nat.le_of_ble_eq_true rfl, Nat.le_of_ble_eq_true rfl⟩) hK hP hD hS hA [0, 1, 2, 3, 4, 5, 6, 7, 8, 9, 10, 11] [] ⟨rfl, rfl, rfl, rfl, rfl⟩ [0, 1, 2, 3, 4, 5, 6, 7, 8, 9, 10, 11] rfl (fun _ => rfl) [0] rfl (va_recv hK hP (ci := 0) (q0 := 0) rfl rfl) rfl hl.1 rfl (Nat.le_of_ble_eq_true rfl) rfl rfl ⟨Nat.le_of_ble_eq_true rfl, Nat.le_of_ble_eq_true rfl⟩ dX0_give_7 (fun r u H locs hw hP hD hS => ?_)
      subst hw
      refine lv_aload_n hx hb dX0_give_10 rfl (lv_at hl 0 rfl) ?_
      refine va_get (D := D) (ci := 0) (v := .ref (ad 11)) (C := RX0) (T := TX0) (N := 15) hx hb hts (fun _ h9 => (List.mem_cons_of_mem _ (List.mem_append_right _ h9))) hown hK hP 0 rfl rfl 11 (by decide) (hts (Cond.fieldLink RX0 33 "FloodGrid$Plain" "crests" "[I") (List.mem_of_getElem? (i := 1) rfl)) (fun _ h9 => h9) rfl dX0_give_11 ?_
      refine lv_iload_n hx hb dX0_give_14 rfl (lv_at hl 2 rfl) ?_
      refine ct_iald (v := cre j) hx hb hK hP 8 0 rfl rfl j rfl (by omega) (by decide) rfl dX0_give_15 ?_
      refine lv_isub hx hb dX0_give_16 ?_
      refine lv_istore_n (lv' := [(3, .int ((hei k + wat k) - (cre j))), (0, .ref h), (1, .int (nI k)), (2, .int (nI j))]) hx hb dX0_give_17 rfl hl (by decide) rfl (fun ls hl => ?_)
      refine lv_iload_n hx hb dX0_give_18 rfl (lv_at hl 0 rfl) ?_
      refine lv_if_le (tgt := 65) hx hb dX0_give_19 (by decide) (fun hc2 => ?_) (fun hc2 => ?_)
      · skip
        have e9 : q_give hei wat dam cre k (some j) gai = gai := by simp only [q_give]; rw [if_neg (Int32.not_lt.mpr hc2)]
        rw [e9] at fin
        exact fin () H locs 0 0 65 ls dX0_give_65 trivial hP hD hS (Nat.le_of_ble_eq_true rfl) (Nat.le_of_ble_eq_true rfl)
      · skip
        refine lv_iload_n hx hb dX0_give_22 rfl (lv_at hl 0 rfl) ?_
        refine lv_iconst (v := 2) hx hb dX0_give_23 (by decide) ?_
        refine lv_idiv hx hb dX0_give_24 (by decide) ?_
        refine lv_aload_n hx hb dX0_give_25 rfl (lv_at hl 1 rfl) ?_
        refine va_get (D := D) (ci := 0) (v := .ref (ad 1)) (C := RX0) (T := TX0) (N := 15) hx hb hts (fun _ h9 => (List.mem_cons_of_mem _ (List.mem_append_right _ h9))) hown hK hP 0 rfl rfl 1 (by decide) (hts (Cond.fieldLink RX0 15 "FloodGrid$Plain" "water" "[I") (List.mem_of_getElem? (i := 2) rfl)) (fun _ h9 => h9) rfl dX0_give_26 ?_
        refine lv_iload_n hx hb dX0_give_29 rfl (lv_at hl 2 rfl) ?_
        refine ct_iald (v := wat k) hx hb hK hP 2 0 rfl rfl k rfl (by omega) (by decide) rfl dX0_give_30 ?_
        refine lv_aload_n hx hb dX0_give_31 rfl (lv_at hl 1 rfl) ?_
        refine va_get (D := D) (ci := 0) (v := .ref (ad 2)) (C := RX0) (T := TX0) (N := 15) hx hb hts (fun _ h9 => (List.mem_cons_of_mem _ (List.mem_append_right _ h9))) hown hK hP 0 rfl rfl 2 (by decide) (hts (Cond.fieldLink RX0 18 "FloodGrid$Plain" "dam" "[I") (List.mem_of_getElem? (i := 3) rfl)) (fun _ h9 => h9) rfl dX0_give_32 ?_
        refine lv_iload_n hx hb dX0_give_35 rfl (lv_at hl 2 rfl) ?_
        refine ct_iald (v := dam k) hx hb hK hP 3 0 rfl rfl k rfl (by omega) (by decide) rfl dX0_give_36 ?_
        refine lv_isub hx hb dX0_give_37 ?_
        refine ct_mmin (v := (q_given hei wat dam cre k j)) hx hb (hml.trans hl.1.symm) hown (hts (Cond.methodLink RX0 108 Lib.Math.min.name) (List.mem_of_getElem? (i := 4) rfl)) (hts (Cond.static Lib.Math.min.name) (List.mem_of_getElem? (i := 5) rfl)) (hts (Cond.initialized "java/lang/Math") (List.mem_of_getElem? (i := 6) rfl)) (hts (Cond.code Lib.Math.min.name Lib.Math.min.code 2 (some .int)) (List.mem_of_getElem? (i := 7) rfl)) (Nat.le_of_ble_eq_true rfl) (Nat.le_of_ble_eq_true rfl) (Nat.le_of_ble_eq_true rfl) (Nat.le_of_ble_eq_true rfl) rfl dX0_give_38 ?_
        have e9 : q_give hei wat dam cre k (some j) gai = q_move gai k j (q_given hei wat dam cre k j) := by simp only [q_give]; rw [if_pos (Int32.not_le.mp hc2)]
        rw [e9] at fin
        refine lv_istore (lv' := [(4, .int (q_given hei wat dam cre k j)), (3, .int ((hei k + wat k) - (cre j))), (0, .ref h), (1, .int (nI k)), (2, .int (nI j))]) hx hb dX0_give_41 hl (by decide) rfl (fun ls hl => ?_)
        refine lv_aload_n hx hb dX0_give_43 rfl (lv_at hl 2 rfl) ?_
        refine va_get (D := D) (ci := 0) (v := .ref (ad 12)) (C := RX0) (T := TX0) (N := 15) hx hb hts (fun _ h9 => (List.mem_cons_of_mem _ (List.mem_append_right _ h9))) hown hK hP 0 rfl rfl 12 (by decide) (hts (Cond.fieldLink RX0 36 "FloodGrid$Plain" "gained" "[I") (List.mem_of_getElem? (i := 8) rfl)) (fun _ h9 => h9) rfl dX0_give_44 ?_
        refine lv_iload_n hx hb dX0_give_47 rfl (lv_at hl 3 rfl) ?_
        refine lv_dup2_11 hx hb dX0_give_48 rfl rfl ?_
        refine ct_iald (v := gai k) hx hb hK hP 9 0 rfl rfl k rfl (by omega) (by decide) rfl dX0_give_49 ?_
        refine lv_iload hx hb dX0_give_50 (lv_at hl 0 rfl) ?_
        refine lv_isub hx hb dX0_give_52 ?_
        refine ct_iast (g := upd gai k ((gai k) - (q_given hei wat dam cre k j))) (ws1 := (pW h ad cI hei wat dam wea dra peo rai hou bro drd lef cre (upd gai k ((gai k) - (q_given hei wat dam cre k j))) see fou)) hx hb hK hP hD hS 9 0 rfl rfl k rfl (by omega) (by decide) rfl rfl dX0_give_53 (fun H locs hP hD hS => ?_)
        refine lv_aload_n hx hb dX0_give_54 rfl (lv_at hl 2 rfl) ?_
        refine va_get (D := D) (ci := 0) (v := .ref (ad 12)) (C := RX0) (T := TX0) (N := 15) hx hb hts (fun _ h9 => (List.mem_cons_of_mem _ (List.mem_append_right _ h9))) hown hK hP 0 rfl rfl 12 (by decide) (hts (Cond.fieldLink RX0 36 "FloodGrid$Plain" "gained" "[I") (List.mem_of_getElem? (i := 8) rfl)) (fun _ h9 => h9) rfl dX0_give_55 ?_
        refine lv_iload_n hx hb dX0_give_58 rfl (lv_at hl 4 rfl) ?_
        refine lv_dup2_11 hx hb dX0_give_59 rfl rfl ?_
        refine ct_iald (v := (upd gai k ((gai k) - (q_given hei wat dam cre k j))) j) hx hb hK hP 9 0 rfl rfl j rfl (by omega) (by decide) rfl dX0_give_60 ?_
        refine lv_iload hx hb dX0_give_61 (lv_at hl 0 rfl) ?_
        refine lv_iadd hx hb dX0_give_63 ?_
        refine ct_iast (g := upd (upd gai k ((gai k) - (q_given hei wat dam cre k j))) j (((upd gai k ((gai k) - (q_given hei wat dam cre k j))) j) + (q_given hei wat dam cre k j))) (ws1 := (pW h ad cI hei wat dam wea dra peo rai hou bro drd lef cre (upd (upd gai k ((gai k) - (q_given hei wat dam cre k j))) j (((upd gai k ((gai k) - (q_given hei wat dam cre k j))) j) + (q_given hei wat dam cre k j))) see fou)) hx hb hK hP hD hS 9 0 rfl rfl j rfl (by omega) (by decide) rfl rfl dX0_give_64 (fun H locs hP hD hS => ?_)
        exact fin () H locs 0 0 65 ls dX0_give_65 trivial hP hD hS (Nat.le_of_ble_eq_true rfl) (Nat.le_of_ble_eq_true rfl)
    · skip
      exact absurd (nI_pos' (by omega)) hc
