abbrev rm_X0_meet : Room := { frames := 0, cells := 0, slots := 0, locals := 0 }
set_option maxHeartbeats 4000000 in
set_option maxRecDepth 100000 in
theorem c_X0_meet (l : Launch) (D : va_G) (cI : ClassId) (h : Nat) (ad : Nat → Nat) (hei wat dam wea dra peo rai : Nat → Int32) (hou bro drd lef : Int32) (cre gai fou : Nat → Int32) (o : Option Nat) (ho : ∀ j, o = some j → j < 64) (z : Ls) (hz : q_ok z) (hrow : q_row z.2 fou) : ct_i (S := Nat → Int32) l D yX0_meet wsX0_meet rm_X0_meet [.ref h, .int (q_v o), .int (nI z.2.length)] (pW h ad cI hei wat dam wea dra peo rai hou bro drd lef cre gai (q_bits z.1) fou) [(cI, .int)] (fun r u => r = nI (q_meet wat o z).2.length ∧ q_row (q_meet wat o z).2 u) (fun u => (pW h ad cI hei wat dam wea dra peo rai hou bro drd lef cre gai (q_bits (q_meet wat o z).1) u)) := by
  refine ct_ofi (cc := cX0_meet) (maxL := 3) (by decide) rfl (Nat.le_of_ble_eq_true rfl) ?_
  intro p e s m args below meth c A Q hx hb hml hown hts hin hA hK H locs hP hD hS fin ls hl
  have hown : s.vm.findClass RX0 = some m.cls := hown
  have hl : lv_has ls 3 [(0, .ref h), (1, .int (q_v o)), (2, .int (nI z.2.length))] := hl
  have hlen := q_ok_len hz
  cases o with
  | none =>
    have hl : lv_has ls 3 [(0, .ref h), (1, .int (-1)), (2, .int (nI z.2.length))] := hl
    refine lv_iload_n hx hb dX0_meet_0 rfl (lv_at hl 1 rfl) ?_
    refine lv_if_lt (tgt := 28) hx hb dX0_meet_1 (by decide) (fun hc => ?_) (fun hc => ?_)
    · skip
      refine lv_iload_n hx hb dX0_meet_28 rfl (lv_at hl 2 rfl) ?_
      exact fin (nI z.2.length) fou H locs 0 0 29 ls dX0_meet_29 ⟨rfl, hrow⟩ hP hD hS (Nat.le_of_ble_eq_true rfl) (Nat.le_of_ble_eq_true rfl)
    · skip
      exact absurd (by decide) hc
  | some j =>
    have hj : j < 64 := ho j rfl
    have hl : lv_has ls 3 [(0, .ref h), (1, .int (nI j)), (2, .int (nI z.2.length))] := hl
    refine lv_iload_n hx hb dX0_meet_0 rfl (lv_at hl 1 rfl) ?_
    refine lv_if_lt (tgt := 28) hx hb dX0_meet_1 (by decide) (fun hc => ?_) (fun hc => ?_)
    · skip
      exact absurd hc (nI_pos (by omega))
    · skip
      refine lv_iload_n hx hb dX0_meet_4 rfl (lv_at hl 2 rfl) ?_
      refine lv_bipush (v := 64) hx hb dX0_meet_5 (by decide) ?_
      refine lv_icmp_ge (tgt := 28) hx hb dX0_meet_7 (by decide) (fun hc2 => ?_) (fun hc2 => ?_)
      · skip
        have h64 : 64 ≤ z.2.length := nb_ge (a := 64) hc2 (by decide) (by omega)
        have e9 : q_meet wat (some j) z = z := q_meet_no (fun y => by rw [q_ok_full hz h64 hj] at y; exact absurd y.1 (by decide))
        rw [e9] at fin
        refine lv_iload_n hx hb dX0_meet_28 rfl (lv_at hl 2 rfl) ?_
        exact fin (nI z.2.length) fou H locs 0 0 29 ls dX0_meet_29 ⟨rfl, hrow⟩ hP hD hS (Nat.le_of_ble_eq_true rfl) (Nat.le_of_ble_eq_true rfl)
      · skip
        have h64 : z.2.length < 64 := nb_lt (a := 64) hc2 (by omega)
        refine lv_aload_n hx hb dX0_meet_10 rfl (lv_at hl 0 rfl) ?_
        refine va_get (D := D) (ci := 0) (v := .ref (ad 13)) (C := RX0) (T := TX0) (N := 15) hx hb hts (fun _ h9 => (List.mem_cons_of_mem _ (List.mem_append_right _ h9))) hown hK hP 0 rfl rfl 13 (by decide) (hts (Cond.fieldLink RX0 39 "FloodGrid$Plain" "seen" "[I") (List.mem_of_getElem? (i := 1) rfl)) (fun _ h9 => h9) rfl dX0_meet_11 ?_
        refine lv_iload_n hx hb dX0_meet_14 rfl (lv_at hl 1 rfl) ?_
        refine ct_iald (v := (q_bits z.1) j) hx hb hK hP 10 0 rfl rfl j rfl (by omega) (by decide) rfl dX0_meet_15 ?_
        refine lv_if_ne (tgt := 28) hx hb dX0_meet_16 (by decide) (fun hc3 => ?_) (fun hc3 => ?_)
        · skip
          have e9 : q_meet wat (some j) z = z := q_meet_no (fun y => by rw [q_bits_1 hc3] at y; exact absurd y.1 (by decide))
          rw [e9] at fin
          refine lv_iload_n hx hb dX0_meet_28 rfl (lv_at hl 2 rfl) ?_
          exact fin (nI z.2.length) fou H locs 0 0 29 ls dX0_meet_29 ⟨rfl, hrow⟩ hP hD hS (Nat.le_of_ble_eq_true rfl) (Nat.le_of_ble_eq_true rfl)
        · skip
          refine lv_aload_n hx hb dX0_meet_19 rfl (lv_at hl 0 rfl) ?_
          refine va_get (D := D) (ci := 0) (v := .ref (ad 1)) (C := RX0) (T := TX0) (N := 15) hx hb hts (fun _ h9 => (List.mem_cons_of_mem _ (List.mem_append_right _ h9))) hown hK hP 0 rfl rfl 1 (by decide) (hts (Cond.fieldLink RX0 15 "FloodGrid$Plain" "water" "[I") (List.mem_of_getElem? (i := 2) rfl)) (fun _ h9 => h9) rfl dX0_meet_20 ?_
          refine lv_iload_n hx hb dX0_meet_23 rfl (lv_at hl 1 rfl) ?_
          refine ct_iald (v := wat j) hx hb hK hP 2 0 rfl rfl j rfl (by omega) (by decide) rfl dX0_meet_24 ?_
          refine lv_if_gt (tgt := 30) hx hb dX0_meet_25 (by decide) (fun hc4 => ?_) (fun hc4 => ?_)
          · skip
            have e9 : q_meet wat (some j) z = (q_mark z.1 j, z.2 ++ [j]) := q_meet_yes ⟨q_bits_0 hc3, hc4⟩
            rw [e9] at fin
            refine lv_aload_n hx hb dX0_meet_30 rfl (lv_at hl 0 rfl) ?_
            refine va_get (D := D) (ci := 0) (v := .ref (ad 13)) (C := RX0) (T := TX0) (N := 15) hx hb hts (fun _ h9 => (List.mem_cons_of_mem _ (List.mem_append_right _ h9))) hown hK hP 0 rfl rfl 13 (by decide) (hts (Cond.fieldLink RX0 39 "FloodGrid$Plain" "seen" "[I") (List.mem_of_getElem? (i := 1) rfl)) (fun _ h9 => h9) rfl dX0_meet_31 ?_
            refine lv_iload_n hx hb dX0_meet_34 rfl (lv_at hl 1 rfl) ?_
            refine lv_iconst (v := 1) hx hb dX0_meet_35 (by decide) ?_
            refine ct_iast (g := (q_bits (q_mark z.1 j))) (ws1 := (pW h ad cI hei wat dam wea dra peo rai hou bro drd lef cre gai (q_bits (q_mark z.1 j)) fou)) hx hb hK hP hD hS 10 0 rfl rfl j rfl (by omega) (by decide) (q_bits_mark _ _) rfl dX0_meet_36 (fun H locs hP hD hS => ?_)
            refine lv_aload_n hx hb dX0_meet_37 rfl (lv_at hl 0 rfl) ?_
            refine va_get (D := D) (ci := 0) (v := .ref (ad 14)) (C := RX0) (T := TX0) (N := 15) hx hb hts (fun _ h9 => (List.mem_cons_of_mem _ (List.mem_append_right _ h9))) hown hK hP 0 rfl rfl 14 (by decide) (hts (Cond.fieldLink RX0 42 "FloodGrid$Plain" "found" "[I") (List.mem_of_getElem? (i := 3) rfl)) (fun _ h9 => h9) rfl dX0_meet_38 ?_
            refine lv_iload_n hx hb dX0_meet_41 rfl (lv_at hl 2 rfl) ?_
            refine lv_iload_n hx hb dX0_meet_42 rfl (lv_at hl 1 rfl) ?_
            refine ct_iast (g := upd fou z.2.length (nI j)) (ws1 := (pW h ad cI hei wat dam wea dra peo rai hou bro drd lef cre gai (q_bits (q_mark z.1 j)) (upd fou z.2.length (nI j)))) hx hb hK hP hD hS 11 0 rfl rfl z.2.length rfl (by omega) (by decide) rfl rfl dX0_meet_43 (fun H locs hP hD hS => ?_)
            refine lv_iload_n hx hb dX0_meet_44 rfl (lv_at hl 2 rfl) ?_
            refine lv_iconst (v := 1) hx hb dX0_meet_45 (by decide) ?_
            refine lv_iadd hx hb dX0_meet_46 ?_
            exact fin ((nI z.2.length) + 1) (upd fou z.2.length (nI j)) H locs 0 0 47 ls dX0_meet_47 ⟨(by rw [nI_1, List.length_append]; rfl), q_row_push hrow j⟩ hP hD hS (Nat.le_of_ble_eq_true rfl) (Nat.le_of_ble_eq_true rfl)
          · skip
            have e9 : q_meet wat (some j) z = z := q_meet_no (fun y => hc4 y.2)
            rw [e9] at fin
            refine lv_iload_n hx hb dX0_meet_28 rfl (lv_at hl 2 rfl) ?_
            exact fin (nI z.2.length) fou H locs 0 0 29 ls dX0_meet_29 ⟨rfl, hrow⟩ hP hD hS (Nat.le_of_ble_eq_true rfl) (Nat.le_of_ble_eq_true rfl)
abbrev rm_X0_spreadFrom : Room := { frames := 1, cells := 0, slots := 0, locals := 23 }
set_option maxHeartbeats 4000000 in
set_option maxRecDepth 100000 in
theorem c_X0_spread (l : Launch) (D : va_G) (cI : ClassId) (h : Nat) (ad : Nat → Nat) (hei wat dam wea dra peo rai : Nat → Int32) (hou bro drd lef : Int32) (cre gai fou : Nat → Int32) (sn : Nat → Bool) (k : Nat) (hk : k < 64) : ct_i (S := Nat → Int32) l D yX0_spreadFrom wsX0_spreadFrom rm_X0_spreadFrom [.ref h, .int (nI k)] (pW h ad cI hei wat dam wea dra peo rai hou bro drd lef cre gai (q_bits sn) fou) [(cI, .int)] (fun r (_ : Nat → Int32) => r = nI (q_from wat sn k).2.length) (fun u => (pW h ad cI hei wat dam wea dra peo rai hou bro drd lef cre gai (q_bits (q_from wat sn k).1) u)) := by
  refine ct_ofi (cc := cX0_spreadFrom) (maxL := 5) (by decide) rfl (Nat.le_of_ble_eq_true rfl) ?_
  intro p e s m args below meth c A Q hx hb hml hown hts hin hA hK H locs hP hD hS fin ls hl
  have hown : s.vm.findClass RX0 = some m.cls := hown
  have hl : lv_has ls 5 [(0, .ref h), (1, .int (nI k))] := hl
  refine lv_aload_n hx hb dX0_spreadFrom_0 rfl (lv_at hl 0 rfl) ?_
  refine lv_iload_n hx hb dX0_spreadFrom_1 rfl (lv_at hl 1 rfl) ?_
  refine lv_iconst (v := 0) hx hb dX0_spreadFrom_2 (by decide) ?_
  show W p l e rm_X0_spreadFrom s m args below meth c H locs 0 0 Q (F0 m 3 ls [.int (nI ([] : List Nat).length), .int (q_v (some k)), .ref h])
  refine ct_Vi (As := [.int (q_v (some k)), .int (nI ([] : List Nat).length)]) (rest := []) (wr := []) (W1 := fun u => (pW h ad cI hei wat dam wea dra peo rai hou bro drd lef cre gai (q_bits (q_meet wat (some k) (sn, [])).1) u)) (cells1 := 0) (slots1 := 0) ⟨hx, hb, hml, hown, hts⟩ (c_X0_meet l D cI h ad hei wat dam wea dra peo rai hou bro drd lef cre gai fou (some k) (fun j hj => by cases hj; exact hk) (sn, []) (q_ok_0 sn) (q_row_0 fou)) (cwV 2 hts gX0_spreadFrom_X0_meet rfl rfl rfl (by decide +kernel) ⟨Nat.le_of_ble_eq_true rfl, Nat.le_of_ble_eq_true rfl⟩) hK hP hD hS hA [0, 1, 2, 3, 4, 5, 6, 7, 8, 9, 10, 11] [] ⟨rfl, rfl, rfl, rfl, rfl⟩ [0, 1, 2, 3, 4, 5, 6, 7, 8, 9, 10, 11] rfl (fun _ => rfl) [0] rfl (va_recv hK hP (ci := 0) (q0 := 0) rfl rfl) rfl hl.1 rfl (Nat.le_of_ble_eq_true rfl) rfl rfl ⟨Nat.le_of_ble_eq_true rfl, Nat.le_of_ble_eq_true rfl⟩ dX0_spreadFrom_3 (fun r u H locs hw hP hD hS => ?_)
  obtain ⟨rfl, hrow⟩ := hw
  refine lv_istore_n (lv' := [(2, .int (nI (q_meet wat (some k) (sn, [])).2.length)), (0, .ref h), (1, .int (nI k))]) hx hb dX0_spreadFrom_6 rfl hl (by decide) rfl (fun ls hl => ?_)
  refine lv_iconst (v := 0) hx hb dX0_spreadFrom_7 (by decide) ?_
  refine lv_istore_n (lv' := [(3, .int 0), (2, .int (nI (q_meet wat (some k) (sn, [])).2.length)), (0, .ref h), (1, .int (nI k))]) hx hb dX0_spreadFrom_8 rfl hl (by decide) rfl (fun ls hl => ?_)
  have hok : q_ok (q_meet wat (some k) (sn, [])) := q_ok_meet (fun j hj => by cases hj; exact hk) (q_ok_0 sn)
  have loop : ∀ (fu i : Nat), i + fu = 64 → ∀ (z : Ls) (f : Nat → Int32) (H : Heap) (locs : List Loc) (ls : Array Slot), (q_spread wat fu z = q_from wat sn k) → (q_ok z) → (q_row z.2 f) → va_P D vwCl (pW h ad cI hei wat dam wea dra peo rai hou bro drd lef cre gai (q_bits z.1) f) H → va_D A (pW h ad cI hei wat dam wea dra peo rai hou bro drd lef cre gai (q_bits z.1) f) → va_S A s.heap H locs → lv_has ls 5 [(0, .ref h), (1, .int (nI k)), (2, .int (nI z.2.length)), (3, .int (nI i))] → W p l e rm_X0_spreadFrom s m args below meth c H locs 0 0 Q (F0 m 9 ls []) := by
    intro fu
    induction fu with
    | zero =>
      intro i hi z f H locs ls hz hok hrow hP hD hS hl
      obtain rfl : 64 = i := by omega
      refine lv_iload_n hx hb dX0_spreadFrom_9 rfl (lv_at hl 3 rfl) ?_
      refine lv_iload_n hx hb dX0_spreadFrom_10 rfl (lv_at hl 2 rfl) ?_
      refine lv_icmp_ge (tgt := 58) hx hb dX0_spreadFrom_11 (by decide) (fun hc => ?_) (fun hc => ?_)
      · skip
        refine lv_iload_n hx hb dX0_spreadFrom_58 rfl (lv_at hl 2 rfl) ?_
        have hz : z = q_from wat sn k := hz
        rw [← hz] at fin
        exact fin (nI z.2.length) f H locs 0 0 59 ls dX0_spreadFrom_59 rfl hP hD hS (Nat.le_of_ble_eq_true rfl) (Nat.le_of_ble_eq_true rfl)
      · skip
        exact absurd (nI_le (q_ok_len hok) (by decide)) hc
    | succ fu ih =>
      intro i hi z f H locs ls hz hok hrow hP hD hS hl
      have hlt : i < 64 := by omega
      have hlen := q_ok_len hok
      refine lv_iload_n hx hb dX0_spreadFrom_9 rfl (lv_at hl 3 rfl) ?_
      refine lv_iload_n hx hb dX0_spreadFrom_10 rfl (lv_at hl 2 rfl) ?_
      refine lv_icmp_ge (tgt := 58) hx hb dX0_spreadFrom_11 (by decide) (fun hc => ?_) (fun hc => ?_)
      · skip
        have h9 : z.2.length ≤ i := nb_ge hc (by omega) (by omega)
        refine lv_iload_n hx hb dX0_spreadFrom_58 rfl (lv_at hl 2 rfl) ?_
        rw [q_spread_stop hi h9] at hz
        rw [← hz] at fin
        exact fin (nI z.2.length) f H locs 0 0 59 ls dX0_spreadFrom_59 rfl hP hD hS (Nat.le_of_ble_eq_true rfl) (Nat.le_of_ble_eq_true rfl)
      · skip
        have h9 : i < z.2.length := nb_lt hc (by omega)
        rw [q_spread_go hi h9] at hz
        have hkk : z.2.getD i 0 < 64 := q_ok_at hok h9
        generalize hkd : z.2.getD i 0 = kk at hz hkk
        refine lv_iload_n hx hb dX0_spreadFrom_14 rfl (lv_at hl 3 rfl) ?_
        refine lv_bipush (v := 64) hx hb dX0_spreadFrom_15 (by decide) ?_
        refine lv_icmp_ge (tgt := 58) hx hb dX0_spreadFrom_17 (by decide) (fun hc2 => ?_) (fun hc2 => ?_)
        · skip
          exact absurd hc2 (nI_ge (b := 64) hlt (by decide))
        · skip
          refine lv_iconst (v := 0) hx hb dX0_spreadFrom_20 (by decide) ?_
          refine lv_istore (lv' := [(4, .int 0), (0, .ref h), (1, .int (nI k)), (2, .int (nI z.2.length)), (3, .int (nI i))]) hx hb dX0_spreadFrom_21 hl (by decide) rfl (fun ls hl => ?_)
          have loop2 : ∀ (fu sd : Nat), sd + fu = 4 → ∀ (y : Ls) (f2 : Nat → Int32) (H : Heap) (locs : List Loc) (ls : Array Slot), (y = q_sides wat kk sd z) → (q_row y.2 f2) → va_P D vwCl (pW h ad cI hei wat dam wea dra peo rai hou bro drd lef cre gai (q_bits y.1) f2) H → va_D A (pW h ad cI hei wat dam wea dra peo rai hou bro drd lef cre gai (q_bits y.1) f2) → va_S A s.heap H locs → lv_has ls 5 [(0, .ref h), (1, .int (nI k)), (2, .int (nI y.2.length)), (3, .int (nI i)), (4, .int (nI sd))] → W p l e rm_X0_spreadFrom s m args below meth c H locs 0 0 Q (F0 m 23 ls []) := by
            intro fu
            induction fu with
            | zero =>
              intro sd hi4 y f2 H locs ls hy hr2 hP hD hS hl
              obtain rfl : 4 = sd := by omega
              refine lv_iload hx hb dX0_spreadFrom_23 (lv_at hl 4 rfl) ?_
              refine lv_iconst (v := 4) hx hb dX0_spreadFrom_25 (by decide) ?_
              refine lv_icmp_ge (tgt := 52) hx hb dX0_spreadFrom_26 (by decide) (fun hc3 => ?_) (fun hc3 => ?_)
              · skip
                refine lv_iinc (v := (nI (i + 1))) (lv' := [(3, .int (nI (i + 1))), (0, .ref h), (1, .int (nI k)), (2, .int (nI y.2.length)), (4, .int (nI 4))]) hx hb dX0_spreadFrom_52 hl (k := 3) rfl (nI_1 i) (by decide) rfl (fun ls hl => ?_)
                refine lv_goto (tgt := 9) hx hb dX0_spreadFrom_55 (by decide) ?_
                exact ih (i + 1) (by omega) y f2 H locs ls (by rw [hy]; exact hz) (by rw [hy]; exact q_ok_sides hkk hok 4) hr2 hP hD hS (lv_sub hl [1, 2, 3, 0] rfl)
              · skip
                exact absurd (show (4 : Int32) ≤ nI 4 by decide) hc3
            | succ fu ih =>
              intro sd hi4 y f2 H locs ls hy hr2 hP hD hS hl
              have hl4 : sd < 4 := by omega
              refine lv_iload hx hb dX0_spreadFrom_23 (lv_at hl 4 rfl) ?_
              refine lv_iconst (v := 4) hx hb dX0_spreadFrom_25 (by decide) ?_
              refine lv_icmp_ge (tgt := 52) hx hb dX0_spreadFrom_26 (by decide) (fun hc3 => ?_) (fun hc3 => ?_)
              · skip
                exact absurd hc3 (nI_ge (b := 4) hl4 (by decide))
              · skip
                have hg := q_sides_get (wat := wat) (k := kk) h9 sd
                rw [← hy] at hg
                have hoky : q_ok y := by rw [hy]; exact q_ok_sides hkk hok sd
                refine lv_aload_n hx hb dX0_spreadFrom_29 rfl (lv_at hl 0 rfl) ?_
                refine lv_aload_n hx hb dX0_spreadFrom_30 rfl (lv_at hl 0 rfl) ?_
                refine va_get (D := D) (ci := 0) (v := .ref (ad 14)) (C := RX0) (T := TX0) (N := 15) hx hb hts (fun _ h9 => (List.mem_cons_of_mem _ (List.mem_append_right _ h9))) hown hK hP 0 rfl rfl 14 (by decide) (hts (Cond.fieldLink RX0 42 "FloodGrid$Plain" "found" "[I") (List.mem_of_getElem? (i := 1) rfl)) (fun _ h9 => h9) rfl dX0_spreadFrom_31 ?_
                refine lv_iload_n hx hb dX0_spreadFrom_34 rfl (lv_at hl 3 rfl) ?_
                refine ct_iald (v := (nI kk)) hx hb hK hP 11 0 rfl rfl i rfl (by omega) (by decide) (by rw [hr2 i hg.1, hg.2, hkd]) dX0_spreadFrom_35 ?_
                refine lv_iload hx hb dX0_spreadFrom_36 (lv_at hl 4 rfl) ?_
                refine ct_Si (As := [.int (nI kk), .int (nI sd)]) (rest := [.ref h]) (wr := [(h, .inr (0, [.ref (ad 0), .ref (ad 1), .ref (ad 2), .ref (ad 3), .ref (ad 4), .ref (ad 5), .ref (ad 6), .int hou, .int bro, .int drd, .int lef, .ref (ad 11), .ref (ad 12), .ref (ad 13), .ref (ad 14)])), ((ad 0), .inl (cI, 64, .inl hei)), ((ad 1), .inl (cI, 64, .inl wat)), ((ad 2), .inl (cI, 64, .inl dam)), ((ad 3), .inl (cI, 64, .inl wea)), ((ad 4), .inl (cI, 64, .inl dra)), ((ad 5), .inl (cI, 64, .inl peo)), ((ad 6), .inl (cI, 12, .inl rai)), ((ad 11), .inl (cI, 64, .inl cre)), ((ad 12), .inl (cI, 64, .inl gai)), ((ad 13), .inl (cI, 64, .inl (q_bits y.1))), ((ad 14), .inl (cI, 64, .inl f2))]) (W1 := fun u => (pW h ad cI hei wat dam wea dra peo rai hou bro drd lef cre gai (q_bits y.1) f2)) (cells1 := 0) (slots1 := 0) ⟨hx, hb, hml, hown, hts⟩ (c_nb l D cI kk sd hkk hl4) (va_cwS 2 hts gX0_spreadFrom_X0_neighbourOf rfl rfl rfl (by decide +kernel) ⟨Nat.le_of_ble_eq_true rfl, Nat.le_of_ble_eq_true rfl⟩) hK hP hD hS hA [] [0, 1, 2, 3, 4, 5, 6, 7, 8, 9, 10, 11] ⟨rfl, rfl, rfl, rfl, rfl⟩ [0, 1, 2, 3, 4, 5, 6, 7, 8, 9, 10, 11] rfl (fun _ => rfl) [0] rfl rfl hl.1 rfl (Nat.le_of_ble_eq_true rfl) rfl rfl ⟨Nat.le_of_ble_eq_true rfl, Nat.le_of_ble_eq_true rfl⟩ dX0_spreadFrom_38 (fun r u H locs hw hP hD hS => ?_)
                subst hw
                refine lv_iload_n hx hb dX0_spreadFrom_41 rfl (lv_at hl 2 rfl) ?_
                refine ct_Vi (As := [.int (q_v (q_nb kk sd)), .int (nI y.2.length)]) (rest := []) (wr := []) (W1 := fun u => (pW h ad cI hei wat dam wea dra peo rai hou bro drd lef cre gai (q_bits (q_meet wat (q_nb kk sd) y).1) u)) (cells1 := 0) (slots1 := 0) ⟨hx, hb, hml, hown, hts⟩ (c_X0_meet l D cI h ad hei wat dam wea dra peo rai hou bro drd lef cre gai f2 (q_nb kk sd) (fun j hj => q_nb_lt hkk hj) y hoky hr2) (cwV 2 hts gX0_spreadFrom_X0_meet rfl rfl rfl (by decide +kernel) ⟨Nat.le_of_ble_eq_true rfl, Nat.le_of_ble_eq_true rfl⟩) hK hP hD hS hA [0, 1, 2, 3, 4, 5, 6, 7, 8, 9, 10, 11] [] ⟨rfl, rfl, rfl, rfl, rfl⟩ [0, 1, 2, 3, 4, 5, 6, 7, 8, 9, 10, 11] rfl (fun _ => rfl) [0] rfl (va_recv hK hP (ci := 0) (q0 := 0) rfl rfl) rfl hl.1 rfl (Nat.le_of_ble_eq_true rfl) rfl rfl ⟨Nat.le_of_ble_eq_true rfl, Nat.le_of_ble_eq_true rfl⟩ dX0_spreadFrom_42 (fun r u H locs hw hP hD hS => ?_)
                obtain ⟨rfl, hrow⟩ := hw
                refine lv_istore_n (lv' := [(2, .int (nI (q_meet wat (q_nb kk sd) y).2.length)), (0, .ref h), (1, .int (nI k)), (3, .int (nI i)), (4, .int (nI sd))]) hx hb dX0_spreadFrom_45 rfl hl (by decide) rfl (fun ls hl => ?_)
                refine lv_iinc (v := (nI (sd + 1))) (lv' := [(4, .int (nI (sd + 1))), (2, .int (nI (q_meet wat (q_nb kk sd) y).2.length)), (0, .ref h), (1, .int (nI k)), (3, .int (nI i))]) hx hb dX0_spreadFrom_46 hl (k := 4) rfl (nI_1 sd) (by decide) rfl (fun ls hl => ?_)
                refine lv_goto (tgt := 23) hx hb dX0_spreadFrom_49 (by decide) ?_
                exact ih (sd + 1) (by omega) (q_meet wat (q_nb kk sd) y) u H locs ls (by rw [hy]; rfl) hrow hP hD hS (lv_sub hl [2, 3, 1, 4, 0] rfl)
          exact loop2 4 0 (by omega) z f H locs ls rfl hrow hP hD hS (lv_sub hl [1, 2, 3, 4, 0] rfl)
  exact loop 64 0 (by omega) (q_meet wat (some k) (sn, [])) u H locs ls rfl hok hrow hP hD hS (lv_sub hl [2, 3, 1, 0] rfl)
abbrev rm_X0_lakeSize : Room := { frames := 2, cells := 0, slots := 0, locals := 47 }
set_option maxHeartbeats 4000000 in
set_option maxRecDepth 100000 in
theorem c_X0_lakeSize (l : Launch) (D : va_G) (cI : ClassId) (h : Nat) (ad : Nat → Nat) (hei wat dam wea dra peo rai : Nat → Int32) (hou bro drd lef : Int32) (cre gai see fou : Nat → Int32) (k : Nat) (hk : k < 64) : ct_i (S := (Nat → Int32) × (Nat → Int32)) l D yX0_lakeSize wsX0_lakeSize rm_X0_lakeSize [.ref h, .int (nI k)] (pW h ad cI hei wat dam wea dra peo rai hou bro drd lef cre gai see fou) [(cI, .int)] (fun r _ => r = q_lakeSize wat k) (fun u => (pW h ad cI hei wat dam wea dra peo rai hou bro drd lef cre gai u.1 u.2)) := by
  refine ct_ofi (cc := cX0_lakeSize) (maxL := 2) (by decide) rfl (Nat.le_of_ble_eq_true rfl) ?_
  intro p e s m args below meth c A Q hx hb hml hown hts hin hA hK H locs hP hD hS fin ls hl
  have hown : s.vm.findClass RX0 = some m.cls := hown
  have hl : lv_has ls 2 [(0, .ref h), (1, .int (nI k))] := hl
  refine lv_aload_n hx hb dX0_lakeSize_0 rfl (lv_at hl 0 rfl) ?_
  refine va_get (D := D) (ci := 0) (v := .ref (ad 13)) (C := RX0) (T := TX0) (N := 15) hx hb hts (fun _ h9 => (List.mem_cons_of_mem _ (List.mem_append_right _ h9))) hown hK hP 0 rfl rfl 13 (by decide) (hts (Cond.fieldLink RX0 39 "FloodGrid$Plain" "seen" "[I") (List.mem_of_getElem? (i := 1) rfl)) (fun _ h9 => h9) rfl dX0_lakeSize_1 ?_
  refine lv_iconst (v := 0) hx hb dX0_lakeSize_4 (by decide) ?_
  refine ct_Sv (As := [.ref (ad 13), .int 0]) (rest := []) (wr := [(h, .inr (0, [.ref (ad 0), .ref (ad 1), .ref (ad 2), .ref (ad 3), .ref (ad 4), .ref (ad 5), .ref (ad 6), .int hou, .int bro, .int drd, .int lef, .ref (ad 11), .ref (ad 12), .ref (ad 13), .ref (ad 14)])), ((ad 0), .inl (cI, 64, .inl hei)), ((ad 1), .inl (cI, 64, .inl wat)), ((ad 2), .inl (cI, 64, .inl dam)), ((ad 3), .inl (cI, 64, .inl wea)), ((ad 4), .inl (cI, 64, .inl dra)), ((ad 5), .inl (cI, 64, .inl peo)), ((ad 6), .inl (cI, 12, .inl rai)), ((ad 11), .inl (cI, 64, .inl cre)), ((ad 12), .inl (cI, 64, .inl gai)), ((ad 14), .inl (cI, 64, .inl fou))]) (W1 := fun u => (pW h ad cI hei wat dam wea dra peo rai hou bro drd lef cre gai (q_bits (fun _ => false)) fou)) (cells1 := 0) (slots1 := 0) ⟨hx, hb, hml, hown, hts⟩ (c_fill l D cI (ad 13) 64 (by decide) see 0) (va_cwS 2 hts gX0_lakeSize_J7_fill_53178 rfl rfl rfl (by decide +kernel) ⟨Nat.le_of_ble_eq_true rfl, Nat.le_of_ble_eq_true rfl⟩) hK hP hD hS hA [10] [0, 1, 2, 3, 4, 5, 6, 7, 8, 9, 11] ⟨rfl, rfl, rfl, rfl, rfl⟩ [0, 1, 2, 3, 4, 5, 6, 7, 8, 9, 11, 10] rfl (fun _ => rfl) [0] rfl rfl hl.1 rfl (Nat.le_of_ble_eq_true rfl) rfl rfl ⟨Nat.le_of_ble_eq_true rfl, Nat.le_of_ble_eq_true rfl⟩ dX0_lakeSize_5 (fun u H locs hw hP hD hS => ?_)
  refine lv_aload_n hx hb dX0_lakeSize_8 rfl (lv_at hl 0 rfl) ?_
  refine lv_iload_n hx hb dX0_lakeSize_9 rfl (lv_at hl 1 rfl) ?_
  refine ct_Vi (As := [.int (nI k)]) (rest := []) (wr := []) (W1 := fun u => (pW h ad cI hei wat dam wea dra peo rai hou bro drd lef cre gai (q_bits (q_from wat (fun _ => false) k).1) u)) (cells1 := 0) (slots1 := 0) ⟨hx, hb, hml, hown, hts⟩ (c_X0_spread l D cI h ad hei wat dam wea dra peo rai hou bro drd lef cre gai fou (fun _ => false) k hk) (cwV 1 hts gX0_lakeSize_X0_spreadFrom rfl rfl rfl (by decide +kernel) ⟨Nat.le_of_ble_eq_true rfl, Nat.le_of_ble_eq_true rfl⟩) hK hP hD hS hA [0, 1, 2, 3, 4, 5, 6, 7, 8, 9, 10, 11] [] ⟨rfl, rfl, rfl, rfl, rfl⟩ [0, 1, 2, 3, 4, 5, 6, 7, 8, 9, 10, 11] rfl (fun _ => rfl) [0] rfl (va_recv hK hP (ci := 0) (q0 := 0) rfl rfl) rfl hl.1 rfl (Nat.le_of_ble_eq_true rfl) rfl rfl ⟨Nat.le_of_ble_eq_true rfl, Nat.le_of_ble_eq_true rfl⟩ dX0_lakeSize_10 (fun r u H locs hw hP hD hS => ?_)
  exact fin r (q_bits (q_from wat (fun _ => false) k).1, u) H locs 0 0 13 ls dX0_lakeSize_13 hw hP hD hS (Nat.le_of_ble_eq_true rfl) (Nat.le_of_ble_eq_true rfl)
theorem q_lakes_eq (wat : Nat → Int32) : nI (q_lakesS wat 64).2 = q_lakes wat := by unfold q_lakes; exact Eq.refl _
abbrev rm_X0_lakes : Room := { frames := 2, cells := 0, slots := 0, locals := 47 }
set_option maxHeartbeats 4000000 in
set_option maxRecDepth 100000 in
theorem c_X0_lakes (l : Launch) (D : va_G) (cI : ClassId) (h : Nat) (ad : Nat → Nat) (hei wat dam wea dra peo rai : Nat → Int32) (hou bro drd lef : Int32) (cre gai see fou : Nat → Int32) : ct_i (S := (Nat → Int32) × (Nat → Int32)) l D yX0_lakes wsX0_lakes rm_X0_lakes [.ref h] (pW h ad cI hei wat dam wea dra peo rai hou bro drd lef cre gai see fou) [(cI, .int)] (fun r _ => r = q_lakes wat) (fun u => (pW h ad cI hei wat dam wea dra peo rai hou bro drd lef cre gai u.1 u.2)) := by
  refine ct_ofi (cc := cX0_lakes) (maxL := 3) (by decide) rfl (Nat.le_of_ble_eq_true rfl) ?_
  intro p e s m args below meth c A Q hx hb hml hown hts hin hA hK H locs hP hD hS fin ls hl
  have hown : s.vm.findClass RX0 = some m.cls := hown
  have hl : lv_has ls 3 [(0, .ref h)] := hl
  refine lv_aload_n hx hb dX0_lakes_0 rfl (lv_at hl 0 rfl) ?_
  refine va_get (D := D) (ci := 0) (v := .ref (ad 13)) (C := RX0) (T := TX0) (N := 15) hx hb hts (fun _ h9 => (List.mem_cons_of_mem _ (List.mem_append_right _ h9))) hown hK hP 0 rfl rfl 13 (by decide) (hts (Cond.fieldLink RX0 39 "FloodGrid$Plain" "seen" "[I") (List.mem_of_getElem? (i := 1) rfl)) (fun _ h9 => h9) rfl dX0_lakes_1 ?_
  refine lv_iconst (v := 0) hx hb dX0_lakes_4 (by decide) ?_
  refine ct_Sv (As := [.ref (ad 13), .int 0]) (rest := []) (wr := [(h, .inr (0, [.ref (ad 0), .ref (ad 1), .ref (ad 2), .ref (ad 3), .ref (ad 4), .ref (ad 5), .ref (ad 6), .int hou, .int bro, .int drd, .int lef, .ref (ad 11), .ref (ad 12), .ref (ad 13), .ref (ad 14)])), ((ad 0), .inl (cI, 64, .inl hei)), ((ad 1), .inl (cI, 64, .inl wat)), ((ad 2), .inl (cI, 64, .inl dam)), ((ad 3), .inl (cI, 64, .inl wea)), ((ad 4), .inl (cI, 64, .inl dra)), ((ad 5), .inl (cI, 64, .inl peo)), ((ad 6), .inl (cI, 12, .inl rai)), ((ad 11), .inl (cI, 64, .inl cre)), ((ad 12), .inl (cI, 64, .inl gai)), ((ad 14), .inl (cI, 64, .inl fou))]) (W1 := fun u => (pW h ad cI hei wat dam wea dra peo rai hou bro drd lef cre gai (q_bits (fun _ => false)) fou)) (cells1 := 0) (slots1 := 0) ⟨hx, hb, hml, hown, hts⟩ (c_fill l D cI (ad 13) 64 (by decide) see 0) (va_cwS 2 hts gX0_lakes_J7_fill_53178 rfl rfl rfl (by decide +kernel) ⟨Nat.le_of_ble_eq_true rfl, Nat.le_of_ble_eq_true rfl⟩) hK hP hD hS hA [10] [0, 1, 2, 3, 4, 5, 6, 7, 8, 9, 11] ⟨rfl, rfl, rfl, rfl, rfl⟩ [0, 1, 2, 3, 4, 5, 6, 7, 8, 9, 11, 10] rfl (fun _ => rfl) [0] rfl rfl hl.1 rfl (Nat.le_of_ble_eq_true rfl) rfl rfl ⟨Nat.le_of_ble_eq_true rfl, Nat.le_of_ble_eq_true rfl⟩ dX0_lakes_5 (fun u H locs hw hP hD hS => ?_)
  refine lv_iconst (v := 0) hx hb dX0_lakes_8 (by decide) ?_
  refine lv_istore_n (lv' := [(1, .int 0), (0, .ref h)]) hx hb dX0_lakes_9 rfl hl (by decide) rfl (fun ls hl => ?_)
  refine lv_iconst (v := 0) hx hb dX0_lakes_10 (by decide) ?_
  refine lv_istore_n (lv' := [(2, .int 0), (1, .int 0), (0, .ref h)]) hx hb dX0_lakes_11 rfl hl (by decide) rfl (fun ls hl => ?_)
  have loop : ∀ (fu i : Nat), i + fu = 64 → ∀ (y : (Nat → Bool) × Nat) (f : Nat → Int32) (H : Heap) (locs : List Loc) (ls : Array Slot), (y = q_lakesS wat i) → va_P D vwCl (pW h ad cI hei wat dam wea dra peo rai hou bro drd lef cre gai (q_bits y.1) f) H → va_D A (pW h ad cI hei wat dam wea dra peo rai hou bro drd lef cre gai (q_bits y.1) f) → va_S A s.heap H locs → lv_has ls 3 [(0, .ref h), (1, .int (nI y.2)), (2, .int (nI i))] → W p l e rm_X0_lakes s m args below meth c H locs 0 0 Q (F0 m 12 ls []) := by
    intro fu
    induction fu with
    | zero =>
      intro i hi y f H locs ls hy hP hD hS hl
      obtain rfl : 64 = i := by omega
      refine lv_iload_n hx hb dX0_lakes_12 rfl (lv_at hl 2 rfl) ?_
      refine lv_bipush (v := 64) hx hb dX0_lakes_13 (by decide) ?_
      refine lv_icmp_ge (tgt := 35) hx hb dX0_lakes_15 (by decide) (fun hc => ?_) (fun hc => ?_)
      · skip
        refine lv_iload_n hx hb dX0_lakes_35 rfl (lv_at hl 1 rfl) ?_
        exact fin (nI y.2) (q_bits y.1, f) H locs 0 0 36 ls dX0_lakes_36 (by rw [hy]; exact q_lakes_eq wat) hP hD hS (Nat.le_of_ble_eq_true rfl) (Nat.le_of_ble_eq_true rfl)
      · skip
        exact absurd (show (64 : Int32) ≤ nI 64 by decide) hc
    | succ fu ih =>
      intro i hi y f H locs ls hy hP hD hS hl
      have hlt : i < 64 := by omega
      refine lv_iload_n hx hb dX0_lakes_12 rfl (lv_at hl 2 rfl) ?_
      refine lv_bipush (v := 64) hx hb dX0_lakes_13 (by decide) ?_
      refine lv_icmp_ge (tgt := 35) hx hb dX0_lakes_15 (by decide) (fun hc => ?_) (fun hc => ?_)
      · skip
        exact absurd hc (nI_ge (b := 64) hlt (by decide))
      · skip
        refine lv_aload_n hx hb dX0_lakes_18 rfl (lv_at hl 0 rfl) ?_
        refine lv_iload_n hx hb dX0_lakes_19 rfl (lv_at hl 2 rfl) ?_
        refine ct_Vi (As := [.int (nI i)]) (rest := []) (wr := []) (W1 := fun u => (pW h ad cI hei wat dam wea dra peo rai hou bro drd lef cre gai (q_bits (q_from wat y.1 i).1) u)) (cells1 := 0) (slots1 := 0) ⟨hx, hb, hml, hown, hts⟩ (c_X0_spread l D cI h ad hei wat dam wea dra peo rai hou bro drd lef cre gai f y.1 i hlt) (cwV 1 hts gX0_lakes_X0_spreadFrom rfl rfl rfl (by decide +kernel) ⟨Nat.le_of_ble_eq_true rfl, Nat.le_of_ble_eq_true rfl⟩) hK hP hD hS hA [0, 1, 2, 3, 4, 5, 6, 7, 8, 9, 10, 11] [] ⟨rfl, rfl, rfl, rfl, rfl⟩ [0, 1, 2, 3, 4, 5, 6, 7, 8, 9, 10, 11] rfl (fun _ => rfl) [0] rfl (va_recv hK hP (ci := 0) (q0 := 0) rfl rfl) rfl hl.1 rfl (Nat.le_of_ble_eq_true rfl) rfl rfl ⟨Nat.le_of_ble_eq_true rfl, Nat.le_of_ble_eq_true rfl⟩ dX0_lakes_20 (fun r u H locs hw hP hD hS => ?_)
        subst hw
        have hfl : (q_from wat y.1 i).2.length < 2 ^ 31 := Nat.lt_of_le_of_lt (q_from_len wat y.1 hlt) (by decide)
        refine lv_if_le (tgt := 29) hx hb dX0_lakes_23 (by decide) (fun hc2 => ?_) (fun hc2 => ?_)
        · skip
          refine lv_iinc (v := (nI (i + 1))) (lv' := [(2, .int (nI (i + 1))), (0, .ref h), (1, .int (nI y.2))]) hx hb dX0_lakes_29 hl (k := 2) rfl (nI_1 i) (by decide) rfl (fun ls hl => ?_)
          refine lv_goto (tgt := 12) hx hb dX0_lakes_32 (by decide) ?_
          exact ih (i + 1) (by omega) ((q_from wat y.1 i).1, y.2) u H locs ls (by rw [hy]; simp only [q_lakesS]; rw [← hy, if_neg (by have := nb_le hc2 hfl; omega)]) hP hD hS (lv_sub hl [1, 2, 0] rfl)
        · skip
          refine lv_iinc (v := (nI (y.2 + 1))) (lv' := [(1, .int (nI (y.2 + 1))), (0, .ref h), (2, .int (nI i))]) hx hb dX0_lakes_26 hl (k := 1) rfl (nI_1 y.2) (by decide) rfl (fun ls hl => ?_)
          refine lv_iinc (v := (nI (i + 1))) (lv' := [(2, .int (nI (i + 1))), (1, .int (nI (y.2 + 1))), (0, .ref h)]) hx hb dX0_lakes_29 hl (k := 2) rfl (nI_1 i) (by decide) rfl (fun ls hl => ?_)
          refine lv_goto (tgt := 12) hx hb dX0_lakes_32 (by decide) ?_
          exact ih (i + 1) (by omega) ((q_from wat y.1 i).1, y.2 + 1) u H locs ls (by rw [hy]; simp only [q_lakesS]; rw [← hy, if_pos (nb_pos hc2)]) hP hD hS (lv_sub hl [2, 1, 0] rfl)
  exact loop 64 0 (by omega) ((fun _ => false), 0) fou H locs ls rfl hP hD hS (lv_sub hl [2, 1, 0] rfl)
