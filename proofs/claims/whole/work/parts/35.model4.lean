/-- what the model has marked, and what the class has seen -/
def q_rel (lk : Nat → Int32) (sn : Nat → Bool) : Prop := ∀ j, lk j = 0 ↔ sn j = false
theorem q_rel_mark {lk : Nat → Int32} {sn : Nat → Bool} (h : q_rel lk sn) (j : Nat) {v : Int32} (hv : ¬ v = 0) : q_rel (upd lk j v) (q_mark sn j) := by
  intro i
  unfold upd q_mark
  by_cases e : i = j
  · simp [e, hv]
  · simp [e, h i]
theorem q_rel_0 : q_rel (fun _ => 0) (fun _ => false) := fun _ => ⟨fun _ => rfl, fun _ => rfl⟩
theorem q_spread_mono {wat : Nat → Int32} : ∀ (n : Nat) {z : Ls} {i : Nat}, i < z.2.length → i < (q_spread wat n z).2.length
  | 0, _, _, h => h
  | n + 1, z, i, h => by
    have e2 : q_spread wat (n + 1) z = if 64 - (n + 1) < z.2.length then q_spread wat n (q_sides wat (z.2.getD (64 - (n + 1)) 0) 4 z) else z := rfl
    rw [e2]
    by_cases hc : 64 - (n + 1) < z.2.length
    · rw [if_pos hc]; exact q_spread_mono n (q_sides_get h 4).1
    · rw [if_neg hc]; exact h
theorem q_from_no {wat : Nat → Int32} {sn : Nat → Bool} {k : Nat} (h : ¬ (sn k = false ∧ 0 < wat k)) : q_from wat sn k = (sn, []) := by
  unfold q_from
  rw [q_meet_no (z := (sn, [])) h]
  exact q_spread_stop (i := 0) (n := 63) (by decide) (Nat.le_refl 0)
theorem q_from_yes {wat : Nat → Int32} {sn : Nat → Bool} {k : Nat} (h : sn k = false ∧ 0 < wat k) : q_from wat sn k = q_spread wat 64 (q_mark sn k, [k]) := by
  unfold q_from
  rw [q_meet_yes (z := (sn, [])) h]
  rfl
theorem q_from_pos {wat : Nat → Int32} {sn : Nat → Bool} {k : Nat} (h : sn k = false ∧ 0 < wat k) : 0 < (q_from wat sn k).2.length := by
  rw [q_from_yes h]
  exact q_spread_mono 64 (z := (q_mark sn k, [k])) (i := 0) Nat.zero_lt_one
theorem pos_of {x : Int32} (h0 : 0 ≤ x) (h : ¬ x = 0) : 0 < x := by
  rcases Int32.lt_or_eq_of_le h0 with h1 | h1
  · exact h1
  · exact absurd h1.symm h
theorem npos0 {x : Int32} (h : x = 0) : ¬ 0 < x := by rw [h]; decide
theorem ne_n {n : Nat} (h0 : 0 < n) (h : n < 2 ^ 31) : ¬ nI n = 0 := nI_ne0 h0 h
abbrev rm_X2_follow : Room := { frames := 1, cells := 0, slots := 0, locals := 21 }
set_option maxHeartbeats 4000000 in
set_option maxRecDepth 100000 in
theorem c_X2_follow (l : Launch) (D : va_G) (cI : ClassId) (h : Nat) (ad : Nat → Nat) (thr : Int32) (hei wat dam wea dra peo rai num flo lak row : Nat → Int32) (sn : Nat → Bool) (k nm : Nat) (hk : k < 64) (hnm : 0 < nm ∧ nm < 2 ^ 31) (hrel : q_rel lak sn) (hst0 : sn k = false ∧ 0 < wat k) (hw0 : ∀ c, c < 64 → 0 ≤ wat c) : ct_i (S := (Nat → Int32) × (Nat → Int32)) l D yX2_follow wsX2_follow rm_X2_follow [.ref h, .int (nI k), .int (nI nm)] (mW h ad cI thr hei wat dam wea dra peo rai num flo lak row) [(cI, .int)] (fun r u => r = nI (q_from wat sn k).2.length ∧ q_rel u.1 (q_from wat sn k).1) (fun u => (mW h ad cI thr hei wat dam wea dra peo rai num flo u.1 u.2)) := by
  refine ct_ofi (cc := cX2_follow) (maxL := 7) (by decide) rfl (Nat.le_of_ble_eq_true rfl) ?_
  intro p e s m args below meth c A Q hx hb hml hown hts hin hA hK H locs hP hD hS fin ls hl
  have hown : s.vm.findClass RX2 = some m.cls := hown
  have hl : lv_has ls 7 [(0, .ref h), (1, .int (nI k)), (2, .int (nI nm))] := hl
  have hne := ne_n hnm.1 hnm.2
  refine lv_iconst (v := 1) hx hb dX2_follow_0 (by decide) ?_
  refine lv_istore_n (lv' := [(3, .int 1), (0, .ref h), (1, .int (nI k)), (2, .int (nI nm))]) hx hb dX2_follow_1 rfl hl (by decide) rfl (fun ls hl => ?_)
  refine lv_aload_n hx hb dX2_follow_2 rfl (lv_at hl 1 rfl) ?_
  refine va_get (D := D) (ci := 2) (v := .ref (ad 11)) (C := RX2) (T := TX2) (N := 12) hx hb hts (fun _ h9 => (List.mem_cons_of_mem _ (List.mem_append_right _ h9))) hown hK hP 0 rfl rfl 11 (by decide) (hts (Cond.fieldLink RX2 40 "FloodGridModel" "row" "[I") (List.mem_of_getElem? (i := 1) rfl)) (fun _ h9 => h9) rfl dX2_follow_3 ?_
  refine lv_iconst (v := 0) hx hb dX2_follow_6 (by decide) ?_
  refine lv_iload_n hx hb dX2_follow_7 rfl (lv_at hl 2 rfl) ?_
  refine ct_iast (g := upd row 0 (nI k)) (ws1 := (mW h ad cI thr hei wat dam wea dra peo rai num flo lak (upd row 0 (nI k)))) hx hb hK hP hD hS 11 0 rfl rfl 0 rfl (by decide) (by decide) rfl rfl dX2_follow_8 (fun H locs hP hD hS => ?_)
  refine lv_aload_n hx hb dX2_follow_9 rfl (lv_at hl 1 rfl) ?_
  refine va_get (D := D) (ci := 2) (v := .ref (ad 10)) (C := RX2) (T := TX2) (N := 12) hx hb hts (fun _ h9 => (List.mem_cons_of_mem _ (List.mem_append_right _ h9))) hown hK hP 0 rfl rfl 10 (by decide) (hts (Cond.fieldLink RX2 37 "FloodGridModel" "lake" "[I") (List.mem_of_getElem? (i := 2) rfl)) (fun _ h9 => h9) rfl dX2_follow_10 ?_
  refine lv_iload_n hx hb dX2_follow_13 rfl (lv_at hl 2 rfl) ?_
  refine lv_iload_n hx hb dX2_follow_14 rfl (lv_at hl 3 rfl) ?_
  refine ct_iast (g := upd lak k (nI nm)) (ws1 := (mW h ad cI thr hei wat dam wea dra peo rai num flo (upd lak k (nI nm)) (upd row 0 (nI k)))) hx hb hK hP hD hS 10 0 rfl rfl k rfl (by omega) (by decide) rfl rfl dX2_follow_15 (fun H locs hP hD hS => ?_)
  refine lv_iconst (v := 0) hx hb dX2_follow_16 (by decide) ?_
  refine lv_istore (lv' := [(4, .int 0), (3, .int 1), (0, .ref h), (1, .int (nI k)), (2, .int (nI nm))]) hx hb dX2_follow_17 hl (by decide) rfl (fun ls hl => ?_)
  have loop : ∀ (fu i : Nat), i + fu = 64 → ∀ (z : Ls) (lk : Nat → Int32) (f : Nat → Int32) (H : Heap) (locs : List Loc) (ls : Array Slot), (q_spread wat fu z = q_from wat sn k) → (q_ok z) → (q_row z.2 f) → (q_rel lk z.1) → va_P D vwCl (mW h ad cI thr hei wat dam wea dra peo rai num flo lk f) H → va_D A (mW h ad cI thr hei wat dam wea dra peo rai num flo lk f) → va_S A s.heap H locs → lv_has ls 7 [(0, .ref h), (1, .int (nI k)), (2, .int (nI nm)), (3, .int (nI z.2.length)), (4, .int (nI i))] → W p l e rm_X2_follow s m args below meth c H locs 0 0 Q (F0 m 19 ls []) := by
    intro fu
    induction fu with
    | zero =>
      intro i hi z lk f H locs ls hz hok hrow hrl hP hD hS hl
      obtain rfl : 64 = i := by omega
      refine lv_iload hx hb dX2_follow_19 (lv_at hl 4 rfl) ?_
      refine lv_iload_n hx hb dX2_follow_21 rfl (lv_at hl 3 rfl) ?_
      refine lv_icmp_ge (tgt := 108) hx hb dX2_follow_22 (by decide) (fun hc => ?_) (fun hc => ?_)
      · skip
        refine lv_iload_n hx hb dX2_follow_108 rfl (lv_at hl 3 rfl) ?_
        have hz : z = q_from wat sn k := hz
        rw [← hz] at fin
        exact fin (nI z.2.length) (lk, f) H locs 0 0 109 ls dX2_follow_109 ⟨rfl, hrl⟩ hP hD hS (Nat.le_of_ble_eq_true rfl) (Nat.le_of_ble_eq_true rfl)
      · skip
        exact absurd (nI_le (q_ok_len hok) (by decide)) hc
    | succ fu ih =>
      intro i hi z lk f H locs ls hz hok hrow hrl hP hD hS hl
      have hlt : i < 64 := by omega
      have hlen := q_ok_len hok
      refine lv_iload hx hb dX2_follow_19 (lv_at hl 4 rfl) ?_
      refine lv_iload_n hx hb dX2_follow_21 rfl (lv_at hl 3 rfl) ?_
      refine lv_icmp_ge (tgt := 108) hx hb dX2_follow_22 (by decide) (fun hc => ?_) (fun hc => ?_)
      · skip
        have h9 : z.2.length ≤ i := nb_ge hc (by omega) (by omega)
        refine lv_iload_n hx hb dX2_follow_108 rfl (lv_at hl 3 rfl) ?_
        rw [q_spread_stop hi h9] at hz
        rw [← hz] at fin
        exact fin (nI z.2.length) (lk, f) H locs 0 0 109 ls dX2_follow_109 ⟨rfl, hrl⟩ hP hD hS (Nat.le_of_ble_eq_true rfl) (Nat.le_of_ble_eq_true rfl)
      · skip
        have h9 : i < z.2.length := nb_lt hc (by omega)
        rw [q_spread_go hi h9] at hz
        have hkk : z.2.getD i 0 < 64 := q_ok_at hok h9
        generalize hkd : z.2.getD i 0 = kk at hz hkk
        refine lv_iconst (v := 0) hx hb dX2_follow_25 (by decide) ?_
        refine lv_istore (lv' := [(5, .int 0), (0, .ref h), (1, .int (nI k)), (2, .int (nI nm)), (3, .int (nI z.2.length)), (4, .int (nI i))]) hx hb dX2_follow_26 hl (by decide) rfl (fun ls hl => ?_)
        have loop2 : ∀ (fu sd : Nat), sd + fu = 4 → ∀ (y : Ls) (lk2 : Nat → Int32) (f2 : Nat → Int32) (H : Heap) (locs : List Loc) (ls : Array Slot), (y = q_sides wat kk sd z) → (q_row y.2 f2) → (q_rel lk2 y.1) → va_P D vwCl (mW h ad cI thr hei wat dam wea dra peo rai num flo lk2 f2) H → va_D A (mW h ad cI thr hei wat dam wea dra peo rai num flo lk2 f2) → va_S A s.heap H locs → lv_has ls 7 [(0, .ref h), (1, .int (nI k)), (2, .int (nI nm)), (3, .int (nI y.2.length)), (4, .int (nI i)), (5, .int (nI sd))] → W p l e rm_X2_follow s m args below meth c H locs 0 0 Q (F0 m 28 ls []) := by
          intro fu
          induction fu with
          | zero =>
            intro sd hi4 y lk2 f2 H locs ls hy hr2 hrl2 hP hD hS hl
            obtain rfl : 4 = sd := by omega
            refine lv_iload hx hb dX2_follow_28 (lv_at hl 5 rfl) ?_
            refine lv_iconst (v := 4) hx hb dX2_follow_30 (by decide) ?_
            refine lv_icmp_ge (tgt := 102) hx hb dX2_follow_31 (by decide) (fun hc3 => ?_) (fun hc3 => ?_)
            · skip
              refine lv_iinc (v := (nI (i + 1))) (lv' := [(4, .int (nI (i + 1))), (0, .ref h), (1, .int (nI k)), (2, .int (nI nm)), (3, .int (nI y.2.length)), (5, .int (nI 4))]) hx hb dX2_follow_102 hl (k := 4) rfl (nI_1 i) (by decide) rfl (fun ls hl => ?_)
              refine lv_goto (tgt := 19) hx hb dX2_follow_105 (by decide) ?_
              exact ih (i + 1) (by omega) y lk2 f2 H locs ls (by rw [hy]; exact hz) (by rw [hy]; exact q_ok_sides hkk hok 4) hr2 hrl2 hP hD hS (lv_sub hl [1, 2, 3, 4, 0] rfl)
            · skip
              exact absurd (show (4 : Int32) ≤ nI 4 by decide) hc3
          | succ fu ih =>
            intro sd hi4 y lk2 f2 H locs ls hy hr2 hrl2 hP hD hS hl
            have hl4 : sd < 4 := by omega
            refine lv_iload hx hb dX2_follow_28 (lv_at hl 5 rfl) ?_
            refine lv_iconst (v := 4) hx hb dX2_follow_30 (by decide) ?_
            refine lv_icmp_ge (tgt := 102) hx hb dX2_follow_31 (by decide) (fun hc3 => ?_) (fun hc3 => ?_)
            · skip
              exact absurd hc3 (nI_ge (b := 4) hl4 (by decide))
            · skip
              have hg := q_sides_get (wat := wat) (k := kk) h9 sd
              rw [← hy] at hg
              have hoky : q_ok y := by rw [hy]; exact q_ok_sides hkk hok sd
              have hleny := q_ok_len hoky
              refine lv_aload_n hx hb dX2_follow_34 rfl (lv_at hl 0 rfl) ?_
              refine va_get (D := D) (ci := 2) (v := .ref (ad 11)) (C := RX2) (T := TX2) (N := 12) hx hb hts (fun _ h9 => (List.mem_cons_of_mem _ (List.mem_append_right _ h9))) hown hK hP 0 rfl rfl 11 (by decide) (hts (Cond.fieldLink RX2 40 "FloodGridModel" "row" "[I") (List.mem_of_getElem? (i := 1) rfl)) (fun _ h9 => h9) rfl dX2_follow_35 ?_
              refine lv_iload hx hb dX2_follow_38 (lv_at hl 4 rfl) ?_
              refine ct_iald (v := (nI kk)) hx hb hK hP 11 0 rfl rfl i rfl (by omega) (by decide) (by rw [hr2 i hg.1, hg.2, hkd]) dX2_follow_40 ?_
              refine lv_iload hx hb dX2_follow_41 (lv_at hl 5 rfl) ?_
              refine ct_Si (As := [.int (nI kk), .int (nI sd)]) (rest := []) (wr := [(h, .inr (2, [.int thr, .ref (ad 1), .ref (ad 2), .ref (ad 3), .ref (ad 4), .ref (ad 5), .ref (ad 6), .ref (ad 7), .ref (ad 8), .ref (ad 9), .ref (ad 10), .ref (ad 11)])), ((ad 1), .inl (cI, 64, .inl hei)), ((ad 2), .inl (cI, 64, .inl wat)), ((ad 3), .inl (cI, 64, .inl dam)), ((ad 4), .inl (cI, 64, .inl wea)), ((ad 5), .inl (cI, 64, .inl dra)), ((ad 6), .inl (cI, 64, .inl peo)), ((ad 7), .inl (cI, 12, .inl rai)), ((ad 8), .inl (cI, 4, .inl num)), ((ad 9), .inl (cI, 64, .inl flo)), ((ad 10), .inl (cI, 64, .inl lk2)), ((ad 11), .inl (cI, 64, .inl f2))]) (W1 := fun u => (mW h ad cI thr hei wat dam wea dra peo rai num flo lk2 f2)) (cells1 := 0) (slots1 := 0) ⟨hx, hb, hml, hown, hts⟩ (c_beside l D cI kk sd hkk hl4) (va_cwS 2 hts gX2_follow_X2_beside rfl rfl rfl (by decide +kernel) ⟨Nat.le_of_ble_eq_true rfl, Nat.le_of_ble_eq_true rfl⟩) hK hP hD hS hA [] [0, 1, 2, 3, 4, 5, 6, 7, 8, 9, 10, 11] ⟨rfl, rfl, rfl, rfl, rfl⟩ [0, 1, 2, 3, 4, 5, 6, 7, 8, 9, 10, 11] rfl (fun _ => rfl) [0] rfl rfl hl.1 rfl (Nat.le_of_ble_eq_true rfl) rfl rfl ⟨(Nat.le_of_ble_eq_true rfl), (Nat.le_of_ble_eq_true rfl)⟩ dX2_follow_43 (fun r u H locs hw hP hD hS => ?_)
              subst hw
              refine lv_istore (lv' := [(6, .int (q_v (q_nb kk sd))), (0, .ref h), (1, .int (nI k)), (2, .int (nI nm)), (3, .int (nI y.2.length)), (4, .int (nI i)), (5, .int (nI sd))]) hx hb dX2_follow_46 hl (by decide) rfl (fun ls hl => ?_)
              have hnext : q_sides wat kk (sd + 1) z = q_meet wat (q_nb kk sd) y := by rw [hy]; rfl
              cases ho : q_nb kk sd with
              | none =>
                rw [ho] at hl
                have hl : lv_has ls 7 [(6, .int (-1)), (0, .ref h), (1, .int (nI k)), (2, .int (nI nm)), (3, .int (nI y.2.length)), (4, .int (nI i)), (5, .int (nI sd))] := hl
                refine lv_iload hx hb dX2_follow_48 (lv_at hl 0 rfl) ?_
                refine lv_iconst (v := (-1)) hx hb dX2_follow_50 (by decide) ?_
                refine lv_icmp_eq (tgt := 96) hx hb dX2_follow_51 (by decide) (fun hc4 => ?_) (fun hc4 => ?_)
                · skip
                  refine lv_iinc (v := (nI (sd + 1))) (lv' := [(5, .int (nI (sd + 1))), (6, .int (-1)), (0, .ref h), (1, .int (nI k)), (2, .int (nI nm)), (3, .int (nI y.2.length)), (4, .int (nI i))]) hx hb dX2_follow_96 hl (k := 6) rfl (nI_1 sd) (by decide) rfl (fun ls hl => ?_)
                  refine lv_goto (tgt := 28) hx hb dX2_follow_99 (by decide) ?_
                  exact ih (sd + 1) (by omega) y lk2 f2 H locs ls (by rw [hnext, ho]; rfl) hr2 hrl2 hP hD hS (lv_sub hl [2, 3, 4, 5, 6, 0] rfl)
                · skip
                  exact absurd rfl hc4
              | some j =>
                rw [ho] at hl
                have hj : j < 64 := q_nb_lt hkk ho
                have hl : lv_has ls 7 [(6, .int (nI j)), (0, .ref h), (1, .int (nI k)), (2, .int (nI nm)), (3, .int (nI y.2.length)), (4, .int (nI i)), (5, .int (nI sd))] := hl
                refine lv_iload hx hb dX2_follow_48 (lv_at hl 0 rfl) ?_
                refine lv_iconst (v := (-1)) hx hb dX2_follow_50 (by decide) ?_
                refine lv_icmp_eq (tgt := 96) hx hb dX2_follow_51 (by decide) (fun hc4 => ?_) (fun hc4 => ?_)
                · skip
                  exact absurd hc4 (ne_m1 hj)
                · skip
                  refine lv_aload_n hx hb dX2_follow_54 rfl (lv_at hl 1 rfl) ?_
                  refine va_get (D := D) (ci := 2) (v := .ref (ad 2)) (C := RX2) (T := TX2) (N := 12) hx hb hts (fun _ h9 => (List.mem_cons_of_mem _ (List.mem_append_right _ h9))) hown hK hP 0 rfl rfl 2 (by decide) (hts (Cond.fieldLink RX2 13 "FloodGridModel" "water" "[I") (List.mem_of_getElem? (i := 3) rfl)) (fun _ h9 => h9) rfl dX2_follow_55 ?_
                  refine lv_iload hx hb dX2_follow_58 (lv_at hl 0 rfl) ?_
                  refine ct_iald (v := wat j) hx hb hK hP 2 0 rfl rfl j rfl (by omega) (by decide) rfl dX2_follow_60 ?_
                  refine lv_if_eq (tgt := 96) hx hb dX2_follow_61 (by decide) (fun hc5 => ?_) (fun hc5 => ?_)
                  · skip
                    refine lv_iinc (v := (nI (sd + 1))) (lv' := [(5, .int (nI (sd + 1))), (6, .int (nI j)), (0, .ref h), (1, .int (nI k)), (2, .int (nI nm)), (3, .int (nI y.2.length)), (4, .int (nI i))]) hx hb dX2_follow_96 hl (k := 6) rfl (nI_1 sd) (by decide) rfl (fun ls hl => ?_)
                    refine lv_goto (tgt := 28) hx hb dX2_follow_99 (by decide) ?_
                    exact ih (sd + 1) (by omega) y lk2 f2 H locs ls (by rw [hnext, ho]; exact (q_meet_no (fun z9 => npos0 hc5 z9.2)).symm) hr2 hrl2 hP hD hS (lv_sub hl [2, 3, 4, 5, 6, 0] rfl)
                  · skip
                    refine lv_aload_n hx hb dX2_follow_64 rfl (lv_at hl 1 rfl) ?_
                    refine va_get (D := D) (ci := 2) (v := .ref (ad 10)) (C := RX2) (T := TX2) (N := 12) hx hb hts (fun _ h9 => (List.mem_cons_of_mem _ (List.mem_append_right _ h9))) hown hK hP 0 rfl rfl 10 (by decide) (hts (Cond.fieldLink RX2 37 "FloodGridModel" "lake" "[I") (List.mem_of_getElem? (i := 2) rfl)) (fun _ h9 => h9) rfl dX2_follow_65 ?_
                    refine lv_iload hx hb dX2_follow_68 (lv_at hl 0 rfl) ?_
                    refine ct_iald (v := lk2 j) hx hb hK hP 10 0 rfl rfl j rfl (by omega) (by decide) rfl dX2_follow_70 ?_
                    refine lv_if_eq (tgt := 77) hx hb dX2_follow_71 (by decide) (fun hc6 => ?_) (fun hc6 => ?_)
                    · skip
                      have hun : y.1 j = false := (hrl2 j).mp hc6
                      have hl64 : y.2.length < 64 := by
                        rcases Nat.lt_or_ge y.2.length 64 with q | q
                        · exact q
                        · rw [q_ok_full hoky q hj] at hun; exact absurd hun (by decide)
                      have hyes : q_meet wat (some j) y = (q_mark y.1 j, y.2 ++ [j]) := q_meet_yes ⟨hun, pos_of (hw0 j hj) hc5⟩
                      refine lv_aload_n hx hb dX2_follow_77 rfl (lv_at hl 1 rfl) ?_
                      refine va_get (D := D) (ci := 2) (v := .ref (ad 10)) (C := RX2) (T := TX2) (N := 12) hx hb hts (fun _ h9 => (List.mem_cons_of_mem _ (List.mem_append_right _ h9))) hown hK hP 0 rfl rfl 10 (by decide) (hts (Cond.fieldLink RX2 37 "FloodGridModel" "lake" "[I") (List.mem_of_getElem? (i := 2) rfl)) (fun _ h9 => h9) rfl dX2_follow_78 ?_
                      refine lv_iload hx hb dX2_follow_81 (lv_at hl 0 rfl) ?_
                      refine lv_iload_n hx hb dX2_follow_83 rfl (lv_at hl 3 rfl) ?_
                      refine ct_iast (g := upd lk2 j (nI nm)) (ws1 := (mW h ad cI thr hei wat dam wea dra peo rai num flo (upd lk2 j (nI nm)) f2)) hx hb hK hP hD hS 10 0 rfl rfl j rfl (by omega) (by decide) rfl rfl dX2_follow_84 (fun H locs hP hD hS => ?_)
                      refine lv_aload_n hx hb dX2_follow_85 rfl (lv_at hl 1 rfl) ?_
                      refine va_get (D := D) (ci := 2) (v := .ref (ad 11)) (C := RX2) (T := TX2) (N := 12) hx hb hts (fun _ h9 => (List.mem_cons_of_mem _ (List.mem_append_right _ h9))) hown hK hP 0 rfl rfl 11 (by decide) (hts (Cond.fieldLink RX2 40 "FloodGridModel" "row" "[I") (List.mem_of_getElem? (i := 1) rfl)) (fun _ h9 => h9) rfl dX2_follow_86 ?_
                      refine lv_iload_n hx hb dX2_follow_89 rfl (lv_at hl 4 rfl) ?_
                      refine lv_iload hx hb dX2_follow_90 (lv_at hl 0 rfl) ?_
                      refine ct_iast (g := upd f2 y.2.length (nI j)) (ws1 := (mW h ad cI thr hei wat dam wea dra peo rai num flo (upd lk2 j (nI nm)) (upd f2 y.2.length (nI j)))) hx hb hK hP hD hS 11 0 rfl rfl y.2.length rfl (by omega) (by decide) rfl rfl dX2_follow_92 (fun H locs hP hD hS => ?_)
                      refine lv_iinc (v := (nI (y.2 ++ [j]).length)) (lv' := [(3, .int (nI (y.2 ++ [j]).length)), (6, .int (nI j)), (0, .ref h), (1, .int (nI k)), (2, .int (nI nm)), (4, .int (nI i)), (5, .int (nI sd))]) hx hb dX2_follow_93 hl (k := 4) rfl (by rw [List.length_append]; exact nI_1 _) (by decide) rfl (fun ls hl => ?_)
                      refine lv_iinc (v := (nI (sd + 1))) (lv' := [(5, .int (nI (sd + 1))), (3, .int (nI (y.2 ++ [j]).length)), (6, .int (nI j)), (0, .ref h), (1, .int (nI k)), (2, .int (nI nm)), (4, .int (nI i))]) hx hb dX2_follow_96 hl (k := 6) rfl (nI_1 sd) (by decide) rfl (fun ls hl => ?_)
                      refine lv_goto (tgt := 28) hx hb dX2_follow_99 (by decide) ?_
                      exact ih (sd + 1) (by omega) (q_mark y.1 j, y.2 ++ [j]) (upd lk2 j (nI nm)) (upd f2 y.2.length (nI j)) H locs ls (by rw [hnext, ho, hyes]) (q_row_push hr2 j) (q_rel_mark hrl2 j hne) hP hD hS (lv_sub hl [3, 4, 5, 1, 6, 0] rfl)
                    · skip
                      refine lv_goto (tgt := 96) hx hb dX2_follow_74 (by decide) ?_
                      refine lv_iinc (v := (nI (sd + 1))) (lv' := [(5, .int (nI (sd + 1))), (6, .int (nI j)), (0, .ref h), (1, .int (nI k)), (2, .int (nI nm)), (3, .int (nI y.2.length)), (4, .int (nI i))]) hx hb dX2_follow_96 hl (k := 6) rfl (nI_1 sd) (by decide) rfl (fun ls hl => ?_)
                      refine lv_goto (tgt := 28) hx hb dX2_follow_99 (by decide) ?_
                      exact ih (sd + 1) (by omega) y lk2 f2 H locs ls (by rw [hnext, ho]; exact (q_meet_no (fun z9 => hc6 ((hrl2 j).mpr z9.1))).symm) hr2 hrl2 hP hD hS (lv_sub hl [2, 3, 4, 5, 6, 0] rfl)
        exact loop2 4 0 (by omega) z lk f H locs ls rfl hrow hrl hP hD hS (lv_sub hl [1, 2, 3, 4, 5, 0] rfl)
  exact loop 64 0 (by omega) ((q_mark sn k, [k]) : Ls) (upd lak k (nI nm)) (upd row 0 (nI k)) H locs ls (q_from_yes hst0).symm (by have := q_ok_meet (wat := wat) (o := some k) (fun j hj => by cases hj; exact hk) (q_ok_0 sn); rwa [q_meet_yes (z := (sn, [])) hst0] at this) (q_row_push (q_row_0 row) k) (q_rel_mark hrel k hne) hP hD hS (lv_sub hl [2, 3, 4, 1, 0] rfl)
abbrev rm_X2_lakes : Room := { frames := 2, cells := 0, slots := 0, locals := 47 }
set_option maxHeartbeats 4000000 in
set_option maxRecDepth 100000 in
theorem c_X2_lakes (l : Launch) (D : va_G) (cI : ClassId) (h : Nat) (ad : Nat → Nat) (thr : Int32) (hei wat dam wea dra peo rai num flo lak row : Nat → Int32) (hw0 : ∀ c, c < 64 → 0 ≤ wat c) : ct_i (S := (Nat → Int32) × (Nat → Int32)) l D yX2_lakes wsX2_lakes rm_X2_lakes [.ref h] (mW h ad cI thr hei wat dam wea dra peo rai num flo lak row) [(cI, .int)] (fun r _ => r = q_lakes wat) (fun u => (mW h ad cI thr hei wat dam wea dra peo rai num flo u.1 u.2)) := by
  refine ct_ofi (cc := cX2_lakes) (maxL := 3) (by decide) rfl (Nat.le_of_ble_eq_true rfl) ?_
  intro p e s m args below meth c A Q hx hb hml hown hts hin hA hK H locs hP hD hS fin ls hl
  have hown : s.vm.findClass RX2 = some m.cls := hown
  have hl : lv_has ls 3 [(0, .ref h)] := hl
  refine lv_iconst (v := 0) hx hb dX2_lakes_0 (by decide) ?_
  refine lv_istore_n (lv' := [(1, .int 0), (0, .ref h)]) hx hb dX2_lakes_1 rfl hl (by decide) rfl (fun ls hl => ?_)
  refine lv_iconst (v := 0) hx hb dX2_lakes_2 (by decide) ?_
  refine lv_istore_n (lv' := [(2, .int 0), (1, .int 0), (0, .ref h)]) hx hb dX2_lakes_3 rfl hl (by decide) rfl (fun ls hl => ?_)
  have loop : ∀ (fu i : Nat), i + fu = 64 → ∀ (g : Nat → Int32) (H : Heap) (locs : List Loc) (ls : Array Slot), (g = q_mix i (fun _ => 0) lak) → va_P D vwCl (mW h ad cI thr hei wat dam wea dra peo rai num flo g row) H → va_D A (mW h ad cI thr hei wat dam wea dra peo rai num flo g row) → va_S A s.heap H locs → lv_has ls 3 [(0, .ref h), (1, .int 0), (2, .int (nI i))] → W p l e rm_X2_lakes s m args below meth c H locs 0 0 Q (F0 m 4 ls []) := by
    intro fu
    induction fu with
    | zero =>
      intro i hi g H locs ls hg hP hD hS hl
      obtain rfl : 64 = i := by omega
      refine lv_iload_n hx hb dX2_lakes_4 rfl (lv_at hl 2 rfl) ?_
      refine lv_bipush (v := 64) hx hb dX2_lakes_5 (by decide) ?_
      refine lv_icmp_ge (tgt := 23) hx hb dX2_lakes_7 (by decide) (fun hc => ?_) (fun hc => ?_)
      · skip
        obtain ⟨hP, hD⟩ := ct_ext hP hD 10 rfl (fun _ => 0) (fun j hj => by rw [hg]; exact q_mix_lt hj) (ws1 := (mW h ad cI thr hei wat dam wea dra peo rai num flo (fun _ => 0) row)) rfl
        refine lv_iconst (v := 0) hx hb dX2_lakes_23 (by decide) ?_
        refine lv_istore_n (lv' := [(2, .int 0), (0, .ref h), (1, .int 0)]) hx hb dX2_lakes_24 rfl hl (by decide) rfl (fun ls hl => ?_)
        have loop2 : ∀ (fu i : Nat), i + fu = 64 → ∀ (y : (Nat → Bool) × Nat) (lk : Nat → Int32) (f : Nat → Int32) (H : Heap) (locs : List Loc) (ls : Array Slot), (y = q_lakesS wat i) → (q_rel lk y.1) → va_P D vwCl (mW h ad cI thr hei wat dam wea dra peo rai num flo lk f) H → va_D A (mW h ad cI thr hei wat dam wea dra peo rai num flo lk f) → va_S A s.heap H locs → lv_has ls 3 [(0, .ref h), (1, .int (nI y.2)), (2, .int (nI i))] → W p l e rm_X2_lakes s m args below meth c H locs 0 0 Q (F0 m 25 ls []) := by
          intro fu
          induction fu with
          | zero =>
            intro i hi y lk f H locs ls hy hrl hP hD hS hl
            obtain rfl : 64 = i := by omega
            refine lv_iload_n hx hb dX2_lakes_25 rfl (lv_at hl 2 rfl) ?_
            refine lv_bipush (v := 64) hx hb dX2_lakes_26 (by decide) ?_
            refine lv_icmp_ge (tgt := 68) hx hb dX2_lakes_28 (by decide) (fun hc => ?_) (fun hc => ?_)
            · skip
              refine lv_iload_n hx hb dX2_lakes_68 rfl (lv_at hl 1 rfl) ?_
              exact fin (nI y.2) (lk, f) H locs 0 0 69 ls dX2_lakes_69 (by rw [hy]; exact q_lakes_eq wat) hP hD hS (Nat.le_of_ble_eq_true rfl) (Nat.le_of_ble_eq_true rfl)
            · skip
              exact absurd (show (64 : Int32) ≤ nI 64 by decide) hc
          | succ fu ih =>
            intro i hi y lk f H locs ls hy hrl hP hD hS hl
            have hlt : i < 64 := by omega
            refine lv_iload_n hx hb dX2_lakes_25 rfl (lv_at hl 2 rfl) ?_
            refine lv_bipush (v := 64) hx hb dX2_lakes_26 (by decide) ?_
            refine lv_icmp_ge (tgt := 68) hx hb dX2_lakes_28 (by decide) (fun hc => ?_) (fun hc => ?_)
            · skip
              exact absurd hc (nI_ge (b := 64) hlt (by decide))
            · skip
              have hy2 : y.2 ≤ i := by rw [hy]; exact q_lakesS_le wat i
              refine lv_aload_n hx hb dX2_lakes_31 rfl (lv_at hl 0 rfl) ?_
              refine va_get (D := D) (ci := 2) (v := .ref (ad 2)) (C := RX2) (T := TX2) (N := 12) hx hb hts (fun _ h9 => (List.mem_cons_of_mem _ (List.mem_append_right _ h9))) hown hK hP 0 rfl rfl 2 (by decide) (hts (Cond.fieldLink RX2 13 "FloodGridModel" "water" "[I") (List.mem_of_getElem? (i := 2) rfl)) (fun _ h9 => h9) rfl dX2_lakes_32 ?_
              refine lv_iload_n hx hb dX2_lakes_35 rfl (lv_at hl 2 rfl) ?_
              refine ct_iald (v := wat i) hx hb hK hP 2 0 rfl rfl i rfl (by omega) (by decide) rfl dX2_lakes_36 ?_
              refine lv_if_eq (tgt := 62) hx hb dX2_lakes_37 (by decide) (fun hc2 => ?_) (fun hc2 => ?_)
              · skip
                refine lv_iinc (v := (nI (i + 1))) (lv' := [(2, .int (nI (i + 1))), (0, .ref h), (1, .int (nI y.2))]) hx hb dX2_lakes_62 hl (k := 2) rfl (nI_1 i) (by decide) rfl (fun ls hl => ?_)
                refine lv_goto (tgt := 25) hx hb dX2_lakes_65 (by decide) ?_
                exact ih (i + 1) (by omega) y lk f H locs ls (by simp only [q_lakesS]; rw [← hy, q_from_no (fun z9 => npos0 hc2 z9.2)]; rfl) hrl hP hD hS (lv_sub hl [1, 2, 0] rfl)
              · skip
                refine lv_aload_n hx hb dX2_lakes_40 rfl (lv_at hl 0 rfl) ?_
                refine va_get (D := D) (ci := 2) (v := .ref (ad 10)) (C := RX2) (T := TX2) (N := 12) hx hb hts (fun _ h9 => (List.mem_cons_of_mem _ (List.mem_append_right _ h9))) hown hK hP 0 rfl rfl 10 (by decide) (hts (Cond.fieldLink RX2 37 "FloodGridModel" "lake" "[I") (List.mem_of_getElem? (i := 1) rfl)) (fun _ h9 => h9) rfl dX2_lakes_41 ?_
                refine lv_iload_n hx hb dX2_lakes_44 rfl (lv_at hl 2 rfl) ?_
                refine ct_iald (v := lk i) hx hb hK hP 10 0 rfl rfl i rfl (by omega) (by decide) rfl dX2_lakes_45 ?_
                refine lv_if_eq (tgt := 52) hx hb dX2_lakes_46 (by decide) (fun hc3 => ?_) (fun hc3 => ?_)
                · skip
                  have hst9 : y.1 i = false ∧ 0 < wat i := ⟨(hrl i).mp hc3, pos_of (hw0 i hlt) hc2⟩
                  refine lv_iinc (v := (nI (y.2 + 1))) (lv' := [(1, .int (nI (y.2 + 1))), (0, .ref h), (2, .int (nI i))]) hx hb dX2_lakes_52 hl (k := 1) rfl (nI_1 y.2) (by decide) rfl (fun ls hl => ?_)
                  refine lv_aload_n hx hb dX2_lakes_55 rfl (lv_at hl 1 rfl) ?_
                  refine lv_iload_n hx hb dX2_lakes_56 rfl (lv_at hl 2 rfl) ?_
                  refine lv_iload_n hx hb dX2_lakes_57 rfl (lv_at hl 0 rfl) ?_
                  refine ct_Vi (As := [.int (nI i), .int (nI (y.2 + 1))]) (rest := []) (wr := []) (W1 := fun u => (mW h ad cI thr hei wat dam wea dra peo rai num flo u.1 u.2)) (cells1 := 0) (slots1 := 0) ⟨hx, hb, hml, hown, hts⟩ (c_X2_follow l D cI h ad thr hei wat dam wea dra peo rai num flo lk f y.1 i (y.2 + 1) hlt ⟨Nat.succ_pos _, by omega⟩ hrl hst9 hw0) (cwV 2 hts gX2_lakes_X2_follow rfl rfl rfl (by decide +kernel) ⟨Nat.le_of_ble_eq_true rfl, Nat.le_of_ble_eq_true rfl⟩) hK hP hD hS hA [0, 1, 2, 3, 4, 5, 6, 7, 8, 9, 10, 11] [] ⟨rfl, rfl, rfl, rfl, rfl⟩ [0, 1, 2, 3, 4, 5, 6, 7, 8, 9, 10, 11] rfl (fun _ => rfl) [0] rfl (va_recv hK hP (ci := 2) (q0 := 0) rfl rfl) rfl hl.1 rfl (Nat.le_of_ble_eq_true rfl) rfl rfl ⟨(Nat.le_of_ble_eq_true rfl), (Nat.le_of_ble_eq_true rfl)⟩ dX2_lakes_58 (fun r u H locs hw hP hD hS => ?_)
                  refine lv_pop hx hb dX2_lakes_61 rfl ?_
                  refine lv_iinc (v := (nI (i + 1))) (lv' := [(2, .int (nI (i + 1))), (1, .int (nI (y.2 + 1))), (0, .ref h)]) hx hb dX2_lakes_62 hl (k := 2) rfl (nI_1 i) (by decide) rfl (fun ls hl => ?_)
                  refine lv_goto (tgt := 25) hx hb dX2_lakes_65 (by decide) ?_
                  exact ih (i + 1) (by omega) ((q_from wat y.1 i).1, y.2 + 1) u.1 u.2 H locs ls (by simp only [q_lakesS]; rw [← hy, if_pos (q_from_pos hst9)]) hw.2 hP hD hS (lv_sub hl [2, 1, 0] rfl)
                · skip
                  refine lv_goto (tgt := 62) hx hb dX2_lakes_49 (by decide) ?_
                  refine lv_iinc (v := (nI (i + 1))) (lv' := [(2, .int (nI (i + 1))), (0, .ref h), (1, .int (nI y.2))]) hx hb dX2_lakes_62 hl (k := 2) rfl (nI_1 i) (by decide) rfl (fun ls hl => ?_)
                  refine lv_goto (tgt := 25) hx hb dX2_lakes_65 (by decide) ?_
                  exact ih (i + 1) (by omega) y lk f H locs ls (by simp only [q_lakesS]; rw [← hy, q_from_no (fun z9 => hc3 ((hrl i).mpr z9.1))]; rfl) hrl hP hD hS (lv_sub hl [1, 2, 0] rfl)
        exact loop2 64 0 (by omega) ((fun _ => false), 0) (fun _ => 0) row H locs ls rfl q_rel_0 hP hD hS (lv_sub hl [1, 2, 0] rfl)
      · skip
        exact absurd (show (64 : Int32) ≤ nI 64 by decide) hc
    | succ fu ih =>
      intro i hi g H locs ls hg hP hD hS hl
      have hlt : i < 64 := by omega
      refine lv_iload_n hx hb dX2_lakes_4 rfl (lv_at hl 2 rfl) ?_
      refine lv_bipush (v := 64) hx hb dX2_lakes_5 (by decide) ?_
      refine lv_icmp_ge (tgt := 23) hx hb dX2_lakes_7 (by decide) (fun hc => ?_) (fun hc => ?_)
      · skip
        exact absurd hc (nI_ge (b := 64) hlt (by decide))
      · skip
        refine lv_aload_n hx hb dX2_lakes_10 rfl (lv_at hl 0 rfl) ?_
        refine va_get (D := D) (ci := 2) (v := .ref (ad 10)) (C := RX2) (T := TX2) (N := 12) hx hb hts (fun _ h9 => (List.mem_cons_of_mem _ (List.mem_append_right _ h9))) hown hK hP 0 rfl rfl 10 (by decide) (hts (Cond.fieldLink RX2 37 "FloodGridModel" "lake" "[I") (List.mem_of_getElem? (i := 1) rfl)) (fun _ h9 => h9) rfl dX2_lakes_11 ?_
        refine lv_iload_n hx hb dX2_lakes_14 rfl (lv_at hl 2 rfl) ?_
        refine lv_iconst (v := 0) hx hb dX2_lakes_15 (by decide) ?_
        refine ct_iast (g := upd g i 0) (ws1 := (mW h ad cI thr hei wat dam wea dra peo rai num flo (upd g i 0) row)) hx hb hK hP hD hS 10 0 rfl rfl i rfl (by omega) (by decide) rfl rfl dX2_lakes_16 (fun H locs hP hD hS => ?_)
        refine lv_iinc (v := (nI (i + 1))) (lv' := [(2, .int (nI (i + 1))), (0, .ref h), (1, .int 0)]) hx hb dX2_lakes_17 hl (k := 2) rfl (nI_1 i) (by decide) rfl (fun ls hl => ?_)
        refine lv_goto (tgt := 4) hx hb dX2_lakes_20 (by decide) ?_
        exact ih (i + 1) (by omega) (upd g i 0) H locs ls (by rw [hg]; exact q_mix_up rfl) hP hD hS (lv_sub hl [1, 2, 0] rfl)
  exact loop 64 0 (by omega) lak H locs ls (q_mix_0 _ _).symm hP hD hS (lv_sub hl [2, 1, 0] rfl)
abbrev rm_X2_counted : Room := { frames := 3, cells := 0, slots := 0, locals := 69 }
set_option maxHeartbeats 4000000 in
set_option maxRecDepth 100000 in
theorem c_X2_counted (l : Launch) (D : va_G) (cI : ClassId) (h : Nat) (ad : Nat → Nat) (thr : Int32) (hei dra rai : Nat → Int32) (σ : Ms) (flo lak row : Nat → Int32) (hw0 : ∀ c, c < 64 → 0 ≤ m_wat σ c) (wh : Nat) (hwh : wh < 9) : ct_i (S := (Nat → Int32) × (Nat → Int32)) l D yX2_counted wsX2_counted rm_X2_counted [.ref h, .int (nI wh)] (mM h ad cI thr hei dra rai σ flo lak row) [(cI, .int)] (fun r _ => r = q_tally σ wh) (fun u => (mM h ad cI thr hei dra rai σ flo u.1 u.2)) := by
  refine ct_ofi (cc := cX2_counted) (maxL := 2) (by decide) rfl (Nat.le_of_ble_eq_true rfl) ?_
  intro p e s m args below meth c A Q hx hb hml hown hts hin hA hK H locs hP hD hS fin ls hl
  have hown : s.vm.findClass RX2 = some m.cls := hown
  have hl : lv_has ls 2 [(0, .ref h), (1, .int (nI wh))] := hl
  refine lv_iload_n hx hb dX2_counted_0 rfl (lv_at hl 1 rfl) ?_
  rcases (show wh = 0 ∨ wh = 1 ∨ wh = 2 ∨ wh = 3 ∨ wh = 4 ∨ wh = 5 ∨ wh = 6 ∨ wh = 7 ∨ wh = 8 by omega) with rfl | rfl | rfl | rfl | rfl | rfl | rfl | rfl | rfl
  · skip
    refine lv_tableIn (tgt := 48) hx hb dX2_counted_1 (by decide) (by decide) rfl (by decide) ?_
    refine lv_aload_n hx hb dX2_counted_48 rfl (lv_at hl 0 rfl) ?_
    refine va_get (D := D) (ci := 2) (v := .ref (ad 8)) (C := RX2) (T := TX2) (N := 12) hx hb hts (fun _ h9 => (List.mem_cons_of_mem _ (List.mem_append_right _ h9))) hown hK hP 0 rfl rfl 8 (by decide) (hts (Cond.fieldLink RX2 31 "FloodGridModel" "numbers" "[I") (List.mem_of_getElem? (i := 1) rfl)) (fun _ h9 => h9) rfl dX2_counted_49 ?_
    refine lv_iconst (v := 0) hx hb dX2_counted_52 (by decide) ?_
    refine ct_iald (v := (nI (m_t σ))) hx hb hK hP 8 0 rfl rfl 0 rfl (by decide) (by decide) rfl dX2_counted_53 ?_
    exact fin (nI (m_t σ)) (lak, row) H locs 0 0 54 ls dX2_counted_54 rfl hP hD hS (Nat.le_of_ble_eq_true rfl) (Nat.le_of_ble_eq_true rfl)
  · skip
    refine lv_tableIn (tgt := 55) hx hb dX2_counted_1 (by decide) (by decide) rfl (by decide) ?_
    refine lv_aload_n hx hb dX2_counted_55 rfl (lv_at hl 0 rfl) ?_
    refine va_get (D := D) (ci := 2) (v := .ref (ad 2)) (C := RX2) (T := TX2) (N := 12) hx hb hts (fun _ h9 => (List.mem_cons_of_mem _ (List.mem_append_right _ h9))) hown hK hP 0 rfl rfl 2 (by decide) (hts (Cond.fieldLink RX2 13 "FloodGridModel" "water" "[I") (List.mem_of_getElem? (i := 2) rfl)) (fun _ h9 => h9) rfl dX2_counted_56 ?_
    refine ct_Si (As := [.ref (ad 2)]) (rest := []) (wr := [(h, .inr (2, [.int thr, .ref (ad 1), .ref (ad 2), .ref (ad 3), .ref (ad 4), .ref (ad 5), .ref (ad 6), .ref (ad 7), .ref (ad 8), .ref (ad 9), .ref (ad 10), .ref (ad 11)])), ((ad 1), .inl (cI, 64, .inl hei)), ((ad 3), .inl (cI, 64, .inl (m_dam σ))), ((ad 4), .inl (cI, 64, .inl (m_wea σ))), ((ad 5), .inl (cI, 64, .inl dra)), ((ad 6), .inl (cI, 64, .inl (m_peo σ))), ((ad 7), .inl (cI, 12, .inl rai)), ((ad 8), .inl (cI, 4, .inl (q_num (nI (m_t σ)) (m_bro σ) (m_drd σ) (m_lef σ)))), ((ad 9), .inl (cI, 64, .inl flo)), ((ad 10), .inl (cI, 64, .inl lak)), ((ad 11), .inl (cI, 64, .inl row))]) (W1 := fun u => (mM h ad cI thr hei dra rai σ flo lak row)) (cells1 := 0) (slots1 := 0) ⟨hx, hb, hml, hown, hts⟩ (c_X2_sum l D cI (ad 2) 64 (by decide) (m_wat σ)) (va_cwS 1 hts gX2_counted_X2_sum rfl rfl rfl (by decide +kernel) ⟨Nat.le_of_ble_eq_true rfl, Nat.le_of_ble_eq_true rfl⟩) hK hP hD hS hA [2] [0, 1, 3, 4, 5, 6, 7, 8, 9, 10, 11] ⟨rfl, rfl, rfl, rfl, rfl⟩ [0, 1, 11, 2, 3, 4, 5, 6, 7, 8, 9, 10] rfl (fun _ => rfl) [0] rfl rfl hl.1 rfl (Nat.le_of_ble_eq_true rfl) rfl rfl ⟨(Nat.le_of_ble_eq_true rfl), (Nat.le_of_ble_eq_true rfl)⟩ dX2_counted_59 (fun r u H locs hw hP hD hS => ?_)
    exact fin r (lak, row) H locs 0 0 62 ls dX2_counted_62 hw hP hD hS (Nat.le_of_ble_eq_true rfl) (Nat.le_of_ble_eq_true rfl)
  · skip
    refine lv_tableIn (tgt := 63) hx hb dX2_counted_1 (by decide) (by decide) rfl (by decide) ?_
    refine lv_aload_n hx hb dX2_counted_63 rfl (lv_at hl 0 rfl) ?_
    refine va_get (D := D) (ci := 2) (v := .ref (ad 2)) (C := RX2) (T := TX2) (N := 12) hx hb hts (fun _ h9 => (List.mem_cons_of_mem _ (List.mem_append_right _ h9))) hown hK hP 0 rfl rfl 2 (by decide) (hts (Cond.fieldLink RX2 13 "FloodGridModel" "water" "[I") (List.mem_of_getElem? (i := 2) rfl)) (fun _ h9 => h9) rfl dX2_counted_64 ?_
    refine ct_Si (As := [.ref (ad 2)]) (rest := []) (wr := [(h, .inr (2, [.int thr, .ref (ad 1), .ref (ad 2), .ref (ad 3), .ref (ad 4), .ref (ad 5), .ref (ad 6), .ref (ad 7), .ref (ad 8), .ref (ad 9), .ref (ad 10), .ref (ad 11)])), ((ad 1), .inl (cI, 64, .inl hei)), ((ad 3), .inl (cI, 64, .inl (m_dam σ))), ((ad 4), .inl (cI, 64, .inl (m_wea σ))), ((ad 5), .inl (cI, 64, .inl dra)), ((ad 6), .inl (cI, 64, .inl (m_peo σ))), ((ad 7), .inl (cI, 12, .inl rai)), ((ad 8), .inl (cI, 4, .inl (q_num (nI (m_t σ)) (m_bro σ) (m_drd σ) (m_lef σ)))), ((ad 9), .inl (cI, 64, .inl flo)), ((ad 10), .inl (cI, 64, .inl lak)), ((ad 11), .inl (cI, 64, .inl row))]) (W1 := fun u => (mM h ad cI thr hei dra rai σ flo lak row)) (cells1 := 0) (slots1 := 0) ⟨hx, hb, hml, hown, hts⟩ (c_X2_some l D cI (ad 2) 64 (by decide) (m_wat σ)) (va_cwS 1 hts gX2_counted_X2_some rfl rfl rfl (by decide +kernel) ⟨Nat.le_of_ble_eq_true rfl, Nat.le_of_ble_eq_true rfl⟩) hK hP hD hS hA [2] [0, 1, 3, 4, 5, 6, 7, 8, 9, 10, 11] ⟨rfl, rfl, rfl, rfl, rfl⟩ [0, 1, 11, 2, 3, 4, 5, 6, 7, 8, 9, 10] rfl (fun _ => rfl) [0] rfl rfl hl.1 rfl (Nat.le_of_ble_eq_true rfl) rfl rfl ⟨(Nat.le_of_ble_eq_true rfl), (Nat.le_of_ble_eq_true rfl)⟩ dX2_counted_67 (fun r u H locs hw hP hD hS => ?_)
    exact fin r (lak, row) H locs 0 0 70 ls dX2_counted_70 hw hP hD hS (Nat.le_of_ble_eq_true rfl) (Nat.le_of_ble_eq_true rfl)
  · skip
    refine lv_tableIn (tgt := 71) hx hb dX2_counted_1 (by decide) (by decide) rfl (by decide) ?_
    refine lv_aload_n hx hb dX2_counted_71 rfl (lv_at hl 0 rfl) ?_
    refine va_get (D := D) (ci := 2) (v := .ref (ad 3)) (C := RX2) (T := TX2) (N := 12) hx hb hts (fun _ h9 => (List.mem_cons_of_mem _ (List.mem_append_right _ h9))) hown hK hP 0 rfl rfl 3 (by decide) (hts (Cond.fieldLink RX2 16 "FloodGridModel" "dams" "[I") (List.mem_of_getElem? (i := 3) rfl)) (fun _ h9 => h9) rfl dX2_counted_72 ?_
    refine ct_Si (As := [.ref (ad 3)]) (rest := []) (wr := [(h, .inr (2, [.int thr, .ref (ad 1), .ref (ad 2), .ref (ad 3), .ref (ad 4), .ref (ad 5), .ref (ad 6), .ref (ad 7), .ref (ad 8), .ref (ad 9), .ref (ad 10), .ref (ad 11)])), ((ad 1), .inl (cI, 64, .inl hei)), ((ad 2), .inl (cI, 64, .inl (m_wat σ))), ((ad 4), .inl (cI, 64, .inl (m_wea σ))), ((ad 5), .inl (cI, 64, .inl dra)), ((ad 6), .inl (cI, 64, .inl (m_peo σ))), ((ad 7), .inl (cI, 12, .inl rai)), ((ad 8), .inl (cI, 4, .inl (q_num (nI (m_t σ)) (m_bro σ) (m_drd σ) (m_lef σ)))), ((ad 9), .inl (cI, 64, .inl flo)), ((ad 10), .inl (cI, 64, .inl lak)), ((ad 11), .inl (cI, 64, .inl row))]) (W1 := fun u => (mM h ad cI thr hei dra rai σ flo lak row)) (cells1 := 0) (slots1 := 0) ⟨hx, hb, hml, hown, hts⟩ (c_X2_some l D cI (ad 3) 64 (by decide) (m_dam σ)) (va_cwS 1 hts gX2_counted_X2_some rfl rfl rfl (by decide +kernel) ⟨Nat.le_of_ble_eq_true rfl, Nat.le_of_ble_eq_true rfl⟩) hK hP hD hS hA [3] [0, 1, 2, 4, 5, 6, 7, 8, 9, 10, 11] ⟨rfl, rfl, rfl, rfl, rfl⟩ [0, 1, 2, 11, 3, 4, 5, 6, 7, 8, 9, 10] rfl (fun _ => rfl) [0] rfl rfl hl.1 rfl (Nat.le_of_ble_eq_true rfl) rfl rfl ⟨(Nat.le_of_ble_eq_true rfl), (Nat.le_of_ble_eq_true rfl)⟩ dX2_counted_75 (fun r u H locs hw hP hD hS => ?_)
    exact fin r (lak, row) H locs 0 0 78 ls dX2_counted_78 hw hP hD hS (Nat.le_of_ble_eq_true rfl) (Nat.le_of_ble_eq_true rfl)
  · skip
    refine lv_tableIn (tgt := 79) hx hb dX2_counted_1 (by decide) (by decide) rfl (by decide) ?_
    refine lv_aload_n hx hb dX2_counted_79 rfl (lv_at hl 0 rfl) ?_
    refine va_get (D := D) (ci := 2) (v := .ref (ad 8)) (C := RX2) (T := TX2) (N := 12) hx hb hts (fun _ h9 => (List.mem_cons_of_mem _ (List.mem_append_right _ h9))) hown hK hP 0 rfl rfl 8 (by decide) (hts (Cond.fieldLink RX2 31 "FloodGridModel" "numbers" "[I") (List.mem_of_getElem? (i := 1) rfl)) (fun _ h9 => h9) rfl dX2_counted_80 ?_
    refine lv_iconst (v := 1) hx hb dX2_counted_83 (by decide) ?_
    refine ct_iald (v := (m_bro σ)) hx hb hK hP 8 0 rfl rfl 1 rfl (by decide) (by decide) rfl dX2_counted_84 ?_
    exact fin (m_bro σ) (lak, row) H locs 0 0 85 ls dX2_counted_85 rfl hP hD hS (Nat.le_of_ble_eq_true rfl) (Nat.le_of_ble_eq_true rfl)
  · skip
    refine lv_tableIn (tgt := 86) hx hb dX2_counted_1 (by decide) (by decide) rfl (by decide) ?_
    refine lv_aload_n hx hb dX2_counted_86 rfl (lv_at hl 0 rfl) ?_
    refine va_get (D := D) (ci := 2) (v := .ref (ad 8)) (C := RX2) (T := TX2) (N := 12) hx hb hts (fun _ h9 => (List.mem_cons_of_mem _ (List.mem_append_right _ h9))) hown hK hP 0 rfl rfl 8 (by decide) (hts (Cond.fieldLink RX2 31 "FloodGridModel" "numbers" "[I") (List.mem_of_getElem? (i := 1) rfl)) (fun _ h9 => h9) rfl dX2_counted_87 ?_
    refine lv_iconst (v := 2) hx hb dX2_counted_90 (by decide) ?_
    refine ct_iald (v := (m_drd σ)) hx hb hK hP 8 0 rfl rfl 2 rfl (by decide) (by decide) rfl dX2_counted_91 ?_
    exact fin (m_drd σ) (lak, row) H locs 0 0 92 ls dX2_counted_92 rfl hP hD hS (Nat.le_of_ble_eq_true rfl) (Nat.le_of_ble_eq_true rfl)
  · skip
    refine lv_tableIn (tgt := 93) hx hb dX2_counted_1 (by decide) (by decide) rfl (by decide) ?_
    refine lv_aload_n hx hb dX2_counted_93 rfl (lv_at hl 0 rfl) ?_
    refine va_get (D := D) (ci := 2) (v := .ref (ad 6)) (C := RX2) (T := TX2) (N := 12) hx hb hts (fun _ h9 => (List.mem_cons_of_mem _ (List.mem_append_right _ h9))) hown hK hP 0 rfl rfl 6 (by decide) (hts (Cond.fieldLink RX2 25 "FloodGridModel" "towns" "[I") (List.mem_of_getElem? (i := 4) rfl)) (fun _ h9 => h9) rfl dX2_counted_94 ?_
    refine ct_Si (As := [.ref (ad 6)]) (rest := []) (wr := [(h, .inr (2, [.int thr, .ref (ad 1), .ref (ad 2), .ref (ad 3), .ref (ad 4), .ref (ad 5), .ref (ad 6), .ref (ad 7), .ref (ad 8), .ref (ad 9), .ref (ad 10), .ref (ad 11)])), ((ad 1), .inl (cI, 64, .inl hei)), ((ad 2), .inl (cI, 64, .inl (m_wat σ))), ((ad 3), .inl (cI, 64, .inl (m_dam σ))), ((ad 4), .inl (cI, 64, .inl (m_wea σ))), ((ad 5), .inl (cI, 64, .inl dra)), ((ad 7), .inl (cI, 12, .inl rai)), ((ad 8), .inl (cI, 4, .inl (q_num (nI (m_t σ)) (m_bro σ) (m_drd σ) (m_lef σ)))), ((ad 9), .inl (cI, 64, .inl flo)), ((ad 10), .inl (cI, 64, .inl lak)), ((ad 11), .inl (cI, 64, .inl row))]) (W1 := fun u => (mM h ad cI thr hei dra rai σ flo lak row)) (cells1 := 0) (slots1 := 0) ⟨hx, hb, hml, hown, hts⟩ (c_X2_sum l D cI (ad 6) 64 (by decide) (m_peo σ)) (va_cwS 1 hts gX2_counted_X2_sum rfl rfl rfl (by decide +kernel) ⟨Nat.le_of_ble_eq_true rfl, Nat.le_of_ble_eq_true rfl⟩) hK hP hD hS hA [6] [0, 1, 2, 3, 4, 5, 7, 8, 9, 10, 11] ⟨rfl, rfl, rfl, rfl, rfl⟩ [0, 1, 2, 3, 4, 5, 11, 6, 7, 8, 9, 10] rfl (fun _ => rfl) [0] rfl rfl hl.1 rfl (Nat.le_of_ble_eq_true rfl) rfl rfl ⟨(Nat.le_of_ble_eq_true rfl), (Nat.le_of_ble_eq_true rfl)⟩ dX2_counted_97 (fun r u H locs hw hP hD hS => ?_)
    exact fin r (lak, row) H locs 0 0 100 ls dX2_counted_100 hw hP hD hS (Nat.le_of_ble_eq_true rfl) (Nat.le_of_ble_eq_true rfl)
  · skip
    refine lv_tableIn (tgt := 101) hx hb dX2_counted_1 (by decide) (by decide) rfl (by decide) ?_
    refine lv_aload_n hx hb dX2_counted_101 rfl (lv_at hl 0 rfl) ?_
    refine va_get (D := D) (ci := 2) (v := .ref (ad 8)) (C := RX2) (T := TX2) (N := 12) hx hb hts (fun _ h9 => (List.mem_cons_of_mem _ (List.mem_append_right _ h9))) hown hK hP 0 rfl rfl 8 (by decide) (hts (Cond.fieldLink RX2 31 "FloodGridModel" "numbers" "[I") (List.mem_of_getElem? (i := 1) rfl)) (fun _ h9 => h9) rfl dX2_counted_102 ?_
    refine lv_iconst (v := 3) hx hb dX2_counted_105 (by decide) ?_
    refine ct_iald (v := (m_lef σ)) hx hb hK hP 8 0 rfl rfl 3 rfl (by decide) (by decide) rfl dX2_counted_106 ?_
    exact fin (m_lef σ) (lak, row) H locs 0 0 107 ls dX2_counted_107 rfl hP hD hS (Nat.le_of_ble_eq_true rfl) (Nat.le_of_ble_eq_true rfl)
  · skip
    refine lv_tableOut (tgt := 108) hx hb dX2_counted_1 (Or.inr (by decide)) (by decide) ?_
    refine lv_aload_n hx hb dX2_counted_108 rfl (lv_at hl 0 rfl) ?_
    refine ct_Vi (As := []) (rest := []) (wr := []) (W1 := fun u => (mM h ad cI thr hei dra rai σ flo u.1 u.2)) (cells1 := 0) (slots1 := 0) ⟨hx, hb, hml, hown, hts⟩ (c_X2_lakes l D cI h ad thr hei (m_wat σ) (m_dam σ) (m_wea σ) dra (m_peo σ) rai (q_num (nI (m_t σ)) (m_bro σ) (m_drd σ) (m_lef σ)) flo lak row hw0) (cwV 0 hts gX2_counted_X2_lakes rfl rfl rfl (by decide +kernel) ⟨Nat.le_of_ble_eq_true rfl, Nat.le_of_ble_eq_true rfl⟩) hK hP hD hS hA [0, 1, 2, 3, 4, 5, 6, 7, 8, 9, 10, 11] [] ⟨rfl, rfl, rfl, rfl, rfl⟩ [0, 1, 2, 3, 4, 5, 6, 7, 8, 9, 10, 11] rfl (fun _ => rfl) [0] rfl (va_recv hK hP (ci := 2) (q0 := 0) rfl rfl) rfl hl.1 rfl (Nat.le_of_ble_eq_true rfl) rfl rfl ⟨(Nat.le_of_ble_eq_true rfl), (Nat.le_of_ble_eq_true rfl)⟩ dX2_counted_109 (fun r u H locs hw hP hD hS => ?_)
    exact fin r (u.1, u.2) H locs 0 0 112 ls dX2_counted_112 hw hP hD hS (Nat.le_of_ble_eq_true rfl) (Nat.le_of_ble_eq_true rfl)
abbrev rm_X2_count : Room := { frames := 4, cells := 0, slots := 0, locals := 90 }
set_option maxHeartbeats 4000000 in
set_option maxRecDepth 100000 in
theorem c_X2_count (l : Launch) (D : va_G) (cI : ClassId) (h : Nat) (ad : Nat → Nat) (thr : Int32) (hei dra rai : Nat → Int32) (σ : Ms) (flo lak row : Nat → Int32) (hw0 : ∀ c, c < 64 → 0 ≤ m_wat σ c) (v : Int32) : ct_i (S := Int32 × (Nat → Int32) × (Nat → Int32)) l D yX2_count wsX2_count rm_X2_count [.ref h, .int v] (mM h ad cI thr hei dra rai σ flo lak row) [(cI, .int)] (fun r u => (¬ (0 ≤ v ∧ v ≤ 8) ∧ u.1 = 1) ∨ ((0 ≤ v ∧ v ≤ 8) ∧ u.1 = 0 ∧ r = q_tally σ v.toNatClampNeg)) (fun u => (mM h ad cI u.1 hei dra rai σ flo u.2.1 u.2.2)) := by
  refine ct_ofi (cc := cX2_count) (maxL := 2) (by decide) rfl (Nat.le_of_ble_eq_true rfl) ?_
  intro p e s m args below meth c A Q hx hb hml hown hts hin hA hK H locs hP hD hS fin ls hl
  have hown : s.vm.findClass RX2 = some m.cls := hown
  have hl : lv_has ls 2 [(0, .ref h), (1, .int v)] := hl
  refine lv_aload_n hx hb dX2_count_0 rfl (lv_at hl 0 rfl) ?_
  refine lv_iconst (v := 0) hx hb dX2_count_1 (by decide) ?_
  refine va_put (D := D) (ci := 2) (v := .int 0) (ty := .int) (C := RX2) (T := TX2) (N := 12) hx hb hts (fun _ h9 => (List.mem_cons_of_mem _ (List.mem_append_right _ h9))) tyX2 tyX2_ok nmX2 hown hK hP hD hS 0 rfl rfl 0 (by decide) (hts (Cond.fieldLink RX2 43 "FloodGridModel" "thrown" "I") (List.mem_of_getElem? (i := 1) rfl)) (fun _ h9 => h9) rfl (by decide +kernel) rfl rfl (Nat.le_of_ble_eq_true rfl) dX2_count_2 (fun H locs hP hD hS => ?_)
  have hP : va_P D vwCl (mM h ad cI 0 hei dra rai σ flo lak row) H := hP
  have hD : va_D A (mM h ad cI 0 hei dra rai σ flo lak row) := hD
  refine lv_iload_n hx hb dX2_count_5 rfl (lv_at hl 1 rfl) ?_
  refine lv_iconst (v := 0) hx hb dX2_count_6 (by decide) ?_
  refine lv_bipush (v := 8) hx hb dX2_count_7 (by decide) ?_
  refine ct_Si (As := [.int v, .int 0, .int 8]) (rest := []) (wr := [(h, .inr (2, [.int 0, .ref (ad 1), .ref (ad 2), .ref (ad 3), .ref (ad 4), .ref (ad 5), .ref (ad 6), .ref (ad 7), .ref (ad 8), .ref (ad 9), .ref (ad 10), .ref (ad 11)])), ((ad 1), .inl (cI, 64, .inl hei)), ((ad 2), .inl (cI, 64, .inl (m_wat σ))), ((ad 3), .inl (cI, 64, .inl (m_dam σ))), ((ad 4), .inl (cI, 64, .inl (m_wea σ))), ((ad 5), .inl (cI, 64, .inl dra)), ((ad 6), .inl (cI, 64, .inl (m_peo σ))), ((ad 7), .inl (cI, 12, .inl rai)), ((ad 8), .inl (cI, 4, .inl (q_num (nI (m_t σ)) (m_bro σ) (m_drd σ) (m_lef σ)))), ((ad 9), .inl (cI, 64, .inl flo)), ((ad 10), .inl (cI, 64, .inl lak)), ((ad 11), .inl (cI, 64, .inl row))]) (W1 := fun u => (mM h ad cI 0 hei dra rai σ flo lak row)) (cells1 := 0) (slots1 := 0) ⟨hx, hb, hml, hown, hts⟩ (c_isIn l D cI v 0 8) (va_cwS 3 hts gX2_count_X2_isIn rfl rfl rfl (by decide +kernel) ⟨Nat.le_of_ble_eq_true rfl, Nat.le_of_ble_eq_true rfl⟩) hK hP hD hS hA [] [0, 1, 2, 3, 4, 5, 6, 7, 8, 9, 10, 11] ⟨rfl, rfl, rfl, rfl, rfl⟩ [0, 1, 2, 3, 4, 5, 6, 7, 8, 9, 10, 11] rfl (fun _ => rfl) [0] rfl rfl hl.1 rfl (Nat.le_of_ble_eq_true rfl) rfl rfl ⟨(Nat.le_of_ble_eq_true rfl), (Nat.le_of_ble_eq_true rfl)⟩ dX2_count_9 (fun r u H locs hw hP hD hS => ?_)
  subst hw
  refine lv_if_eq (tgt := 23) hx hb dX2_count_12 (by decide) (fun hc => ?_) (fun hc => ?_)
  · skip
    refine lv_aload_n hx hb dX2_count_23 rfl (lv_at hl 0 rfl) ?_
    refine lv_iconst (v := 1) hx hb dX2_count_24 (by decide) ?_
    refine ct_Vi (As := [.int 1]) (rest := []) (wr := []) (W1 := fun u => (mM h ad cI 1 hei dra rai σ flo lak row)) (cells1 := 0) (slots1 := 0) ⟨hx, hb, hml, hown, hts⟩ (c_X2_fail l D cI h ad 0 hei (m_wat σ) (m_dam σ) (m_wea σ) dra (m_peo σ) rai (q_num (nI (m_t σ)) (m_bro σ) (m_drd σ) (m_lef σ)) flo lak row 1) (cwV 1 hts gX2_count_X2_fail rfl rfl rfl (by decide +kernel) ⟨Nat.le_of_ble_eq_true rfl, Nat.le_of_ble_eq_true rfl⟩) hK hP hD hS hA [0, 1, 2, 3, 4, 5, 6, 7, 8, 9, 10, 11] [] ⟨rfl, rfl, rfl, rfl, rfl⟩ [0, 1, 2, 3, 4, 5, 6, 7, 8, 9, 10, 11] rfl (fun _ => rfl) [0] rfl (va_recv hK hP (ci := 2) (q0 := 0) rfl rfl) rfl hl.1 rfl (Nat.le_of_ble_eq_true rfl) rfl rfl ⟨(Nat.le_of_ble_eq_true rfl), (Nat.le_of_ble_eq_true rfl)⟩ dX2_count_25 (fun r u H locs hw hP hD hS => ?_)
    exact fin r (1, lak, row) H locs 0 0 28 ls dX2_count_28 (Or.inl ⟨b_v_0 hc, rfl⟩) hP hD hS (Nat.le_of_ble_eq_true rfl) (Nat.le_of_ble_eq_true rfl)
  · skip
    have hv := b_v_1 hc
    obtain ⟨e7, h7⟩ := q_n7 hv.1 (n := 8) rfl (by decide) hv.2
    generalize v.toNatClampNeg = k7 at e7 h7 fin
    subst e7
    refine lv_aload_n hx hb dX2_count_15 rfl (lv_at hl 0 rfl) ?_
    refine lv_iload_n hx hb dX2_count_16 rfl (lv_at hl 1 rfl) ?_
    refine ct_Vi (As := [.int (nI k7)]) (rest := []) (wr := []) (W1 := fun u => (mM h ad cI 0 hei dra rai σ flo u.1 u.2)) (cells1 := 0) (slots1 := 0) ⟨hx, hb, hml, hown, hts⟩ (c_X2_counted l D cI h ad 0 hei dra rai σ flo lak row hw0 k7 (by omega)) (cwV 1 hts gX2_count_X2_counted rfl rfl rfl (by decide +kernel) ⟨Nat.le_of_ble_eq_true rfl, Nat.le_of_ble_eq_true rfl⟩) hK hP hD hS hA [0, 1, 2, 3, 4, 5, 6, 7, 8, 9, 10, 11] [] ⟨rfl, rfl, rfl, rfl, rfl⟩ [0, 1, 2, 3, 4, 5, 6, 7, 8, 9, 10, 11] rfl (fun _ => rfl) [0] rfl (va_recv hK hP (ci := 2) (q0 := 0) rfl rfl) rfl hl.1 rfl (Nat.le_of_ble_eq_true rfl) rfl rfl ⟨(Nat.le_of_ble_eq_true rfl), (Nat.le_of_ble_eq_true rfl)⟩ dX2_count_17 (fun r u H locs hw hP hD hS => ?_)
    refine lv_goto (tgt := 28) hx hb dX2_count_20 (by decide) ?_
    exact fin r (0, u.1, u.2) H locs 0 0 28 ls dX2_count_28 (Or.inr ⟨hv, rfl, hw⟩) hP hD hS (Nat.le_of_ble_eq_true rfl) (Nat.le_of_ble_eq_true rfl)
abbrev rm_X2_lake : Room := { frames := 2, cells := 0, slots := 0, locals := 47 }
set_option maxHeartbeats 4000000 in
set_option maxRecDepth 100000 in
theorem c_X2_lake (l : Launch) (D : va_G) (cI : ClassId) (h : Nat) (ad : Nat → Nat) (thr : Int32) (hei dra rai : Nat → Int32) (σ : Ms) (flo lak row : Nat → Int32) (hw0 : ∀ c, c < 64 → 0 ≤ m_wat σ c) (x y : Int32) : ct_i (S := Int32 × (Nat → Int32) × (Nat → Int32)) l D yX2_lake wsX2_lake rm_X2_lake [.ref h, .int x, .int y] (mM h ad cI thr hei dra rai σ flo lak row) [(cI, .int)] (fun r u => (¬ inC x y ∧ u.1 = 1) ∨ (inC x y ∧ u.1 = 0 ∧ r = q_lakeSize (m_wat σ) (q_at x y))) (fun u => (mM h ad cI u.1 hei dra rai σ flo u.2.1 u.2.2)) := by
  refine ct_ofi (cc := cX2_lake) (maxL := 4) (by decide) rfl (Nat.le_of_ble_eq_true rfl) ?_
  intro p e s m args below meth c A Q hx hb hml hown hts hin hA hK H locs hP hD hS fin ls hl
  have hown : s.vm.findClass RX2 = some m.cls := hown
  have hl : lv_has ls 4 [(0, .ref h), (1, .int x), (2, .int y)] := hl
  refine lv_aload_n hx hb dX2_lake_0 rfl (lv_at hl 0 rfl) ?_
  refine lv_iconst (v := 0) hx hb dX2_lake_1 (by decide) ?_
  refine va_put (D := D) (ci := 2) (v := .int 0) (ty := .int) (C := RX2) (T := TX2) (N := 12) hx hb hts (fun _ h9 => (List.mem_cons_of_mem _ (List.mem_append_right _ h9))) tyX2 tyX2_ok nmX2 hown hK hP hD hS 0 rfl rfl 0 (by decide) (hts (Cond.fieldLink RX2 43 "FloodGridModel" "thrown" "I") (List.mem_of_getElem? (i := 1) rfl)) (fun _ h9 => h9) rfl (by decide +kernel) rfl rfl (Nat.le_of_ble_eq_true rfl) dX2_lake_2 (fun H locs hP hD hS => ?_)
  have hP : va_P D vwCl (mM h ad cI 0 hei dra rai σ flo lak row) H := hP
  have hD : va_D A (mM h ad cI 0 hei dra rai σ flo lak row) := hD
  refine lv_iload_n hx hb dX2_lake_5 rfl (lv_at hl 1 rfl) ?_
  refine lv_iload_n hx hb dX2_lake_6 rfl (lv_at hl 2 rfl) ?_
  refine ct_Si (As := [.int x, .int y]) (rest := []) (wr := [(h, .inr (2, [.int 0, .ref (ad 1), .ref (ad 2), .ref (ad 3), .ref (ad 4), .ref (ad 5), .ref (ad 6), .ref (ad 7), .ref (ad 8), .ref (ad 9), .ref (ad 10), .ref (ad 11)])), ((ad 1), .inl (cI, 64, .inl hei)), ((ad 2), .inl (cI, 64, .inl (m_wat σ))), ((ad 3), .inl (cI, 64, .inl (m_dam σ))), ((ad 4), .inl (cI, 64, .inl (m_wea σ))), ((ad 5), .inl (cI, 64, .inl dra)), ((ad 6), .inl (cI, 64, .inl (m_peo σ))), ((ad 7), .inl (cI, 12, .inl rai)), ((ad 8), .inl (cI, 4, .inl (q_num (nI (m_t σ)) (m_bro σ) (m_drd σ) (m_lef σ)))), ((ad 9), .inl (cI, 64, .inl flo)), ((ad 10), .inl (cI, 64, .inl lak)), ((ad 11), .inl (cI, 64, .inl row))]) (W1 := fun u => (mM h ad cI 0 hei dra rai σ flo lak row)) (cells1 := 0) (slots1 := 0) ⟨hx, hb, hml, hown, hts⟩ (c_isCell l D cI x y) (va_cwS 2 hts gX2_lake_X2_isCell rfl rfl rfl (by decide +kernel) ⟨Nat.le_of_ble_eq_true rfl, Nat.le_of_ble_eq_true rfl⟩) hK hP hD hS hA [] [0, 1, 2, 3, 4, 5, 6, 7, 8, 9, 10, 11] ⟨rfl, rfl, rfl, rfl, rfl⟩ [0, 1, 2, 3, 4, 5, 6, 7, 8, 9, 10, 11] rfl (fun _ => rfl) [0] rfl rfl hl.1 rfl (Nat.le_of_ble_eq_true rfl) rfl rfl ⟨(Nat.le_of_ble_eq_true rfl), (Nat.le_of_ble_eq_true rfl)⟩ dX2_lake_7 (fun r u H locs hw hP hD hS => ?_)
  subst hw
  refine lv_if_ne (tgt := 19) hx hb dX2_lake_10 (by decide) (fun hc => ?_) (fun hc => ?_)
  · skip
    have hin : inC x y := b_v_1 hc
    have hat := q_at_lt hin
    refine lv_iconst (v := 0) hx hb dX2_lake_19 (by decide) ?_
    refine lv_istore_n (lv' := [(3, .int 0), (0, .ref h), (1, .int x), (2, .int y)]) hx hb dX2_lake_20 rfl hl (by decide) rfl (fun ls hl => ?_)
    have loop : ∀ (fu i : Nat), i + fu = 64 → ∀ (g : Nat → Int32) (H : Heap) (locs : List Loc) (ls : Array Slot), (g = q_mix i (fun _ => 0) lak) → va_P D vwCl (mM h ad cI 0 hei dra rai σ flo g row) H → va_D A (mM h ad cI 0 hei dra rai σ flo g row) → va_S A s.heap H locs → lv_has ls 4 [(0, .ref h), (1, .int x), (2, .int y), (3, .int (nI i))] → W p l e rm_X2_lake s m args below meth c H locs 0 0 Q (F0 m 21 ls []) := by
      intro fu
      induction fu with
      | zero =>
        intro i hi g H locs ls hg hP hD hS hl
        obtain rfl : 64 = i := by omega
        refine lv_iload_n hx hb dX2_lake_21 rfl (lv_at hl 3 rfl) ?_
        refine lv_bipush (v := 64) hx hb dX2_lake_22 (by decide) ?_
        refine lv_icmp_ge (tgt := 40) hx hb dX2_lake_24 (by decide) (fun hc1 => ?_) (fun hc1 => ?_)
        · skip
          obtain ⟨hP, hD⟩ := ct_ext hP hD 10 rfl (fun _ => 0) (fun j hj => by rw [hg]; exact q_mix_lt hj) (ws1 := (mM h ad cI 0 hei dra rai σ flo (fun _ => 0) row)) rfl
          refine lv_aload_n hx hb dX2_lake_40 rfl (lv_at hl 0 rfl) ?_
          refine va_get (D := D) (ci := 2) (v := .ref (ad 2)) (C := RX2) (T := TX2) (N := 12) hx hb hts (fun _ h9 => (List.mem_cons_of_mem _ (List.mem_append_right _ h9))) hown hK hP 0 rfl rfl 2 (by decide) (hts (Cond.fieldLink RX2 13 "FloodGridModel" "water" "[I") (List.mem_of_getElem? (i := 3) rfl)) (fun _ h9 => h9) rfl dX2_lake_41 ?_
          refine lv_bipush (v := 8) hx hb dX2_lake_44 (by decide) ?_
          refine lv_iload_n hx hb dX2_lake_46 rfl (lv_at hl 2 rfl) ?_
          refine lv_imul hx hb dX2_lake_47 ?_
          refine lv_iload_n hx hb dX2_lake_48 rfl (lv_at hl 1 rfl) ?_
          refine lv_iadd hx hb dX2_lake_49 ?_
          refine ct_iald (v := (m_wat σ) (q_at x y)) hx hb hK hP 2 0 rfl rfl (q_at x y) (q_at_eq hin) hat (by decide) rfl dX2_lake_50 ?_
          refine lv_if_ne (tgt := 58) hx hb dX2_lake_51 (by decide) (fun hc2 => ?_) (fun hc2 => ?_)
          · skip
            have hst9 : (fun _ : Nat => false) (q_at x y) = false ∧ 0 < m_wat σ (q_at x y) := ⟨rfl, pos_of (hw0 _ hat) hc2⟩
            refine lv_aload_n hx hb dX2_lake_58 rfl (lv_at hl 0 rfl) ?_
            refine lv_bipush (v := 8) hx hb dX2_lake_59 (by decide) ?_
            refine lv_iload_n hx hb dX2_lake_61 rfl (lv_at hl 2 rfl) ?_
            refine lv_imul hx hb dX2_lake_62 ?_
            refine lv_iload_n hx hb dX2_lake_63 rfl (lv_at hl 1 rfl) ?_
            refine lv_iadd hx hb dX2_lake_64 ?_
            refine lv_iconst (v := 1) hx hb dX2_lake_65 (by decide) ?_
            rw [q_at_eq hin]
            refine ct_Vi (As := [.int (nI (q_at x y)), .int (nI 1)]) (rest := []) (wr := []) (W1 := fun u => (mM h ad cI 0 hei dra rai σ flo u.1 u.2)) (cells1 := 0) (slots1 := 0) ⟨hx, hb, hml, hown, hts⟩ (c_X2_follow l D cI h ad 0 hei (m_wat σ) (m_dam σ) (m_wea σ) dra (m_peo σ) rai (q_num (nI (m_t σ)) (m_bro σ) (m_drd σ) (m_lef σ)) flo (fun _ => 0) row (fun _ => false) (q_at x y) 1 hat ⟨by decide, by decide⟩ q_rel_0 hst9 hw0) (cwV 2 hts gX2_lake_X2_follow rfl rfl rfl (by decide +kernel) ⟨Nat.le_of_ble_eq_true rfl, Nat.le_of_ble_eq_true rfl⟩) hK hP hD hS hA [0, 1, 2, 3, 4, 5, 6, 7, 8, 9, 10, 11] [] ⟨rfl, rfl, rfl, rfl, rfl⟩ [0, 1, 2, 3, 4, 5, 6, 7, 8, 9, 10, 11] rfl (fun _ => rfl) [0] rfl (va_recv hK hP (ci := 2) (q0 := 0) rfl rfl) rfl hl.1 rfl (Nat.le_of_ble_eq_true rfl) rfl rfl ⟨(Nat.le_of_ble_eq_true rfl), (Nat.le_of_ble_eq_true rfl)⟩ dX2_lake_66 (fun r u H locs hw hP hD hS => ?_)
            exact fin r (0, u.1, u.2) H locs 0 0 69 ls dX2_lake_69 (Or.inr ⟨hin, rfl, hw.1⟩) hP hD hS (Nat.le_of_ble_eq_true rfl) (Nat.le_of_ble_eq_true rfl)
          · skip
            refine lv_iconst (v := 0) hx hb dX2_lake_54 (by decide) ?_
            refine lv_goto (tgt := 69) hx hb dX2_lake_55 (by decide) ?_
            exact fin 0 (0, (fun _ => 0), row) H locs 0 0 69 ls dX2_lake_69 (Or.inr ⟨hin, rfl, (by unfold q_lakeSize; rw [q_from_no (fun z9 => npos0 hc2 z9.2)]; rfl)⟩) hP hD hS (Nat.le_of_ble_eq_true rfl) (Nat.le_of_ble_eq_true rfl)
        · skip
          exact absurd (show (64 : Int32) ≤ nI 64 by decide) hc1
      | succ fu ih =>
        intro i hi g H locs ls hg hP hD hS hl
        have hlt : i < 64 := by omega
        refine lv_iload_n hx hb dX2_lake_21 rfl (lv_at hl 3 rfl) ?_
        refine lv_bipush (v := 64) hx hb dX2_lake_22 (by decide) ?_
        refine lv_icmp_ge (tgt := 40) hx hb dX2_lake_24 (by decide) (fun hc1 => ?_) (fun hc1 => ?_)
        · skip
          exact absurd hc1 (nI_ge (b := 64) hlt (by decide))
        · skip
          refine lv_aload_n hx hb dX2_lake_27 rfl (lv_at hl 0 rfl) ?_
          refine va_get (D := D) (ci := 2) (v := .ref (ad 10)) (C := RX2) (T := TX2) (N := 12) hx hb hts (fun _ h9 => (List.mem_cons_of_mem _ (List.mem_append_right _ h9))) hown hK hP 0 rfl rfl 10 (by decide) (hts (Cond.fieldLink RX2 37 "FloodGridModel" "lake" "[I") (List.mem_of_getElem? (i := 2) rfl)) (fun _ h9 => h9) rfl dX2_lake_28 ?_
          refine lv_iload_n hx hb dX2_lake_31 rfl (lv_at hl 3 rfl) ?_
          refine lv_iconst (v := 0) hx hb dX2_lake_32 (by decide) ?_
          refine ct_iast (g := upd g i 0) (ws1 := (mM h ad cI 0 hei dra rai σ flo (upd g i 0) row)) hx hb hK hP hD hS 10 0 rfl rfl i rfl (by omega) (by decide) rfl rfl dX2_lake_33 (fun H locs hP hD hS => ?_)
          refine lv_iinc (v := (nI (i + 1))) (lv' := [(3, .int (nI (i + 1))), (0, .ref h), (1, .int x), (2, .int y)]) hx hb dX2_lake_34 hl (k := 3) rfl (nI_1 i) (by decide) rfl (fun ls hl => ?_)
          refine lv_goto (tgt := 21) hx hb dX2_lake_37 (by decide) ?_
          exact ih (i + 1) (by omega) (upd g i 0) H locs ls (by rw [hg]; exact q_mix_up rfl) hP hD hS (lv_sub hl [1, 2, 3, 0] rfl)
    exact loop 64 0 (by omega) lak H locs ls (q_mix_0 _ _).symm hP hD hS (lv_sub hl [1, 2, 3, 0] rfl)
  · skip
    refine lv_aload_n hx hb dX2_lake_13 rfl (lv_at hl 0 rfl) ?_
    refine lv_iconst (v := 1) hx hb dX2_lake_14 (by decide) ?_
    refine ct_Vi (As := [.int 1]) (rest := []) (wr := []) (W1 := fun u => (mM h ad cI 1 hei dra rai σ flo lak row)) (cells1 := 0) (slots1 := 0) ⟨hx, hb, hml, hown, hts⟩ (c_X2_fail l D cI h ad 0 hei (m_wat σ) (m_dam σ) (m_wea σ) dra (m_peo σ) rai (q_num (nI (m_t σ)) (m_bro σ) (m_drd σ) (m_lef σ)) flo lak row 1) (cwV 1 hts gX2_lake_X2_fail rfl rfl rfl (by decide +kernel) ⟨Nat.le_of_ble_eq_true rfl, Nat.le_of_ble_eq_true rfl⟩) hK hP hD hS hA [0, 1, 2, 3, 4, 5, 6, 7, 8, 9, 10, 11] [] ⟨rfl, rfl, rfl, rfl, rfl⟩ [0, 1, 2, 3, 4, 5, 6, 7, 8, 9, 10, 11] rfl (fun _ => rfl) [0] rfl (va_recv hK hP (ci := 2) (q0 := 0) rfl rfl) rfl hl.1 rfl (Nat.le_of_ble_eq_true rfl) rfl rfl ⟨(Nat.le_of_ble_eq_true rfl), (Nat.le_of_ble_eq_true rfl)⟩ dX2_lake_15 (fun r u H locs hw hP hD hS => ?_)
    exact fin r (1, lak, row) H locs 0 0 18 ls dX2_lake_18 (Or.inl ⟨b_v_0 hc, rfl⟩) hP hD hS (Nat.le_of_ble_eq_true rfl) (Nat.le_of_ble_eq_true rfl)
abbrev rm_X2_pass : Room := { frames := 5, cells := 0, slots := 0, locals := 112 }
set_option maxHeartbeats 4000000 in
set_option maxRecDepth 100000 in
theorem c_X2_pass (l : Launch) (D : va_G) (cI : ClassId) (h : Nat) (ad : Nat → Nat) (thr : Int32) (hei dra rai : Nat → Int32) (σ : Ms) (flo lak row : Nat → Int32) (ht : m_t σ < 2 ^ 29) (hinv : inv1 σ) (v : Int32) : ct_i (S := Int32 × Ms × (Nat → Int32)) l D yX2_pass wsX2_pass rm_X2_pass [.ref h, .int v] (mM h ad cI thr hei dra rai σ flo lak row) [(cI, .int)] (fun r u => (¬ (1 ≤ v ∧ v ≤ 48) ∧ u.1 = 1 ∧ u.2.1 = σ) ∨ ((1 ≤ v ∧ v ≤ 48) ∧ u.1 = 0 ∧ u.2.1 = q_hours hei dra rai v.toNatClampNeg σ ∧ r = q_leave hei dra rai v.toNatClampNeg σ)) (fun u => (mM h ad cI u.1 hei dra rai u.2.1 u.2.2 lak row)) := by
  refine ct_ofi (cc := cX2_pass) (maxL := 2) (by decide) rfl (Nat.le_of_ble_eq_true rfl) ?_
  intro p e s m args below meth c A Q hx hb hml hown hts hin hA hK H locs hP hD hS fin ls hl
  have hown : s.vm.findClass RX2 = some m.cls := hown
  have hl : lv_has ls 2 [(0, .ref h), (1, .int v)] := hl
  refine lv_aload_n hx hb dX2_pass_0 rfl (lv_at hl 0 rfl) ?_
  refine lv_iconst (v := 0) hx hb dX2_pass_1 (by decide) ?_
  refine va_put (D := D) (ci := 2) (v := .int 0) (ty := .int) (C := RX2) (T := TX2) (N := 12) hx hb hts (fun _ h9 => (List.mem_cons_of_mem _ (List.mem_append_right _ h9))) tyX2 tyX2_ok nmX2 hown hK hP hD hS 0 rfl rfl 0 (by decide) (hts (Cond.fieldLink RX2 43 "FloodGridModel" "thrown" "I") (List.mem_of_getElem? (i := 1) rfl)) (fun _ h9 => h9) rfl (by decide +kernel) rfl rfl (Nat.le_of_ble_eq_true rfl) dX2_pass_2 (fun H locs hP hD hS => ?_)
  have hP : va_P D vwCl (mM h ad cI 0 hei dra rai σ flo lak row) H := hP
  have hD : va_D A (mM h ad cI 0 hei dra rai σ flo lak row) := hD
  refine lv_iload_n hx hb dX2_pass_5 rfl (lv_at hl 1 rfl) ?_
  refine lv_iconst (v := 1) hx hb dX2_pass_6 (by decide) ?_
  refine lv_bipush (v := 48) hx hb dX2_pass_7 (by decide) ?_
  refine ct_Si (As := [.int v, .int 1, .int 48]) (rest := []) (wr := [(h, .inr (2, [.int 0, .ref (ad 1), .ref (ad 2), .ref (ad 3), .ref (ad 4), .ref (ad 5), .ref (ad 6), .ref (ad 7), .ref (ad 8), .ref (ad 9), .ref (ad 10), .ref (ad 11)])), ((ad 1), .inl (cI, 64, .inl hei)), ((ad 2), .inl (cI, 64, .inl (m_wat σ))), ((ad 3), .inl (cI, 64, .inl (m_dam σ))), ((ad 4), .inl (cI, 64, .inl (m_wea σ))), ((ad 5), .inl (cI, 64, .inl dra)), ((ad 6), .inl (cI, 64, .inl (m_peo σ))), ((ad 7), .inl (cI, 12, .inl rai)), ((ad 8), .inl (cI, 4, .inl (q_num (nI (m_t σ)) (m_bro σ) (m_drd σ) (m_lef σ)))), ((ad 9), .inl (cI, 64, .inl flo)), ((ad 10), .inl (cI, 64, .inl lak)), ((ad 11), .inl (cI, 64, .inl row))]) (W1 := fun u => (mM h ad cI 0 hei dra rai σ flo lak row)) (cells1 := 0) (slots1 := 0) ⟨hx, hb, hml, hown, hts⟩ (c_isIn l D cI v 1 48) (va_cwS 3 hts gX2_pass_X2_isIn rfl rfl rfl (by decide +kernel) ⟨Nat.le_of_ble_eq_true rfl, Nat.le_of_ble_eq_true rfl⟩) hK hP hD hS hA [] [0, 1, 2, 3, 4, 5, 6, 7, 8, 9, 10, 11] ⟨rfl, rfl, rfl, rfl, rfl⟩ [0, 1, 2, 3, 4, 5, 6, 7, 8, 9, 10, 11] rfl (fun _ => rfl) [0] rfl rfl hl.1 rfl (Nat.le_of_ble_eq_true rfl) rfl rfl ⟨(Nat.le_of_ble_eq_true rfl), (Nat.le_of_ble_eq_true rfl)⟩ dX2_pass_9 (fun r u H locs hw hP hD hS => ?_)
  subst hw
  refine lv_if_eq (tgt := 23) hx hb dX2_pass_12 (by decide) (fun hc => ?_) (fun hc => ?_)
  · skip
    refine lv_aload_n hx hb dX2_pass_23 rfl (lv_at hl 0 rfl) ?_
    refine lv_iconst (v := 1) hx hb dX2_pass_24 (by decide) ?_
    refine ct_Vi (As := [.int 1]) (rest := []) (wr := []) (W1 := fun u => (mM h ad cI 1 hei dra rai σ flo lak row)) (cells1 := 0) (slots1 := 0) ⟨hx, hb, hml, hown, hts⟩ (c_X2_fail l D cI h ad 0 hei (m_wat σ) (m_dam σ) (m_wea σ) dra (m_peo σ) rai (q_num (nI (m_t σ)) (m_bro σ) (m_drd σ) (m_lef σ)) flo lak row 1) (cwV 1 hts gX2_pass_X2_fail rfl rfl rfl (by decide +kernel) ⟨Nat.le_of_ble_eq_true rfl, Nat.le_of_ble_eq_true rfl⟩) hK hP hD hS hA [0, 1, 2, 3, 4, 5, 6, 7, 8, 9, 10, 11] [] ⟨rfl, rfl, rfl, rfl, rfl⟩ [0, 1, 2, 3, 4, 5, 6, 7, 8, 9, 10, 11] rfl (fun _ => rfl) [0] rfl (va_recv hK hP (ci := 2) (q0 := 0) rfl rfl) rfl hl.1 rfl (Nat.le_of_ble_eq_true rfl) rfl rfl ⟨(Nat.le_of_ble_eq_true rfl), (Nat.le_of_ble_eq_true rfl)⟩ dX2_pass_25 (fun r u H locs hw hP hD hS => ?_)
    exact fin r (1, σ, flo) H locs 0 0 28 ls dX2_pass_28 (Or.inl ⟨b_v_0 hc, rfl, rfl⟩) hP hD hS (Nat.le_of_ble_eq_true rfl) (Nat.le_of_ble_eq_true rfl)
  · skip
    have hv := b_v_1 hc
    obtain ⟨e7, h7⟩ := q_n7 (Int32.le_trans (show (0 : Int32) ≤ 1 by decide) hv.1) (n := 48) rfl (by decide) hv.2
    generalize v.toNatClampNeg = k7 at e7 h7 fin
    subst e7
    refine lv_aload_n hx hb dX2_pass_15 rfl (lv_at hl 0 rfl) ?_
    refine lv_iload_n hx hb dX2_pass_16 rfl (lv_at hl 1 rfl) ?_
    refine ct_Vi (As := [.int (nI k7)]) (rest := []) (wr := []) (W1 := fun u => (mM h ad cI 0 hei dra rai (q_hours hei dra rai k7 σ) u lak row)) (cells1 := 0) (slots1 := 0) ⟨hx, hb, hml, hown, hts⟩ (c_X2_hours l D cI h ad 0 hei dra rai σ flo lak row k7 (by omega) (by omega) hinv) (cwV 1 hts gX2_pass_X2_hoursOn rfl rfl rfl (by decide +kernel) ⟨Nat.le_of_ble_eq_true rfl, Nat.le_of_ble_eq_true rfl⟩) hK hP hD hS hA [0, 1, 2, 3, 4, 5, 6, 7, 8, 9, 10, 11] [] ⟨rfl, rfl, rfl, rfl, rfl⟩ [0, 1, 2, 3, 4, 5, 6, 7, 8, 9, 10, 11] rfl (fun _ => rfl) [0] rfl (va_recv hK hP (ci := 2) (q0 := 0) rfl rfl) rfl hl.1 rfl (Nat.le_of_ble_eq_true rfl) rfl rfl ⟨(Nat.le_of_ble_eq_true rfl), (Nat.le_of_ble_eq_true rfl)⟩ dX2_pass_17 (fun r u H locs hw hP hD hS => ?_)
    refine lv_goto (tgt := 28) hx hb dX2_pass_20 (by decide) ?_
    exact fin r (0, q_hours hei dra rai k7 σ, u) H locs 0 0 28 ls dX2_pass_28 (Or.inr ⟨hv, rfl, rfl, hw⟩) hP hD hS (Nat.le_of_ble_eq_true rfl) (Nat.le_of_ble_eq_true rfl)
