set_option maxHeartbeats 4000000 in
set_option maxRecDepth 100000 in
theorem law_mean {p : Program} {l : Launch} {e : Env} {s : State} {m : MethodId} {below : List Frame} {meth : Method} {c : Code} {b L : Nat} {xs : Nat → Int32} {D : va_G} {cI cJ cL : ClassId} {sa1 sa2 : Nat} {g hn ha : Nat} {adn ada : Nat → Nat} {h : Nat} {ad : Nat → Nat} {o i C S : Nat} (C9 : lw_Cx p l m c b L xs D cI cJ cL sa1 sa2 s) (hL : L ≤ 2048) (hi : 4 * i + 4 ≤ L) (hC : C + 80 ≤ 840170 ∧ S + 700 ≤ 6575593) (kk : lw_Nx p l e s m below meth c b D cI cL g hn ha adn ada h ad o i (C + 80) (S + 700)) {d0 : Drawn} (hd0 : s.drawn.sameBut d0 lw_cs) {hei dra rai : Nat → Int32} {σ : Ms} {cre gai see fou : Nat → Int32} {z : Nat → Nat → Int32} {thr : Int32} {flo lak row : Nat → Int32} {f : Nat → Int64} (hI : inv (28000 * (i : Int)) hei dra rai σ) (ht : m_t σ ≤ 48 * i) {H : Heap} {locs : List Loc} {ls : Array Slot}
    (hP : va_P D vwCl (fW g hn ha adn ada cI hei dra rai σ cre gai see fou z ++ (mM h ad cI thr hei dra rai σ flo lak row ++ oW o cL f)) H) (hD : va_D (lw_A s) (fW g hn ha adn ada cI hei dra rai σ cre gai see fou z ++ (mM h ad cI thr hei dra rai σ flo lak row ++ oW o cL f))) (hS : va_S (lw_A s) s.heap H locs) (hl : lv_has ls 9 [(0, .ref b), (1, .ref g), (2, .ref h), (3, .ref o), (4, .int (nI (4 * i)))]) :
    W p l e room_1 (s.setDrawn d0) m #[Value.ref b] below meth c H locs C S (lw_Z below #[Value.ref b] s) (F0 m 1164 ls []) := by
  obtain ⟨hx, hb, hml, hown, hts, hK, hT, hY, hX, hbl, hst⟩ := C9.drew d0
  have hA : ∀ q : Nat, (s.setDrawn d0).heap.size ≤ q → lw_A s q := fun _ h9 => h9
  have hbA : ¬ lw_A s b := Nat.not_le.mpr hbl
  have ht9 : m_t σ < 2 ^ 29 := by omega
  have hi1 := inv_1 hI
  have hw0 := inv_w hI
  have hdm := inv_dm hI
  replace hS : va_S (lw_A s) (s.setDrawn d0).heap H locs := hS
  refine lv_aload_n hx hb dL_law_1164 rfl (lv_at hl 1 rfl) ?_
  refine ct_Vd (As := []) (rest := []) (wr := mM h ad cI thr hei dra rai σ flo lak row ++ oW o cL f) (W0 := fW g hn ha adn ada cI hei dra rai σ cre gai see fou z ++ (mM h ad cI thr hei dra rai σ flo lak row ++ oW o cL f)) (W1 := fun _ => fW g hn ha adn ada cI hei dra rai σ cre gai see fou z ++ (mM h ad cI thr hei dra rai σ flo lak row ++ oW o cL f)) (cells1 := C) (slots1 := S) hd0 ⟨hx, hb, hml, hown, hts⟩ (c_X1_mean l D cI g hn ha adn ada hei dra rai σ cre gai see fou z) (cwV 0 hts gL_law_X1_mean rfl rfl rfl (by decide +kernel) ⟨Nat.le_of_ble_eq_true rfl, Nat.le_of_ble_eq_true rfl⟩) hK hP hD hS hA [0, 1, 2, 3, 4, 5, 6, 7, 8, 9, 10, 11, 12, 13, 14, 15, 16, 17, 18, 19, 20, 21, 22, 23, 24] [25, 26, 27, 28, 29, 30, 31, 32, 33, 34, 35, 36, 37] ⟨rfl, rfl, rfl, rfl, rfl⟩ [13, 14, 15, 16, 17, 18, 19, 20, 21, 22, 23, 24, 25, 26, 27, 28, 29, 30, 31, 32, 33, 34, 35, 36, 37, 0, 1, 2, 3, 4, 5, 6, 7, 8, 9, 10, 11, 12] rfl (fun _ => rfl) [0] rfl (va_recv hK hP (ci := 1) (q0 := 0) rfl rfl) rfl hl.1 rfl (Nat.le_of_ble_eq_true rfl) rfl rfl (lw_hc (k := 0) (n := 0) hC (Nat.le_of_ble_eq_true rfl) (Nat.le_of_ble_eq_true rfl)) dL_law_1165 (fun r _ d1 H locs hd0 hm1 hP hD hS => ?_)
  clear hts hK hT hY hX hbl hbA hA
  obtain ⟨-, -, -, -, hts, hK, hT, hY, hX, hbl, -⟩ := C9.drew d1
  have hA : ∀ q : Nat, (s.setDrawn d1).heap.size ≤ q → lw_A s q := fun _ h9 => h9
  refine lv_dstore (lv' := [(5, .double r), (0, .ref b), (1, .ref g), (2, .ref h), (3, .ref o), (4, .int (nI (4 * i)))]) hx hb dL_law_1168 hl (by decide) rfl (fun ls hl => ?_)
  refine lv_aload_n hx hb dL_law_1170 rfl (lv_at hl 3 rfl) ?_
  refine ct_Vd (As := []) (rest := []) (wr := fW g hn ha adn ada cI hei dra rai σ cre gai see fou z ++ oW o cL f) (W0 := fW g hn ha adn ada cI hei dra rai σ cre gai see fou z ++ (mM h ad cI thr hei dra rai σ flo lak row ++ oW o cL f)) (W1 := fun _ => fW g hn ha adn ada cI hei dra rai σ cre gai see fou z ++ (mM h ad cI 0 hei dra rai σ flo lak row ++ oW o cL f)) (cells1 := C) (slots1 := S) hd0 ⟨hx, hb, hml, hown, hts⟩ (c_X2_mean l D cI h ad thr hei dra rai σ flo lak row) (cwV 0 hts gL_law_X2_mean rfl rfl rfl (by decide +kernel) ⟨Nat.le_of_ble_eq_true rfl, Nat.le_of_ble_eq_true rfl⟩) hK hP hD hS hA [25, 26, 27, 28, 29, 30, 31, 32, 33, 34, 35, 36] [0, 1, 2, 3, 4, 5, 6, 7, 8, 9, 10, 11, 12, 13, 14, 15, 16, 17, 18, 19, 20, 21, 22, 23, 24, 37] ⟨rfl, rfl, rfl, rfl, rfl⟩ [0, 1, 2, 3, 4, 5, 6, 7, 8, 9, 10, 11, 12, 13, 14, 15, 16, 17, 18, 19, 20, 21, 22, 23, 24, 26, 27, 28, 29, 30, 31, 32, 33, 34, 35, 36, 37, 25] rfl (fun _ => rfl) [0] rfl (va_recv hK hP (ci := 2) (q0 := 25) rfl rfl) rfl hl.1 rfl (Nat.le_of_ble_eq_true rfl) rfl rfl (lw_hc (k := 0) (n := 0) hC (Nat.le_of_ble_eq_true rfl) (Nat.le_of_ble_eq_true rfl)) dL_law_1171 (fun r2 _ d2 H locs hd0 hm2 hP hD hS => ?_)
  have hmm := q_mean_eq hm1 hm2
  refine lv_dstore (lv' := [(7, .double r2), (5, .double r), (0, .ref b), (1, .ref g), (2, .ref h), (3, .ref o), (4, .int (nI (4 * i)))]) hx hb dL_law_1174 hl (by decide) rfl (fun ls hl => ?_)
  refine lv_dload hx hb dL_law_1176 (lv_at hl 1 rfl) ?_
  refine lv_dload hx hb dL_law_1178 (lv_at hl 0 rfl) ?_
  refine lv_dcmp hx hb dL_law_1180 ?_
  refine lv_if_eq (tgt := 1202) hx hb dL_law_1181 (by decide) (fun _ => ?_) (fun hc => ?_)
  · skip
    refine lv_goto (tgt := 1219) hx hb dL_law_1202 (by decide) ?_
    refine W.widen (k := C + 80) (n := S + 700) (by omega) (by omega) ?_
    exact kk d2 hei dra rai σ cre gai see fou z 0 flo lak row f H locs ls hd0 (inv_up hI (by omega)) (by omega) hP hD hS (lv_sub hl [2, 3, 4, 5, 6] rfl)
  · skip
    refine lv_dload hx hb dL_law_1184 (lv_at hl 1 rfl) ?_
    refine lv_dload hx hb dL_law_1186 (lv_at hl 1 rfl) ?_
    refine lv_dcmp hx hb dL_law_1188 ?_
    refine lv_if_eq (tgt := 1200) hx hb dL_law_1189 (by decide) (fun hc2 => absurd hc2 (law_mean9 hmm hc).1) (fun _ => ?_)
    refine lv_dload hx hb dL_law_1192 (lv_at hl 0 rfl) ?_
    refine lv_dload hx hb dL_law_1194 (lv_at hl 0 rfl) ?_
    refine lv_dcmp hx hb dL_law_1196 ?_
    refine lv_if_ne (tgt := 1202) hx hb dL_law_1197 (by decide) (fun _ => ?_) (fun hc2 => absurd hc2 (law_mean9 hmm hc).2)
    refine lv_goto (tgt := 1219) hx hb dL_law_1202 (by decide) ?_
    refine W.widen (k := C + 80) (n := S + 700) (by omega) (by omega) ?_
    exact kk d2 hei dra rai σ cre gai see fou z 0 flo lak row f H locs ls hd0 (inv_up hI (by omega)) (by omega) hP hD hS (lv_sub hl [2, 3, 4, 5, 6] rfl)
set_option maxHeartbeats 4000000 in
set_option maxRecDepth 100000 in
theorem law_digest {p : Program} {l : Launch} {e : Env} {s : State} {m : MethodId} {below : List Frame} {meth : Method} {c : Code} {b L : Nat} {xs : Nat → Int32} {D : va_G} {cI cJ cL : ClassId} {sa1 sa2 : Nat} {g hn ha : Nat} {adn ada : Nat → Nat} {h : Nat} {ad : Nat → Nat} {o i C S : Nat} (C9 : lw_Cx p l m c b L xs D cI cJ cL sa1 sa2 s) (hL : L ≤ 2048) (hi : 4 * i + 4 ≤ L) (hC : C + 80 ≤ 840170 ∧ S + 700 ≤ 6575593) (kk : lw_Nx p l e s m below meth c b D cI cL g hn ha adn ada h ad o i (C + 80) (S + 700)) {d0 : Drawn} (hd0 : s.drawn.sameBut d0 lw_cs) {hei dra rai : Nat → Int32} {σ : Ms} {cre gai see fou : Nat → Int32} {z : Nat → Nat → Int32} {thr : Int32} {flo lak row : Nat → Int32} {f : Nat → Int64} (hI : inv (28000 * (i : Int)) hei dra rai σ) (ht : m_t σ ≤ 48 * i) {H : Heap} {locs : List Loc} {ls : Array Slot}
    (hP : va_P D vwCl (fW g hn ha adn ada cI hei dra rai σ cre gai see fou z ++ (mM h ad cI thr hei dra rai σ flo lak row ++ oW o cL f)) H) (hD : va_D (lw_A s) (fW g hn ha adn ada cI hei dra rai σ cre gai see fou z ++ (mM h ad cI thr hei dra rai σ flo lak row ++ oW o cL f))) (hS : va_S (lw_A s) s.heap H locs) (hl : lv_has ls 9 [(0, .ref b), (1, .ref g), (2, .ref h), (3, .ref o), (4, .int (nI (4 * i)))]) :
    W p l e room_1 (s.setDrawn d0) m #[Value.ref b] below meth c H locs C S (lw_Z below #[Value.ref b] s) (F0 m 1205 ls []) := by
  obtain ⟨hx, hb, hml, hown, hts, hK, hT, hY, hX, hbl, hst⟩ := C9.drew d0
  have hA : ∀ q : Nat, (s.setDrawn d0).heap.size ≤ q → lw_A s q := fun _ h9 => h9
  have hbA : ¬ lw_A s b := Nat.not_le.mpr hbl
  have ht9 : m_t σ < 2 ^ 29 := by omega
  have hi1 := inv_1 hI
  have hw0 := inv_w hI
  have hdm := inv_dm hI
  replace hS : va_S (lw_A s) (s.setDrawn d0).heap H locs := hS
  refine lv_aload_n hx hb dL_law_1205 rfl (lv_at hl 1 rfl) ?_
  refine ct_Vl (As := []) (rest := []) (wr := mM h ad cI thr hei dra rai σ flo lak row ++ oW o cL f) (W0 := fW g hn ha adn ada cI hei dra rai σ cre gai see fou z ++ (mM h ad cI thr hei dra rai σ flo lak row ++ oW o cL f)) (W1 := fun u => fW g hn ha adn ada cI hei dra rai σ cre gai u.1 u.2 z ++ (mM h ad cI thr hei dra rai σ flo lak row ++ oW o cL f)) (cells1 := C) (slots1 := S) ⟨hx, hb, hml, hown, hts⟩ (c_X1_digest l D cI g hn ha adn ada hei dra rai σ cre gai see fou z) (cwV 0 hts gL_law_X1_digest rfl rfl rfl (by decide +kernel) ⟨Nat.le_of_ble_eq_true rfl, Nat.le_of_ble_eq_true rfl⟩) hK hP hD hS hA [0, 1, 2, 3, 4, 5, 6, 7, 8, 9, 10, 11, 12, 13, 14, 15, 16, 17, 18, 19, 20, 21, 22, 23, 24] [25, 26, 27, 28, 29, 30, 31, 32, 33, 34, 35, 36, 37] ⟨rfl, rfl, rfl, rfl, rfl⟩ [13, 14, 15, 16, 17, 18, 19, 20, 21, 22, 23, 24, 25, 26, 27, 28, 29, 30, 31, 32, 33, 34, 35, 36, 37, 0, 1, 2, 3, 4, 5, 6, 7, 8, 9, 10, 11, 12] rfl (fun _ => rfl) [0] rfl (va_recv hK hP (ci := 1) (q0 := 0) rfl rfl) rfl hl.1 rfl (Nat.le_of_ble_eq_true rfl) rfl rfl (lw_hc (k := 0) (n := 0) hC (Nat.le_of_ble_eq_true rfl) (Nat.le_of_ble_eq_true rfl)) dL_law_1206 (fun r u H locs hm1 hP hD hS => ?_)
  subst hm1
  refine lv_aload_n hx hb dL_law_1209 rfl (lv_at hl 2 rfl) ?_
  refine ct_Vl (As := []) (rest := [.long (q_dig hei dra rai σ)]) (wr := fW g hn ha adn ada cI hei dra rai σ cre gai u.1 u.2 z ++ oW o cL f) (W0 := fW g hn ha adn ada cI hei dra rai σ cre gai u.1 u.2 z ++ (mM h ad cI thr hei dra rai σ flo lak row ++ oW o cL f)) (W1 := fun w => fW g hn ha adn ada cI hei dra rai σ cre gai u.1 u.2 z ++ (mM h ad cI 0 hei dra rai σ flo w.1 w.2 ++ oW o cL f)) (cells1 := C) (slots1 := S) ⟨hx, hb, hml, hown, hts⟩ (c_X2_digest l D cI h ad thr hei dra rai σ flo lak row hw0) (cwV 0 hts gL_law_X2_digest rfl rfl rfl (by decide +kernel) ⟨Nat.le_of_ble_eq_true rfl, Nat.le_of_ble_eq_true rfl⟩) hK hP hD hS hA [25, 26, 27, 28, 29, 30, 31, 32, 33, 34, 35, 36] [0, 1, 2, 3, 4, 5, 6, 7, 8, 9, 10, 11, 12, 13, 14, 15, 16, 17, 18, 19, 20, 21, 22, 23, 24, 37] ⟨rfl, rfl, rfl, rfl, rfl⟩ [0, 1, 2, 3, 4, 5, 6, 7, 8, 9, 10, 11, 12, 13, 14, 15, 16, 17, 18, 19, 20, 21, 22, 23, 24, 26, 27, 28, 29, 30, 31, 32, 33, 34, 35, 36, 37, 25] rfl (fun _ => rfl) [0] rfl (va_recv hK hP (ci := 2) (q0 := 25) rfl rfl) rfl hl.1 rfl (Nat.le_of_ble_eq_true rfl) rfl rfl (lw_hc (k := 0) (n := 0) hC (Nat.le_of_ble_eq_true rfl) (Nat.le_of_ble_eq_true rfl)) dL_law_1210 (fun r w H locs hm2 hP hD hS => ?_)
  refine lv_lcmp0 hx hb hm2.symm dL_law_1213 ?_
  refine lv_if_eq (tgt := 1219) hx hb dL_law_1214 (by decide) (fun _ => ?_) (fun hc => absurd rfl hc)
  refine W.widen (k := C + 80) (n := S + 700) (by omega) (by omega) ?_
  exact kk d0 hei dra rai σ cre gai u.1 u.2 z 0 flo w.1 w.2 f H locs ls hd0 (inv_up hI (by omega)) (by omega) hP hD hS (lv_sub hl [0, 1, 2, 3, 4] rfl)
