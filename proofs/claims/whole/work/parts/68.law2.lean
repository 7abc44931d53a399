set_option maxHeartbeats 4000000 in
set_option maxRecDepth 100000 in
theorem law_drain {p : Program} {l : Launch} {e : Env} {s : State} {m : MethodId} {below : List Frame} {meth : Method} {c : Code} {b L : Nat} {xs : Nat → Int32} {D : va_G} {cI cJ cL : ClassId} {sa1 sa2 : Nat} {g hn ha : Nat} {adn ada : Nat → Nat} {h : Nat} {ad : Nat → Nat} {o i C S : Nat} {x y v : Int32} (C9 : lw_Cx p l m c b L xs D cI cJ cL sa1 sa2 s) (hL : L ≤ 2048) (hi : 4 * i + 4 ≤ L) (hC : C + 80 ≤ 840170 ∧ S + 700 ≤ 6575593) (kk : lw_Nx p l e s m below meth c b D cI cL g hn ha adn ada h ad o i (C + 80) (S + 700)) {d0 : Drawn} (hd0 : s.drawn.sameBut d0 lw_cs) {hei dra rai : Nat → Int32} {σ : Ms} {cre gai see fou : Nat → Int32} {z : Nat → Nat → Int32} {thr : Int32} {flo lak row : Nat → Int32} {f : Nat → Int64} (hI : inv (28000 * (i : Int)) hei dra rai σ) (ht : m_t σ ≤ 48 * i) {H : Heap} {locs : List Loc} {ls : Array Slot} (e1 : xs (nI (4 * i) + nI 1).toNatClampNeg = x) (e2 : xs (nI (4 * i) + nI 2).toNatClampNeg = y) (e3 : xs (nI (4 * i) + nI 3).toNatClampNeg = v)
    (hP : va_P D vwCl (fW g hn ha adn ada cI hei dra rai σ cre gai see fou z ++ (mM h ad cI thr hei dra rai σ flo lak row ++ oW o cL f)) H) (hD : va_D (lw_A s) (fW g hn ha adn ada cI hei dra rai σ cre gai see fou z ++ (mM h ad cI thr hei dra rai σ flo lak row ++ oW o cL f))) (hS : va_S (lw_A s) s.heap H locs) (hl : lv_has ls 9 [(0, .ref b), (1, .ref g), (2, .ref h), (3, .ref o), (4, .int (nI (4 * i)))]) :
    W p l e room_1 (s.setDrawn d0) m #[Value.ref b] below meth c H locs C S (lw_Z below #[Value.ref b] s) (F0 m 360 ls []) := by
  obtain ⟨hx, hb, hml, hown, hts, hK, hT, hY, hX, hbl, hst⟩ := C9.drew d0
  have hA : ∀ q : Nat, (s.setDrawn d0).heap.size ≤ q → lw_A s q := fun _ h9 => h9
  have hbA : ¬ lw_A s b := Nat.not_le.mpr hbl
  have ht9 : m_t σ < 2 ^ 29 := by omega
  have hi1 := inv_1 hI
  have hw0 := inv_w hI
  have hdm := inv_dm hI
  replace hS : va_S (lw_A s) (s.setDrawn d0).heap H locs := hS
  refine lv_aload_n hx hb dL_law_360 rfl (lv_at hl 1 rfl) ?_
  refine lv_aload_n hx hb dL_law_361 rfl (lv_at hl 0 rfl) ?_
  refine lv_iload hx hb dL_law_362 (lv_at hl 4 rfl) ?_
  refine lv_iconst (v := nI 1) hx hb dL_law_364 (by decide) ?_
  refine lv_iadd hx hb dL_law_365 ?_
  refine va_sld hx hb hX hbl hbA hS (lw_in1 (j := 1) (by omega) hL) dL_law_366 ?_
  refine ct_top e1 ?_
  refine lv_aload_n hx hb dL_law_367 rfl (lv_at hl 0 rfl) ?_
  refine lv_iload hx hb dL_law_368 (lv_at hl 4 rfl) ?_
  refine lv_iconst (v := nI 2) hx hb dL_law_370 (by decide) ?_
  refine lv_iadd hx hb dL_law_371 ?_
  refine va_sld hx hb hX hbl hbA hS (lw_in1 (j := 2) (by omega) hL) dL_law_372 ?_
  refine ct_top e2 ?_
  refine lv_aload_n hx hb dL_law_373 rfl (lv_at hl 0 rfl) ?_
  refine lv_iload hx hb dL_law_374 (lv_at hl 4 rfl) ?_
  refine lv_iconst (v := nI 3) hx hb dL_law_376 (by decide) ?_
  refine lv_iadd hx hb dL_law_377 ?_
  refine va_sld hx hb hX hbl hbA hS (lw_in1 (j := 3) (by omega) hL) dL_law_378 ?_
  refine ct_top e3 ?_
  refine lv_aload_n hx hb dL_law_379 rfl (lv_at hl 3 rfl) ?_
  refine cz_Si (As := [.ref g, .int x, .int y, .int v, .ref o]) (rest := []) (wr := mM h ad cI thr hei dra rai σ flo lak row) (W0 := fW g hn ha adn ada cI hei dra rai σ cre gai see fou z ++ (mM h ad cI thr hei dra rai σ flo lak row ++ oW o cL f)) (W1 := z_w1 (fW g hn ha adn ada cI hei dra rai σ cre gai see fou z) (fun _ => (fW g hn ha adn ada cI hei (upd dra (q_at x y) v) rai σ cre gai see fou z)) (mM h ad cI thr hei dra rai σ flo lak row) o cL f) (cells1 := C + 3) (slots1 := S + 18) ⟨hx, hb, hml, hown, hts⟩ (c_L_drain l hst D cI cL sa1 sa2 g hn ha adn ada hei dra rai σ cre gai see fou z x y v o f) (vx_cwSW (hh := [(0, 12, 15, 13), (0, 12, 19, 15)]) 5 hts gL_law_L_drain rfl rfl rfl (by decide +kernel) ⟨Nat.le_of_ble_eq_true rfl, Nat.le_of_ble_eq_true rfl⟩) hK hP hD hS hA hT [0, 1, 2, 3, 4, 5, 6, 7, 8, 9, 10, 11, 12, 13, 14, 15, 16, 17, 18, 19, 20, 21, 22, 23, 24, 37] [25, 26, 27, 28, 29, 30, 31, 32, 33, 34, 35, 36] ⟨rfl, rfl, rfl, rfl, rfl⟩ [12, 13, 14, 15, 16, 17, 18, 19, 20, 21, 22, 23, 24, 25, 26, 27, 28, 29, 30, 31, 32, 33, 34, 35, 36, 0, 1, 2, 3, 4, 5, 6, 7, 8, 9, 10, 11, 37] rfl (fun u => by rcases u with _ | ⟨u, f1⟩ <;> rfl) [0, 2] rfl rfl hl.1 rfl (Nat.le_of_ble_eq_true rfl) rfl rfl (lw_hc hC (Nat.le_of_ble_eq_true rfl) (Nat.le_of_ble_eq_true rfl)) dL_law_380 (fun k u H locs hw hP hD hS => ?_)
  rcases u with _ | ⟨u, f1⟩
  · skip
    replace hP : va_P D vwCl (fW g hn ha adn ada cI hei dra rai σ cre gai see fou z ++ (mM h ad cI thr hei dra rai σ flo lak row ++ oW o cL f)) H := hP
    replace hD : va_D (lw_A s) (fW g hn ha adn ada cI hei dra rai σ cre gai see fou z ++ (mM h ad cI thr hei dra rai σ flo lak row ++ oW o cL f)) := hD
    refine lv_istore (lv' := [(5, .int k), (0, .ref b), (1, .ref g), (2, .ref h), (3, .ref o), (4, .int (nI (4 * i)))]) hx hb dL_law_383 hl (by decide) rfl (fun ls hl => ?_)
    refine lv_aload_n hx hb dL_law_385 rfl (lv_at hl 3 rfl) ?_
    refine lv_aload_n hx hb dL_law_386 rfl (lv_at hl 1 rfl) ?_
    refine lv_iload hx hb dL_law_387 (lv_at hl 5 rfl) ?_
    refine lv_iconst (v := nI 1) hx hb dL_law_389 (by decide) ?_
    refine lv_iadd hx hb dL_law_390 ?_
    refine va_sld hx hb hX hbl hbA hS (lw_in1 (j := 1) (by omega) hL) dL_law_391 ?_
    refine ct_top e1 ?_
    refine lv_aload_n hx hb dL_law_392 rfl (lv_at hl 1 rfl) ?_
    refine lv_iload hx hb dL_law_393 (lv_at hl 5 rfl) ?_
    refine lv_iconst (v := nI 2) hx hb dL_law_395 (by decide) ?_
    refine lv_iadd hx hb dL_law_396 ?_
    refine va_sld hx hb hX hbl hbA hS (lw_in1 (j := 2) (by omega) hL) dL_law_397 ?_
    refine ct_top e2 ?_
    refine lv_aload_n hx hb dL_law_398 rfl (lv_at hl 1 rfl) ?_
    refine lv_iload hx hb dL_law_399 (lv_at hl 5 rfl) ?_
    refine lv_iconst (v := nI 3) hx hb dL_law_401 (by decide) ?_
    refine lv_iadd hx hb dL_law_402 ?_
    refine va_sld hx hb hX hbl hbA hS (lw_in1 (j := 3) (by omega) hL) dL_law_403 ?_
    refine ct_top e3 ?_
    refine ct_Vi (As := [.int x, .int y, .int v]) (rest := []) (wr := fW g hn ha adn ada cI hei dra rai σ cre gai see fou z ++ oW o cL f) (W0 := fW g hn ha adn ada cI hei dra rai σ cre gai see fou z ++ (mM h ad cI thr hei dra rai σ flo lak row ++ oW o cL f)) (W1 := fun w => fW g hn ha adn ada cI hei dra rai σ cre gai see fou z ++ ((mW h ad cI w.1 hei (m_wat σ) (m_dam σ) (m_wea σ) w.2 (m_peo σ) rai (q_num (nI (m_t σ)) (m_bro σ) (m_drd σ) (m_lef σ)) flo lak row) ++ oW o cL f)) (cells1 := C + 3) (slots1 := S + 18) ⟨hx, hb, hml, hown, hts⟩ (c_X2_drain l D cI h ad thr hei (m_wat σ) (m_dam σ) (m_wea σ) dra (m_peo σ) rai (q_num (nI (m_t σ)) (m_bro σ) (m_drd σ) (m_lef σ)) flo lak row  x y v) (cwV 3 hts gL_law_X2_drain rfl rfl rfl (by decide +kernel) ⟨Nat.le_of_ble_eq_true rfl, Nat.le_of_ble_eq_true rfl⟩) hK hP hD hS hA [25, 26, 27, 28, 29, 30, 31, 32, 33, 34, 35, 36] [0, 1, 2, 3, 4, 5, 6, 7, 8, 9, 10, 11, 12, 13, 14, 15, 16, 17, 18, 19, 20, 21, 22, 23, 24, 37] ⟨rfl, rfl, rfl, rfl, rfl⟩ [0, 1, 2, 3, 4, 5, 6, 7, 8, 9, 10, 11, 12, 13, 14, 15, 16, 17, 18, 19, 20, 21, 22, 23, 24, 26, 27, 28, 29, 30, 31, 32, 33, 34, 35, 36, 37, 25] rfl (fun _ => rfl) [0] rfl (va_recv hK hP (ci := 2) (q0 := 25) rfl rfl) rfl hl.1 rfl (Nat.le_of_ble_eq_true rfl) rfl rfl (lw_hc hC (Nat.le_of_ble_eq_true rfl) (Nat.le_of_ble_eq_true rfl)) dL_law_404 (fun r w H locs hm hP hD hS => ?_)
    obtain ⟨w1, w2⟩ := w
    have hu : k = w1 ∧ ¬ k = 0 ∧ dra = w2 := by
      rcases hw with ⟨rfl, ⟨-, h1⟩ | ⟨h1, -⟩⟩ | ⟨rfl, ⟨h1, -⟩ | ⟨-, h1, h2⟩⟩
      · rcases hm with ⟨g1, g2, g3⟩ | ⟨g1, -⟩ | ⟨g1, -⟩
        · exact ⟨g2.symm, by decide, g3.symm⟩
        · exact absurd g1 h1
        · exact absurd g1 h1
      · exact absurd h1 (by decide +kernel)
      · exact absurd h1 (by decide +kernel)
      · rcases hm with ⟨g1, -⟩ | ⟨-, -, g2, g3⟩ | ⟨-, g1, -⟩
        · exact absurd h1 g1
        · exact ⟨g2.symm, by decide, g3.symm⟩
        · exact absurd g1 h2
    obtain ⟨rfl, hk0, rfl⟩ := hu
    replace hP : va_P D vwCl (fW g hn ha adn ada cI hei dra rai σ cre gai see fou z ++ (mM h ad cI k hei dra rai σ flo lak row ++ oW o cL f)) H := hP
    replace hD : va_D (lw_A s) (fW g hn ha adn ada cI hei dra rai σ cre gai see fou z ++ (mM h ad cI k hei dra rai σ flo lak row ++ oW o cL f)) := hD
    refine lv_istore (lv' := [(6, .int r), (5, .int k), (0, .ref b), (1, .ref g), (2, .ref h), (3, .ref o), (4, .int (nI (4 * i)))]) hx hb dL_law_407 hl (by decide) rfl (fun ls hl => ?_)
    refine lv_aload_n hx hb dL_law_409 rfl (lv_at hl 4 rfl) ?_
    refine ct_Vi (As := []) (rest := []) (wr := fW g hn ha adn ada cI hei dra rai σ cre gai see fou z ++ oW o cL f) (W0 := fW g hn ha adn ada cI hei dra rai σ cre gai see fou z ++ (mM h ad cI k hei dra rai σ flo lak row ++ oW o cL f)) (W1 := fun _ => fW g hn ha adn ada cI hei dra rai σ cre gai see fou z ++ (mM h ad cI k hei dra rai σ flo lak row ++ oW o cL f)) (cells1 := C + 3) (slots1 := S + 18) ⟨hx, hb, hml, hown, hts⟩ (c_X2_thrown l D cI h ad k hei (m_wat σ) (m_dam σ) (m_wea σ) dra (m_peo σ) rai (q_num (nI (m_t σ)) (m_bro σ) (m_drd σ) (m_lef σ)) flo lak row) (cwV 0 hts gL_law_X2_thrown rfl rfl rfl (by decide +kernel) ⟨Nat.le_of_ble_eq_true rfl, Nat.le_of_ble_eq_true rfl⟩) hK hP hD hS hA [25, 26, 27, 28, 29, 30, 31, 32, 33, 34, 35, 36] [0, 1, 2, 3, 4, 5, 6, 7, 8, 9, 10, 11, 12, 13, 14, 15, 16, 17, 18, 19, 20, 21, 22, 23, 24, 37] ⟨rfl, rfl, rfl, rfl, rfl⟩ [0, 1, 2, 3, 4, 5, 6, 7, 8, 9, 10, 11, 12, 13, 14, 15, 16, 17, 18, 19, 20, 21, 22, 23, 24, 26, 27, 28, 29, 30, 31, 32, 33, 34, 35, 36, 37, 25] rfl (fun _ => rfl) [0] rfl (va_recv hK hP (ci := 2) (q0 := 25) rfl rfl) rfl hl.1 rfl (Nat.le_of_ble_eq_true rfl) rfl rfl (lw_hc hC (Nat.le_of_ble_eq_true rfl) (Nat.le_of_ble_eq_true rfl)) dL_law_410 (fun r9 _ H locs hw9 hP hD hS => ?_)
    refine ct_top hw9 ?_
    refine lv_iload hx hb dL_law_413 (lv_at hl 1 rfl) ?_
    refine lv_icmp_eq (tgt := 420) hx hb dL_law_415 (by decide) (fun _ => ?_) (fun hc => absurd rfl hc)
    refine lv_iload hx hb dL_law_420 (lv_at hl 1 rfl) ?_
    refine lv_if_ne (tgt := 437) hx hb dL_law_422 (by decide) (fun _ => ?_) (fun hc => absurd hc hk0)
    refine lv_goto (tgt := 1219) hx hb dL_law_437 (by decide) ?_
    refine W.widen (k := C + 80) (n := S + 700) (by omega) (by omega) ?_
    exact kk d0 hei dra rai σ cre gai see fou z k flo lak row f H locs ls hd0 (inv_up hI (by omega)) (by omega) hP hD hS (lv_sub hl [2, 3, 4, 5, 6] rfl)
  · skip
    obtain ⟨rfl, r0, hp0, hf0⟩ := hw
    replace hP : va_P D vwCl (fW g hn ha adn ada cI hei (upd dra (q_at x y) v) rai σ cre gai see fou z ++ (mM h ad cI thr hei dra rai σ flo lak row ++ oW o cL f1)) H := hP
    replace hD : va_D (lw_A s) (fW g hn ha adn ada cI hei (upd dra (q_at x y) v) rai σ cre gai see fou z ++ (mM h ad cI thr hei dra rai σ flo lak row ++ oW o cL f1)) := hD
    refine lv_istore (lv' := [(5, .int 0), (0, .ref b), (1, .ref g), (2, .ref h), (3, .ref o), (4, .int (nI (4 * i)))]) hx hb dL_law_383 hl (by decide) rfl (fun ls hl => ?_)
    refine lv_aload_n hx hb dL_law_385 rfl (lv_at hl 3 rfl) ?_
    refine lv_aload_n hx hb dL_law_386 rfl (lv_at hl 1 rfl) ?_
    refine lv_iload hx hb dL_law_387 (lv_at hl 5 rfl) ?_
    refine lv_iconst (v := nI 1) hx hb dL_law_389 (by decide) ?_
    refine lv_iadd hx hb dL_law_390 ?_
    refine va_sld hx hb hX hbl hbA hS (lw_in1 (j := 1) (by omega) hL) dL_law_391 ?_
    refine ct_top e1 ?_
    refine lv_aload_n hx hb dL_law_392 rfl (lv_at hl 1 rfl) ?_
    refine lv_iload hx hb dL_law_393 (lv_at hl 5 rfl) ?_
    refine lv_iconst (v := nI 2) hx hb dL_law_395 (by decide) ?_
    refine lv_iadd hx hb dL_law_396 ?_
    refine va_sld hx hb hX hbl hbA hS (lw_in1 (j := 2) (by omega) hL) dL_law_397 ?_
    refine ct_top e2 ?_
    refine lv_aload_n hx hb dL_law_398 rfl (lv_at hl 1 rfl) ?_
    refine lv_iload hx hb dL_law_399 (lv_at hl 5 rfl) ?_
    refine lv_iconst (v := nI 3) hx hb dL_law_401 (by decide) ?_
    refine lv_iadd hx hb dL_law_402 ?_
    refine va_sld hx hb hX hbl hbA hS (lw_in1 (j := 3) (by omega) hL) dL_law_403 ?_
    refine ct_top e3 ?_
    refine ct_Vi (As := [.int x, .int y, .int v]) (rest := []) (wr := fW g hn ha adn ada cI hei (upd dra (q_at x y) v) rai σ cre gai see fou z ++ oW o cL f1) (W0 := fW g hn ha adn ada cI hei (upd dra (q_at x y) v) rai σ cre gai see fou z ++ (mM h ad cI thr hei dra rai σ flo lak row ++ oW o cL f1)) (W1 := fun w => fW g hn ha adn ada cI hei (upd dra (q_at x y) v) rai σ cre gai see fou z ++ ((mW h ad cI w.1 hei (m_wat σ) (m_dam σ) (m_wea σ) w.2 (m_peo σ) rai (q_num (nI (m_t σ)) (m_bro σ) (m_drd σ) (m_lef σ)) flo lak row) ++ oW o cL f1)) (cells1 := C + 3) (slots1 := S + 18) ⟨hx, hb, hml, hown, hts⟩ (c_X2_drain l D cI h ad thr hei (m_wat σ) (m_dam σ) (m_wea σ) dra (m_peo σ) rai (q_num (nI (m_t σ)) (m_bro σ) (m_drd σ) (m_lef σ)) flo lak row  x y v) (cwV 3 hts gL_law_X2_drain rfl rfl rfl (by decide +kernel) ⟨Nat.le_of_ble_eq_true rfl, Nat.le_of_ble_eq_true rfl⟩) hK hP hD hS hA [25, 26, 27, 28, 29, 30, 31, 32, 33, 34, 35, 36] [0, 1, 2, 3, 4, 5, 6, 7, 8, 9, 10, 11, 12, 13, 14, 15, 16, 17, 18, 19, 20, 21, 22, 23, 24, 37] ⟨rfl, rfl, rfl, rfl, rfl⟩ [0, 1, 2, 3, 4, 5, 6, 7, 8, 9, 10, 11, 12, 13, 14, 15, 16, 17, 18, 19, 20, 21, 22, 23, 24, 26, 27, 28, 29, 30, 31, 32, 33, 34, 35, 36, 37, 25] rfl (fun _ => rfl) [0] rfl (va_recv hK hP (ci := 2) (q0 := 25) rfl rfl) rfl hl.1 rfl (Nat.le_of_ble_eq_true rfl) rfl rfl (lw_hc hC (Nat.le_of_ble_eq_true rfl) (Nat.le_of_ble_eq_true rfl)) dL_law_404 (fun r w H locs hm hP hD hS => ?_)
    obtain ⟨w1, w2⟩ := w
    have hu : 0 = w1 ∧ r0 = r ∧ upd dra (q_at x y) v = w2 := by
      rcases hm with ⟨g1, -⟩ | ⟨-, g1, -⟩ | ⟨-, -, g2, g3, g4⟩
      · exact absurd hp0.1 g1
      · exact absurd hp0.2.1 g1
      · exact ⟨g2.symm, hp0.2.2.trans g3.symm, g4.symm⟩
    obtain ⟨rfl, rfl, rfl⟩ := hu
    replace hP : va_P D vwCl (fW g hn ha adn ada cI hei (upd dra (q_at x y) v) rai σ cre gai see fou z ++ (mM h ad cI 0 hei (upd dra (q_at x y) v) rai σ flo lak row ++ oW o cL f1)) H := hP
    replace hD : va_D (lw_A s) (fW g hn ha adn ada cI hei (upd dra (q_at x y) v) rai σ cre gai see fou z ++ (mM h ad cI 0 hei (upd dra (q_at x y) v) rai σ flo lak row ++ oW o cL f1)) := hD
    refine lv_istore (lv' := [(6, .int r0), (5, .int 0), (0, .ref b), (1, .ref g), (2, .ref h), (3, .ref o), (4, .int (nI (4 * i)))]) hx hb dL_law_407 hl (by decide) rfl (fun ls hl => ?_)
    refine lv_aload_n hx hb dL_law_409 rfl (lv_at hl 4 rfl) ?_
    refine ct_Vi (As := []) (rest := []) (wr := fW g hn ha adn ada cI hei (upd dra (q_at x y) v) rai σ cre gai see fou z ++ oW o cL f1) (W0 := fW g hn ha adn ada cI hei (upd dra (q_at x y) v) rai σ cre gai see fou z ++ (mM h ad cI 0 hei (upd dra (q_at x y) v) rai σ flo lak row ++ oW o cL f1)) (W1 := fun _ => fW g hn ha adn ada cI hei (upd dra (q_at x y) v) rai σ cre gai see fou z ++ (mM h ad cI 0 hei (upd dra (q_at x y) v) rai σ flo lak row ++ oW o cL f1)) (cells1 := C + 3) (slots1 := S + 18) ⟨hx, hb, hml, hown, hts⟩ (c_X2_thrown l D cI h ad 0 hei (m_wat σ) (m_dam σ) (m_wea σ) (upd dra (q_at x y) v) (m_peo σ) rai (q_num (nI (m_t σ)) (m_bro σ) (m_drd σ) (m_lef σ)) flo lak row) (cwV 0 hts gL_law_X2_thrown rfl rfl rfl (by decide +kernel) ⟨Nat.le_of_ble_eq_true rfl, Nat.le_of_ble_eq_true rfl⟩) hK hP hD hS hA [25, 26, 27, 28, 29, 30, 31, 32, 33, 34, 35, 36] [0, 1, 2, 3, 4, 5, 6, 7, 8, 9, 10, 11, 12, 13, 14, 15, 16, 17, 18, 19, 20, 21, 22, 23, 24, 37] ⟨rfl, rfl, rfl, rfl, rfl⟩ [0, 1, 2, 3, 4, 5, 6, 7, 8, 9, 10, 11, 12, 13, 14, 15, 16, 17, 18, 19, 20, 21, 22, 23, 24, 26, 27, 28, 29, 30, 31, 32, 33, 34, 35, 36, 37, 25] rfl (fun _ => rfl) [0] rfl (va_recv hK hP (ci := 2) (q0 := 25) rfl rfl) rfl hl.1 rfl (Nat.le_of_ble_eq_true rfl) rfl rfl (lw_hc hC (Nat.le_of_ble_eq_true rfl) (Nat.le_of_ble_eq_true rfl)) dL_law_410 (fun r9 _ H locs hw9 hP hD hS => ?_)
    refine ct_top hw9 ?_
    refine lv_iload hx hb dL_law_413 (lv_at hl 1 rfl) ?_
    refine lv_icmp_eq (tgt := 420) hx hb dL_law_415 (by decide) (fun _ => ?_) (fun hc => absurd rfl hc)
    refine lv_iload hx hb dL_law_420 (lv_at hl 1 rfl) ?_
    refine lv_if_ne (tgt := 437) hx hb dL_law_422 (by decide) (fun hc => absurd rfl hc) (fun _ => ?_)
    refine lv_aload_n hx hb dL_law_425 rfl (lv_at hl 5 rfl) ?_
    refine lv_iconst (v := 0) hx hb dL_law_426 (by decide) ?_
    refine va_lald (cl := vwCl) (f := f1) hx hb hK hP 37 2 rfl rfl z_in0 dL_law_427 ?_
    refine lv_iload hx hb dL_law_428 (lv_at hl 0 rfl) ?_
    refine lv_i2l (v := Int32.toInt64 r0) hx hb dL_law_430 rfl ?_
    refine lv_lcmp0 hx hb hf0 dL_law_431 ?_
    refine lv_if_eq (tgt := 437) hx hb dL_law_432 (by decide) (fun _ => ?_) (fun hc => absurd rfl hc)
    refine lv_goto (tgt := 1219) hx hb dL_law_437 (by decide) ?_
    refine W.widen (k := C + 80) (n := S + 700) (by omega) (by omega) ?_
    exact kk d0 hei (upd dra (q_at x y) v) rai σ cre gai see fou z 0 flo lak row f1 H locs ls hd0 (inv_up (inv_dra hI _ hp0.2.1) (by omega)) (by omega) hP hD hS (lv_sub hl [2, 3, 4, 5, 6] rfl)
set_option maxHeartbeats 4000000 in
set_option maxRecDepth 100000 in
theorem law_settle {p : Program} {l : Launch} {e : Env} {s : State} {m : MethodId} {below : List Frame} {meth : Method} {c : Code} {b L : Nat} {xs : Nat → Int32} {D : va_G} {cI cJ cL : ClassId} {sa1 sa2 : Nat} {g hn ha : Nat} {adn ada : Nat → Nat} {h : Nat} {ad : Nat → Nat} {o i C S : Nat} {x y v : Int32} (C9 : lw_Cx p l m c b L xs D cI cJ cL sa1 sa2 s) (hL : L ≤ 2048) (hi : 4 * i + 4 ≤ L) (hC : C + 80 ≤ 840170 ∧ S + 700 ≤ 6575593) (kk : lw_Nx p l e s m below meth c b D cI cL g hn ha adn ada h ad o i (C + 80) (S + 700)) {d0 : Drawn} (hd0 : s.drawn.sameBut d0 lw_cs) {hei dra rai : Nat → Int32} {σ : Ms} {cre gai see fou : Nat → Int32} {z : Nat → Nat → Int32} {thr : Int32} {flo lak row : Nat → Int32} {f : Nat → Int64} (hI : inv (28000 * (i : Int)) hei dra rai σ) (ht : m_t σ ≤ 48 * i) {H : Heap} {locs : List Loc} {ls : Array Slot} (e1 : xs (nI (4 * i) + nI 1).toNatClampNeg = x) (e2 : xs (nI (4 * i) + nI 2).toNatClampNeg = y) (e3 : xs (nI (4 * i) + nI 3).toNatClampNeg = v)
    (hP : va_P D vwCl (fW g hn ha adn ada cI hei dra rai σ cre gai see fou z ++ (mM h ad cI thr hei dra rai σ flo lak row ++ oW o cL f)) H) (hD : va_D (lw_A s) (fW g hn ha adn ada cI hei dra rai σ cre gai see fou z ++ (mM h ad cI thr hei dra rai σ flo lak row ++ oW o cL f))) (hS : va_S (lw_A s) s.heap H locs) (hl : lv_has ls 9 [(0, .ref b), (1, .ref g), (2, .ref h), (3, .ref o), (4, .int (nI (4 * i)))]) :
    W p l e room_1 (s.setDrawn d0) m #[Value.ref b] below meth c H locs C S (lw_Z below #[Value.ref b] s) (F0 m 440 ls []) := by
  obtain ⟨hx, hb, hml, hown, hts, hK, hT, hY, hX, hbl, hst⟩ := C9.drew d0
  have hA : ∀ q : Nat, (s.setDrawn d0).heap.size ≤ q → lw_A s q := fun _ h9 => h9
  have hbA : ¬ lw_A s b := Nat.not_le.mpr hbl
  have ht9 : m_t σ < 2 ^ 29 := by omega
  have hi1 := inv_1 hI
  have hw0 := inv_w hI
  have hdm := inv_dm hI
  replace hS : va_S (lw_A s) (s.setDrawn d0).heap H locs := hS
  refine lv_aload_n hx hb dL_law_440 rfl (lv_at hl 1 rfl) ?_
  refine lv_aload_n hx hb dL_law_441 rfl (lv_at hl 0 rfl) ?_
  refine lv_iload hx hb dL_law_442 (lv_at hl 4 rfl) ?_
  refine lv_iconst (v := nI 1) hx hb dL_law_444 (by decide) ?_
  refine lv_iadd hx hb dL_law_445 ?_
  refine va_sld hx hb hX hbl hbA hS (lw_in1 (j := 1) (by omega) hL) dL_law_446 ?_
  refine ct_top e1 ?_
  refine lv_aload_n hx hb dL_law_447 rfl (lv_at hl 0 rfl) ?_
  refine lv_iload hx hb dL_law_448 (lv_at hl 4 rfl) ?_
  refine lv_iconst (v := nI 2) hx hb dL_law_450 (by decide) ?_
  refine lv_iadd hx hb dL_law_451 ?_
  refine va_sld hx hb hX hbl hbA hS (lw_in1 (j := 2) (by omega) hL) dL_law_452 ?_
  refine ct_top e2 ?_
  refine lv_aload_n hx hb dL_law_453 rfl (lv_at hl 0 rfl) ?_
  refine lv_iload hx hb dL_law_454 (lv_at hl 4 rfl) ?_
  refine lv_iconst (v := nI 3) hx hb dL_law_456 (by decide) ?_
  refine lv_iadd hx hb dL_law_457 ?_
  refine va_sld hx hb hX hbl hbA hS (lw_in1 (j := 3) (by omega) hL) dL_law_458 ?_
  refine ct_top e3 ?_
  refine lv_aload_n hx hb dL_law_459 rfl (lv_at hl 3 rfl) ?_
  refine cz_Si (As := [.ref g, .int x, .int y, .int v, .ref o]) (rest := []) (wr := mM h ad cI thr hei dra rai σ flo lak row) (W0 := fW g hn ha adn ada cI hei dra rai σ cre gai see fou z ++ (mM h ad cI thr hei dra rai σ flo lak row ++ oW o cL f)) (W1 := z_w1 (fW g hn ha adn ada cI hei dra rai σ cre gai see fou z) (fun _ => (fW g hn ha adn ada cI hei dra rai (m_wat σ, m_dam σ, m_wea σ, upd (m_peo σ) (q_at x y) v, m_t σ, m_bro σ, m_drd σ, m_lef σ) cre gai see fou z)) (mM h ad cI thr hei dra rai σ flo lak row) o cL f) (cells1 := C + 3) (slots1 := S + 18) ⟨hx, hb, hml, hown, hts⟩ (c_L_settle l hst D cI cL sa1 sa2 g hn ha adn ada hei dra rai σ cre gai see fou z x y v o f) (vx_cwSW (hh := [(0, 12, 15, 13), (0, 12, 19, 15)]) 5 hts gL_law_L_settle rfl rfl rfl (by decide +kernel) ⟨Nat.le_of_ble_eq_true rfl, Nat.le_of_ble_eq_true rfl⟩) hK hP hD hS hA hT [0, 1, 2, 3, 4, 5, 6, 7, 8, 9, 10, 11, 12, 13, 14, 15, 16, 17, 18, 19, 20, 21, 22, 23, 24, 37] [25, 26, 27, 28, 29, 30, 31, 32, 33, 34, 35, 36] ⟨rfl, rfl, rfl, rfl, rfl⟩ [12, 13, 14, 15, 16, 17, 18, 19, 20, 21, 22, 23, 24, 25, 26, 27, 28, 29, 30, 31, 32, 33, 34, 35, 36, 0, 1, 2, 3, 4, 5, 6, 7, 8, 9, 10, 11, 37] rfl (fun u => by rcases u with _ | ⟨u, f1⟩ <;> rfl) [0, 2] rfl rfl hl.1 rfl (Nat.le_of_ble_eq_true rfl) rfl rfl (lw_hc hC (Nat.le_of_ble_eq_true rfl) (Nat.le_of_ble_eq_true rfl)) dL_law_460 (fun k u H locs hw hP hD hS => ?_)
  rcases u with _ | ⟨u, f1⟩
  · skip
    replace hP : va_P D vwCl (fW g hn ha adn ada cI hei dra rai σ cre gai see fou z ++ (mM h ad cI thr hei dra rai σ flo lak row ++ oW o cL f)) H := hP
    replace hD : va_D (lw_A s) (fW g hn ha adn ada cI hei dra rai σ cre gai see fou z ++ (mM h ad cI thr hei dra rai σ flo lak row ++ oW o cL f)) := hD
    refine lv_istore (lv' := [(5, .int k), (0, .ref b), (1, .ref g), (2, .ref h), (3, .ref o), (4, .int (nI (4 * i)))]) hx hb dL_law_463 hl (by decide) rfl (fun ls hl => ?_)
    refine lv_aload_n hx hb dL_law_465 rfl (lv_at hl 3 rfl) ?_
    refine lv_aload_n hx hb dL_law_466 rfl (lv_at hl 1 rfl) ?_
    refine lv_iload hx hb dL_law_467 (lv_at hl 5 rfl) ?_
    refine lv_iconst (v := nI 1) hx hb dL_law_469 (by decide) ?_
    refine lv_iadd hx hb dL_law_470 ?_
    refine va_sld hx hb hX hbl hbA hS (lw_in1 (j := 1) (by omega) hL) dL_law_471 ?_
    refine ct_top e1 ?_
    refine lv_aload_n hx hb dL_law_472 rfl (lv_at hl 1 rfl) ?_
    refine lv_iload hx hb dL_law_473 (lv_at hl 5 rfl) ?_
    refine lv_iconst (v := nI 2) hx hb dL_law_475 (by decide) ?_
    refine lv_iadd hx hb dL_law_476 ?_
    refine va_sld hx hb hX hbl hbA hS (lw_in1 (j := 2) (by omega) hL) dL_law_477 ?_
    refine ct_top e2 ?_
    refine lv_aload_n hx hb dL_law_478 rfl (lv_at hl 1 rfl) ?_
    refine lv_iload hx hb dL_law_479 (lv_at hl 5 rfl) ?_
    refine lv_iconst (v := nI 3) hx hb dL_law_481 (by decide) ?_
    refine lv_iadd hx hb dL_law_482 ?_
    refine va_sld hx hb hX hbl hbA hS (lw_in1 (j := 3) (by omega) hL) dL_law_483 ?_
    refine ct_top e3 ?_
    refine ct_Vi (As := [.int x, .int y, .int v]) (rest := []) (wr := fW g hn ha adn ada cI hei dra rai σ cre gai see fou z ++ oW o cL f) (W0 := fW g hn ha adn ada cI hei dra rai σ cre gai see fou z ++ (mM h ad cI thr hei dra rai σ flo lak row ++ oW o cL f)) (W1 := fun w => fW g hn ha adn ada cI hei dra rai σ cre gai see fou z ++ ((mW h ad cI w.1 hei (m_wat σ) (m_dam σ) (m_wea σ) dra w.2 rai (q_num (nI (m_t σ)) (m_bro σ) (m_drd σ) (m_lef σ)) flo lak row) ++ oW o cL f)) (cells1 := C + 3) (slots1 := S + 18) ⟨hx, hb, hml, hown, hts⟩ (c_X2_settle l D cI h ad thr hei (m_wat σ) (m_dam σ) (m_wea σ) dra (m_peo σ) rai (q_num (nI (m_t σ)) (m_bro σ) (m_drd σ) (m_lef σ)) flo lak row  x y v) (cwV 3 hts gL_law_X2_settle rfl rfl rfl (by decide +kernel) ⟨Nat.le_of_ble_eq_true rfl, Nat.le_of_ble_eq_true rfl⟩) hK hP hD hS hA [25, 26, 27, 28, 29, 30, 31, 32, 33, 34, 35, 36] [0, 1, 2, 3, 4, 5, 6, 7, 8, 9, 10, 11, 12, 13, 14, 15, 16, 17, 18, 19, 20, 21, 22, 23, 24, 37] ⟨rfl, rfl, rfl, rfl, rfl⟩ [0, 1, 2, 3, 4, 5, 6, 7, 8, 9, 10, 11, 12, 13, 14, 15, 16, 17, 18, 19, 20, 21, 22, 23, 24, 26, 27, 28, 29, 30, 31, 32, 33, 34, 35, 36, 37, 25] rfl (fun _ => rfl) [0] rfl (va_recv hK hP (ci := 2) (q0 := 25) rfl rfl) rfl hl.1 rfl (Nat.le_of_ble_eq_true rfl) rfl rfl (lw_hc hC (Nat.le_of_ble_eq_true rfl) (Nat.le_of_ble_eq_true rfl)) dL_law_484 (fun r w H locs hm hP hD hS => ?_)
    obtain ⟨w1, w2⟩ := w
    have hu : k = w1 ∧ ¬ k = 0 ∧ m_peo σ = w2 := by
      rcases hw with ⟨rfl, ⟨-, h1⟩ | ⟨h1, -⟩⟩ | ⟨rfl, ⟨h1, -⟩ | ⟨-, h1, h2⟩⟩
      · rcases hm with ⟨g1, g2, g3⟩ | ⟨g1, -⟩ | ⟨g1, -⟩
        · exact ⟨g2.symm, by decide, g3.symm⟩
        · exact absurd g1 h1
        · exact absurd g1 h1
      · exact absurd h1 (by decide +kernel)
      · exact absurd h1 (by decide +kernel)
      · rcases hm with ⟨g1, -⟩ | ⟨-, -, g2, g3⟩ | ⟨-, g1, -⟩
        · exact absurd h1 g1
        · exact ⟨g2.symm, by decide, g3.symm⟩
        · exact absurd g1 h2
    obtain ⟨rfl, hk0, rfl⟩ := hu
    replace hP : va_P D vwCl (fW g hn ha adn ada cI hei dra rai σ cre gai see fou z ++ (mM h ad cI k hei dra rai σ flo lak row ++ oW o cL f)) H := hP
    replace hD : va_D (lw_A s) (fW g hn ha adn ada cI hei dra rai σ cre gai see fou z ++ (mM h ad cI k hei dra rai σ flo lak row ++ oW o cL f)) := hD
    refine lv_istore (lv' := [(6, .int r), (5, .int k), (0, .ref b), (1, .ref g), (2, .ref h), (3, .ref o), (4, .int (nI (4 * i)))]) hx hb dL_law_487 hl (by decide) rfl (fun ls hl => ?_)
    refine lv_aload_n hx hb dL_law_489 rfl (lv_at hl 4 rfl) ?_
    refine ct_Vi (As := []) (rest := []) (wr := fW g hn ha adn ada cI hei dra rai σ cre gai see fou z ++ oW o cL f) (W0 := fW g hn ha adn ada cI hei dra rai σ cre gai see fou z ++ (mM h ad cI k hei dra rai σ flo lak row ++ oW o cL f)) (W1 := fun _ => fW g hn ha adn ada cI hei dra rai σ cre gai see fou z ++ (mM h ad cI k hei dra rai σ flo lak row ++ oW o cL f)) (cells1 := C + 3) (slots1 := S + 18) ⟨hx, hb, hml, hown, hts⟩ (c_X2_thrown l D cI h ad k hei (m_wat σ) (m_dam σ) (m_wea σ) dra (m_peo σ) rai (q_num (nI (m_t σ)) (m_bro σ) (m_drd σ) (m_lef σ)) flo lak row) (cwV 0 hts gL_law_X2_thrown rfl rfl rfl (by decide +kernel) ⟨Nat.le_of_ble_eq_true rfl, Nat.le_of_ble_eq_true rfl⟩) hK hP hD hS hA [25, 26, 27, 28, 29, 30, 31, 32, 33, 34, 35, 36] [0, 1, 2, 3, 4, 5, 6, 7, 8, 9, 10, 11, 12, 13, 14, 15, 16, 17, 18, 19, 20, 21, 22, 23, 24, 37] ⟨rfl, rfl, rfl, rfl, rfl⟩ [0, 1, 2, 3, 4, 5, 6, 7, 8, 9, 10, 11, 12, 13, 14, 15, 16, 17, 18, 19, 20, 21, 22, 23, 24, 26, 27, 28, 29, 30, 31, 32, 33, 34, 35, 36, 37, 25] rfl (fun _ => rfl) [0] rfl (va_recv hK hP (ci := 2) (q0 := 25) rfl rfl) rfl hl.1 rfl (Nat.le_of_ble_eq_true rfl) rfl rfl (lw_hc hC (Nat.le_of_ble_eq_true rfl) (Nat.le_of_ble_eq_true rfl)) dL_law_490 (fun r9 _ H locs hw9 hP hD hS => ?_)
    refine ct_top hw9 ?_
    refine lv_iload hx hb dL_law_493 (lv_at hl 1 rfl) ?_
    refine lv_icmp_eq (tgt := 500) hx hb dL_law_495 (by decide) (fun _ => ?_) (fun hc => absurd rfl hc)
    refine lv_iload hx hb dL_law_500 (lv_at hl 1 rfl) ?_
    refine lv_if_ne (tgt := 517) hx hb dL_law_502 (by decide) (fun _ => ?_) (fun hc => absurd hc hk0)
    refine lv_goto (tgt := 1219) hx hb dL_law_517 (by decide) ?_
    refine W.widen (k := C + 80) (n := S + 700) (by omega) (by omega) ?_
    exact kk d0 hei dra rai σ cre gai see fou z k flo lak row f H locs ls hd0 (inv_up hI (by omega)) (by omega) hP hD hS (lv_sub hl [2, 3, 4, 5, 6] rfl)
  · skip
    obtain ⟨rfl, r0, hp0, hf0⟩ := hw
    replace hP : va_P D vwCl (fW g hn ha adn ada cI hei dra rai (m_wat σ, m_dam σ, m_wea σ, upd (m_peo σ) (q_at x y) v, m_t σ, m_bro σ, m_drd σ, m_lef σ) cre gai see fou z ++ (mM h ad cI thr hei dra rai σ flo lak row ++ oW o cL f1)) H := hP
    replace hD : va_D (lw_A s) (fW g hn ha adn ada cI hei dra rai (m_wat σ, m_dam σ, m_wea σ, upd (m_peo σ) (q_at x y) v, m_t σ, m_bro σ, m_drd σ, m_lef σ) cre gai see fou z ++ (mM h ad cI thr hei dra rai σ flo lak row ++ oW o cL f1)) := hD
    refine lv_istore (lv' := [(5, .int 0), (0, .ref b), (1, .ref g), (2, .ref h), (3, .ref o), (4, .int (nI (4 * i)))]) hx hb dL_law_463 hl (by decide) rfl (fun ls hl => ?_)
    refine lv_aload_n hx hb dL_law_465 rfl (lv_at hl 3 rfl) ?_
    refine lv_aload_n hx hb dL_law_466 rfl (lv_at hl 1 rfl) ?_
    refine lv_iload hx hb dL_law_467 (lv_at hl 5 rfl) ?_
    refine lv_iconst (v := nI 1) hx hb dL_law_469 (by decide) ?_
    refine lv_iadd hx hb dL_law_470 ?_
    refine va_sld hx hb hX hbl hbA hS (lw_in1 (j := 1) (by omega) hL) dL_law_471 ?_
    refine ct_top e1 ?_
    refine lv_aload_n hx hb dL_law_472 rfl (lv_at hl 1 rfl) ?_
    refine lv_iload hx hb dL_law_473 (lv_at hl 5 rfl) ?_
    refine lv_iconst (v := nI 2) hx hb dL_law_475 (by decide) ?_
    refine lv_iadd hx hb dL_law_476 ?_
    refine va_sld hx hb hX hbl hbA hS (lw_in1 (j := 2) (by omega) hL) dL_law_477 ?_
    refine ct_top e2 ?_
    refine lv_aload_n hx hb dL_law_478 rfl (lv_at hl 1 rfl) ?_
    refine lv_iload hx hb dL_law_479 (lv_at hl 5 rfl) ?_
    refine lv_iconst (v := nI 3) hx hb dL_law_481 (by decide) ?_
    refine lv_iadd hx hb dL_law_482 ?_
    refine va_sld hx hb hX hbl hbA hS (lw_in1 (j := 3) (by omega) hL) dL_law_483 ?_
    refine ct_top e3 ?_
    refine ct_Vi (As := [.int x, .int y, .int v]) (rest := []) (wr := fW g hn ha adn ada cI hei dra rai (m_wat σ, m_dam σ, m_wea σ, upd (m_peo σ) (q_at x y) v, m_t σ, m_bro σ, m_drd σ, m_lef σ) cre gai see fou z ++ oW o cL f1) (W0 := fW g hn ha adn ada cI hei dra rai (m_wat σ, m_dam σ, m_wea σ, upd (m_peo σ) (q_at x y) v, m_t σ, m_bro σ, m_drd σ, m_lef σ) cre gai see fou z ++ (mM h ad cI thr hei dra rai σ flo lak row ++ oW o cL f1)) (W1 := fun w => fW g hn ha adn ada cI hei dra rai (m_wat σ, m_dam σ, m_wea σ, upd (m_peo σ) (q_at x y) v, m_t σ, m_bro σ, m_drd σ, m_lef σ) cre gai see fou z ++ ((mW h ad cI w.1 hei (m_wat σ) (m_dam σ) (m_wea σ) dra w.2 rai (q_num (nI (m_t σ)) (m_bro σ) (m_drd σ) (m_lef σ)) flo lak row) ++ oW o cL f1)) (cells1 := C + 3) (slots1 := S + 18) ⟨hx, hb, hml, hown, hts⟩ (c_X2_settle l D cI h ad thr hei (m_wat σ) (m_dam σ) (m_wea σ) dra (m_peo σ) rai (q_num (nI (m_t σ)) (m_bro σ) (m_drd σ) (m_lef σ)) flo lak row  x y v) (cwV 3 hts gL_law_X2_settle rfl rfl rfl (by decide +kernel) ⟨Nat.le_of_ble_eq_true rfl, Nat.le_of_ble_eq_true rfl⟩) hK hP hD hS hA [25, 26, 27, 28, 29, 30, 31, 32, 33, 34, 35, 36] [0, 1, 2, 3, 4, 5, 6, 7, 8, 9, 10, 11, 12, 13, 14, 15, 16, 17, 18, 19, 20, 21, 22, 23, 24, 37] ⟨rfl, rfl, rfl, rfl, rfl⟩ [0, 1, 2, 3, 4, 5, 6, 7, 8, 9, 10, 11, 12, 13, 14, 15, 16, 17, 18, 19, 20, 21, 22, 23, 24, 26, 27, 28, 29, 30, 31, 32, 33, 34, 35, 36, 37, 25] rfl (fun _ => rfl) [0] rfl (va_recv hK hP (ci := 2) (q0 := 25) rfl rfl) rfl hl.1 rfl (Nat.le_of_ble_eq_true rfl) rfl rfl (lw_hc hC (Nat.le_of_ble_eq_true rfl) (Nat.le_of_ble_eq_true rfl)) dL_law_484 (fun r w H locs hm hP hD hS => ?_)
    obtain ⟨w1, w2⟩ := w
    have hu : 0 = w1 ∧ r0 = r ∧ upd (m_peo σ) (q_at x y) v = w2 := by
      rcases hm with ⟨g1, -⟩ | ⟨-, g1, -⟩ | ⟨-, -, g2, g3, g4⟩
      · exact absurd hp0.1 g1
      · exact absurd hp0.2.1 g1
      · exact ⟨g2.symm, hp0.2.2.trans g3.symm, g4.symm⟩
    obtain ⟨rfl, rfl, rfl⟩ := hu
    replace hP : va_P D vwCl (fW g hn ha adn ada cI hei dra rai (m_wat σ, m_dam σ, m_wea σ, upd (m_peo σ) (q_at x y) v, m_t σ, m_bro σ, m_drd σ, m_lef σ) cre gai see fou z ++ (mM h ad cI 0 hei dra rai (m_wat σ, m_dam σ, m_wea σ, upd (m_peo σ) (q_at x y) v, m_t σ, m_bro σ, m_drd σ, m_lef σ) flo lak row ++ oW o cL f1)) H := hP
    replace hD : va_D (lw_A s) (fW g hn ha adn ada cI hei dra rai (m_wat σ, m_dam σ, m_wea σ, upd (m_peo σ) (q_at x y) v, m_t σ, m_bro σ, m_drd σ, m_lef σ) cre gai see fou z ++ (mM h ad cI 0 hei dra rai (m_wat σ, m_dam σ, m_wea σ, upd (m_peo σ) (q_at x y) v, m_t σ, m_bro σ, m_drd σ, m_lef σ) flo lak row ++ oW o cL f1)) := hD
    refine lv_istore (lv' := [(6, .int r0), (5, .int 0), (0, .ref b), (1, .ref g), (2, .ref h), (3, .ref o), (4, .int (nI (4 * i)))]) hx hb dL_law_487 hl (by decide) rfl (fun ls hl => ?_)
    refine lv_aload_n hx hb dL_law_489 rfl (lv_at hl 4 rfl) ?_
    refine ct_Vi (As := []) (rest := []) (wr := fW g hn ha adn ada cI hei dra rai (m_wat σ, m_dam σ, m_wea σ, upd (m_peo σ) (q_at x y) v, m_t σ, m_bro σ, m_drd σ, m_lef σ) cre gai see fou z ++ oW o cL f1) (W0 := fW g hn ha adn ada cI hei dra rai (m_wat σ, m_dam σ, m_wea σ, upd (m_peo σ) (q_at x y) v, m_t σ, m_bro σ, m_drd σ, m_lef σ) cre gai see fou z ++ (mM h ad cI 0 hei dra rai (m_wat σ, m_dam σ, m_wea σ, upd (m_peo σ) (q_at x y) v, m_t σ, m_bro σ, m_drd σ, m_lef σ) flo lak row ++ oW o cL f1)) (W1 := fun _ => fW g hn ha adn ada cI hei dra rai (m_wat σ, m_dam σ, m_wea σ, upd (m_peo σ) (q_at x y) v, m_t σ, m_bro σ, m_drd σ, m_lef σ) cre gai see fou z ++ (mM h ad cI 0 hei dra rai (m_wat σ, m_dam σ, m_wea σ, upd (m_peo σ) (q_at x y) v, m_t σ, m_bro σ, m_drd σ, m_lef σ) flo lak row ++ oW o cL f1)) (cells1 := C + 3) (slots1 := S + 18) ⟨hx, hb, hml, hown, hts⟩ (c_X2_thrown l D cI h ad 0 hei (m_wat (m_wat σ, m_dam σ, m_wea σ, upd (m_peo σ) (q_at x y) v, m_t σ, m_bro σ, m_drd σ, m_lef σ)) (m_dam (m_wat σ, m_dam σ, m_wea σ, upd (m_peo σ) (q_at x y) v, m_t σ, m_bro σ, m_drd σ, m_lef σ)) (m_wea (m_wat σ, m_dam σ, m_wea σ, upd (m_peo σ) (q_at x y) v, m_t σ, m_bro σ, m_drd σ, m_lef σ)) dra (m_peo (m_wat σ, m_dam σ, m_wea σ, upd (m_peo σ) (q_at x y) v, m_t σ, m_bro σ, m_drd σ, m_lef σ)) rai (q_num (nI (m_t (m_wat σ, m_dam σ, m_wea σ, upd (m_peo σ) (q_at x y) v, m_t σ, m_bro σ, m_drd σ, m_lef σ))) (m_bro (m_wat σ, m_dam σ, m_wea σ, upd (m_peo σ) (q_at x y) v, m_t σ, m_bro σ, m_drd σ, m_lef σ)) (m_drd (m_wat σ, m_dam σ, m_wea σ, upd (m_peo σ) (q_at x y) v, m_t σ, m_bro σ, m_drd σ, m_lef σ)) (m_lef (m_wat σ, m_dam σ, m_wea σ, upd (m_peo σ) (q_at x y) v, m_t σ, m_bro σ, m_drd σ, m_lef σ))) flo lak row) (cwV 0 hts gL_law_X2_thrown rfl rfl rfl (by decide +kernel) ⟨Nat.le_of_ble_eq_true rfl, Nat.le_of_ble_eq_true rfl⟩) hK hP hD hS hA [25, 26, 27, 28, 29, 30, 31, 32, 33, 34, 35, 36] [0, 1, 2, 3, 4, 5, 6, 7, 8, 9, 10, 11, 12, 13, 14, 15, 16, 17, 18, 19, 20, 21, 22, 23, 24, 37] ⟨rfl, rfl, rfl, rfl, rfl⟩ [0, 1, 2, 3, 4, 5, 6, 7, 8, 9, 10, 11, 12, 13, 14, 15, 16, 17, 18, 19, 20, 21, 22, 23, 24, 26, 27, 28, 29, 30, 31, 32, 33, 34, 35, 36, 37, 25] rfl (fun _ => rfl) [0] rfl (va_recv hK hP (ci := 2) (q0 := 25) rfl rfl) rfl hl.1 rfl (Nat.le_of_ble_eq_true rfl) rfl rfl (lw_hc hC (Nat.le_of_ble_eq_true rfl) (Nat.le_of_ble_eq_true rfl)) dL_law_490 (fun r9 _ H locs hw9 hP hD hS => ?_)
    refine ct_top hw9 ?_
    refine lv_iload hx hb dL_law_493 (lv_at hl 1 rfl) ?_
    refine lv_icmp_eq (tgt := 500) hx hb dL_law_495 (by decide) (fun _ => ?_) (fun hc => absurd rfl hc)
    refine lv_iload hx hb dL_law_500 (lv_at hl 1 rfl) ?_
    refine lv_if_ne (tgt := 517) hx hb dL_law_502 (by decide) (fun hc => absurd rfl hc) (fun _ => ?_)
    refine lv_aload_n hx hb dL_law_505 rfl (lv_at hl 5 rfl) ?_
    refine lv_iconst (v := 0) hx hb dL_law_506 (by decide) ?_
    refine va_lald (cl := vwCl) (f := f1) hx hb hK hP 37 2 rfl rfl z_in0 dL_law_507 ?_
    refine lv_iload hx hb dL_law_508 (lv_at hl 0 rfl) ?_
    refine lv_i2l (v := Int32.toInt64 r0) hx hb dL_law_510 rfl ?_
    refine lv_lcmp0 hx hb hf0 dL_law_511 ?_
    refine lv_if_eq (tgt := 517) hx hb dL_law_512 (by decide) (fun _ => ?_) (fun hc => absurd rfl hc)
    refine lv_goto (tgt := 1219) hx hb dL_law_517 (by decide) ?_
    refine W.widen (k := C + 80) (n := S + 700) (by omega) (by omega) ?_
    exact kk d0 hei dra rai (m_wat σ, m_dam σ, m_wea σ, upd (m_peo σ) (q_at x y) v, m_t σ, m_bro σ, m_drd σ, m_lef σ) cre gai see fou z 0 flo lak row f1 H locs ls hd0 (inv_up (inv_peo hI _) (by omega)) (show m_t σ ≤ 48 * i + 48 by omega) hP hD hS (lv_sub hl [2, 3, 4, 5, 6] rfl)
set_option maxHeartbeats 4000000 in
set_option maxRecDepth 100000 in
theorem law_setRain {p : Program} {l : Launch} {e : Env} {s : State} {m : MethodId} {below : List Frame} {meth : Method} {c : Code} {b L : Nat} {xs : Nat → Int32} {D : va_G} {cI cJ cL : ClassId} {sa1 sa2 : Nat} {g hn ha : Nat} {adn ada : Nat → Nat} {h : Nat} {ad : Nat → Nat} {o i C S : Nat} {x v : Int32} (C9 : lw_Cx p l m c b L xs D cI cJ cL sa1 sa2 s) (hL : L ≤ 2048) (hi : 4 * i + 4 ≤ L) (hC : C + 80 ≤ 840170 ∧ S + 700 ≤ 6575593) (kk : lw_Nx p l e s m below meth c b D cI cL g hn ha adn ada h ad o i (C + 80) (S + 700)) {d0 : Drawn} (hd0 : s.drawn.sameBut d0 lw_cs) {hei dra rai : Nat → Int32} {σ : Ms} {cre gai see fou : Nat → Int32} {z : Nat → Nat → Int32} {thr : Int32} {flo lak row : Nat → Int32} {f : Nat → Int64} (hI : inv (28000 * (i : Int)) hei dra rai σ) (ht : m_t σ ≤ 48 * i) {H : Heap} {locs : List Loc} {ls : Array Slot} (e1 : xs (nI (4 * i) + nI 1).toNatClampNeg = x) (e2 : xs (nI (4 * i) + nI 2).toNatClampNeg = v)
    (hP : va_P D vwCl (fW g hn ha adn ada cI hei dra rai σ cre gai see fou z ++ (mM h ad cI thr hei dra rai σ flo lak row ++ oW o cL f)) H) (hD : va_D (lw_A s) (fW g hn ha adn ada cI hei dra rai σ cre gai see fou z ++ (mM h ad cI thr hei dra rai σ flo lak row ++ oW o cL f))) (hS : va_S (lw_A s) s.heap H locs) (hl : lv_has ls 9 [(0, .ref b), (1, .ref g), (2, .ref h), (3, .ref o), (4, .int (nI (4 * i)))]) :
    W p l e room_1 (s.setDrawn d0) m #[Value.ref b] below meth c H locs C S (lw_Z below #[Value.ref b] s) (F0 m 520 ls []) := by
  obtain ⟨hx, hb, hml, hown, hts, hK, hT, hY, hX, hbl, hst⟩ := C9.drew d0
  have hA : ∀ q : Nat, (s.setDrawn d0).heap.size ≤ q → lw_A s q := fun _ h9 => h9
  have hbA : ¬ lw_A s b := Nat.not_le.mpr hbl
  have ht9 : m_t σ < 2 ^ 29 := by omega
  have hi1 := inv_1 hI
  have hw0 := inv_w hI
  have hdm := inv_dm hI
  replace hS : va_S (lw_A s) (s.setDrawn d0).heap H locs := hS
  refine lv_aload_n hx hb dL_law_520 rfl (lv_at hl 1 rfl) ?_
  refine lv_aload_n hx hb dL_law_521 rfl (lv_at hl 0 rfl) ?_
  refine lv_iload hx hb dL_law_522 (lv_at hl 4 rfl) ?_
  refine lv_iconst (v := nI 1) hx hb dL_law_524 (by decide) ?_
  refine lv_iadd hx hb dL_law_525 ?_
  refine va_sld hx hb hX hbl hbA hS (lw_in1 (j := 1) (by omega) hL) dL_law_526 ?_
  refine ct_top e1 ?_
  refine lv_aload_n hx hb dL_law_527 rfl (lv_at hl 0 rfl) ?_
  refine lv_iload hx hb dL_law_528 (lv_at hl 4 rfl) ?_
  refine lv_iconst (v := nI 2) hx hb dL_law_530 (by decide) ?_
  refine lv_iadd hx hb dL_law_531 ?_
  refine va_sld hx hb hX hbl hbA hS (lw_in1 (j := 2) (by omega) hL) dL_law_532 ?_
  refine ct_top e2 ?_
  refine lv_aload_n hx hb dL_law_533 rfl (lv_at hl 3 rfl) ?_
  refine cz_Si (As := [.ref g, .int x, .int v, .ref o]) (rest := []) (wr := mM h ad cI thr hei dra rai σ flo lak row) (W0 := fW g hn ha adn ada cI hei dra rai σ cre gai see fou z ++ (mM h ad cI thr hei dra rai σ flo lak row ++ oW o cL f)) (W1 := z_w1 (fW g hn ha adn ada cI hei dra rai σ cre gai see fou z) (fun _ => (fW g hn ha adn ada cI hei dra (upd rai x.toNatClampNeg v) σ cre gai see fou z)) (mM h ad cI thr hei dra rai σ flo lak row) o cL f) (cells1 := C + 2) (slots1 := S + 12) ⟨hx, hb, hml, hown, hts⟩ (c_L_setRain l hst D cI cL sa1 sa2 g hn ha adn ada hei dra rai σ cre gai see fou z x v o f) (vx_cwSW (hh := [(0, 10, 13, 13), (0, 10, 17, 15)]) 4 hts gL_law_L_setRain rfl rfl rfl (by decide +kernel) ⟨Nat.le_of_ble_eq_true rfl, Nat.le_of_ble_eq_true rfl⟩) hK hP hD hS hA hT [0, 1, 2, 3, 4, 5, 6, 7, 8, 9, 10, 11, 12, 13, 14, 15, 16, 17, 18, 19, 20, 21, 22, 23, 24, 37] [25, 26, 27, 28, 29, 30, 31, 32, 33, 34, 35, 36] ⟨rfl, rfl, rfl, rfl, rfl⟩ [12, 13, 14, 15, 16, 17, 18, 19, 20, 21, 22, 23, 24, 25, 26, 27, 28, 29, 30, 31, 32, 33, 34, 35, 36, 0, 1, 2, 3, 4, 5, 6, 7, 8, 9, 10, 11, 37] rfl (fun u => by rcases u with _ | ⟨u, f1⟩ <;> rfl) [0, 2] rfl rfl hl.1 rfl (Nat.le_of_ble_eq_true rfl) rfl rfl (lw_hc hC (Nat.le_of_ble_eq_true rfl) (Nat.le_of_ble_eq_true rfl)) dL_law_534 (fun k u H locs hw hP hD hS => ?_)
  rcases u with _ | ⟨u, f1⟩
  · skip
    replace hP : va_P D vwCl (fW g hn ha adn ada cI hei dra rai σ cre gai see fou z ++ (mM h ad cI thr hei dra rai σ flo lak row ++ oW o cL f)) H := hP
    replace hD : va_D (lw_A s) (fW g hn ha adn ada cI hei dra rai σ cre gai see fou z ++ (mM h ad cI thr hei dra rai σ flo lak row ++ oW o cL f)) := hD
    refine lv_istore (lv' := [(5, .int k), (0, .ref b), (1, .ref g), (2, .ref h), (3, .ref o), (4, .int (nI (4 * i)))]) hx hb dL_law_537 hl (by decide) rfl (fun ls hl => ?_)
    refine lv_aload_n hx hb dL_law_539 rfl (lv_at hl 3 rfl) ?_
    refine lv_aload_n hx hb dL_law_540 rfl (lv_at hl 1 rfl) ?_
    refine lv_iload hx hb dL_law_541 (lv_at hl 5 rfl) ?_
    refine lv_iconst (v := nI 1) hx hb dL_law_543 (by decide) ?_
    refine lv_iadd hx hb dL_law_544 ?_
    refine va_sld hx hb hX hbl hbA hS (lw_in1 (j := 1) (by omega) hL) dL_law_545 ?_
    refine ct_top e1 ?_
    refine lv_aload_n hx hb dL_law_546 rfl (lv_at hl 1 rfl) ?_
    refine lv_iload hx hb dL_law_547 (lv_at hl 5 rfl) ?_
    refine lv_iconst (v := nI 2) hx hb dL_law_549 (by decide) ?_
    refine lv_iadd hx hb dL_law_550 ?_
    refine va_sld hx hb hX hbl hbA hS (lw_in1 (j := 2) (by omega) hL) dL_law_551 ?_
    refine ct_top e2 ?_
    refine ct_Vi (As := [.int x, .int v]) (rest := []) (wr := fW g hn ha adn ada cI hei dra rai σ cre gai see fou z ++ oW o cL f) (W0 := fW g hn ha adn ada cI hei dra rai σ cre gai see fou z ++ (mM h ad cI thr hei dra rai σ flo lak row ++ oW o cL f)) (W1 := fun w => fW g hn ha adn ada cI hei dra rai σ cre gai see fou z ++ ((mW h ad cI w.1 hei (m_wat σ) (m_dam σ) (m_wea σ) dra (m_peo σ) w.2 (q_num (nI (m_t σ)) (m_bro σ) (m_drd σ) (m_lef σ)) flo lak row) ++ oW o cL f)) (cells1 := C + 2) (slots1 := S + 12) ⟨hx, hb, hml, hown, hts⟩ (c_X2_setRain l D cI h ad thr hei (m_wat σ) (m_dam σ) (m_wea σ) dra (m_peo σ) rai (q_num (nI (m_t σ)) (m_bro σ) (m_drd σ) (m_lef σ)) flo lak row  x v) (cwV 2 hts gL_law_X2_setRain rfl rfl rfl (by decide +kernel) ⟨Nat.le_of_ble_eq_true rfl, Nat.le_of_ble_eq_true rfl⟩) hK hP hD hS hA [25, 26, 27, 28, 29, 30, 31, 32, 33, 34, 35, 36] [0, 1, 2, 3, 4, 5, 6, 7, 8, 9, 10, 11, 12, 13, 14, 15, 16, 17, 18, 19, 20, 21, 22, 23, 24, 37] ⟨rfl, rfl, rfl, rfl, rfl⟩ [0, 1, 2, 3, 4, 5, 6, 7, 8, 9, 10, 11, 12, 13, 14, 15, 16, 17, 18, 19, 20, 21, 22, 23, 24, 26, 27, 28, 29, 30, 31, 32, 33, 34, 35, 36, 37, 25] rfl (fun _ => rfl) [0] rfl (va_recv hK hP (ci := 2) (q0 := 25) rfl rfl) rfl hl.1 rfl (Nat.le_of_ble_eq_true rfl) rfl rfl (lw_hc hC (Nat.le_of_ble_eq_true rfl) (Nat.le_of_ble_eq_true rfl)) dL_law_552 (fun r w H locs hm hP hD hS => ?_)
    obtain ⟨w1, w2⟩ := w
    have hu : k = w1 ∧ ¬ k = 0 ∧ rai = w2 := by
      rcases hw with ⟨rfl, ⟨-, h1⟩ | ⟨h1, -⟩⟩ | ⟨rfl, ⟨h1, -⟩ | ⟨-, h1, h2⟩⟩
      · rcases hm with ⟨g1, g2, g3⟩ | ⟨g1, -⟩ | ⟨g1, -⟩
        · exact ⟨g2.symm, by decide, g3.symm⟩
        · exact absurd g1 h1
        · exact absurd g1 h1
      · exact absurd h1 (by decide +kernel)
      · exact absurd h1 (by decide +kernel)
      · rcases hm with ⟨g1, -⟩ | ⟨-, -, g2, g3⟩ | ⟨-, g1, -⟩
        · exact absurd h1 g1
        · exact ⟨g2.symm, by decide, g3.symm⟩
        · exact absurd g1 h2
    obtain ⟨rfl, hk0, rfl⟩ := hu
    replace hP : va_P D vwCl (fW g hn ha adn ada cI hei dra rai σ cre gai see fou z ++ (mM h ad cI k hei dra rai σ flo lak row ++ oW o cL f)) H := hP
    replace hD : va_D (lw_A s) (fW g hn ha adn ada cI hei dra rai σ cre gai see fou z ++ (mM h ad cI k hei dra rai σ flo lak row ++ oW o cL f)) := hD
    refine lv_istore (lv' := [(6, .int r), (5, .int k), (0, .ref b), (1, .ref g), (2, .ref h), (3, .ref o), (4, .int (nI (4 * i)))]) hx hb dL_law_555 hl (by decide) rfl (fun ls hl => ?_)
    refine lv_aload_n hx hb dL_law_557 rfl (lv_at hl 4 rfl) ?_
    refine ct_Vi (As := []) (rest := []) (wr := fW g hn ha adn ada cI hei dra rai σ cre gai see fou z ++ oW o cL f) (W0 := fW g hn ha adn ada cI hei dra rai σ cre gai see fou z ++ (mM h ad cI k hei dra rai σ flo lak row ++ oW o cL f)) (W1 := fun _ => fW g hn ha adn ada cI hei dra rai σ cre gai see fou z ++ (mM h ad cI k hei dra rai σ flo lak row ++ oW o cL f)) (cells1 := C + 2) (slots1 := S + 12) ⟨hx, hb, hml, hown, hts⟩ (c_X2_thrown l D cI h ad k hei (m_wat σ) (m_dam σ) (m_wea σ) dra (m_peo σ) rai (q_num (nI (m_t σ)) (m_bro σ) (m_drd σ) (m_lef σ)) flo lak row) (cwV 0 hts gL_law_X2_thrown rfl rfl rfl (by decide +kernel) ⟨Nat.le_of_ble_eq_true rfl, Nat.le_of_ble_eq_true rfl⟩) hK hP hD hS hA [25, 26, 27, 28, 29, 30, 31, 32, 33, 34, 35, 36] [0, 1, 2, 3, 4, 5, 6, 7, 8, 9, 10, 11, 12, 13, 14, 15, 16, 17, 18, 19, 20, 21, 22, 23, 24, 37] ⟨rfl, rfl, rfl, rfl, rfl⟩ [0, 1, 2, 3, 4, 5, 6, 7, 8, 9, 10, 11, 12, 13, 14, 15, 16, 17, 18, 19, 20, 21, 22, 23, 24, 26, 27, 28, 29, 30, 31, 32, 33, 34, 35, 36, 37, 25] rfl (fun _ => rfl) [0] rfl (va_recv hK hP (ci := 2) (q0 := 25) rfl rfl) rfl hl.1 rfl (Nat.le_of_ble_eq_true rfl) rfl rfl (lw_hc hC (Nat.le_of_ble_eq_true rfl) (Nat.le_of_ble_eq_true rfl)) dL_law_558 (fun r9 _ H locs hw9 hP hD hS => ?_)
    refine ct_top hw9 ?_
    refine lv_iload hx hb dL_law_561 (lv_at hl 1 rfl) ?_
    refine lv_icmp_eq (tgt := 568) hx hb dL_law_563 (by decide) (fun _ => ?_) (fun hc => absurd rfl hc)
    refine lv_iload hx hb dL_law_568 (lv_at hl 1 rfl) ?_
    refine lv_if_ne (tgt := 585) hx hb dL_law_570 (by decide) (fun _ => ?_) (fun hc => absurd hc hk0)
    refine lv_goto (tgt := 1219) hx hb dL_law_585 (by decide) ?_
    refine W.widen (k := C + 80) (n := S + 700) (by omega) (by omega) ?_
    exact kk d0 hei dra rai σ cre gai see fou z k flo lak row f H locs ls hd0 (inv_up hI (by omega)) (by omega) hP hD hS (lv_sub hl [2, 3, 4, 5, 6] rfl)
  · skip
    obtain ⟨rfl, r0, hp0, hf0⟩ := hw
    replace hP : va_P D vwCl (fW g hn ha adn ada cI hei dra (upd rai x.toNatClampNeg v) σ cre gai see fou z ++ (mM h ad cI thr hei dra rai σ flo lak row ++ oW o cL f1)) H := hP
    replace hD : va_D (lw_A s) (fW g hn ha adn ada cI hei dra (upd rai x.toNatClampNeg v) σ cre gai see fou z ++ (mM h ad cI thr hei dra rai σ flo lak row ++ oW o cL f1)) := hD
    refine lv_istore (lv' := [(5, .int 0), (0, .ref b), (1, .ref g), (2, .ref h), (3, .ref o), (4, .int (nI (4 * i)))]) hx hb dL_law_537 hl (by decide) rfl (fun ls hl => ?_)
    refine lv_aload_n hx hb dL_law_539 rfl (lv_at hl 3 rfl) ?_
    refine lv_aload_n hx hb dL_law_540 rfl (lv_at hl 1 rfl) ?_
    refine lv_iload hx hb dL_law_541 (lv_at hl 5 rfl) ?_
    refine lv_iconst (v := nI 1) hx hb dL_law_543 (by decide) ?_
    refine lv_iadd hx hb dL_law_544 ?_
    refine va_sld hx hb hX hbl hbA hS (lw_in1 (j := 1) (by omega) hL) dL_law_545 ?_
    refine ct_top e1 ?_
    refine lv_aload_n hx hb dL_law_546 rfl (lv_at hl 1 rfl) ?_
    refine lv_iload hx hb dL_law_547 (lv_at hl 5 rfl) ?_
    refine lv_iconst (v := nI 2) hx hb dL_law_549 (by decide) ?_
    refine lv_iadd hx hb dL_law_550 ?_
    refine va_sld hx hb hX hbl hbA hS (lw_in1 (j := 2) (by omega) hL) dL_law_551 ?_
    refine ct_top e2 ?_
    refine ct_Vi (As := [.int x, .int v]) (rest := []) (wr := fW g hn ha adn ada cI hei dra (upd rai x.toNatClampNeg v) σ cre gai see fou z ++ oW o cL f1) (W0 := fW g hn ha adn ada cI hei dra (upd rai x.toNatClampNeg v) σ cre gai see fou z ++ (mM h ad cI thr hei dra rai σ flo lak row ++ oW o cL f1)) (W1 := fun w => fW g hn ha adn ada cI hei dra (upd rai x.toNatClampNeg v) σ cre gai see fou z ++ ((mW h ad cI w.1 hei (m_wat σ) (m_dam σ) (m_wea σ) dra (m_peo σ) w.2 (q_num (nI (m_t σ)) (m_bro σ) (m_drd σ) (m_lef σ)) flo lak row) ++ oW o cL f1)) (cells1 := C + 2) (slots1 := S + 12) ⟨hx, hb, hml, hown, hts⟩ (c_X2_setRain l D cI h ad thr hei (m_wat σ) (m_dam σ) (m_wea σ) dra (m_peo σ) rai (q_num (nI (m_t σ)) (m_bro σ) (m_drd σ) (m_lef σ)) flo lak row  x v) (cwV 2 hts gL_law_X2_setRain rfl rfl rfl (by decide +kernel) ⟨Nat.le_of_ble_eq_true rfl, Nat.le_of_ble_eq_true rfl⟩) hK hP hD hS hA [25, 26, 27, 28, 29, 30, 31, 32, 33, 34, 35, 36] [0, 1, 2, 3, 4, 5, 6, 7, 8, 9, 10, 11, 12, 13, 14, 15, 16, 17, 18, 19, 20, 21, 22, 23, 24, 37] ⟨rfl, rfl, rfl, rfl, rfl⟩ [0, 1, 2, 3, 4, 5, 6, 7, 8, 9, 10, 11, 12, 13, 14, 15, 16, 17, 18, 19, 20, 21, 22, 23, 24, 26, 27, 28, 29, 30, 31, 32, 33, 34, 35, 36, 37, 25] rfl (fun _ => rfl) [0] rfl (va_recv hK hP (ci := 2) (q0 := 25) rfl rfl) rfl hl.1 rfl (Nat.le_of_ble_eq_true rfl) rfl rfl (lw_hc hC (Nat.le_of_ble_eq_true rfl) (Nat.le_of_ble_eq_true rfl)) dL_law_552 (fun r w H locs hm hP hD hS => ?_)
    obtain ⟨w1, w2⟩ := w
    have hu : 0 = w1 ∧ r0 = r ∧ upd rai x.toNatClampNeg v = w2 := by
      rcases hm with ⟨g1, -⟩ | ⟨-, g1, -⟩ | ⟨-, -, g2, g3, g4⟩
      · exact absurd hp0.1 g1
      · exact absurd hp0.2.1 g1
      · exact ⟨g2.symm, hp0.2.2.trans g3.symm, g4.symm⟩
    obtain ⟨rfl, rfl, rfl⟩ := hu
    replace hP : va_P D vwCl (fW g hn ha adn ada cI hei dra (upd rai x.toNatClampNeg v) σ cre gai see fou z ++ (mM h ad cI 0 hei dra (upd rai x.toNatClampNeg v) σ flo lak row ++ oW o cL f1)) H := hP
    replace hD : va_D (lw_A s) (fW g hn ha adn ada cI hei dra (upd rai x.toNatClampNeg v) σ cre gai see fou z ++ (mM h ad cI 0 hei dra (upd rai x.toNatClampNeg v) σ flo lak row ++ oW o cL f1)) := hD
    refine lv_istore (lv' := [(6, .int r0), (5, .int 0), (0, .ref b), (1, .ref g), (2, .ref h), (3, .ref o), (4, .int (nI (4 * i)))]) hx hb dL_law_555 hl (by decide) rfl (fun ls hl => ?_)
    refine lv_aload_n hx hb dL_law_557 rfl (lv_at hl 4 rfl) ?_
    refine ct_Vi (As := []) (rest := []) (wr := fW g hn ha adn ada cI hei dra (upd rai x.toNatClampNeg v) σ cre gai see fou z ++ oW o cL f1) (W0 := fW g hn ha adn ada cI hei dra (upd rai x.toNatClampNeg v) σ cre gai see fou z ++ (mM h ad cI 0 hei dra (upd rai x.toNatClampNeg v) σ flo lak row ++ oW o cL f1)) (W1 := fun _ => fW g hn ha adn ada cI hei dra (upd rai x.toNatClampNeg v) σ cre gai see fou z ++ (mM h ad cI 0 hei dra (upd rai x.toNatClampNeg v) σ flo lak row ++ oW o cL f1)) (cells1 := C + 2) (slots1 := S + 12) ⟨hx, hb, hml, hown, hts⟩ (c_X2_thrown l D cI h ad 0 hei (m_wat σ) (m_dam σ) (m_wea σ) dra (m_peo σ) (upd rai x.toNatClampNeg v) (q_num (nI (m_t σ)) (m_bro σ) (m_drd σ) (m_lef σ)) flo lak row) (cwV 0 hts gL_law_X2_thrown rfl rfl rfl (by decide +kernel) ⟨Nat.le_of_ble_eq_true rfl, Nat.le_of_ble_eq_true rfl⟩) hK hP hD hS hA [25, 26, 27, 28, 29, 30, 31, 32, 33, 34, 35, 36] [0, 1, 2, 3, 4, 5, 6, 7, 8, 9, 10, 11, 12, 13, 14, 15, 16, 17, 18, 19, 20, 21, 22, 23, 24, 37] ⟨rfl, rfl, rfl, rfl, rfl⟩ [0, 1, 2, 3, 4, 5, 6, 7, 8, 9, 10, 11, 12, 13, 14, 15, 16, 17, 18, 19, 20, 21, 22, 23, 24, 26, 27, 28, 29, 30, 31, 32, 33, 34, 35, 36, 37, 25] rfl (fun _ => rfl) [0] rfl (va_recv hK hP (ci := 2) (q0 := 25) rfl rfl) rfl hl.1 rfl (Nat.le_of_ble_eq_true rfl) rfl rfl (lw_hc hC (Nat.le_of_ble_eq_true rfl) (Nat.le_of_ble_eq_true rfl)) dL_law_558 (fun r9 _ H locs hw9 hP hD hS => ?_)
    refine ct_top hw9 ?_
    refine lv_iload hx hb dL_law_561 (lv_at hl 1 rfl) ?_
    refine lv_icmp_eq (tgt := 568) hx hb dL_law_563 (by decide) (fun _ => ?_) (fun hc => absurd rfl hc)
    refine lv_iload hx hb dL_law_568 (lv_at hl 1 rfl) ?_
    refine lv_if_ne (tgt := 585) hx hb dL_law_570 (by decide) (fun hc => absurd rfl hc) (fun _ => ?_)
    refine lv_aload_n hx hb dL_law_573 rfl (lv_at hl 5 rfl) ?_
    refine lv_iconst (v := 0) hx hb dL_law_574 (by decide) ?_
    refine va_lald (cl := vwCl) (f := f1) hx hb hK hP 37 2 rfl rfl z_in0 dL_law_575 ?_
    refine lv_iload hx hb dL_law_576 (lv_at hl 0 rfl) ?_
    refine lv_i2l (v := Int32.toInt64 r0) hx hb dL_law_578 rfl ?_
    refine lv_lcmp0 hx hb hf0 dL_law_579 ?_
    refine lv_if_eq (tgt := 585) hx hb dL_law_580 (by decide) (fun _ => ?_) (fun hc => absurd rfl hc)
    refine lv_goto (tgt := 1219) hx hb dL_law_585 (by decide) ?_
    refine W.widen (k := C + 80) (n := S + 700) (by omega) (by omega) ?_
    exact kk d0 hei dra (upd rai x.toNatClampNeg v) σ cre gai see fou z 0 flo lak row f1 H locs ls hd0 (inv_up (inv_rai hI _ hp0.2.1) (by omega)) (by omega) hP hD hS (lv_sub hl [2, 3, 4, 5, 6] rfl)
set_option maxHeartbeats 4000000 in
set_option maxRecDepth 100000 in
theorem law_cell {p : Program} {l : Launch} {e : Env} {s : State} {m : MethodId} {below : List Frame} {meth : Method} {c : Code} {b L : Nat} {xs : Nat → Int32} {D : va_G} {cI cJ cL : ClassId} {sa1 sa2 : Nat} {g hn ha : Nat} {adn ada : Nat → Nat} {h : Nat} {ad : Nat → Nat} {o i C S : Nat} {x y v : Int32} (C9 : lw_Cx p l m c b L xs D cI cJ cL sa1 sa2 s) (hL : L ≤ 2048) (hi : 4 * i + 4 ≤ L) (hC : C + 80 ≤ 840170 ∧ S + 700 ≤ 6575593) (kk : lw_Nx p l e s m below meth c b D cI cL g hn ha adn ada h ad o i (C + 80) (S + 700)) {d0 : Drawn} (hd0 : s.drawn.sameBut d0 lw_cs) {hei dra rai : Nat → Int32} {σ : Ms} {cre gai see fou : Nat → Int32} {z : Nat → Nat → Int32} {thr : Int32} {flo lak row : Nat → Int32} {f : Nat → Int64} (hI : inv (28000 * (i : Int)) hei dra rai σ) (ht : m_t σ ≤ 48 * i) {H : Heap} {locs : List Loc} {ls : Array Slot} (e1 : xs (nI (4 * i) + nI 1).toNatClampNeg = x) (e2 : xs (nI (4 * i) + nI 2).toNatClampNeg = y) (e3 : xs (nI (4 * i) + nI 3).toNatClampNeg = v)
    (hP : va_P D vwCl (fW g hn ha adn ada cI hei dra rai σ cre gai see fou z ++ (mM h ad cI thr hei dra rai σ flo lak row ++ oW o cL f)) H) (hD : va_D (lw_A s) (fW g hn ha adn ada cI hei dra rai σ cre gai see fou z ++ (mM h ad cI thr hei dra rai σ flo lak row ++ oW o cL f))) (hS : va_S (lw_A s) s.heap H locs) (hl : lv_has ls 9 [(0, .ref b), (1, .ref g), (2, .ref h), (3, .ref o), (4, .int (nI (4 * i)))]) :
    W p l e room_1 (s.setDrawn d0) m #[Value.ref b] below meth c H locs C S (lw_Z below #[Value.ref b] s) (F0 m 588 ls []) := by
  obtain ⟨hx, hb, hml, hown, hts, hK, hT, hY, hX, hbl, hst⟩ := C9.drew d0
  have hA : ∀ q : Nat, (s.setDrawn d0).heap.size ≤ q → lw_A s q := fun _ h9 => h9
  have hbA : ¬ lw_A s b := Nat.not_le.mpr hbl
  have ht9 : m_t σ < 2 ^ 29 := by omega
  have hi1 := inv_1 hI
  have hw0 := inv_w hI
  have hdm := inv_dm hI
  replace hS : va_S (lw_A s) (s.setDrawn d0).heap H locs := hS
  refine lv_aload_n hx hb dL_law_588 rfl (lv_at hl 1 rfl) ?_
  refine lv_aload_n hx hb dL_law_589 rfl (lv_at hl 0 rfl) ?_
  refine lv_iload hx hb dL_law_590 (lv_at hl 4 rfl) ?_
  refine lv_iconst (v := nI 1) hx hb dL_law_592 (by decide) ?_
  refine lv_iadd hx hb dL_law_593 ?_
  refine va_sld hx hb hX hbl hbA hS (lw_in1 (j := 1) (by omega) hL) dL_law_594 ?_
  refine ct_top e1 ?_
  refine lv_aload_n hx hb dL_law_595 rfl (lv_at hl 0 rfl) ?_
  refine lv_iload hx hb dL_law_596 (lv_at hl 4 rfl) ?_
  refine lv_iconst (v := nI 2) hx hb dL_law_598 (by decide) ?_
  refine lv_iadd hx hb dL_law_599 ?_
  refine va_sld hx hb hX hbl hbA hS (lw_in1 (j := 2) (by omega) hL) dL_law_600 ?_
  refine ct_top e2 ?_
  refine lv_aload_n hx hb dL_law_601 rfl (lv_at hl 0 rfl) ?_
  refine lv_iload hx hb dL_law_602 (lv_at hl 4 rfl) ?_
  refine lv_iconst (v := nI 3) hx hb dL_law_604 (by decide) ?_
  refine lv_iadd hx hb dL_law_605 ?_
  refine va_sld hx hb hX hbl hbA hS (lw_in1 (j := 3) (by omega) hL) dL_law_606 ?_
  refine ct_top e3 ?_
  refine lv_aload_n hx hb dL_law_607 rfl (lv_at hl 3 rfl) ?_
  refine cz_Si (As := [.ref g, .int x, .int y, .int v, .ref o]) (rest := []) (wr := mM h ad cI thr hei dra rai σ flo lak row) (W0 := fW g hn ha adn ada cI hei dra rai σ cre gai see fou z ++ (mM h ad cI thr hei dra rai σ flo lak row ++ oW o cL f)) (W1 := z_w1 (fW g hn ha adn ada cI hei dra rai σ cre gai see fou z) (fun _ => (fW g hn ha adn ada cI hei dra rai σ cre gai see fou z)) (mM h ad cI thr hei dra rai σ flo lak row) o cL f) (cells1 := C + 3) (slots1 := S + 18) ⟨hx, hb, hml, hown, hts⟩ (c_L_cell l hst D cI cL sa1 sa2 g hn ha adn ada hei dra rai σ cre gai see fou z x y v o f) (vx_cwSW (hh := [(0, 12, 15, 13)]) 5 hts gL_law_L_cell rfl rfl rfl (by decide +kernel) ⟨Nat.le_of_ble_eq_true rfl, Nat.le_of_ble_eq_true rfl⟩) hK hP hD hS hA hT [0, 1, 2, 3, 4, 5, 6, 7, 8, 9, 10, 11, 12, 13, 14, 15, 16, 17, 18, 19, 20, 21, 22, 23, 24, 37] [25, 26, 27, 28, 29, 30, 31, 32, 33, 34, 35, 36] ⟨rfl, rfl, rfl, rfl, rfl⟩ [12, 13, 14, 15, 16, 17, 18, 19, 20, 21, 22, 23, 24, 25, 26, 27, 28, 29, 30, 31, 32, 33, 34, 35, 36, 0, 1, 2, 3, 4, 5, 6, 7, 8, 9, 10, 11, 37] rfl (fun u => by rcases u with _ | ⟨u, f1⟩ <;> rfl) [0, 2] rfl rfl hl.1 rfl (Nat.le_of_ble_eq_true rfl) rfl rfl (lw_hc hC (Nat.le_of_ble_eq_true rfl) (Nat.le_of_ble_eq_true rfl)) dL_law_608 (fun k u H locs hw hP hD hS => ?_)
  rcases u with _ | ⟨u, f1⟩
  · skip
    replace hP : va_P D vwCl (fW g hn ha adn ada cI hei dra rai σ cre gai see fou z ++ (mM h ad cI thr hei dra rai σ flo lak row ++ oW o cL f)) H := hP
    replace hD : va_D (lw_A s) (fW g hn ha adn ada cI hei dra rai σ cre gai see fou z ++ (mM h ad cI thr hei dra rai σ flo lak row ++ oW o cL f)) := hD
    refine lv_istore (lv' := [(5, .int k), (0, .ref b), (1, .ref g), (2, .ref h), (3, .ref o), (4, .int (nI (4 * i)))]) hx hb dL_law_611 hl (by decide) rfl (fun ls hl => ?_)
    refine lv_aload_n hx hb dL_law_613 rfl (lv_at hl 3 rfl) ?_
    refine lv_aload_n hx hb dL_law_614 rfl (lv_at hl 1 rfl) ?_
    refine lv_iload hx hb dL_law_615 (lv_at hl 5 rfl) ?_
    refine lv_iconst (v := nI 1) hx hb dL_law_617 (by decide) ?_
    refine lv_iadd hx hb dL_law_618 ?_
    refine va_sld hx hb hX hbl hbA hS (lw_in1 (j := 1) (by omega) hL) dL_law_619 ?_
    refine ct_top e1 ?_
    refine lv_aload_n hx hb dL_law_620 rfl (lv_at hl 1 rfl) ?_
    refine lv_iload hx hb dL_law_621 (lv_at hl 5 rfl) ?_
    refine lv_iconst (v := nI 2) hx hb dL_law_623 (by decide) ?_
    refine lv_iadd hx hb dL_law_624 ?_
    refine va_sld hx hb hX hbl hbA hS (lw_in1 (j := 2) (by omega) hL) dL_law_625 ?_
    refine ct_top e2 ?_
    refine lv_aload_n hx hb dL_law_626 rfl (lv_at hl 1 rfl) ?_
    refine lv_iload hx hb dL_law_627 (lv_at hl 5 rfl) ?_
    refine lv_iconst (v := nI 3) hx hb dL_law_629 (by decide) ?_
    refine lv_iadd hx hb dL_law_630 ?_
    refine va_sld hx hb hX hbl hbA hS (lw_in1 (j := 3) (by omega) hL) dL_law_631 ?_
    refine ct_top e3 ?_
    refine ct_Vi (As := [.int x, .int y, .int v]) (rest := []) (wr := fW g hn ha adn ada cI hei dra rai σ cre gai see fou z ++ oW o cL f) (W0 := fW g hn ha adn ada cI hei dra rai σ cre gai see fou z ++ (mM h ad cI thr hei dra rai σ flo lak row ++ oW o cL f)) (W1 := fun w => fW g hn ha adn ada cI hei dra rai σ cre gai see fou z ++ ((mW h ad cI w hei (m_wat σ) (m_dam σ) (m_wea σ) dra (m_peo σ) rai (q_num (nI (m_t σ)) (m_bro σ) (m_drd σ) (m_lef σ)) flo lak row) ++ oW o cL f)) (cells1 := C + 3) (slots1 := S + 18) ⟨hx, hb, hml, hown, hts⟩ (c_X2_cell l D cI h ad thr hei (m_wat σ) (m_dam σ) (m_wea σ) dra (m_peo σ) rai (q_num (nI (m_t σ)) (m_bro σ) (m_drd σ) (m_lef σ)) flo lak row  x y v) (cwV 3 hts gL_law_X2_cell rfl rfl rfl (by decide +kernel) ⟨Nat.le_of_ble_eq_true rfl, Nat.le_of_ble_eq_true rfl⟩) hK hP hD hS hA [25, 26, 27, 28, 29, 30, 31, 32, 33, 34, 35, 36] [0, 1, 2, 3, 4, 5, 6, 7, 8, 9, 10, 11, 12, 13, 14, 15, 16, 17, 18, 19, 20, 21, 22, 23, 24, 37] ⟨rfl, rfl, rfl, rfl, rfl⟩ [0, 1, 2, 3, 4, 5, 6, 7, 8, 9, 10, 11, 12, 13, 14, 15, 16, 17, 18, 19, 20, 21, 22, 23, 24, 26, 27, 28, 29, 30, 31, 32, 33, 34, 35, 36, 37, 25] rfl (fun _ => rfl) [0] rfl (va_recv hK hP (ci := 2) (q0 := 25) rfl rfl) rfl hl.1 rfl (Nat.le_of_ble_eq_true rfl) rfl rfl (lw_hc hC (Nat.le_of_ble_eq_true rfl) (Nat.le_of_ble_eq_true rfl)) dL_law_632 (fun r w H locs hm hP hD hS => ?_)
    have hu : k = w ∧ ¬ k = 0 := by
      rcases hw with ⟨rfl, -, h1⟩ | ⟨rfl, h1, -⟩
      · rcases hm with ⟨g1, g2⟩ | ⟨g1, -⟩
        · exact ⟨g2.symm, by decide⟩
        · exact absurd g1 h1
      · exact absurd h1 (by decide +kernel)
    obtain ⟨rfl, hk0⟩ := hu
    replace hP : va_P D vwCl (fW g hn ha adn ada cI hei dra rai σ cre gai see fou z ++ (mM h ad cI k hei dra rai σ flo lak row ++ oW o cL f)) H := hP
    replace hD : va_D (lw_A s) (fW g hn ha adn ada cI hei dra rai σ cre gai see fou z ++ (mM h ad cI k hei dra rai σ flo lak row ++ oW o cL f)) := hD
    refine lv_istore (lv' := [(6, .int r), (5, .int k), (0, .ref b), (1, .ref g), (2, .ref h), (3, .ref o), (4, .int (nI (4 * i)))]) hx hb dL_law_635 hl (by decide) rfl (fun ls hl => ?_)
    refine lv_aload_n hx hb dL_law_637 rfl (lv_at hl 4 rfl) ?_
    refine ct_Vi (As := []) (rest := []) (wr := fW g hn ha adn ada cI hei dra rai σ cre gai see fou z ++ oW o cL f) (W0 := fW g hn ha adn ada cI hei dra rai σ cre gai see fou z ++ (mM h ad cI k hei dra rai σ flo lak row ++ oW o cL f)) (W1 := fun _ => fW g hn ha adn ada cI hei dra rai σ cre gai see fou z ++ (mM h ad cI k hei dra rai σ flo lak row ++ oW o cL f)) (cells1 := C + 3) (slots1 := S + 18) ⟨hx, hb, hml, hown, hts⟩ (c_X2_thrown l D cI h ad k hei (m_wat σ) (m_dam σ) (m_wea σ) dra (m_peo σ) rai (q_num (nI (m_t σ)) (m_bro σ) (m_drd σ) (m_lef σ)) flo lak row) (cwV 0 hts gL_law_X2_thrown rfl rfl rfl (by decide +kernel) ⟨Nat.le_of_ble_eq_true rfl, Nat.le_of_ble_eq_true rfl⟩) hK hP hD hS hA [25, 26, 27, 28, 29, 30, 31, 32, 33, 34, 35, 36] [0, 1, 2, 3, 4, 5, 6, 7, 8, 9, 10, 11, 12, 13, 14, 15, 16, 17, 18, 19, 20, 21, 22, 23, 24, 37] ⟨rfl, rfl, rfl, rfl, rfl⟩ [0, 1, 2, 3, 4, 5, 6, 7, 8, 9, 10, 11, 12, 13, 14, 15, 16, 17, 18, 19, 20, 21, 22, 23, 24, 26, 27, 28, 29, 30, 31, 32, 33, 34, 35, 36, 37, 25] rfl (fun _ => rfl) [0] rfl (va_recv hK hP (ci := 2) (q0 := 25) rfl rfl) rfl hl.1 rfl (Nat.le_of_ble_eq_true rfl) rfl rfl (lw_hc hC (Nat.le_of_ble_eq_true rfl) (Nat.le_of_ble_eq_true rfl)) dL_law_638 (fun r9 _ H locs hw9 hP hD hS => ?_)
    refine ct_top hw9 ?_
    refine lv_iload hx hb dL_law_641 (lv_at hl 1 rfl) ?_
    refine lv_icmp_eq (tgt := 648) hx hb dL_law_643 (by decide) (fun _ => ?_) (fun hc => absurd rfl hc)
    refine lv_iload hx hb dL_law_648 (lv_at hl 1 rfl) ?_
    refine lv_if_ne (tgt := 665) hx hb dL_law_650 (by decide) (fun _ => ?_) (fun hc => absurd hc hk0)
    refine lv_goto (tgt := 1219) hx hb dL_law_665 (by decide) ?_
    refine W.widen (k := C + 80) (n := S + 700) (by omega) (by omega) ?_
    exact kk d0 hei dra rai σ cre gai see fou z k flo lak row f H locs ls hd0 (inv_up hI (by omega)) (by omega) hP hD hS (lv_sub hl [2, 3, 4, 5, 6] rfl)
  · skip
    obtain ⟨rfl, r0, hp0, hf0⟩ := hw
    replace hP : va_P D vwCl (fW g hn ha adn ada cI hei dra rai σ cre gai see fou z ++ (mM h ad cI thr hei dra rai σ flo lak row ++ oW o cL f1)) H := hP
    replace hD : va_D (lw_A s) (fW g hn ha adn ada cI hei dra rai σ cre gai see fou z ++ (mM h ad cI thr hei dra rai σ flo lak row ++ oW o cL f1)) := hD
    refine lv_istore (lv' := [(5, .int 0), (0, .ref b), (1, .ref g), (2, .ref h), (3, .ref o), (4, .int (nI (4 * i)))]) hx hb dL_law_611 hl (by decide) rfl (fun ls hl => ?_)
    refine lv_aload_n hx hb dL_law_613 rfl (lv_at hl 3 rfl) ?_
    refine lv_aload_n hx hb dL_law_614 rfl (lv_at hl 1 rfl) ?_
    refine lv_iload hx hb dL_law_615 (lv_at hl 5 rfl) ?_
    refine lv_iconst (v := nI 1) hx hb dL_law_617 (by decide) ?_
    refine lv_iadd hx hb dL_law_618 ?_
    refine va_sld hx hb hX hbl hbA hS (lw_in1 (j := 1) (by omega) hL) dL_law_619 ?_
    refine ct_top e1 ?_
    refine lv_aload_n hx hb dL_law_620 rfl (lv_at hl 1 rfl) ?_
    refine lv_iload hx hb dL_law_621 (lv_at hl 5 rfl) ?_
    refine lv_iconst (v := nI 2) hx hb dL_law_623 (by decide) ?_
    refine lv_iadd hx hb dL_law_624 ?_
    refine va_sld hx hb hX hbl hbA hS (lw_in1 (j := 2) (by omega) hL) dL_law_625 ?_
    refine ct_top e2 ?_
    refine lv_aload_n hx hb dL_law_626 rfl (lv_at hl 1 rfl) ?_
    refine lv_iload hx hb dL_law_627 (lv_at hl 5 rfl) ?_
    refine lv_iconst (v := nI 3) hx hb dL_law_629 (by decide) ?_
    refine lv_iadd hx hb dL_law_630 ?_
    refine va_sld hx hb hX hbl hbA hS (lw_in1 (j := 3) (by omega) hL) dL_law_631 ?_
    refine ct_top e3 ?_
    refine ct_Vi (As := [.int x, .int y, .int v]) (rest := []) (wr := fW g hn ha adn ada cI hei dra rai σ cre gai see fou z ++ oW o cL f1) (W0 := fW g hn ha adn ada cI hei dra rai σ cre gai see fou z ++ (mM h ad cI thr hei dra rai σ flo lak row ++ oW o cL f1)) (W1 := fun w => fW g hn ha adn ada cI hei dra rai σ cre gai see fou z ++ ((mW h ad cI w hei (m_wat σ) (m_dam σ) (m_wea σ) dra (m_peo σ) rai (q_num (nI (m_t σ)) (m_bro σ) (m_drd σ) (m_lef σ)) flo lak row) ++ oW o cL f1)) (cells1 := C + 3) (slots1 := S + 18) ⟨hx, hb, hml, hown, hts⟩ (c_X2_cell l D cI h ad thr hei (m_wat σ) (m_dam σ) (m_wea σ) dra (m_peo σ) rai (q_num (nI (m_t σ)) (m_bro σ) (m_drd σ) (m_lef σ)) flo lak row  x y v) (cwV 3 hts gL_law_X2_cell rfl rfl rfl (by decide +kernel) ⟨Nat.le_of_ble_eq_true rfl, Nat.le_of_ble_eq_true rfl⟩) hK hP hD hS hA [25, 26, 27, 28, 29, 30, 31, 32, 33, 34, 35, 36] [0, 1, 2, 3, 4, 5, 6, 7, 8, 9, 10, 11, 12, 13, 14, 15, 16, 17, 18, 19, 20, 21, 22, 23, 24, 37] ⟨rfl, rfl, rfl, rfl, rfl⟩ [0, 1, 2, 3, 4, 5, 6, 7, 8, 9, 10, 11, 12, 13, 14, 15, 16, 17, 18, 19, 20, 21, 22, 23, 24, 26, 27, 28, 29, 30, 31, 32, 33, 34, 35, 36, 37, 25] rfl (fun _ => rfl) [0] rfl (va_recv hK hP (ci := 2) (q0 := 25) rfl rfl) rfl hl.1 rfl (Nat.le_of_ble_eq_true rfl) rfl rfl (lw_hc hC (Nat.le_of_ble_eq_true rfl) (Nat.le_of_ble_eq_true rfl)) dL_law_632 (fun r w H locs hm hP hD hS => ?_)
    have hu : 0 = w ∧ r0 = r := by
      rcases hm with ⟨g1, -⟩ | ⟨-, g2, g3⟩
      · exact absurd ⟨hp0.1, hp0.2.1⟩ g1
      · exact ⟨g2.symm, hp0.2.2.trans g3.symm⟩
    obtain ⟨rfl, rfl⟩ := hu
    replace hP : va_P D vwCl (fW g hn ha adn ada cI hei dra rai σ cre gai see fou z ++ (mM h ad cI 0 hei dra rai σ flo lak row ++ oW o cL f1)) H := hP
    replace hD : va_D (lw_A s) (fW g hn ha adn ada cI hei dra rai σ cre gai see fou z ++ (mM h ad cI 0 hei dra rai σ flo lak row ++ oW o cL f1)) := hD
    refine lv_istore (lv' := [(6, .int r0), (5, .int 0), (0, .ref b), (1, .ref g), (2, .ref h), (3, .ref o), (4, .int (nI (4 * i)))]) hx hb dL_law_635 hl (by decide) rfl (fun ls hl => ?_)
    refine lv_aload_n hx hb dL_law_637 rfl (lv_at hl 4 rfl) ?_
    refine ct_Vi (As := []) (rest := []) (wr := fW g hn ha adn ada cI hei dra rai σ cre gai see fou z ++ oW o cL f1) (W0 := fW g hn ha adn ada cI hei dra rai σ cre gai see fou z ++ (mM h ad cI 0 hei dra rai σ flo lak row ++ oW o cL f1)) (W1 := fun _ => fW g hn ha adn ada cI hei dra rai σ cre gai see fou z ++ (mM h ad cI 0 hei dra rai σ flo lak row ++ oW o cL f1)) (cells1 := C + 3) (slots1 := S + 18) ⟨hx, hb, hml, hown, hts⟩ (c_X2_thrown l D cI h ad 0 hei (m_wat σ) (m_dam σ) (m_wea σ) dra (m_peo σ) rai (q_num (nI (m_t σ)) (m_bro σ) (m_drd σ) (m_lef σ)) flo lak row) (cwV 0 hts gL_law_X2_thrown rfl rfl rfl (by decide +kernel) ⟨Nat.le_of_ble_eq_true rfl, Nat.le_of_ble_eq_true rfl⟩) hK hP hD hS hA [25, 26, 27, 28, 29, 30, 31, 32, 33, 34, 35, 36] [0, 1, 2, 3, 4, 5, 6, 7, 8, 9, 10, 11, 12, 13, 14, 15, 16, 17, 18, 19, 20, 21, 22, 23, 24, 37] ⟨rfl, rfl, rfl, rfl, rfl⟩ [0, 1, 2, 3, 4, 5, 6, 7, 8, 9, 10, 11, 12, 13, 14, 15, 16, 17, 18, 19, 20, 21, 22, 23, 24, 26, 27, 28, 29, 30, 31, 32, 33, 34, 35, 36, 37, 25] rfl (fun _ => rfl) [0] rfl (va_recv hK hP (ci := 2) (q0 := 25) rfl rfl) rfl hl.1 rfl (Nat.le_of_ble_eq_true rfl) rfl rfl (lw_hc hC (Nat.le_of_ble_eq_true rfl) (Nat.le_of_ble_eq_true rfl)) dL_law_638 (fun r9 _ H locs hw9 hP hD hS => ?_)
    refine ct_top hw9 ?_
    refine lv_iload hx hb dL_law_641 (lv_at hl 1 rfl) ?_
    refine lv_icmp_eq (tgt := 648) hx hb dL_law_643 (by decide) (fun _ => ?_) (fun hc => absurd rfl hc)
    refine lv_iload hx hb dL_law_648 (lv_at hl 1 rfl) ?_
    refine lv_if_ne (tgt := 665) hx hb dL_law_650 (by decide) (fun hc => absurd rfl hc) (fun _ => ?_)
    refine lv_aload_n hx hb dL_law_653 rfl (lv_at hl 5 rfl) ?_
    refine lv_iconst (v := 0) hx hb dL_law_654 (by decide) ?_
    refine va_lald (cl := vwCl) (f := f1) hx hb hK hP 37 2 rfl rfl z_in0 dL_law_655 ?_
    refine lv_iload hx hb dL_law_656 (lv_at hl 0 rfl) ?_
    refine lv_i2l (v := Int32.toInt64 r0) hx hb dL_law_658 rfl ?_
    refine lv_lcmp0 hx hb hf0 dL_law_659 ?_
    refine lv_if_eq (tgt := 665) hx hb dL_law_660 (by decide) (fun _ => ?_) (fun hc => absurd rfl hc)
    refine lv_goto (tgt := 1219) hx hb dL_law_665 (by decide) ?_
    refine W.widen (k := C + 80) (n := S + 700) (by omega) (by omega) ?_
    exact kk d0 hei dra rai σ cre gai see fou z 0 flo lak row f1 H locs ls hd0 (inv_up hI (by omega)) (by omega) hP hD hS (lv_sub hl [2, 3, 4, 5, 6] rfl)
