set_option maxHeartbeats 4000000 in
set_option maxRecDepth 100000 in
theorem law_lake {p : Program} {l : Launch} {e : Env} {s : State} {m : MethodId} {below : List Frame} {meth : Method} {c : Code} {b L : Nat} {xs : Nat → Int32} {D : va_G} {cI cJ cL : ClassId} {sa1 sa2 : Nat} {g hn ha : Nat} {adn ada : Nat → Nat} {h : Nat} {ad : Nat → Nat} {o i C S : Nat} {x y : Int32} (C9 : lw_Cx p l m c b L xs D cI cJ cL sa1 sa2 s) (hL : L ≤ 2048) (hi : 4 * i + 4 ≤ L) (hC : C + 80 ≤ 840170 ∧ S + 700 ≤ 6575593) (kk : lw_Nx p l e s m below meth c b D cI cL g hn ha adn ada h ad o i (C + 80) (S + 700)) {d0 : Drawn} (hd0 : s.drawn.sameBut d0 lw_cs) {hei dra rai : Nat → Int32} {σ : Ms} {cre gai see fou : Nat → Int32} {z : Nat → Nat → Int32} {thr : Int32} {flo lak row : Nat → Int32} {f : Nat → Int64} (hI : inv (28000 * (i : Int)) hei dra rai σ) (ht : m_t σ ≤ 48 * i) {H : Heap} {locs : List Loc} {ls : Array Slot} (e1 : xs (nI (4 * i) + nI 1).toNatClampNeg = x) (e2 : xs (nI (4 * i) + nI 2).toNatClampNeg = y)
    (hP : va_P D vwCl (fW g hn ha adn ada cI hei dra rai σ cre gai see fou z ++ (mM h ad cI thr hei dra rai σ flo lak row ++ oW o cL f)) H) (hD : va_D (lw_A s) (fW g hn ha adn ada cI hei dra rai σ cre gai see fou z ++ (mM h ad cI thr hei dra rai σ flo lak row ++ oW o cL f))) (hS : va_S (lw_A s) s.heap H locs) (hl : lv_has ls 9 [(0, .ref b), (1, .ref g), (2, .ref h), (3, .ref o), (4, .int (nI (4 * i)))]) :
    W p l e room_1 (s.setDrawn d0) m #[Value.ref b] below meth c H locs C S (lw_Z below #[Value.ref b] s) (F0 m 668 ls []) := by
  obtain ⟨hx, hb, hml, hown, hts, hK, hT, hY, hX, hbl, hst⟩ := C9.drew d0
  have hA : ∀ q : Nat, (s.setDrawn d0).heap.size ≤ q → lw_A s q := fun _ h9 => h9
  have hbA : ¬ lw_A s b := Nat.not_le.mpr hbl
  have ht9 : m_t σ < 2 ^ 29 := by omega
  have hi1 := inv_1 hI
  have hw0 := inv_w hI
  have hdm := inv_dm hI
  replace hS : va_S (lw_A s) (s.setDrawn d0).heap H locs := hS
  refine lv_aload_n hx hb dL_law_668 rfl (lv_at hl 1 rfl) ?_
  refine lv_aload_n hx hb dL_law_669 rfl (lv_at hl 0 rfl) ?_
  refine lv_iload hx hb dL_law_670 (lv_at hl 4 rfl) ?_
  refine lv_iconst (v := nI 1) hx hb dL_law_672 (by decide) ?_
  refine lv_iadd hx hb dL_law_673 ?_
  refine va_sld hx hb hX hbl hbA hS (lw_in1 (j := 1) (by omega) hL) dL_law_674 ?_
  refine ct_top e1 ?_
  refine lv_aload_n hx hb dL_law_675 rfl (lv_at hl 0 rfl) ?_
  refine lv_iload hx hb dL_law_676 (lv_at hl 4 rfl) ?_
  refine lv_iconst (v := nI 2) hx hb dL_law_678 (by decide) ?_
  refine lv_iadd hx hb dL_law_679 ?_
  refine va_sld hx hb hX hbl hbA hS (lw_in1 (j := 2) (by omega) hL) dL_law_680 ?_
  refine ct_top e2 ?_
  refine lv_aload_n hx hb dL_law_681 rfl (lv_at hl 3 rfl) ?_
  refine cz_Si (As := [.ref g, .int x, .int y, .ref o]) (rest := []) (wr := mM h ad cI thr hei dra rai σ flo lak row) (W0 := fW g hn ha adn ada cI hei dra rai σ cre gai see fou z ++ (mM h ad cI thr hei dra rai σ flo lak row ++ oW o cL f)) (W1 := z_w1 (fW g hn ha adn ada cI hei dra rai σ cre gai see fou z) (fun u => (fW g hn ha adn ada cI hei dra rai σ cre gai u.1 u.2 z)) (mM h ad cI thr hei dra rai σ flo lak row) o cL f) (cells1 := C + 2) (slots1 := S + 12) ⟨hx, hb, hml, hown, hts⟩ (c_L_lake l hst D cI cL sa1 sa2 g hn ha adn ada hei dra rai σ cre gai see fou z x y o f) (vx_cwSW (hh := [(0, 10, 13, 13)]) 4 hts gL_law_L_lake rfl rfl rfl (by decide +kernel) ⟨Nat.le_of_ble_eq_true rfl, Nat.le_of_ble_eq_true rfl⟩) hK hP hD hS hA hT [0, 1, 2, 3, 4, 5, 6, 7, 8, 9, 10, 11, 12, 13, 14, 15, 16, 17, 18, 19, 20, 21, 22, 23, 24, 37] [25, 26, 27, 28, 29, 30, 31, 32, 33, 34, 35, 36] ⟨rfl, rfl, rfl, rfl, rfl⟩ [12, 13, 14, 15, 16, 17, 18, 19, 20, 21, 22, 23, 24, 25, 26, 27, 28, 29, 30, 31, 32, 33, 34, 35, 36, 0, 1, 2, 3, 4, 5, 6, 7, 8, 9, 10, 11, 37] rfl (fun u => by rcases u with _ | ⟨u, f1⟩ <;> rfl) [0, 2] rfl rfl hl.1 rfl (Nat.le_of_ble_eq_true rfl) rfl rfl (lw_hc hC (Nat.le_of_ble_eq_true rfl) (Nat.le_of_ble_eq_true rfl)) dL_law_682 (fun k u H locs hw hP hD hS => ?_)
  rcases u with _ | ⟨u, f1⟩
  · skip
    replace hP : va_P D vwCl (fW g hn ha adn ada cI hei dra rai σ cre gai see fou z ++ (mM h ad cI thr hei dra rai σ flo lak row ++ oW o cL f)) H := hP
    replace hD : va_D (lw_A s) (fW g hn ha adn ada cI hei dra rai σ cre gai see fou z ++ (mM h ad cI thr hei dra rai σ flo lak row ++ oW o cL f)) := hD
    refine lv_istore (lv' := [(5, .int k), (0, .ref b), (1, .ref g), (2, .ref h), (3, .ref o), (4, .int (nI (4 * i)))]) hx hb dL_law_685 hl (by decide) rfl (fun ls hl => ?_)
    refine lv_aload_n hx hb dL_law_687 rfl (lv_at hl 3 rfl) ?_
    refine lv_aload_n hx hb dL_law_688 rfl (lv_at hl 1 rfl) ?_
    refine lv_iload hx hb dL_law_689 (lv_at hl 5 rfl) ?_
    refine lv_iconst (v := nI 1) hx hb dL_law_691 (by decide) ?_
    refine lv_iadd hx hb dL_law_692 ?_
    refine va_sld hx hb hX hbl hbA hS (lw_in1 (j := 1) (by omega) hL) dL_law_693 ?_
    refine ct_top e1 ?_
    refine lv_aload_n hx hb dL_law_694 rfl (lv_at hl 1 rfl) ?_
    refine lv_iload hx hb dL_law_695 (lv_at hl 5 rfl) ?_
    refine lv_iconst (v := nI 2) hx hb dL_law_697 (by decide) ?_
    refine lv_iadd hx hb dL_law_698 ?_
    refine va_sld hx hb hX hbl hbA hS (lw_in1 (j := 2) (by omega) hL) dL_law_699 ?_
    refine ct_top e2 ?_
    refine ct_Vi (As := [.int x, .int y]) (rest := []) (wr := fW g hn ha adn ada cI hei dra rai σ cre gai see fou z ++ oW o cL f) (W0 := fW g hn ha adn ada cI hei dra rai σ cre gai see fou z ++ (mM h ad cI thr hei dra rai σ flo lak row ++ oW o cL f)) (W1 := fun w => fW g hn ha adn ada cI hei dra rai σ cre gai see fou z ++ ((mM h ad cI w.1 hei dra rai σ flo w.2.1 w.2.2) ++ oW o cL f)) (cells1 := C + 2) (slots1 := S + 12) ⟨hx, hb, hml, hown, hts⟩ (c_X2_lake l D cI h ad thr hei dra rai σ flo lak row hw0 x y) (cwV 2 hts gL_law_X2_lake rfl rfl rfl (by decide +kernel) ⟨Nat.le_of_ble_eq_true rfl, Nat.le_of_ble_eq_true rfl⟩) hK hP hD hS hA [25, 26, 27, 28, 29, 30, 31, 32, 33, 34, 35, 36] [0, 1, 2, 3, 4, 5, 6, 7, 8, 9, 10, 11, 12, 13, 14, 15, 16, 17, 18, 19, 20, 21, 22, 23, 24, 37] ⟨rfl, rfl, rfl, rfl, rfl⟩ [0, 1, 2, 3, 4, 5, 6, 7, 8, 9, 10, 11, 12, 13, 14, 15, 16, 17, 18, 19, 20, 21, 22, 23, 24, 26, 27, 28, 29, 30, 31, 32, 33, 34, 35, 36, 37, 25] rfl (fun _ => rfl) [0] rfl (va_recv hK hP (ci := 2) (q0 := 25) rfl rfl) rfl hl.1 rfl (Nat.le_of_ble_eq_true rfl) rfl rfl (lw_hc hC (Nat.le_of_ble_eq_true rfl) (Nat.le_of_ble_eq_true rfl)) dL_law_700 (fun r w H locs hm hP hD hS => ?_)
    obtain ⟨w1, w2, w3⟩ := w
    have hu : k = w1 ∧ ¬ k = 0 := by
      rcases hw with ⟨rfl, -, h1⟩ | ⟨rfl, h1, -⟩
      · rcases hm with ⟨g1, g2⟩ | ⟨g1, -⟩
        · exact ⟨g2.symm, by decide⟩
        · exact absurd g1 h1
      · exact absurd h1 (by decide +kernel)
    obtain ⟨rfl, hk0⟩ := hu
    replace hP : va_P D vwCl (fW g hn ha adn ada cI hei dra rai σ cre gai see fou z ++ (mM h ad cI k hei dra rai σ flo w2 w3 ++ oW o cL f)) H := hP
    replace hD : va_D (lw_A s) (fW g hn ha adn ada cI hei dra rai σ cre gai see fou z ++ (mM h ad cI k hei dra rai σ flo w2 w3 ++ oW o cL f)) := hD
    refine lv_istore (lv' := [(6, .int r), (5, .int k), (0, .ref b), (1, .ref g), (2, .ref h), (3, .ref o), (4, .int (nI (4 * i)))]) hx hb dL_law_703 hl (by decide) rfl (fun ls hl => ?_)
    refine lv_aload_n hx hb dL_law_705 rfl (lv_at hl 4 rfl) ?_
    refine ct_Vi (As := []) (rest := []) (wr := fW g hn ha adn ada cI hei dra rai σ cre gai see fou z ++ oW o cL f) (W0 := fW g hn ha adn ada cI hei dra rai σ cre gai see fou z ++ (mM h ad cI k hei dra rai σ flo w2 w3 ++ oW o cL f)) (W1 := fun _ => fW g hn ha adn ada cI hei dra rai σ cre gai see fou z ++ (mM h ad cI k hei dra rai σ flo w2 w3 ++ oW o cL f)) (cells1 := C + 2) (slots1 := S + 12) ⟨hx, hb, hml, hown, hts⟩ (c_X2_thrown l D cI h ad k hei (m_wat σ) (m_dam σ) (m_wea σ) dra (m_peo σ) rai (q_num (nI (m_t σ)) (m_bro σ) (m_drd σ) (m_lef σ)) flo w2 w3) (cwV 0 hts gL_law_X2_thrown rfl rfl rfl (by decide +kernel) ⟨Nat.le_of_ble_eq_true rfl, Nat.le_of_ble_eq_true rfl⟩) hK hP hD hS hA [25, 26, 27, 28, 29, 30, 31, 32, 33, 34, 35, 36] [0, 1, 2, 3, 4, 5, 6, 7, 8, 9, 10, 11, 12, 13, 14, 15, 16, 17, 18, 19, 20, 21, 22, 23, 24, 37] ⟨rfl, rfl, rfl, rfl, rfl⟩ [0, 1, 2, 3, 4, 5, 6, 7, 8, 9, 10, 11, 12, 13, 14, 15, 16, 17, 18, 19, 20, 21, 22, 23, 24, 26, 27, 28, 29, 30, 31, 32, 33, 34, 35, 36, 37, 25] rfl (fun _ => rfl) [0] rfl (va_recv hK hP (ci := 2) (q0 := 25) rfl rfl) rfl hl.1 rfl (Nat.le_of_ble_eq_true rfl) rfl rfl (lw_hc hC (Nat.le_of_ble_eq_true rfl) (Nat.le_of_ble_eq_true rfl)) dL_law_706 (fun r9 _ H locs hw9 hP hD hS => ?_)
    refine ct_top hw9 ?_
    refine lv_iload hx hb dL_law_709 (lv_at hl 1 rfl) ?_
    refine lv_icmp_eq (tgt := 716) hx hb dL_law_711 (by decide) (fun _ => ?_) (fun hc => absurd rfl hc)
    refine lv_iload hx hb dL_law_716 (lv_at hl 1 rfl) ?_
    refine lv_if_ne (tgt := 733) hx hb dL_law_718 (by decide) (fun _ => ?_) (fun hc => absurd hc hk0)
    refine lv_goto (tgt := 1219) hx hb dL_law_733 (by decide) ?_
    refine W.widen (k := C + 80) (n := S + 700) (by omega) (by omega) ?_
    exact kk d0 hei dra rai σ cre gai see fou z k flo w2 w3 f H locs ls hd0 (inv_up hI (by omega)) (by omega) hP hD hS (lv_sub hl [2, 3, 4, 5, 6] rfl)
  · skip
    obtain ⟨rfl, r0, hp0, hf0⟩ := hw
    replace hP : va_P D vwCl (fW g hn ha adn ada cI hei dra rai σ cre gai u.1 u.2 z ++ (mM h ad cI thr hei dra rai σ flo lak row ++ oW o cL f1)) H := hP
    replace hD : va_D (lw_A s) (fW g hn ha adn ada cI hei dra rai σ cre gai u.1 u.2 z ++ (mM h ad cI thr hei dra rai σ flo lak row ++ oW o cL f1)) := hD
    refine lv_istore (lv' := [(5, .int 0), (0, .ref b), (1, .ref g), (2, .ref h), (3, .ref o), (4, .int (nI (4 * i)))]) hx hb dL_law_685 hl (by decide) rfl (fun ls hl => ?_)
    refine lv_aload_n hx hb dL_law_687 rfl (lv_at hl 3 rfl) ?_
    refine lv_aload_n hx hb dL_law_688 rfl (lv_at hl 1 rfl) ?_
    refine lv_iload hx hb dL_law_689 (lv_at hl 5 rfl) ?_
    refine lv_iconst (v := nI 1) hx hb dL_law_691 (by decide) ?_
    refine lv_iadd hx hb dL_law_692 ?_
    refine va_sld hx hb hX hbl hbA hS (lw_in1 (j := 1) (by omega) hL) dL_law_693 ?_
    refine ct_top e1 ?_
    refine lv_aload_n hx hb dL_law_694 rfl (lv_at hl 1 rfl) ?_
    refine lv_iload hx hb dL_law_695 (lv_at hl 5 rfl) ?_
    refine lv_iconst (v := nI 2) hx hb dL_law_697 (by decide) ?_
    refine lv_iadd hx hb dL_law_698 ?_
    refine va_sld hx hb hX hbl hbA hS (lw_in1 (j := 2) (by omega) hL) dL_law_699 ?_
    refine ct_top e2 ?_
    refine ct_Vi (As := [.int x, .int y]) (rest := []) (wr := fW g hn ha adn ada cI hei dra rai σ cre gai u.1 u.2 z ++ oW o cL f1) (W0 := fW g hn ha adn ada cI hei dra rai σ cre gai u.1 u.2 z ++ (mM h ad cI thr hei dra rai σ flo lak row ++ oW o cL f1)) (W1 := fun w => fW g hn ha adn ada cI hei dra rai σ cre gai u.1 u.2 z ++ ((mM h ad cI w.1 hei dra rai σ flo w.2.1 w.2.2) ++ oW o cL f1)) (cells1 := C + 2) (slots1 := S + 12) ⟨hx, hb, hml, hown, hts⟩ (c_X2_lake l D cI h ad thr hei dra rai σ flo lak row hw0 x y) (cwV 2 hts gL_law_X2_lake rfl rfl rfl (by decide +kernel) ⟨Nat.le_of_ble_eq_true rfl, Nat.le_of_ble_eq_true rfl⟩) hK hP hD hS hA [25, 26, 27, 28, 29, 30, 31, 32, 33, 34, 35, 36] [0, 1, 2, 3, 4, 5, 6, 7, 8, 9, 10, 11, 12, 13, 14, 15, 16, 17, 18, 19, 20, 21, 22, 23, 24, 37] ⟨rfl, rfl, rfl, rfl, rfl⟩ [0, 1, 2, 3, 4, 5, 6, 7, 8, 9, 10, 11, 12, 13, 14, 15, 16, 17, 18, 19, 20, 21, 22, 23, 24, 26, 27, 28, 29, 30, 31, 32, 33, 34, 35, 36, 37, 25] rfl (fun _ => rfl) [0] rfl (va_recv hK hP (ci := 2) (q0 := 25) rfl rfl) rfl hl.1 rfl (Nat.le_of_ble_eq_true rfl) rfl rfl (lw_hc hC (Nat.le_of_ble_eq_true rfl) (Nat.le_of_ble_eq_true rfl)) dL_law_700 (fun r w H locs hm hP hD hS => ?_)
    obtain ⟨w1, w2, w3⟩ := w
    have hu : 0 = w1 ∧ r0 = r := by
      rcases hm with ⟨g1, -⟩ | ⟨-, g2, g3⟩
      · exact absurd hp0.1 g1
      · exact ⟨g2.symm, hp0.2.trans g3.symm⟩
    obtain ⟨rfl, rfl⟩ := hu
    replace hP : va_P D vwCl (fW g hn ha adn ada cI hei dra rai σ cre gai u.1 u.2 z ++ (mM h ad cI 0 hei dra rai σ flo w2 w3 ++ oW o cL f1)) H := hP
    replace hD : va_D (lw_A s) (fW g hn ha adn ada cI hei dra rai σ cre gai u.1 u.2 z ++ (mM h ad cI 0 hei dra rai σ flo w2 w3 ++ oW o cL f1)) := hD
    refine lv_istore (lv' := [(6, .int r0), (5, .int 0), (0, .ref b), (1, .ref g), (2, .ref h), (3, .ref o), (4, .int (nI (4 * i)))]) hx hb dL_law_703 hl (by decide) rfl (fun ls hl => ?_)
    refine lv_aload_n hx hb dL_law_705 rfl (lv_at hl 4 rfl) ?_
    refine ct_Vi (As := []) (rest := []) (wr := fW g hn ha adn ada cI hei dra rai σ cre gai u.1 u.2 z ++ oW o cL f1) (W0 := fW g hn ha adn ada cI hei dra rai σ cre gai u.1 u.2 z ++ (mM h ad cI 0 hei dra rai σ flo w2 w3 ++ oW o cL f1)) (W1 := fun _ => fW g hn ha adn ada cI hei dra rai σ cre gai u.1 u.2 z ++ (mM h ad cI 0 hei dra rai σ flo w2 w3 ++ oW o cL f1)) (cells1 := C + 2) (slots1 := S + 12) ⟨hx, hb, hml, hown, hts⟩ (c_X2_thrown l D cI h ad 0 hei (m_wat σ) (m_dam σ) (m_wea σ) dra (m_peo σ) rai (q_num (nI (m_t σ)) (m_bro σ) (m_drd σ) (m_lef σ)) flo w2 w3) (cwV 0 hts gL_law_X2_thrown rfl rfl rfl (by decide +kernel) ⟨Nat.le_of_ble_eq_true rfl, Nat.le_of_ble_eq_true rfl⟩) hK hP hD hS hA [25, 26, 27, 28, 29, 30, 31, 32, 33, 34, 35, 36] [0, 1, 2, 3, 4, 5, 6, 7, 8, 9, 10, 11, 12, 13, 14, 15, 16, 17, 18, 19, 20, 21, 22, 23, 24, 37] ⟨rfl, rfl, rfl, rfl, rfl⟩ [0, 1, 2, 3, 4, 5, 6, 7, 8, 9, 10, 11, 12, 13, 14, 15, 16, 17, 18, 19, 20, 21, 22, 23, 24, 26, 27, 28, 29, 30, 31, 32, 33, 34, 35, 36, 37, 25] rfl (fun _ => rfl) [0] rfl (va_recv hK hP (ci := 2) (q0 := 25) rfl rfl) rfl hl.1 rfl (Nat.le_of_ble_eq_true rfl) rfl rfl (lw_hc hC (Nat.le_of_ble_eq_true rfl) (Nat.le_of_ble_eq_true rfl)) dL_law_706 (fun r9 _ H locs hw9 hP hD hS => ?_)
    refine ct_top hw9 ?_
    refine lv_iload hx hb dL_law_709 (lv_at hl 1 rfl) ?_
    refine lv_icmp_eq (tgt := 716) hx hb dL_law_711 (by decide) (fun _ => ?_) (fun hc => absurd rfl hc)
    refine lv_iload hx hb dL_law_716 (lv_at hl 1 rfl) ?_
    refine lv_if_ne (tgt := 733) hx hb dL_law_718 (by decide) (fun hc => absurd rfl hc) (fun _ => ?_)
    refine lv_aload_n hx hb dL_law_721 rfl (lv_at hl 5 rfl) ?_
    refine lv_iconst (v := 0) hx hb dL_law_722 (by decide) ?_
    refine va_lald (cl := vwCl) (f := f1) hx hb hK hP 37 2 rfl rfl z_in0 dL_law_723 ?_
    refine lv_iload hx hb dL_law_724 (lv_at hl 0 rfl) ?_
    refine lv_i2l (v := Int32.toInt64 r0) hx hb dL_law_726 rfl ?_
    refine lv_lcmp0 hx hb hf0 dL_law_727 ?_
    refine lv_if_eq (tgt := 733) hx hb dL_law_728 (by decide) (fun _ => ?_) (fun hc => absurd rfl hc)
    refine lv_goto (tgt := 1219) hx hb dL_law_733 (by decide) ?_
    refine W.widen (k := C + 80) (n := S + 700) (by omega) (by omega) ?_
    exact kk d0 hei dra rai σ cre gai u.1 u.2 z 0 flo w2 w3 f1 H locs ls hd0 (inv_up hI (by omega)) (by omega) hP hD hS (lv_sub hl [2, 3, 4, 5, 6] rfl)
set_option maxHeartbeats 4000000 in
set_option maxRecDepth 100000 in
theorem law_count {p : Program} {l : Launch} {e : Env} {s : State} {m : MethodId} {below : List Frame} {meth : Method} {c : Code} {b L : Nat} {xs : Nat → Int32} {D : va_G} {cI cJ cL : ClassId} {sa1 sa2 : Nat} {g hn ha : Nat} {adn ada : Nat → Nat} {h : Nat} {ad : Nat → Nat} {o i C S : Nat} {v : Int32} (C9 : lw_Cx p l m c b L xs D cI cJ cL sa1 sa2 s) (hL : L ≤ 2048) (hi : 4 * i + 4 ≤ L) (hC : C + 80 ≤ 840170 ∧ S + 700 ≤ 6575593) (kk : lw_Nx p l e s m below meth c b D cI cL g hn ha adn ada h ad o i (C + 80) (S + 700)) {d0 : Drawn} (hd0 : s.drawn.sameBut d0 lw_cs) {hei dra rai : Nat → Int32} {σ : Ms} {cre gai see fou : Nat → Int32} {z : Nat → Nat → Int32} {thr : Int32} {flo lak row : Nat → Int32} {f : Nat → Int64} (hI : inv (28000 * (i : Int)) hei dra rai σ) (ht : m_t σ ≤ 48 * i) {H : Heap} {locs : List Loc} {ls : Array Slot} (e1 : xs (nI (4 * i) + nI 1).toNatClampNeg = v)
    (hP : va_P D vwCl (fW g hn ha adn ada cI hei dra rai σ cre gai see fou z ++ (mM h ad cI thr hei dra rai σ flo lak row ++ oW o cL f)) H) (hD : va_D (lw_A s) (fW g hn ha adn ada cI hei dra rai σ cre gai see fou z ++ (mM h ad cI thr hei dra rai σ flo lak row ++ oW o cL f))) (hS : va_S (lw_A s) s.heap H locs) (hl : lv_has ls 9 [(0, .ref b), (1, .ref g), (2, .ref h), (3, .ref o), (4, .int (nI (4 * i)))]) :
    W p l e room_1 (s.setDrawn d0) m #[Value.ref b] below meth c H locs C S (lw_Z below #[Value.ref b] s) (F0 m 736 ls []) := by
  obtain ⟨hx, hb, hml, hown, hts, hK, hT, hY, hX, hbl, hst⟩ := C9.drew d0
  have hA : ∀ q : Nat, (s.setDrawn d0).heap.size ≤ q → lw_A s q := fun _ h9 => h9
  have hbA : ¬ lw_A s b := Nat.not_le.mpr hbl
  have ht9 : m_t σ < 2 ^ 29 := by omega
  have hi1 := inv_1 hI
  have hw0 := inv_w hI
  have hdm := inv_dm hI
  replace hS : va_S (lw_A s) (s.setDrawn d0).heap H locs := hS
  refine lv_aload_n hx hb dL_law_736 rfl (lv_at hl 1 rfl) ?_
  refine lv_aload_n hx hb dL_law_737 rfl (lv_at hl 0 rfl) ?_
  refine lv_iload hx hb dL_law_738 (lv_at hl 4 rfl) ?_
  refine lv_iconst (v := nI 1) hx hb dL_law_740 (by decide) ?_
  refine lv_iadd hx hb dL_law_741 ?_
  refine va_sld hx hb hX hbl hbA hS (lw_in1 (j := 1) (by omega) hL) dL_law_742 ?_
  refine ct_top e1 ?_
  refine lv_aload_n hx hb dL_law_743 rfl (lv_at hl 3 rfl) ?_
  refine cz_Si (As := [.ref g, .int v, .ref o]) (rest := []) (wr := mM h ad cI thr hei dra rai σ flo lak row) (W0 := fW g hn ha adn ada cI hei dra rai σ cre gai see fou z ++ (mM h ad cI thr hei dra rai σ flo lak row ++ oW o cL f)) (W1 := z_w1 (fW g hn ha adn ada cI hei dra rai σ cre gai see fou z) (fun u => (fW g hn ha adn ada cI hei dra rai σ cre gai u.1 u.2 z)) (mM h ad cI thr hei dra rai σ flo lak row) o cL f) (cells1 := C + 1) (slots1 := S + 6) ⟨hx, hb, hml, hown, hts⟩ (c_L_count l hst D cI cL sa1 sa2 g hn ha adn ada hei dra rai σ cre gai see fou z v o f) (vx_cwSW (hh := [(0, 9, 12, 13)]) 3 hts gL_law_L_count rfl rfl rfl (by decide +kernel) ⟨Nat.le_of_ble_eq_true rfl, Nat.le_of_ble_eq_true rfl⟩) hK hP hD hS hA hT [0, 1, 2, 3, 4, 5, 6, 7, 8, 9, 10, 11, 12, 13, 14, 15, 16, 17, 18, 19, 20, 21, 22, 23, 24, 37] [25, 26, 27, 28, 29, 30, 31, 32, 33, 34, 35, 36] ⟨rfl, rfl, rfl, rfl, rfl⟩ [12, 13, 14, 15, 16, 17, 18, 19, 20, 21, 22, 23, 24, 25, 26, 27, 28, 29, 30, 31, 32, 33, 34, 35, 36, 0, 1, 2, 3, 4, 5, 6, 7, 8, 9, 10, 11, 37] rfl (fun u => by rcases u with _ | ⟨u, f1⟩ <;> rfl) [0, 2] rfl rfl hl.1 rfl (Nat.le_of_ble_eq_true rfl) rfl rfl (lw_hc hC (Nat.le_of_ble_eq_true rfl) (Nat.le_of_ble_eq_true rfl)) dL_law_744 (fun k u H locs hw hP hD hS => ?_)
  rcases u with _ | ⟨u, f1⟩
  · skip
    replace hP : va_P D vwCl (fW g hn ha adn ada cI hei dra rai σ cre gai see fou z ++ (mM h ad cI thr hei dra rai σ flo lak row ++ oW o cL f)) H := hP
    replace hD : va_D (lw_A s) (fW g hn ha adn ada cI hei dra rai σ cre gai see fou z ++ (mM h ad cI thr hei dra rai σ flo lak row ++ oW o cL f)) := hD
    refine lv_istore (lv' := [(5, .int k), (0, .ref b), (1, .ref g), (2, .ref h), (3, .ref o), (4, .int (nI (4 * i)))]) hx hb dL_law_747 hl (by decide) rfl (fun ls hl => ?_)
    refine lv_aload_n hx hb dL_law_749 rfl (lv_at hl 3 rfl) ?_
    refine lv_aload_n hx hb dL_law_750 rfl (lv_at hl 1 rfl) ?_
    refine lv_iload hx hb dL_law_751 (lv_at hl 5 rfl) ?_
    refine lv_iconst (v := nI 1) hx hb dL_law_753 (by decide) ?_
    refine lv_iadd hx hb dL_law_754 ?_
    refine va_sld hx hb hX hbl hbA hS (lw_in1 (j := 1) (by omega) hL) dL_law_755 ?_
    refine ct_top e1 ?_
    refine ct_Vi (As := [.int v]) (rest := []) (wr := fW g hn ha adn ada cI hei dra rai σ cre gai see fou z ++ oW o cL f) (W0 := fW g hn ha adn ada cI hei dra rai σ cre gai see fou z ++ (mM h ad cI thr hei dra rai σ flo lak row ++ oW o cL f)) (W1 := fun w => fW g hn ha adn ada cI hei dra rai σ cre gai see fou z ++ ((mM h ad cI w.1 hei dra rai σ flo w.2.1 w.2.2) ++ oW o cL f)) (cells1 := C + 1) (slots1 := S + 6) ⟨hx, hb, hml, hown, hts⟩ (c_X2_count l D cI h ad thr hei dra rai σ flo lak row hw0 v) (cwV 1 hts gL_law_X2_count rfl rfl rfl (by decide +kernel) ⟨Nat.le_of_ble_eq_true rfl, Nat.le_of_ble_eq_true rfl⟩) hK hP hD hS hA [25, 26, 27, 28, 29, 30, 31, 32, 33, 34, 35, 36] [0, 1, 2, 3, 4, 5, 6, 7, 8, 9, 10, 11, 12, 13, 14, 15, 16, 17, 18, 19, 20, 21, 22, 23, 24, 37] ⟨rfl, rfl, rfl, rfl, rfl⟩ [0, 1, 2, 3, 4, 5, 6, 7, 8, 9, 10, 11, 12, 13, 14, 15, 16, 17, 18, 19, 20, 21, 22, 23, 24, 26, 27, 28, 29, 30, 31, 32, 33, 34, 35, 36, 37, 25] rfl (fun _ => rfl) [0] rfl (va_recv hK hP (ci := 2) (q0 := 25) rfl rfl) rfl hl.1 rfl (Nat.le_of_ble_eq_true rfl) rfl rfl (lw_hc hC (Nat.le_of_ble_eq_true rfl) (Nat.le_of_ble_eq_true rfl)) dL_law_756 (fun r w H locs hm hP hD hS => ?_)
    obtain ⟨w1, w2, w3⟩ := w
    have hu : k = w1 ∧ ¬ k = 0 := by
      rcases hw with ⟨rfl, -, h1⟩ | ⟨rfl, h1, -⟩
      · rcases hm with ⟨g1, g2⟩ | ⟨g1, -⟩
        · exact ⟨g2.symm, by decide⟩
        · exact absurd g1 h1
      · exact absurd h1 (by decide +kernel)
    obtain ⟨rfl, hk0⟩ := hu
    replace hP : va_P D vwCl (fW g hn ha adn ada cI hei dra rai σ cre gai see fou z ++ (mM h ad cI k hei dra rai σ flo w2 w3 ++ oW o cL f)) H := hP
    replace hD : va_D (lw_A s) (fW g hn ha adn ada cI hei dra rai σ cre gai see fou z ++ (mM h ad cI k hei dra rai σ flo w2 w3 ++ oW o cL f)) := hD
    refine lv_istore (lv' := [(6, .int r), (5, .int k), (0, .ref b), (1, .ref g), (2, .ref h), (3, .ref o), (4, .int (nI (4 * i)))]) hx hb dL_law_759 hl (by decide) rfl (fun ls hl => ?_)
    refine lv_aload_n hx hb dL_law_761 rfl (lv_at hl 4 rfl) ?_
    refine ct_Vi (As := []) (rest := []) (wr := fW g hn ha adn ada cI hei dra rai σ cre gai see fou z ++ oW o cL f) (W0 := fW g hn ha adn ada cI hei dra rai σ cre gai see fou z ++ (mM h ad cI k hei dra rai σ flo w2 w3 ++ oW o cL f)) (W1 := fun _ => fW g hn ha adn ada cI hei dra rai σ cre gai see fou z ++ (mM h ad cI k hei dra rai σ flo w2 w3 ++ oW o cL f)) (cells1 := C + 1) (slots1 := S + 6) ⟨hx, hb, hml, hown, hts⟩ (c_X2_thrown l D cI h ad k hei (m_wat σ) (m_dam σ) (m_wea σ) dra (m_peo σ) rai (q_num (nI (m_t σ)) (m_bro σ) (m_drd σ) (m_lef σ)) flo w2 w3) (cwV 0 hts gL_law_X2_thrown rfl rfl rfl (by decide +kernel) ⟨Nat.le_of_ble_eq_true rfl, Nat.le_of_ble_eq_true rfl⟩) hK hP hD hS hA [25, 26, 27, 28, 29, 30, 31, 32, 33, 34, 35, 36] [0, 1, 2, 3, 4, 5, 6, 7, 8, 9, 10, 11, 12, 13, 14, 15, 16, 17, 18, 19, 20, 21, 22, 23, 24, 37] ⟨rfl, rfl, rfl, rfl, rfl⟩ [0, 1, 2, 3, 4, 5, 6, 7, 8, 9, 10, 11, 12, 13, 14, 15, 16, 17, 18, 19, 20, 21, 22, 23, 24, 26, 27, 28, 29, 30, 31, 32, 33, 34, 35, 36, 37, 25] rfl (fun _ => rfl) [0] rfl (va_recv hK hP (ci := 2) (q0 := 25) rfl rfl) rfl hl.1 rfl (Nat.le_of_ble_eq_true rfl) rfl rfl (lw_hc hC (Nat.le_of_ble_eq_true rfl) (Nat.le_of_ble_eq_true rfl)) dL_law_762 (fun r9 _ H locs hw9 hP hD hS => ?_)
    refine ct_top hw9 ?_
    refine lv_iload hx hb dL_law_765 (lv_at hl 1 rfl) ?_
    refine lv_icmp_eq (tgt := 772) hx hb dL_law_767 (by decide) (fun _ => ?_) (fun hc => absurd rfl hc)
    refine lv_iload hx hb dL_law_772 (lv_at hl 1 rfl) ?_
    refine lv_if_ne (tgt := 789) hx hb dL_law_774 (by decide) (fun _ => ?_) (fun hc => absurd hc hk0)
    refine lv_goto (tgt := 1219) hx hb dL_law_789 (by decide) ?_
    refine W.widen (k := C + 80) (n := S + 700) (by omega) (by omega) ?_
    exact kk d0 hei dra rai σ cre gai see fou z k flo w2 w3 f H locs ls hd0 (inv_up hI (by omega)) (by omega) hP hD hS (lv_sub hl [2, 3, 4, 5, 6] rfl)
  · skip
    obtain ⟨rfl, r0, hp0, hf0⟩ := hw
    replace hP : va_P D vwCl (fW g hn ha adn ada cI hei dra rai σ cre gai u.1 u.2 z ++ (mM h ad cI thr hei dra rai σ flo lak row ++ oW o cL f1)) H := hP
    replace hD : va_D (lw_A s) (fW g hn ha adn ada cI hei dra rai σ cre gai u.1 u.2 z ++ (mM h ad cI thr hei dra rai σ flo lak row ++ oW o cL f1)) := hD
    refine lv_istore (lv' := [(5, .int 0), (0, .ref b), (1, .ref g), (2, .ref h), (3, .ref o), (4, .int (nI (4 * i)))]) hx hb dL_law_747 hl (by decide) rfl (fun ls hl => ?_)
    refine lv_aload_n hx hb dL_law_749 rfl (lv_at hl 3 rfl) ?_
    refine lv_aload_n hx hb dL_law_750 rfl (lv_at hl 1 rfl) ?_
    refine lv_iload hx hb dL_law_751 (lv_at hl 5 rfl) ?_
    refine lv_iconst (v := nI 1) hx hb dL_law_753 (by decide) ?_
    refine lv_iadd hx hb dL_law_754 ?_
    refine va_sld hx hb hX hbl hbA hS (lw_in1 (j := 1) (by omega) hL) dL_law_755 ?_
    refine ct_top e1 ?_
    refine ct_Vi (As := [.int v]) (rest := []) (wr := fW g hn ha adn ada cI hei dra rai σ cre gai u.1 u.2 z ++ oW o cL f1) (W0 := fW g hn ha adn ada cI hei dra rai σ cre gai u.1 u.2 z ++ (mM h ad cI thr hei dra rai σ flo lak row ++ oW o cL f1)) (W1 := fun w => fW g hn ha adn ada cI hei dra rai σ cre gai u.1 u.2 z ++ ((mM h ad cI w.1 hei dra rai σ flo w.2.1 w.2.2) ++ oW o cL f1)) (cells1 := C + 1) (slots1 := S + 6) ⟨hx, hb, hml, hown, hts⟩ (c_X2_count l D cI h ad thr hei dra rai σ flo lak row hw0 v) (cwV 1 hts gL_law_X2_count rfl rfl rfl (by decide +kernel) ⟨Nat.le_of_ble_eq_true rfl, Nat.le_of_ble_eq_true rfl⟩) hK hP hD hS hA [25, 26, 27, 28, 29, 30, 31, 32, 33, 34, 35, 36] [0, 1, 2, 3, 4, 5, 6, 7, 8, 9, 10, 11, 12, 13, 14, 15, 16, 17, 18, 19, 20, 21, 22, 23, 24, 37] ⟨rfl, rfl, rfl, rfl, rfl⟩ [0, 1, 2, 3, 4, 5, 6, 7, 8, 9, 10, 11, 12, 13, 14, 15, 16, 17, 18, 19, 20, 21, 22, 23, 24, 26, 27, 28, 29, 30, 31, 32, 33, 34, 35, 36, 37, 25] rfl (fun _ => rfl) [0] rfl (va_recv hK hP (ci := 2) (q0 := 25) rfl rfl) rfl hl.1 rfl (Nat.le_of_ble_eq_true rfl) rfl rfl (lw_hc hC (Nat.le_of_ble_eq_true rfl) (Nat.le_of_ble_eq_true rfl)) dL_law_756 (fun r w H locs hm hP hD hS => ?_)
    obtain ⟨w1, w2, w3⟩ := w
    have hu : 0 = w1 ∧ r0 = r := by
      rcases hm with ⟨g1, -⟩ | ⟨-, g2, g3⟩
      · exact absurd hp0.1 g1
      · exact ⟨g2.symm, hp0.2.trans g3.symm⟩
    obtain ⟨rfl, rfl⟩ := hu
    replace hP : va_P D vwCl (fW g hn ha adn ada cI hei dra rai σ cre gai u.1 u.2 z ++ (mM h ad cI 0 hei dra rai σ flo w2 w3 ++ oW o cL f1)) H := hP
    replace hD : va_D (lw_A s) (fW g hn ha adn ada cI hei dra rai σ cre gai u.1 u.2 z ++ (mM h ad cI 0 hei dra rai σ flo w2 w3 ++ oW o cL f1)) := hD
    refine lv_istore (lv' := [(6, .int r0), (5, .int 0), (0, .ref b), (1, .ref g), (2, .ref h), (3, .ref o), (4, .int (nI (4 * i)))]) hx hb dL_law_759 hl (by decide) rfl (fun ls hl => ?_)
    refine lv_aload_n hx hb dL_law_761 rfl (lv_at hl 4 rfl) ?_
    refine ct_Vi (As := []) (rest := []) (wr := fW g hn ha adn ada cI hei dra rai σ cre gai u.1 u.2 z ++ oW o cL f1) (W0 := fW g hn ha adn ada cI hei dra rai σ cre gai u.1 u.2 z ++ (mM h ad cI 0 hei dra rai σ flo w2 w3 ++ oW o cL f1)) (W1 := fun _ => fW g hn ha adn ada cI hei dra rai σ cre gai u.1 u.2 z ++ (mM h ad cI 0 hei dra rai σ flo w2 w3 ++ oW o cL f1)) (cells1 := C + 1) (slots1 := S + 6) ⟨hx, hb, hml, hown, hts⟩ (c_X2_thrown l D cI h ad 0 hei (m_wat σ) (m_dam σ) (m_wea σ) dra (m_peo σ) rai (q_num (nI (m_t σ)) (m_bro σ) (m_drd σ) (m_lef σ)) flo w2 w3) (cwV 0 hts gL_law_X2_thrown rfl rfl rfl (by decide +kernel) ⟨Nat.le_of_ble_eq_true rfl, Nat.le_of_ble_eq_true rfl⟩) hK hP hD hS hA [25, 26, 27, 28, 29, 30, 31, 32, 33, 34, 35, 36] [0, 1, 2, 3, 4, 5, 6, 7, 8, 9, 10, 11, 12, 13, 14, 15, 16, 17, 18, 19, 20, 21, 22, 23, 24, 37] ⟨rfl, rfl, rfl, rfl, rfl⟩ [0, 1, 2, 3, 4, 5, 6, 7, 8, 9, 10, 11, 12, 13, 14, 15, 16, 17, 18, 19, 20, 21, 22, 23, 24, 26, 27, 28, 29, 30, 31, 32, 33, 34, 35, 36, 37, 25] rfl (fun _ => rfl) [0] rfl (va_recv hK hP (ci := 2) (q0 := 25) rfl rfl) rfl hl.1 rfl (Nat.le_of_ble_eq_true rfl) rfl rfl (lw_hc hC (Nat.le_of_ble_eq_true rfl) (Nat.le_of_ble_eq_true rfl)) dL_law_762 (fun r9 _ H locs hw9 hP hD hS => ?_)
    refine ct_top hw9 ?_
    refine lv_iload hx hb dL_law_765 (lv_at hl 1 rfl) ?_
    refine lv_icmp_eq (tgt := 772) hx hb dL_law_767 (by decide) (fun _ => ?_) (fun hc => absurd rfl hc)
    refine lv_iload hx hb dL_law_772 (lv_at hl 1 rfl) ?_
    refine lv_if_ne (tgt := 789) hx hb dL_law_774 (by decide) (fun hc => absurd rfl hc) (fun _ => ?_)
    refine lv_aload_n hx hb dL_law_777 rfl (lv_at hl 5 rfl) ?_
    refine lv_iconst (v := 0) hx hb dL_law_778 (by decide) ?_
    refine va_lald (cl := vwCl) (f := f1) hx hb hK hP 37 2 rfl rfl z_in0 dL_law_779 ?_
    refine lv_iload hx hb dL_law_780 (lv_at hl 0 rfl) ?_
    refine lv_i2l (v := Int32.toInt64 r0) hx hb dL_law_782 rfl ?_
    refine lv_lcmp0 hx hb hf0 dL_law_783 ?_
    refine lv_if_eq (tgt := 789) hx hb dL_law_784 (by decide) (fun _ => ?_) (fun hc => absurd rfl hc)
    refine lv_goto (tgt := 1219) hx hb dL_law_789 (by decide) ?_
    refine W.widen (k := C + 80) (n := S + 700) (by omega) (by omega) ?_
    exact kk d0 hei dra rai σ cre gai u.1 u.2 z 0 flo w2 w3 f1 H locs ls hd0 (inv_up hI (by omega)) (by omega) hP hD hS (lv_sub hl [2, 3, 4, 5, 6] rfl)
set_option maxHeartbeats 4000000 in
set_option maxRecDepth 100000 in
theorem law_pass {p : Program} {l : Launch} {e : Env} {s : State} {m : MethodId} {below : List Frame} {meth : Method} {c : Code} {b L : Nat} {xs : Nat → Int32} {D : va_G} {cI cJ cL : ClassId} {sa1 sa2 : Nat} {g hn ha : Nat} {adn ada : Nat → Nat} {h : Nat} {ad : Nat → Nat} {o i C S : Nat} {v : Int32} (C9 : lw_Cx p l m c b L xs D cI cJ cL sa1 sa2 s) (hL : L ≤ 2048) (hi : 4 * i + 4 ≤ L) (hC : C + 80 ≤ 840170 ∧ S + 700 ≤ 6575593) (kk : lw_Nx p l e s m below meth c b D cI cL g hn ha adn ada h ad o i (C + 80) (S + 700)) {d0 : Drawn} (hd0 : s.drawn.sameBut d0 lw_cs) {hei dra rai : Nat → Int32} {σ : Ms} {cre gai see fou : Nat → Int32} {z : Nat → Nat → Int32} {thr : Int32} {flo lak row : Nat → Int32} {f : Nat → Int64} (hI : inv (28000 * (i : Int)) hei dra rai σ) (ht : m_t σ ≤ 48 * i) {H : Heap} {locs : List Loc} {ls : Array Slot} (e1 : xs (nI (4 * i) + nI 1).toNatClampNeg = v)
    (hP : va_P D vwCl (fW g hn ha adn ada cI hei dra rai σ cre gai see fou z ++ (mM h ad cI thr hei dra rai σ flo lak row ++ oW o cL f)) H) (hD : va_D (lw_A s) (fW g hn ha adn ada cI hei dra rai σ cre gai see fou z ++ (mM h ad cI thr hei dra rai σ flo lak row ++ oW o cL f))) (hS : va_S (lw_A s) s.heap H locs) (hl : lv_has ls 9 [(0, .ref b), (1, .ref g), (2, .ref h), (3, .ref o), (4, .int (nI (4 * i)))]) :
    W p l e room_1 (s.setDrawn d0) m #[Value.ref b] below meth c H locs C S (lw_Z below #[Value.ref b] s) (F0 m 792 ls []) := by
  obtain ⟨hx, hb, hml, hown, hts, hK, hT, hY, hX, hbl, hst⟩ := C9.drew d0
  have hA : ∀ q : Nat, (s.setDrawn d0).heap.size ≤ q → lw_A s q := fun _ h9 => h9
  have hbA : ¬ lw_A s b := Nat.not_le.mpr hbl
  have ht9 : m_t σ < 2 ^ 29 := by omega
  have hi1 := inv_1 hI
  have hw0 := inv_w hI
  have hdm := inv_dm hI
  replace hS : va_S (lw_A s) (s.setDrawn d0).heap H locs := hS
  refine lv_aload_n hx hb dL_law_792 rfl (lv_at hl 1 rfl) ?_
  refine lv_aload_n hx hb dL_law_793 rfl (lv_at hl 0 rfl) ?_
  refine lv_iload hx hb dL_law_794 (lv_at hl 4 rfl) ?_
  refine lv_iconst (v := nI 1) hx hb dL_law_796 (by decide) ?_
  refine lv_iadd hx hb dL_law_797 ?_
  refine va_sld hx hb hX hbl hbA hS (lw_in1 (j := 1) (by omega) hL) dL_law_798 ?_
  refine ct_top e1 ?_
  refine lv_aload_n hx hb dL_law_799 rfl (lv_at hl 3 rfl) ?_
  refine cz_Si (As := [.ref g, .int v, .ref o]) (rest := []) (wr := mM h ad cI thr hei dra rai σ flo lak row) (W0 := fW g hn ha adn ada cI hei dra rai σ cre gai see fou z ++ (mM h ad cI thr hei dra rai σ flo lak row ++ oW o cL f)) (W1 := z_w1 (fW g hn ha adn ada cI hei dra rai σ cre gai see fou z) (fun u => (fW g hn ha adn ada cI hei dra rai (q_hours hei dra rai v.toNatClampNeg σ) u.1 u.2 see fou z)) (mM h ad cI thr hei dra rai σ flo lak row) o cL f) (cells1 := C + 1) (slots1 := S + 6) ⟨hx, hb, hml, hown, hts⟩ (c_L_pass l hst D cI cL sa1 sa2 g hn ha adn ada hei dra rai σ cre gai see fou z ht9 v o f) (vx_cwSW (hh := [(0, 9, 12, 15)]) 3 hts gL_law_L_pass rfl rfl rfl (by decide +kernel) ⟨Nat.le_of_ble_eq_true rfl, Nat.le_of_ble_eq_true rfl⟩) hK hP hD hS hA hT [0, 1, 2, 3, 4, 5, 6, 7, 8, 9, 10, 11, 12, 13, 14, 15, 16, 17, 18, 19, 20, 21, 22, 23, 24, 37] [25, 26, 27, 28, 29, 30, 31, 32, 33, 34, 35, 36] ⟨rfl, rfl, rfl, rfl, rfl⟩ [12, 13, 14, 15, 16, 17, 18, 19, 20, 21, 22, 23, 24, 25, 26, 27, 28, 29, 30, 31, 32, 33, 34, 35, 36, 0, 1, 2, 3, 4, 5, 6, 7, 8, 9, 10, 11, 37] rfl (fun u => by rcases u with _ | ⟨u, f1⟩ <;> rfl) [0, 2] rfl rfl hl.1 rfl (Nat.le_of_ble_eq_true rfl) rfl rfl (lw_hc hC (Nat.le_of_ble_eq_true rfl) (Nat.le_of_ble_eq_true rfl)) dL_law_800 (fun k u H locs hw hP hD hS => ?_)
  rcases u with _ | ⟨u, f1⟩
  · skip
    replace hP : va_P D vwCl (fW g hn ha adn ada cI hei dra rai σ cre gai see fou z ++ (mM h ad cI thr hei dra rai σ flo lak row ++ oW o cL f)) H := hP
    replace hD : va_D (lw_A s) (fW g hn ha adn ada cI hei dra rai σ cre gai see fou z ++ (mM h ad cI thr hei dra rai σ flo lak row ++ oW o cL f)) := hD
    refine lv_istore (lv' := [(5, .int k), (0, .ref b), (1, .ref g), (2, .ref h), (3, .ref o), (4, .int (nI (4 * i)))]) hx hb dL_law_803 hl (by decide) rfl (fun ls hl => ?_)
    refine lv_aload_n hx hb dL_law_805 rfl (lv_at hl 3 rfl) ?_
    refine lv_aload_n hx hb dL_law_806 rfl (lv_at hl 1 rfl) ?_
    refine lv_iload hx hb dL_law_807 (lv_at hl 5 rfl) ?_
    refine lv_iconst (v := nI 1) hx hb dL_law_809 (by decide) ?_
    refine lv_iadd hx hb dL_law_810 ?_
    refine va_sld hx hb hX hbl hbA hS (lw_in1 (j := 1) (by omega) hL) dL_law_811 ?_
    refine ct_top e1 ?_
    refine ct_Vi (As := [.int v]) (rest := []) (wr := fW g hn ha adn ada cI hei dra rai σ cre gai see fou z ++ oW o cL f) (W0 := fW g hn ha adn ada cI hei dra rai σ cre gai see fou z ++ (mM h ad cI thr hei dra rai σ flo lak row ++ oW o cL f)) (W1 := fun w => fW g hn ha adn ada cI hei dra rai σ cre gai see fou z ++ ((mM h ad cI w.1 hei dra rai w.2.1 w.2.2 lak row) ++ oW o cL f)) (cells1 := C + 1) (slots1 := S + 6) ⟨hx, hb, hml, hown, hts⟩ (c_X2_pass l D cI h ad thr hei dra rai σ flo lak row ht9 hi1 v) (cwV 1 hts gL_law_X2_pass rfl rfl rfl (by decide +kernel) ⟨Nat.le_of_ble_eq_true rfl, Nat.le_of_ble_eq_true rfl⟩) hK hP hD hS hA [25, 26, 27, 28, 29, 30, 31, 32, 33, 34, 35, 36] [0, 1, 2, 3, 4, 5, 6, 7, 8, 9, 10, 11, 12, 13, 14, 15, 16, 17, 18, 19, 20, 21, 22, 23, 24, 37] ⟨rfl, rfl, rfl, rfl, rfl⟩ [0, 1, 2, 3, 4, 5, 6, 7, 8, 9, 10, 11, 12, 13, 14, 15, 16, 17, 18, 19, 20, 21, 22, 23, 24, 26, 27, 28, 29, 30, 31, 32, 33, 34, 35, 36, 37, 25] rfl (fun _ => rfl) [0] rfl (va_recv hK hP (ci := 2) (q0 := 25) rfl rfl) rfl hl.1 rfl (Nat.le_of_ble_eq_true rfl) rfl rfl (lw_hc hC (Nat.le_of_ble_eq_true rfl) (Nat.le_of_ble_eq_true rfl)) dL_law_812 (fun r w H locs hm hP hD hS => ?_)
    obtain ⟨w1, w2, w3⟩ := w
    have hu : k = w1 ∧ ¬ k = 0 ∧ σ = w2 := by
      rcases hw with ⟨rfl, h1, -⟩ | ⟨rfl, -, h1⟩
      · exact absurd h1 (by decide +kernel)
      · rcases hm with ⟨g1, g2, g3⟩ | ⟨g1, -⟩
        · exact ⟨g2.symm, by decide, g3.symm⟩
        · exact absurd g1 h1
    obtain ⟨rfl, hk0, rfl⟩ := hu
    replace hP : va_P D vwCl (fW g hn ha adn ada cI hei dra rai σ cre gai see fou z ++ (mM h ad cI k hei dra rai σ w3 lak row ++ oW o cL f)) H := hP
    replace hD : va_D (lw_A s) (fW g hn ha adn ada cI hei dra rai σ cre gai see fou z ++ (mM h ad cI k hei dra rai σ w3 lak row ++ oW o cL f)) := hD
    refine lv_istore (lv' := [(6, .int r), (5, .int k), (0, .ref b), (1, .ref g), (2, .ref h), (3, .ref o), (4, .int (nI (4 * i)))]) hx hb dL_law_815 hl (by decide) rfl (fun ls hl => ?_)
    refine lv_aload_n hx hb dL_law_817 rfl (lv_at hl 4 rfl) ?_
    refine ct_Vi (As := []) (rest := []) (wr := fW g hn ha adn ada cI hei dra rai σ cre gai see fou z ++ oW o cL f) (W0 := fW g hn ha adn ada cI hei dra rai σ cre gai see fou z ++ (mM h ad cI k hei dra rai σ w3 lak row ++ oW o cL f)) (W1 := fun _ => fW g hn ha adn ada cI hei dra rai σ cre gai see fou z ++ (mM h ad cI k hei dra rai σ w3 lak row ++ oW o cL f)) (cells1 := C + 1) (slots1 := S + 6) ⟨hx, hb, hml, hown, hts⟩ (c_X2_thrown l D cI h ad k hei (m_wat σ) (m_dam σ) (m_wea σ) dra (m_peo σ) rai (q_num (nI (m_t σ)) (m_bro σ) (m_drd σ) (m_lef σ)) w3 lak row) (cwV 0 hts gL_law_X2_thrown rfl rfl rfl (by decide +kernel) ⟨Nat.le_of_ble_eq_true rfl, Nat.le_of_ble_eq_true rfl⟩) hK hP hD hS hA [25, 26, 27, 28, 29, 30, 31, 32, 33, 34, 35, 36] [0, 1, 2, 3, 4, 5, 6, 7, 8, 9, 10, 11, 12, 13, 14, 15, 16, 17, 18, 19, 20, 21, 22, 23, 24, 37] ⟨rfl, rfl, rfl, rfl, rfl⟩ [0, 1, 2, 3, 4, 5, 6, 7, 8, 9, 10, 11, 12, 13, 14, 15, 16, 17, 18, 19, 20, 21, 22, 23, 24, 26, 27, 28, 29, 30, 31, 32, 33, 34, 35, 36, 37, 25] rfl (fun _ => rfl) [0] rfl (va_recv hK hP (ci := 2) (q0 := 25) rfl rfl) rfl hl.1 rfl (Nat.le_of_ble_eq_true rfl) rfl rfl (lw_hc hC (Nat.le_of_ble_eq_true rfl) (Nat.le_of_ble_eq_true rfl)) dL_law_818 (fun r9 _ H locs hw9 hP hD hS => ?_)
    refine ct_top hw9 ?_
    refine lv_iload hx hb dL_law_821 (lv_at hl 1 rfl) ?_
    refine lv_icmp_eq (tgt := 828) hx hb dL_law_823 (by decide) (fun _ => ?_) (fun hc => absurd rfl hc)
    refine lv_iload hx hb dL_law_828 (lv_at hl 1 rfl) ?_
    refine lv_if_ne (tgt := 845) hx hb dL_law_830 (by decide) (fun _ => ?_) (fun hc => absurd hc hk0)
    refine lv_goto (tgt := 1219) hx hb dL_law_845 (by decide) ?_
    refine W.widen (k := C + 80) (n := S + 700) (by omega) (by omega) ?_
    exact kk d0 hei dra rai σ cre gai see fou z k w3 lak row f H locs ls hd0 (inv_up hI (by omega)) (by omega) hP hD hS (lv_sub hl [2, 3, 4, 5, 6] rfl)
  · skip
    obtain ⟨rfl, r0, hp0, hf0⟩ := hw
    replace hP : va_P D vwCl (fW g hn ha adn ada cI hei dra rai (q_hours hei dra rai v.toNatClampNeg σ) u.1 u.2 see fou z ++ (mM h ad cI thr hei dra rai σ flo lak row ++ oW o cL f1)) H := hP
    replace hD : va_D (lw_A s) (fW g hn ha adn ada cI hei dra rai (q_hours hei dra rai v.toNatClampNeg σ) u.1 u.2 see fou z ++ (mM h ad cI thr hei dra rai σ flo lak row ++ oW o cL f1)) := hD
    refine lv_istore (lv' := [(5, .int 0), (0, .ref b), (1, .ref g), (2, .ref h), (3, .ref o), (4, .int (nI (4 * i)))]) hx hb dL_law_803 hl (by decide) rfl (fun ls hl => ?_)
    refine lv_aload_n hx hb dL_law_805 rfl (lv_at hl 3 rfl) ?_
    refine lv_aload_n hx hb dL_law_806 rfl (lv_at hl 1 rfl) ?_
    refine lv_iload hx hb dL_law_807 (lv_at hl 5 rfl) ?_
    refine lv_iconst (v := nI 1) hx hb dL_law_809 (by decide) ?_
    refine lv_iadd hx hb dL_law_810 ?_
    refine va_sld hx hb hX hbl hbA hS (lw_in1 (j := 1) (by omega) hL) dL_law_811 ?_
    refine ct_top e1 ?_
    refine ct_Vi (As := [.int v]) (rest := []) (wr := fW g hn ha adn ada cI hei dra rai (q_hours hei dra rai v.toNatClampNeg σ) u.1 u.2 see fou z ++ oW o cL f1) (W0 := fW g hn ha adn ada cI hei dra rai (q_hours hei dra rai v.toNatClampNeg σ) u.1 u.2 see fou z ++ (mM h ad cI thr hei dra rai σ flo lak row ++ oW o cL f1)) (W1 := fun w => fW g hn ha adn ada cI hei dra rai (q_hours hei dra rai v.toNatClampNeg σ) u.1 u.2 see fou z ++ ((mM h ad cI w.1 hei dra rai w.2.1 w.2.2 lak row) ++ oW o cL f1)) (cells1 := C + 1) (slots1 := S + 6) ⟨hx, hb, hml, hown, hts⟩ (c_X2_pass l D cI h ad thr hei dra rai σ flo lak row ht9 hi1 v) (cwV 1 hts gL_law_X2_pass rfl rfl rfl (by decide +kernel) ⟨Nat.le_of_ble_eq_true rfl, Nat.le_of_ble_eq_true rfl⟩) hK hP hD hS hA [25, 26, 27, 28, 29, 30, 31, 32, 33, 34, 35, 36] [0, 1, 2, 3, 4, 5, 6, 7, 8, 9, 10, 11, 12, 13, 14, 15, 16, 17, 18, 19, 20, 21, 22, 23, 24, 37] ⟨rfl, rfl, rfl, rfl, rfl⟩ [0, 1, 2, 3, 4, 5, 6, 7, 8, 9, 10, 11, 12, 13, 14, 15, 16, 17, 18, 19, 20, 21, 22, 23, 24, 26, 27, 28, 29, 30, 31, 32, 33, 34, 35, 36, 37, 25] rfl (fun _ => rfl) [0] rfl (va_recv hK hP (ci := 2) (q0 := 25) rfl rfl) rfl hl.1 rfl (Nat.le_of_ble_eq_true rfl) rfl rfl (lw_hc hC (Nat.le_of_ble_eq_true rfl) (Nat.le_of_ble_eq_true rfl)) dL_law_812 (fun r w H locs hm hP hD hS => ?_)
    obtain ⟨w1, w2, w3⟩ := w
    have hu : 0 = w1 ∧ r0 = r ∧ q_hours hei dra rai v.toNatClampNeg σ = w2 := by
      rcases hm with ⟨g1, -⟩ | ⟨-, g2, g4, g3⟩
      · exact absurd hp0.1 g1
      · exact ⟨g2.symm, hp0.2.trans g3.symm, g4.symm⟩
    obtain ⟨rfl, rfl, rfl⟩ := hu
    replace hP : va_P D vwCl (fW g hn ha adn ada cI hei dra rai (q_hours hei dra rai v.toNatClampNeg σ) u.1 u.2 see fou z ++ (mM h ad cI 0 hei dra rai (q_hours hei dra rai v.toNatClampNeg σ) w3 lak row ++ oW o cL f1)) H := hP
    replace hD : va_D (lw_A s) (fW g hn ha adn ada cI hei dra rai (q_hours hei dra rai v.toNatClampNeg σ) u.1 u.2 see fou z ++ (mM h ad cI 0 hei dra rai (q_hours hei dra rai v.toNatClampNeg σ) w3 lak row ++ oW o cL f1)) := hD
    refine lv_istore (lv' := [(6, .int r0), (5, .int 0), (0, .ref b), (1, .ref g), (2, .ref h), (3, .ref o), (4, .int (nI (4 * i)))]) hx hb dL_law_815 hl (by decide) rfl (fun ls hl => ?_)
    refine lv_aload_n hx hb dL_law_817 rfl (lv_at hl 4 rfl) ?_
    refine ct_Vi (As := []) (rest := []) (wr := fW g hn ha adn ada cI hei dra rai (q_hours hei dra rai v.toNatClampNeg σ) u.1 u.2 see fou z ++ oW o cL f1) (W0 := fW g hn ha adn ada cI hei dra rai (q_hours hei dra rai v.toNatClampNeg σ) u.1 u.2 see fou z ++ (mM h ad cI 0 hei dra rai (q_hours hei dra rai v.toNatClampNeg σ) w3 lak row ++ oW o cL f1)) (W1 := fun _ => fW g hn ha adn ada cI hei dra rai (q_hours hei dra rai v.toNatClampNeg σ) u.1 u.2 see fou z ++ (mM h ad cI 0 hei dra rai (q_hours hei dra rai v.toNatClampNeg σ) w3 lak row ++ oW o cL f1)) (cells1 := C + 1) (slots1 := S + 6) ⟨hx, hb, hml, hown, hts⟩ (c_X2_thrown l D cI h ad 0 hei (m_wat (q_hours hei dra rai v.toNatClampNeg σ)) (m_dam (q_hours hei dra rai v.toNatClampNeg σ)) (m_wea (q_hours hei dra rai v.toNatClampNeg σ)) dra (m_peo (q_hours hei dra rai v.toNatClampNeg σ)) rai (q_num (nI (m_t (q_hours hei dra rai v.toNatClampNeg σ))) (m_bro (q_hours hei dra rai v.toNatClampNeg σ)) (m_drd (q_hours hei dra rai v.toNatClampNeg σ)) (m_lef (q_hours hei dra rai v.toNatClampNeg σ))) w3 lak row) (cwV 0 hts gL_law_X2_thrown rfl rfl rfl (by decide +kernel) ⟨Nat.le_of_ble_eq_true rfl, Nat.le_of_ble_eq_true rfl⟩) hK hP hD hS hA [25, 26, 27, 28, 29, 30, 31, 32, 33, 34, 35, 36] [0, 1, 2, 3, 4, 5, 6, 7, 8, 9, 10, 11, 12, 13, 14, 15, 16, 17, 18, 19, 20, 21, 22, 23, 24, 37] ⟨rfl, rfl, rfl, rfl, rfl⟩ [0, 1, 2, 3, 4, 5, 6, 7, 8, 9, 10, 11, 12, 13, 14, 15, 16, 17, 18, 19, 20, 21, 22, 23, 24, 26, 27, 28, 29, 30, 31, 32, 33, 34, 35, 36, 37, 25] rfl (fun _ => rfl) [0] rfl (va_recv hK hP (ci := 2) (q0 := 25) rfl rfl) rfl hl.1 rfl (Nat.le_of_ble_eq_true rfl) rfl rfl (lw_hc hC (Nat.le_of_ble_eq_true rfl) (Nat.le_of_ble_eq_true rfl)) dL_law_818 (fun r9 _ H locs hw9 hP hD hS => ?_)
    refine ct_top hw9 ?_
    refine lv_iload hx hb dL_law_821 (lv_at hl 1 rfl) ?_
    refine lv_icmp_eq (tgt := 828) hx hb dL_law_823 (by decide) (fun _ => ?_) (fun hc => absurd rfl hc)
    refine lv_iload hx hb dL_law_828 (lv_at hl 1 rfl) ?_
    refine lv_if_ne (tgt := 845) hx hb dL_law_830 (by decide) (fun hc => absurd rfl hc) (fun _ => ?_)
    refine lv_aload_n hx hb dL_law_833 rfl (lv_at hl 5 rfl) ?_
    refine lv_iconst (v := 0) hx hb dL_law_834 (by decide) ?_
    refine va_lald (cl := vwCl) (f := f1) hx hb hK hP 37 2 rfl rfl z_in0 dL_law_835 ?_
    refine lv_iload hx hb dL_law_836 (lv_at hl 0 rfl) ?_
    refine lv_i2l (v := Int32.toInt64 r0) hx hb dL_law_838 rfl ?_
    refine lv_lcmp0 hx hb hf0 dL_law_839 ?_
    refine lv_if_eq (tgt := 845) hx hb dL_law_840 (by decide) (fun _ => ?_) (fun hc => absurd rfl hc)
    refine lv_goto (tgt := 1219) hx hb dL_law_845 (by decide) ?_
    have hv9 : v.toNatClampNeg ≤ 48 := lw_48 hp0.1
    refine W.widen (k := C + 80) (n := S + 700) (by omega) (by omega) ?_
    exact kk d0 hei dra rai (q_hours hei dra rai v.toNatClampNeg σ) u.1 u.2 see fou z 0 w3 lak row f1 H locs ls hd0 (inv_up (inv_hours hI v.toNatClampNeg (by omega)) (by omega)) (by rw [q_hours_t]; omega) hP hD hS (lv_sub hl [2, 3, 4, 5, 6] rfl)
set_option maxHeartbeats 4000000 in
set_option maxRecDepth 100000 in
theorem law_floods {p : Program} {l : Launch} {e : Env} {s : State} {m : MethodId} {below : List Frame} {meth : Method} {c : Code} {b L : Nat} {xs : Nat → Int32} {D : va_G} {cI cJ cL : ClassId} {sa1 sa2 : Nat} {g hn ha : Nat} {adn ada : Nat → Nat} {h : Nat} {ad : Nat → Nat} {o i C S : Nat} {x y : Int32} (C9 : lw_Cx p l m c b L xs D cI cJ cL sa1 sa2 s) (hL : L ≤ 2048) (hi : 4 * i + 4 ≤ L) (hC : C + 80 ≤ 840170 ∧ S + 700 ≤ 6575593) (kk : lw_Nx p l e s m below meth c b D cI cL g hn ha adn ada h ad o i (C + 80) (S + 700)) {d0 : Drawn} (hd0 : s.drawn.sameBut d0 lw_cs) {hei dra rai : Nat → Int32} {σ : Ms} {cre gai see fou : Nat → Int32} {z : Nat → Nat → Int32} {thr : Int32} {flo lak row : Nat → Int32} {f : Nat → Int64} (hI : inv (28000 * (i : Int)) hei dra rai σ) (ht : m_t σ ≤ 48 * i) {H : Heap} {locs : List Loc} {ls : Array Slot} (e1 : xs (nI (4 * i) + nI 1).toNatClampNeg = x) (e2 : xs (nI (4 * i) + nI 2).toNatClampNeg = y)
    (hP : va_P D vwCl (fW g hn ha adn ada cI hei dra rai σ cre gai see fou z ++ (mM h ad cI thr hei dra rai σ flo lak row ++ oW o cL f)) H) (hD : va_D (lw_A s) (fW g hn ha adn ada cI hei dra rai σ cre gai see fou z ++ (mM h ad cI thr hei dra rai σ flo lak row ++ oW o cL f))) (hS : va_S (lw_A s) s.heap H locs) (hl : lv_has ls 9 [(0, .ref b), (1, .ref g), (2, .ref h), (3, .ref o), (4, .int (nI (4 * i)))]) :
    W p l e room_1 (s.setDrawn d0) m #[Value.ref b] below meth c H locs C S (lw_Z below #[Value.ref b] s) (F0 m 848 ls []) := by
  obtain ⟨hx, hb, hml, hown, hts, hK, hT, hY, hX, hbl, hst⟩ := C9.drew d0
  have hA : ∀ q : Nat, (s.setDrawn d0).heap.size ≤ q → lw_A s q := fun _ h9 => h9
  have hbA : ¬ lw_A s b := Nat.not_le.mpr hbl
  have ht9 : m_t σ < 2 ^ 29 := by omega
  have hi1 := inv_1 hI
  have hw0 := inv_w hI
  have hdm := inv_dm hI
  replace hS : va_S (lw_A s) (s.setDrawn d0).heap H locs := hS
  refine lv_aload_n hx hb dL_law_848 rfl (lv_at hl 1 rfl) ?_
  refine lv_aload_n hx hb dL_law_849 rfl (lv_at hl 0 rfl) ?_
  refine lv_iload hx hb dL_law_850 (lv_at hl 4 rfl) ?_
  refine lv_iconst (v := nI 1) hx hb dL_law_852 (by decide) ?_
  refine lv_iadd hx hb dL_law_853 ?_
  refine va_sld hx hb hX hbl hbA hS (lw_in1 (j := 1) (by omega) hL) dL_law_854 ?_
  refine ct_top e1 ?_
  refine lv_aload_n hx hb dL_law_855 rfl (lv_at hl 0 rfl) ?_
  refine lv_iload hx hb dL_law_856 (lv_at hl 4 rfl) ?_
  refine lv_iconst (v := nI 2) hx hb dL_law_858 (by decide) ?_
  refine lv_iadd hx hb dL_law_859 ?_
  refine va_sld hx hb hX hbl hbA hS (lw_in1 (j := 2) (by omega) hL) dL_law_860 ?_
  refine ct_top e2 ?_
  refine lv_aload_n hx hb dL_law_861 rfl (lv_at hl 3 rfl) ?_
  refine cz_Si (As := [.ref g, .int x, .int y, .ref o]) (rest := []) (wr := mM h ad cI thr hei dra rai σ flo lak row) (W0 := fW g hn ha adn ada cI hei dra rai σ cre gai see fou z ++ (mM h ad cI thr hei dra rai σ flo lak row ++ oW o cL f)) (W1 := z_w1 (fW g hn ha adn ada cI hei dra rai σ cre gai see fou z) (fun u => (fW g hn ha adn ada cI hei dra rai σ cre gai see fou u)) (mM h ad cI thr hei dra rai σ flo lak row) o cL f) (cells1 := C + 2) (slots1 := S + 12) ⟨hx, hb, hml, hown, hts⟩ (c_L_floods l hst D cI cL sa1 sa2 g hn ha adn ada hei dra rai σ cre gai see fou z ht9 x y o f) (vx_cwSW (hh := [(0, 10, 13, 13)]) 4 hts gL_law_L_floods rfl rfl rfl (by decide +kernel) ⟨Nat.le_of_ble_eq_true rfl, Nat.le_of_ble_eq_true rfl⟩) hK hP hD hS hA hT [0, 1, 2, 3, 4, 5, 6, 7, 8, 9, 10, 11, 12, 13, 14, 15, 16, 17, 18, 19, 20, 21, 22, 23, 24, 37] [25, 26, 27, 28, 29, 30, 31, 32, 33, 34, 35, 36] ⟨rfl, rfl, rfl, rfl, rfl⟩ [12, 13, 14, 15, 16, 17, 18, 19, 20, 21, 22, 23, 24, 25, 26, 27, 28, 29, 30, 31, 32, 33, 34, 35, 36, 0, 1, 2, 3, 4, 5, 6, 7, 8, 9, 10, 11, 37] rfl (fun u => by rcases u with _ | ⟨u, f1⟩ <;> rfl) [0, 2] rfl rfl hl.1 rfl (Nat.le_of_ble_eq_true rfl) rfl rfl (lw_hc hC (Nat.le_of_ble_eq_true rfl) (Nat.le_of_ble_eq_true rfl)) dL_law_862 (fun k u H locs hw hP hD hS => ?_)
  rcases u with _ | ⟨u, f1⟩
  · skip
    replace hP : va_P D vwCl (fW g hn ha adn ada cI hei dra rai σ cre gai see fou z ++ (mM h ad cI thr hei dra rai σ flo lak row ++ oW o cL f)) H := hP
    replace hD : va_D (lw_A s) (fW g hn ha adn ada cI hei dra rai σ cre gai see fou z ++ (mM h ad cI thr hei dra rai σ flo lak row ++ oW o cL f)) := hD
    refine lv_istore (lv' := [(5, .int k), (0, .ref b), (1, .ref g), (2, .ref h), (3, .ref o), (4, .int (nI (4 * i)))]) hx hb dL_law_865 hl (by decide) rfl (fun ls hl => ?_)
    refine lv_aload_n hx hb dL_law_867 rfl (lv_at hl 3 rfl) ?_
    refine lv_aload_n hx hb dL_law_868 rfl (lv_at hl 1 rfl) ?_
    refine lv_iload hx hb dL_law_869 (lv_at hl 5 rfl) ?_
    refine lv_iconst (v := nI 1) hx hb dL_law_871 (by decide) ?_
    refine lv_iadd hx hb dL_law_872 ?_
    refine va_sld hx hb hX hbl hbA hS (lw_in1 (j := 1) (by omega) hL) dL_law_873 ?_
    refine ct_top e1 ?_
    refine lv_aload_n hx hb dL_law_874 rfl (lv_at hl 1 rfl) ?_
    refine lv_iload hx hb dL_law_875 (lv_at hl 5 rfl) ?_
    refine lv_iconst (v := nI 2) hx hb dL_law_877 (by decide) ?_
    refine lv_iadd hx hb dL_law_878 ?_
    refine va_sld hx hb hX hbl hbA hS (lw_in1 (j := 2) (by omega) hL) dL_law_879 ?_
    refine ct_top e2 ?_
    refine cy_Vi (As := [.int x, .int y]) (rest := []) (wr := fW g hn ha adn ada cI hei dra rai σ cre gai see fou z ++ oW o cL f) (W0 := fW g hn ha adn ada cI hei dra rai σ cre gai see fou z ++ (mM h ad cI thr hei dra rai σ flo lak row ++ oW o cL f)) (W1 := fun w => fW g hn ha adn ada cI hei dra rai σ cre gai see fou z ++ ((mM h ad cI w.1 hei dra rai σ w.2 lak row) ++ oW o cL f)) (cells1 := C + 9) (slots1 := S + 282) ⟨hx, hb, hml, hown, hts⟩ (c_X2_floods l D cI cJ h ad thr hei dra rai σ flo lak row ht9 hi1 x y) (cwV 2 hts gL_law_X2_floods rfl rfl rfl (by decide +kernel) ⟨Nat.le_of_ble_eq_true rfl, Nat.le_of_ble_eq_true rfl⟩) hK hP hD hS hA hY [25, 26, 27, 28, 29, 30, 31, 32, 33, 34, 35, 36] [0, 1, 2, 3, 4, 5, 6, 7, 8, 9, 10, 11, 12, 13, 14, 15, 16, 17, 18, 19, 20, 21, 22, 23, 24, 37] ⟨rfl, rfl, rfl, rfl, rfl⟩ [0, 1, 2, 3, 4, 5, 6, 7, 8, 9, 10, 11, 12, 13, 14, 15, 16, 17, 18, 19, 20, 21, 22, 23, 24, 26, 27, 28, 29, 30, 31, 32, 33, 34, 35, 36, 37, 25] rfl (fun _ => rfl) [0, 1] rfl (va_recv hK hP (ci := 2) (q0 := 25) rfl rfl) rfl hl.1 rfl (Nat.le_of_ble_eq_true rfl) (Nat.add_assoc _ _ _) (Nat.add_assoc _ _ _) (lw_hc hC (Nat.le_of_ble_eq_true rfl) (Nat.le_of_ble_eq_true rfl)) dL_law_880 (fun r w H locs hm hP hD hS => ?_)
    obtain ⟨w1, w2⟩ := w
    have hu : k = w1 ∧ ¬ k = 0 := by
      rcases hw with ⟨rfl, -, h1⟩ | ⟨rfl, h1, -⟩
      · rcases hm with ⟨g1, g2⟩ | ⟨g1, -⟩
        · exact ⟨g2.symm, by decide⟩
        · exact absurd g1 h1
      · exact absurd h1 (by decide +kernel)
    obtain ⟨rfl, hk0⟩ := hu
    replace hP : va_P D vwCl (fW g hn ha adn ada cI hei dra rai σ cre gai see fou z ++ (mM h ad cI k hei dra rai σ w2 lak row ++ oW o cL f)) H := hP
    replace hD : va_D (lw_A s) (fW g hn ha adn ada cI hei dra rai σ cre gai see fou z ++ (mM h ad cI k hei dra rai σ w2 lak row ++ oW o cL f)) := hD
    refine lv_istore (lv' := [(6, .int r), (5, .int k), (0, .ref b), (1, .ref g), (2, .ref h), (3, .ref o), (4, .int (nI (4 * i)))]) hx hb dL_law_883 hl (by decide) rfl (fun ls hl => ?_)
    refine lv_aload_n hx hb dL_law_885 rfl (lv_at hl 4 rfl) ?_
    refine ct_Vi (As := []) (rest := []) (wr := fW g hn ha adn ada cI hei dra rai σ cre gai see fou z ++ oW o cL f) (W0 := fW g hn ha adn ada cI hei dra rai σ cre gai see fou z ++ (mM h ad cI k hei dra rai σ w2 lak row ++ oW o cL f)) (W1 := fun _ => fW g hn ha adn ada cI hei dra rai σ cre gai see fou z ++ (mM h ad cI k hei dra rai σ w2 lak row ++ oW o cL f)) (cells1 := C + 9) (slots1 := S + 282) ⟨hx, hb, hml, hown, hts⟩ (c_X2_thrown l D cI h ad k hei (m_wat σ) (m_dam σ) (m_wea σ) dra (m_peo σ) rai (q_num (nI (m_t σ)) (m_bro σ) (m_drd σ) (m_lef σ)) w2 lak row) (cwV 0 hts gL_law_X2_thrown rfl rfl rfl (by decide +kernel) ⟨Nat.le_of_ble_eq_true rfl, Nat.le_of_ble_eq_true rfl⟩) hK hP hD hS hA [25, 26, 27, 28, 29, 30, 31, 32, 33, 34, 35, 36] [0, 1, 2, 3, 4, 5, 6, 7, 8, 9, 10, 11, 12, 13, 14, 15, 16, 17, 18, 19, 20, 21, 22, 23, 24, 37] ⟨rfl, rfl, rfl, rfl, rfl⟩ [0, 1, 2, 3, 4, 5, 6, 7, 8, 9, 10, 11, 12, 13, 14, 15, 16, 17, 18, 19, 20, 21, 22, 23, 24, 26, 27, 28, 29, 30, 31, 32, 33, 34, 35, 36, 37, 25] rfl (fun _ => rfl) [0] rfl (va_recv hK hP (ci := 2) (q0 := 25) rfl rfl) rfl hl.1 rfl (Nat.le_of_ble_eq_true rfl) rfl rfl (lw_hc hC (Nat.le_of_ble_eq_true rfl) (Nat.le_of_ble_eq_true rfl)) dL_law_886 (fun r9 _ H locs hw9 hP hD hS => ?_)
    refine ct_top hw9 ?_
    refine lv_iload hx hb dL_law_889 (lv_at hl 1 rfl) ?_
    refine lv_icmp_eq (tgt := 896) hx hb dL_law_891 (by decide) (fun _ => ?_) (fun hc => absurd rfl hc)
    refine lv_iload hx hb dL_law_896 (lv_at hl 1 rfl) ?_
    refine lv_if_ne (tgt := 913) hx hb dL_law_898 (by decide) (fun _ => ?_) (fun hc => absurd hc hk0)
    refine lv_goto (tgt := 1219) hx hb dL_law_913 (by decide) ?_
    refine W.widen (k := C + 80) (n := S + 700) (by omega) (by omega) ?_
    exact kk d0 hei dra rai σ cre gai see fou z k w2 lak row f H locs ls hd0 (inv_up hI (by omega)) (by omega) hP hD hS (lv_sub hl [2, 3, 4, 5, 6] rfl)
  · skip
    obtain ⟨rfl, r0, hp0, hf0⟩ := hw
    replace hP : va_P D vwCl (fW g hn ha adn ada cI hei dra rai σ cre gai see fou u ++ (mM h ad cI thr hei dra rai σ flo lak row ++ oW o cL f1)) H := hP
    replace hD : va_D (lw_A s) (fW g hn ha adn ada cI hei dra rai σ cre gai see fou u ++ (mM h ad cI thr hei dra rai σ flo lak row ++ oW o cL f1)) := hD
    refine lv_istore (lv' := [(5, .int 0), (0, .ref b), (1, .ref g), (2, .ref h), (3, .ref o), (4, .int (nI (4 * i)))]) hx hb dL_law_865 hl (by decide) rfl (fun ls hl => ?_)
    refine lv_aload_n hx hb dL_law_867 rfl (lv_at hl 3 rfl) ?_
    refine lv_aload_n hx hb dL_law_868 rfl (lv_at hl 1 rfl) ?_
    refine lv_iload hx hb dL_law_869 (lv_at hl 5 rfl) ?_
    refine lv_iconst (v := nI 1) hx hb dL_law_871 (by decide) ?_
    refine lv_iadd hx hb dL_law_872 ?_
    refine va_sld hx hb hX hbl hbA hS (lw_in1 (j := 1) (by omega) hL) dL_law_873 ?_
    refine ct_top e1 ?_
    refine lv_aload_n hx hb dL_law_874 rfl (lv_at hl 1 rfl) ?_
    refine lv_iload hx hb dL_law_875 (lv_at hl 5 rfl) ?_
    refine lv_iconst (v := nI 2) hx hb dL_law_877 (by decide) ?_
    refine lv_iadd hx hb dL_law_878 ?_
    refine va_sld hx hb hX hbl hbA hS (lw_in1 (j := 2) (by omega) hL) dL_law_879 ?_
    refine ct_top e2 ?_
    refine cy_Vi (As := [.int x, .int y]) (rest := []) (wr := fW g hn ha adn ada cI hei dra rai σ cre gai see fou u ++ oW o cL f1) (W0 := fW g hn ha adn ada cI hei dra rai σ cre gai see fou u ++ (mM h ad cI thr hei dra rai σ flo lak row ++ oW o cL f1)) (W1 := fun w => fW g hn ha adn ada cI hei dra rai σ cre gai see fou u ++ ((mM h ad cI w.1 hei dra rai σ w.2 lak row) ++ oW o cL f1)) (cells1 := C + 9) (slots1 := S + 282) ⟨hx, hb, hml, hown, hts⟩ (c_X2_floods l D cI cJ h ad thr hei dra rai σ flo lak row ht9 hi1 x y) (cwV 2 hts gL_law_X2_floods rfl rfl rfl (by decide +kernel) ⟨Nat.le_of_ble_eq_true rfl, Nat.le_of_ble_eq_true rfl⟩) hK hP hD hS hA hY [25, 26, 27, 28, 29, 30, 31, 32, 33, 34, 35, 36] [0, 1, 2, 3, 4, 5, 6, 7, 8, 9, 10, 11, 12, 13, 14, 15, 16, 17, 18, 19, 20, 21, 22, 23, 24, 37] ⟨rfl, rfl, rfl, rfl, rfl⟩ [0, 1, 2, 3, 4, 5, 6, 7, 8, 9, 10, 11, 12, 13, 14, 15, 16, 17, 18, 19, 20, 21, 22, 23, 24, 26, 27, 28, 29, 30, 31, 32, 33, 34, 35, 36, 37, 25] rfl (fun _ => rfl) [0, 1] rfl (va_recv hK hP (ci := 2) (q0 := 25) rfl rfl) rfl hl.1 rfl (Nat.le_of_ble_eq_true rfl) (Nat.add_assoc _ _ _) (Nat.add_assoc _ _ _) (lw_hc hC (Nat.le_of_ble_eq_true rfl) (Nat.le_of_ble_eq_true rfl)) dL_law_880 (fun r w H locs hm hP hD hS => ?_)
    obtain ⟨w1, w2⟩ := w
    have hu : 0 = w1 ∧ r0 = r := by
      rcases hm with ⟨g1, -⟩ | ⟨-, g2, g3⟩
      · exact absurd hp0.1 g1
      · exact ⟨g2.symm, hp0.2.trans g3.symm⟩
    obtain ⟨rfl, rfl⟩ := hu
    replace hP : va_P D vwCl (fW g hn ha adn ada cI hei dra rai σ cre gai see fou u ++ (mM h ad cI 0 hei dra rai σ w2 lak row ++ oW o cL f1)) H := hP
    replace hD : va_D (lw_A s) (fW g hn ha adn ada cI hei dra rai σ cre gai see fou u ++ (mM h ad cI 0 hei dra rai σ w2 lak row ++ oW o cL f1)) := hD
    refine lv_istore (lv' := [(6, .int r0), (5, .int 0), (0, .ref b), (1, .ref g), (2, .ref h), (3, .ref o), (4, .int (nI (4 * i)))]) hx hb dL_law_883 hl (by decide) rfl (fun ls hl => ?_)
    refine lv_aload_n hx hb dL_law_885 rfl (lv_at hl 4 rfl) ?_
    refine ct_Vi (As := []) (rest := []) (wr := fW g hn ha adn ada cI hei dra rai σ cre gai see fou u ++ oW o cL f1) (W0 := fW g hn ha adn ada cI hei dra rai σ cre gai see fou u ++ (mM h ad cI 0 hei dra rai σ w2 lak row ++ oW o cL f1)) (W1 := fun _ => fW g hn ha adn ada cI hei dra rai σ cre gai see fou u ++ (mM h ad cI 0 hei dra rai σ w2 lak row ++ oW o cL f1)) (cells1 := C + 9) (slots1 := S + 282) ⟨hx, hb, hml, hown, hts⟩ (c_X2_thrown l D cI h ad 0 hei (m_wat σ) (m_dam σ) (m_wea σ) dra (m_peo σ) rai (q_num (nI (m_t σ)) (m_bro σ) (m_drd σ) (m_lef σ)) w2 lak row) (cwV 0 hts gL_law_X2_thrown rfl rfl rfl (by decide +kernel) ⟨Nat.le_of_ble_eq_true rfl, Nat.le_of_ble_eq_true rfl⟩) hK hP hD hS hA [25, 26, 27, 28, 29, 30, 31, 32, 33, 34, 35, 36] [0, 1, 2, 3, 4, 5, 6, 7, 8, 9, 10, 11, 12, 13, 14, 15, 16, 17, 18, 19, 20, 21, 22, 23, 24, 37] ⟨rfl, rfl, rfl, rfl, rfl⟩ [0, 1, 2, 3, 4, 5, 6, 7, 8, 9, 10, 11, 12, 13, 14, 15, 16, 17, 18, 19, 20, 21, 22, 23, 24, 26, 27, 28, 29, 30, 31, 32, 33, 34, 35, 36, 37, 25] rfl (fun _ => rfl) [0] rfl (va_recv hK hP (ci := 2) (q0 := 25) rfl rfl) rfl hl.1 rfl (Nat.le_of_ble_eq_true rfl) rfl rfl (lw_hc hC (Nat.le_of_ble_eq_true rfl) (Nat.le_of_ble_eq_true rfl)) dL_law_886 (fun r9 _ H locs hw9 hP hD hS => ?_)
    refine ct_top hw9 ?_
    refine lv_iload hx hb dL_law_889 (lv_at hl 1 rfl) ?_
    refine lv_icmp_eq (tgt := 896) hx hb dL_law_891 (by decide) (fun _ => ?_) (fun hc => absurd rfl hc)
    refine lv_iload hx hb dL_law_896 (lv_at hl 1 rfl) ?_
    refine lv_if_ne (tgt := 913) hx hb dL_law_898 (by decide) (fun hc => absurd rfl hc) (fun _ => ?_)
    refine lv_aload_n hx hb dL_law_901 rfl (lv_at hl 5 rfl) ?_
    refine lv_iconst (v := 0) hx hb dL_law_902 (by decide) ?_
    refine va_lald (cl := vwCl) (f := f1) hx hb hK hP 37 2 rfl rfl z_in0 dL_law_903 ?_
    refine lv_iload hx hb dL_law_904 (lv_at hl 0 rfl) ?_
    refine lv_i2l (v := Int32.toInt64 r0) hx hb dL_law_906 rfl ?_
    refine lv_lcmp0 hx hb hf0 dL_law_907 ?_
    refine lv_if_eq (tgt := 913) hx hb dL_law_908 (by decide) (fun _ => ?_) (fun hc => absurd rfl hc)
    refine lv_goto (tgt := 1219) hx hb dL_law_913 (by decide) ?_
    refine W.widen (k := C + 80) (n := S + 700) (by omega) (by omega) ?_
    exact kk d0 hei dra rai σ cre gai see fou u 0 w2 lak row f1 H locs ls hd0 (inv_up hI (by omega)) (by omega) hP hD hS (lv_sub hl [2, 3, 4, 5, 6] rfl)
