set_option maxHeartbeats 4000000 in
set_option maxRecDepth 100000 in
theorem law_breaks {p : Program} {l : Launch} {e : Env} {s : State} {m : MethodId} {below : List Frame} {meth : Method} {c : Code} {b L : Nat} {xs : Nat → Int32} {D : va_G} {cI cJ cL : ClassId} {sa1 sa2 : Nat} {g hn ha : Nat} {adn ada : Nat → Nat} {h : Nat} {ad : Nat → Nat} {o i C S : Nat} {x y : Int32} (C9 : lw_Cx p l m c b L xs D cI cJ cL sa1 sa2 s) (hL : L ≤ 2048) (hi : 4 * i + 4 ≤ L) (hC : C + 80 ≤ 840170 ∧ S + 700 ≤ 6575593) (kk : lw_Nx p l e s m below meth c b D cI cL g hn ha adn ada h ad o i (C + 80) (S + 700)) {d0 : Drawn} (hd0 : s.drawn.sameBut d0 lw_cs) {hei dra rai : Nat → Int32} {σ : Ms} {cre gai see fou : Nat → Int32} {z : Nat → Nat → Int32} {thr : Int32} {flo lak row : Nat → Int32} {f : Nat → Int64} (hI : inv (28000 * (i : Int)) hei dra rai σ) (ht : m_t σ ≤ 48 * i) {H : Heap} {locs : List Loc} {ls : Array Slot} (e1 : xs (nI (4 * i) + nI 1).toNatClampNeg = x) (e2 : xs (nI (4 * i) + nI 2).toNatClampNeg = y)
    (hP : va_P D vwCl (fW g hn ha adn ada cI hei dra rai σ cre gai see fou z ++ (mM h ad cI thr hei dra rai σ flo lak row ++ oW o cL f)) H) (hD : va_D (lw_A s) (fW g hn ha adn ada cI hei dra rai σ cre gai see fou z ++ (mM h ad cI thr hei dra rai σ flo lak row ++ oW o cL f))) (hS : va_S (lw_A s) s.heap H locs) (hl : lv_has ls 9 [(0, .ref b), (1, .ref g), (2, .ref h), (3, .ref o), (4, .int (nI (4 * i)))]) :
    W p l e room_1 (s.setDrawn d0) m #[Value.ref b] below meth c H locs C S (lw_Z below #[Value.ref b] s) (F0 m 916 ls []) := by
  obtain ⟨hx, hb, hml, hown, hts, hK, hT, hY, hX, hbl, hst⟩ := C9.drew d0
  have hA : ∀ q : Nat, (s.setDrawn d0).heap.size ≤ q → lw_A s q := fun _ h9 => h9
  have hbA : ¬ lw_A s b := Nat.not_le.mpr hbl
  have ht9 : m_t σ < 2 ^ 29 := by omega
  have hi1 := inv_1 hI
  have hw0 := inv_w hI
  have hdm := inv_dm hI
  replace hS : va_S (lw_A s) (s.setDrawn d0).heap H locs := hS
  refine lv_aload_n hx hb dL_law_916 rfl (lv_at hl 1 rfl) ?_
  refine lv_aload_n hx hb dL_law_917 rfl (lv_at hl 0 rfl) ?_
  refine lv_iload hx hb dL_law_918 (lv_at hl 4 rfl) ?_
  refine lv_iconst (v := nI 1) hx hb dL_law_920 (by decide) ?_
  refine lv_iadd hx hb dL_law_921 ?_
  refine va_sld hx hb hX hbl hbA hS (lw_in1 (j := 1) (by omega) hL) dL_law_922 ?_
  refine ct_top e1 ?_
  refine lv_aload_n hx hb dL_law_923 rfl (lv_at hl 0 rfl) ?_
  refine lv_iload hx hb dL_law_924 (lv_at hl 4 rfl) ?_
  refine lv_iconst (v := nI 2) hx hb dL_law_926 (by decide) ?_
  refine lv_iadd hx hb dL_law_927 ?_
  refine va_sld hx hb hX hbl hbA hS (lw_in1 (j := 2) (by omega) hL) dL_law_928 ?_
  refine ct_top e2 ?_
  refine lv_aload_n hx hb dL_law_929 rfl (lv_at hl 3 rfl) ?_
  refine cz_Si (As := [.ref g, .int x, .int y, .ref o]) (rest := []) (wr := mM h ad cI thr hei dra rai σ flo lak row) (W0 := fW g hn ha adn ada cI hei dra rai σ cre gai see fou z ++ (mM h ad cI thr hei dra rai σ flo lak row ++ oW o cL f)) (W1 := z_w1 (fW g hn ha adn ada cI hei dra rai σ cre gai see fou z) (fun u => (fW g hn ha adn ada cI hei dra rai σ cre gai see fou u)) (mM h ad cI thr hei dra rai σ flo lak row) o cL f) (cells1 := C + 2) (slots1 := S + 12) ⟨hx, hb, hml, hown, hts⟩ (c_L_breaks l hst D cI cL sa1 sa2 g hn ha adn ada hei dra rai σ cre gai see fou z ht9 x y o f) (vx_cwSW (hh := [(0, 10, 13, 13)]) 4 hts gL_law_L_breaks rfl rfl rfl (by decide +kernel) ⟨Nat.le_of_ble_eq_true rfl, Nat.le_of_ble_eq_true rfl⟩) hK hP hD hS hA hT [0, 1, 2, 3, 4, 5, 6, 7, 8, 9, 10, 11, 12, 13, 14, 15, 16, 17, 18, 19, 20, 21, 22, 23, 24, 37] [25, 26, 27, 28, 29, 30, 31, 32, 33, 34, 35, 36] ⟨rfl, rfl, rfl, rfl, rfl⟩ [12, 13, 14, 15, 16, 17, 18, 19, 20, 21, 22, 23, 24, 25, 26, 27, 28, 29, 30, 31, 32, 33, 34, 35, 36, 0, 1, 2, 3, 4, 5, 6, 7, 8, 9, 10, 11, 37] rfl (fun u => by rcases u with _ | ⟨u, f1⟩ <;> rfl) [0, 2] rfl rfl hl.1 rfl (Nat.le_of_ble_eq_true rfl) rfl rfl (lw_hc hC (Nat.le_of_ble_eq_true rfl) (Nat.le_of_ble_eq_true rfl)) dL_law_930 (fun k u H locs hw hP hD hS => ?_)
  rcases u with _ | ⟨u, f1⟩
  · skip
    replace hP : va_P D vwCl (fW g hn ha adn ada cI hei dra rai σ cre gai see fou z ++ (mM h ad cI thr hei dra rai σ flo lak row ++ oW o cL f)) H := hP
    replace hD : va_D (lw_A s) (fW g hn ha adn ada cI hei dra rai σ cre gai see fou z ++ (mM h ad cI thr hei dra rai σ flo lak row ++ oW o cL f)) := hD
    refine lv_istore (lv' := [(5, .int k), (0, .ref b), (1, .ref g), (2, .ref h), (3, .ref o), (4, .int (nI (4 * i)))]) hx hb dL_law_933 hl (by decide) rfl (fun ls hl => ?_)
    refine lv_aload_n hx hb dL_law_935 rfl (lv_at hl 3 rfl) ?_
    refine lv_aload_n hx hb dL_law_936 rfl (lv_at hl 1 rfl) ?_
    refine lv_iload hx hb dL_law_937 (lv_at hl 5 rfl) ?_
    refine lv_iconst (v := nI 1) hx hb dL_law_939 (by decide) ?_
    refine lv_iadd hx hb dL_law_940 ?_
    refine va_sld hx hb hX hbl hbA hS (lw_in1 (j := 1) (by omega) hL) dL_law_941 ?_
    refine ct_top e1 ?_
    refine lv_aload_n hx hb dL_law_942 rfl (lv_at hl 1 rfl) ?_
    refine lv_iload hx hb dL_law_943 (lv_at hl 5 rfl) ?_
    refine lv_iconst (v := nI 2) hx hb dL_law_945 (by decide) ?_
    refine lv_iadd hx hb dL_law_946 ?_
    refine va_sld hx hb hX hbl hbA hS (lw_in1 (j := 2) (by omega) hL) dL_law_947 ?_
    refine ct_top e2 ?_
    refine cy_Vi (As := [.int x, .int y]) (rest := []) (wr := fW g hn ha adn ada cI hei dra rai σ cre gai see fou z ++ oW o cL f) (W0 := fW g hn ha adn ada cI hei dra rai σ cre gai see fou z ++ (mM h ad cI thr hei dra rai σ flo lak row ++ oW o cL f)) (W1 := fun w => fW g hn ha adn ada cI hei dra rai σ cre gai see fou z ++ ((mM h ad cI w.1 hei dra rai σ w.2 lak row) ++ oW o cL f)) (cells1 := C + 9) (slots1 := S + 282) ⟨hx, hb, hml, hown, hts⟩ (c_X2_breaks l D cI cJ h ad thr hei dra rai σ flo lak row ht9 hi1 x y) (cwV 2 hts gL_law_X2_breaks rfl rfl rfl (by decide +kernel) ⟨Nat.le_of_ble_eq_true rfl, Nat.le_of_ble_eq_true rfl⟩) hK hP hD hS hA hY [25, 26, 27, 28, 29, 30, 31, 32, 33, 34, 35, 36] [0, 1, 2, 3, 4, 5, 6, 7, 8, 9, 10, 11, 12, 13, 14, 15, 16, 17, 18, 19, 20, 21, 22, 23, 24, 37] ⟨rfl, rfl, rfl, rfl, rfl⟩ [0, 1, 2, 3, 4, 5, 6, 7, 8, 9, 10, 11, 12, 13, 14, 15, 16, 17, 18, 19, 20, 21, 22, 23, 24, 26, 27, 28, 29, 30, 31, 32, 33, 34, 35, 36, 37, 25] rfl (fun _ => rfl) [0, 1] rfl (va_recv hK hP (ci := 2) (q0 := 25) rfl rfl) rfl hl.1 rfl (Nat.le_of_ble_eq_true rfl) (Nat.add_assoc _ _ _) (Nat.add_assoc _ _ _) (lw_hc hC (Nat.le_of_ble_eq_true rfl) (Nat.le_of_ble_eq_true rfl)) dL_law_948 (fun r w H locs hm hP hD hS => ?_)
    obtain ⟨w1, w2⟩ := w
    have hu : k = w1 ∧ ¬ k = 0 := by
      rcases hw with ⟨rfl, -, h1⟩ | ⟨rfl, h1, -⟩
      · rcases hm with ⟨g1, g2⟩ | ⟨g1, -⟩
        · exact ⟨g2.symm, by decide⟩
        · exact absurd g1 h1
      · exact absurd h1 (by decide +kernel)
    obtain ⟨rfl, hk0⟩ := hu
    replace hP : va_P D vwCl (fW g hn ha adn ada cI hei dra rai σ cre gai see fou z ++ (mM h ad cI k hei dra rai σ w2 lak row ++ oW o cL f)) H := hP
    replace hD : va_D (lw_A s) (fW g hn ha adn ada cI hei dra rai σ cre gai see fou z ++ (mM h ad cI k hei dra rai σ w2 lak row ++ oW o cL f)) := hD
    refine lv_istore (lv' := [(6, .int r), (5, .int k), (0, .ref b), (1, .ref g), (2, .ref h), (3, .ref o), (4, .int (nI (4 * i)))]) hx hb dL_law_951 hl (by decide) rfl (fun ls hl => ?_)
    refine lv_aload_n hx hb dL_law_953 rfl (lv_at hl 4 rfl) ?_
    refine ct_Vi (As := []) (rest := []) (wr := fW g hn ha adn ada cI hei dra rai σ cre gai see fou z ++ oW o cL f) (W0 := fW g hn ha adn ada cI hei dra rai σ cre gai see fou z ++ (mM h ad cI k hei dra rai σ w2 lak row ++ oW o cL f)) (W1 := fun _ => fW g hn ha adn ada cI hei dra rai σ cre gai see fou z ++ (mM h ad cI k hei dra rai σ w2 lak row ++ oW o cL f)) (cells1 := C + 9) (slots1 := S + 282) ⟨hx, hb, hml, hown, hts⟩ (c_X2_thrown l D cI h ad k hei (m_wat σ) (m_dam σ) (m_wea σ) dra (m_peo σ) rai (q_num (nI (m_t σ)) (m_bro σ) (m_drd σ) (m_lef σ)) w2 lak row) (cwV 0 hts gL_law_X2_thrown rfl rfl rfl (by decide +kernel) ⟨Nat.le_of_ble_eq_true rfl, Nat.le_of_ble_eq_true rfl⟩) hK hP hD hS hA [25, 26, 27, 28, 29, 30, 31, 32, 33, 34, 35, 36] [0, 1, 2, 3, 4, 5, 6, 7, 8, 9, 10, 11, 12, 13, 14, 15, 16, 17, 18, 19, 20, 21, 22, 23, 24, 37] ⟨rfl, rfl, rfl, rfl, rfl⟩ [0, 1, 2, 3, 4, 5, 6, 7, 8, 9, 10, 11, 12, 13, 14, 15, 16, 17, 18, 19, 20, 21, 22, 23, 24, 26, 27, 28, 29, 30, 31, 32, 33, 34, 35, 36, 37, 25] rfl (fun _ => rfl) [0] rfl (va_recv hK hP (ci := 2) (q0 := 25) rfl rfl) rfl hl.1 rfl (Nat.le_of_ble_eq_true rfl) rfl rfl (lw_hc hC (Nat.le_of_ble_eq_true rfl) (Nat.le_of_ble_eq_true rfl)) dL_law_954 (fun r9 _ H locs hw9 hP hD hS => ?_)
    refine ct_top hw9 ?_
    refine lv_iload hx hb dL_law_957 (lv_at hl 1 rfl) ?_
    refine lv_icmp_eq (tgt := 964) hx hb dL_law_959 (by decide) (fun _ => ?_) (fun hc => absurd rfl hc)
    refine lv_iload hx hb dL_law_964 (lv_at hl 1 rfl) ?_
    refine lv_if_ne (tgt := 981) hx hb dL_law_966 (by decide) (fun _ => ?_) (fun hc => absurd hc hk0)
    refine lv_goto (tgt := 1219) hx hb dL_law_981 (by decide) ?_
    refine W.widen (k := C + 80) (n := S + 700) (by omega) (by omega) ?_
    exact kk d0 hei dra rai σ cre gai see fou z k w2 lak row f H locs ls hd0 (inv_up hI (by omega)) (by omega) hP hD hS (lv_sub hl [2, 3, 4, 5, 6] rfl)
  · skip
    obtain ⟨rfl, r0, hp0, hf0⟩ := hw
    replace hP : va_P D vwCl (fW g hn ha adn ada cI hei dra rai σ cre gai see fou u ++ (mM h ad cI thr hei dra rai σ flo lak row ++ oW o cL f1)) H := hP
    replace hD : va_D (lw_A s) (fW g hn ha adn ada cI hei dra rai σ cre gai see fou u ++ (mM h ad cI thr hei dra rai σ flo lak row ++ oW o cL f1)) := hD
    refine lv_istore (lv' := [(5, .int 0), (0, .ref b), (1, .ref g), (2, .ref h), (3, .ref o), (4, .int (nI (4 * i)))]) hx hb dL_law_933 hl (by decide) rfl (fun ls hl => ?_)
    refine lv_aload_n hx hb dL_law_935 rfl (lv_at hl 3 rfl) ?_
    refine lv_aload_n hx hb dL_law_936 rfl (lv_at hl 1 rfl) ?_
    refine lv_iload hx hb dL_law_937 (lv_at hl 5 rfl) ?_
    refine lv_iconst (v := nI 1) hx hb dL_law_939 (by decide) ?_
    refine lv_iadd hx hb dL_law_940 ?_
    refine va_sld hx hb hX hbl hbA hS (lw_in1 (j := 1) (by omega) hL) dL_law_941 ?_
    refine ct_top e1 ?_
    refine lv_aload_n hx hb dL_law_942 rfl (lv_at hl 1 rfl) ?_
    refine lv_iload hx hb dL_law_943 (lv_at hl 5 rfl) ?_
    refine lv_iconst (v := nI 2) hx hb dL_law_945 (by decide) ?_
    refine lv_iadd hx hb dL_law_946 ?_
    refine va_sld hx hb hX hbl hbA hS (lw_in1 (j := 2) (by omega) hL) dL_law_947 ?_
    refine ct_top e2 ?_
    refine cy_Vi (As := [.int x, .int y]) (rest := []) (wr := fW g hn ha adn ada cI hei dra rai σ cre gai see fou u ++ oW o cL f1) (W0 := fW g hn ha adn ada cI hei dra rai σ cre gai see fou u ++ (mM h ad cI thr hei dra rai σ flo lak row ++ oW o cL f1)) (W1 := fun w => fW g hn ha adn ada cI hei dra rai σ cre gai see fou u ++ ((mM h ad cI w.1 hei dra rai σ w.2 lak row) ++ oW o cL f1)) (cells1 := C + 9) (slots1 := S + 282) ⟨hx, hb, hml, hown, hts⟩ (c_X2_breaks l D cI cJ h ad thr hei dra rai σ flo lak row ht9 hi1 x y) (cwV 2 hts gL_law_X2_breaks rfl rfl rfl (by decide +kernel) ⟨Nat.le_of_ble_eq_true rfl, Nat.le_of_ble_eq_true rfl⟩) hK hP hD hS hA hY [25, 26, 27, 28, 29, 30, 31, 32, 33, 34, 35, 36] [0, 1, 2, 3, 4, 5, 6, 7, 8, 9, 10, 11, 12, 13, 14, 15, 16, 17, 18, 19, 20, 21, 22, 23, 24, 37] ⟨rfl, rfl, rfl, rfl, rfl⟩ [0, 1, 2, 3, 4, 5, 6, 7, 8, 9, 10, 11, 12, 13, 14, 15, 16, 17, 18, 19, 20, 21, 22, 23, 24, 26, 27, 28, 29, 30, 31, 32, 33, 34, 35, 36, 37, 25] rfl (fun _ => rfl) [0, 1] rfl (va_recv hK hP (ci := 2) (q0 := 25) rfl rfl) rfl hl.1 rfl (Nat.le_of_ble_eq_true rfl) (Nat.add_assoc _ _ _) (Nat.add_assoc _ _ _) (lw_hc hC (Nat.le_of_ble_eq_true rfl) (Nat.le_of_ble_eq_true rfl)) dL_law_948 (fun r w H locs hm hP hD hS => ?_)
    obtain ⟨w1, w2⟩ := w
    have hu : 0 = w1 ∧ r0 = r := by
      rcases hm with ⟨g1, -⟩ | ⟨-, g2, g3⟩
      · exact absurd hp0.1 g1
      · exact ⟨g2.symm, hp0.2.trans g3.symm⟩
    obtain ⟨rfl, rfl⟩ := hu
    replace hP : va_P D vwCl (fW g hn ha adn ada cI hei dra rai σ cre gai see fou u ++ (mM h ad cI 0 hei dra rai σ w2 lak row ++ oW o cL f1)) H := hP
    replace hD : va_D (lw_A s) (fW g hn ha adn ada cI hei dra rai σ cre gai see fou u ++ (mM h ad cI 0 hei dra rai σ w2 lak row ++ oW o cL f1)) := hD
    refine lv_istore (lv' := [(6, .int r0), (5, .int 0), (0, .ref b), (1, .ref g), (2, .ref h), (3, .ref o), (4, .int (nI (4 * i)))]) hx hb dL_law_951 hl (by decide) rfl (fun ls hl => ?_)
    refine lv_aload_n hx hb dL_law_953 rfl (lv_at hl 4 rfl) ?_
    refine ct_Vi (As := []) (rest := []) (wr := fW g hn ha adn ada cI hei dra rai σ cre gai see fou u ++ oW o cL f1) (W0 := fW g hn ha adn ada cI hei dra rai σ cre gai see fou u ++ (mM h ad cI 0 hei dra rai σ w2 lak row ++ oW o cL f1)) (W1 := fun _ => fW g hn ha adn ada cI hei dra rai σ cre gai see fou u ++ (mM h ad cI 0 hei dra rai σ w2 lak row ++ oW o cL f1)) (cells1 := C + 9) (slots1 := S + 282) ⟨hx, hb, hml, hown, hts⟩ (c_X2_thrown l D cI h ad 0 hei (m_wat σ) (m_dam σ) (m_wea σ) dra (m_peo σ) rai (q_num (nI (m_t σ)) (m_bro σ) (m_drd σ) (m_lef σ)) w2 lak row) (cwV 0 hts gL_law_X2_thrown rfl rfl rfl (by decide +kernel) ⟨Nat.le_of_ble_eq_true rfl, Nat.le_of_ble_eq_true rfl⟩) hK hP hD hS hA [25, 26, 27, 28, 29, 30, 31, 32, 33, 34, 35, 36] [0, 1, 2, 3, 4, 5, 6, 7, 8, 9, 10, 11, 12, 13, 14, 15, 16, 17, 18, 19, 20, 21, 22, 23, 24, 37] ⟨rfl, rfl, rfl, rfl, rfl⟩ [0, 1, 2, 3, 4, 5, 6, 7, 8, 9, 10, 11, 12, 13, 14, 15, 16, 17, 18, 19, 20, 21, 22, 23, 24, 26, 27, 28, 29, 30, 31, 32, 33, 34, 35, 36, 37, 25] rfl (fun _ => rfl) [0] rfl (va_recv hK hP (ci := 2) (q0 := 25) rfl rfl) rfl hl.1 rfl (Nat.le_of_ble_eq_true rfl) rfl rfl (lw_hc hC (Nat.le_of_ble_eq_true rfl) (Nat.le_of_ble_eq_true rfl)) dL_law_954 (fun r9 _ H locs hw9 hP hD hS => ?_)
    refine ct_top hw9 ?_
    refine lv_iload hx hb dL_law_957 (lv_at hl 1 rfl) ?_
    refine lv_icmp_eq (tgt := 964) hx hb dL_law_959 (by decide) (fun _ => ?_) (fun hc => absurd rfl hc)
    refine lv_iload hx hb dL_law_964 (lv_at hl 1 rfl) ?_
    refine lv_if_ne (tgt := 981) hx hb dL_law_966 (by decide) (fun hc => absurd rfl hc) (fun _ => ?_)
    refine lv_aload_n hx hb dL_law_969 rfl (lv_at hl 5 rfl) ?_
    refine lv_iconst (v := 0) hx hb dL_law_970 (by decide) ?_
    refine va_lald (cl := vwCl) (f := f1) hx hb hK hP 37 2 rfl rfl z_in0 dL_law_971 ?_
    refine lv_iload hx hb dL_law_972 (lv_at hl 0 rfl) ?_
    refine lv_i2l (v := Int32.toInt64 r0) hx hb dL_law_974 rfl ?_
    refine lv_lcmp0 hx hb hf0 dL_law_975 ?_
    refine lv_if_eq (tgt := 981) hx hb dL_law_976 (by decide) (fun _ => ?_) (fun hc => absurd rfl hc)
    refine lv_goto (tgt := 1219) hx hb dL_law_981 (by decide) ?_
    refine W.widen (k := C + 80) (n := S + 700) (by omega) (by omega) ?_
    exact kk d0 hei dra rai σ cre gai see fou u 0 w2 lak row f1 H locs ls hd0 (inv_up hI (by omega)) (by omega) hP hD hS (lv_sub hl [2, 3, 4, 5, 6] rfl)
set_option maxHeartbeats 4000000 in
set_option maxRecDepth 100000 in
theorem law_foresee {p : Program} {l : Launch} {e : Env} {s : State} {m : MethodId} {below : List Frame} {meth : Method} {c : Code} {b L : Nat} {xs : Nat → Int32} {D : va_G} {cI cJ cL : ClassId} {sa1 sa2 : Nat} {g hn ha : Nat} {adn ada : Nat → Nat} {h : Nat} {ad : Nat → Nat} {o i C S : Nat} {v q : Int32} (C9 : lw_Cx p l m c b L xs D cI cJ cL sa1 sa2 s) (hL : L ≤ 2048) (hi : 4 * i + 4 ≤ L) (hC : C + 80 ≤ 840170 ∧ S + 700 ≤ 6575593) (kk : lw_Nx p l e s m below meth c b D cI cL g hn ha adn ada h ad o i (C + 80) (S + 700)) {d0 : Drawn} (hd0 : s.drawn.sameBut d0 lw_cs) {hei dra rai : Nat → Int32} {σ : Ms} {cre gai see fou : Nat → Int32} {z : Nat → Nat → Int32} {thr : Int32} {flo lak row : Nat → Int32} {f : Nat → Int64} (hI : inv (28000 * (i : Int)) hei dra rai σ) (ht : m_t σ ≤ 48 * i) {H : Heap} {locs : List Loc} {ls : Array Slot} (e1 : xs (nI (4 * i) + nI 1).toNatClampNeg = v) (e2 : xs (nI (4 * i) + nI 2).toNatClampNeg = q)
    (hP : va_P D vwCl (fW g hn ha adn ada cI hei dra rai σ cre gai see fou z ++ (mM h ad cI thr hei dra rai σ flo lak row ++ oW o cL f)) H) (hD : va_D (lw_A s) (fW g hn ha adn ada cI hei dra rai σ cre gai see fou z ++ (mM h ad cI thr hei dra rai σ flo lak row ++ oW o cL f))) (hS : va_S (lw_A s) s.heap H locs) (hl : lv_has ls 9 [(0, .ref b), (1, .ref g), (2, .ref h), (3, .ref o), (4, .int (nI (4 * i)))]) :
    W p l e room_1 (s.setDrawn d0) m #[Value.ref b] below meth c H locs C S (lw_Z below #[Value.ref b] s) (F0 m 984 ls []) := by
  obtain ⟨hx, hb, hml, hown, hts, hK, hT, hY, hX, hbl, hst⟩ := C9.drew d0
  have hA : ∀ q : Nat, (s.setDrawn d0).heap.size ≤ q → lw_A s q := fun _ h9 => h9
  have hbA : ¬ lw_A s b := Nat.not_le.mpr hbl
  have ht9 : m_t σ < 2 ^ 29 := by omega
  have hi1 := inv_1 hI
  have hw0 := inv_w hI
  have hdm := inv_dm hI
  replace hS : va_S (lw_A s) (s.setDrawn d0).heap H locs := hS
  refine lv_aload_n hx hb dL_law_984 rfl (lv_at hl 1 rfl) ?_
  refine lv_aload_n hx hb dL_law_985 rfl (lv_at hl 0 rfl) ?_
  refine lv_iload hx hb dL_law_986 (lv_at hl 4 rfl) ?_
  refine lv_iconst (v := nI 1) hx hb dL_law_988 (by decide) ?_
  refine lv_iadd hx hb dL_law_989 ?_
  refine va_sld hx hb hX hbl hbA hS (lw_in1 (j := 1) (by omega) hL) dL_law_990 ?_
  refine ct_top e1 ?_
  refine lv_aload_n hx hb dL_law_991 rfl (lv_at hl 0 rfl) ?_
  refine lv_iload hx hb dL_law_992 (lv_at hl 4 rfl) ?_
  refine lv_iconst (v := nI 2) hx hb dL_law_994 (by decide) ?_
  refine lv_iadd hx hb dL_law_995 ?_
  refine va_sld hx hb hX hbl hbA hS (lw_in1 (j := 2) (by omega) hL) dL_law_996 ?_
  refine ct_top e2 ?_
  refine lv_aload_n hx hb dL_law_997 rfl (lv_at hl 3 rfl) ?_
  refine cz_Si (As := [.ref g, .int v, .int q, .ref o]) (rest := []) (wr := mM h ad cI thr hei dra rai σ flo lak row) (W0 := fW g hn ha adn ada cI hei dra rai σ cre gai see fou z ++ (mM h ad cI thr hei dra rai σ flo lak row ++ oW o cL f)) (W1 := z_w1 (fW g hn ha adn ada cI hei dra rai σ cre gai see fou z) (fun u => (fW g hn ha adn ada cI hei dra rai σ cre gai see fou u)) (mM h ad cI thr hei dra rai σ flo lak row) o cL f) (cells1 := C + 2) (slots1 := S + 12) ⟨hx, hb, hml, hown, hts⟩ (c_L_foresee l hst D cI cL sa1 sa2 g hn ha adn ada hei dra rai σ cre gai see fou z ht9 v q o f) (vx_cwSW (hh := [(0, 10, 13, 15), (0, 10, 17, 13)]) 4 hts gL_law_L_foresee rfl rfl rfl (by decide +kernel) ⟨Nat.le_of_ble_eq_true rfl, Nat.le_of_ble_eq_true rfl⟩) hK hP hD hS hA hT [0, 1, 2, 3, 4, 5, 6, 7, 8, 9, 10, 11, 12, 13, 14, 15, 16, 17, 18, 19, 20, 21, 22, 23, 24, 37] [25, 26, 27, 28, 29, 30, 31, 32, 33, 34, 35, 36] ⟨rfl, rfl, rfl, rfl, rfl⟩ [12, 13, 14, 15, 16, 17, 18, 19, 20, 21, 22, 23, 24, 25, 26, 27, 28, 29, 30, 31, 32, 33, 34, 35, 36, 0, 1, 2, 3, 4, 5, 6, 7, 8, 9, 10, 11, 37] rfl (fun u => by rcases u with _ | ⟨u, f1⟩ <;> rfl) [0, 2] rfl rfl hl.1 rfl (Nat.le_of_ble_eq_true rfl) rfl rfl (lw_hc hC (Nat.le_of_ble_eq_true rfl) (Nat.le_of_ble_eq_true rfl)) dL_law_998 (fun k u H locs hw hP hD hS => ?_)
  rcases u with _ | ⟨u, f1⟩
  · skip
    replace hP : va_P D vwCl (fW g hn ha adn ada cI hei dra rai σ cre gai see fou z ++ (mM h ad cI thr hei dra rai σ flo lak row ++ oW o cL f)) H := hP
    replace hD : va_D (lw_A s) (fW g hn ha adn ada cI hei dra rai σ cre gai see fou z ++ (mM h ad cI thr hei dra rai σ flo lak row ++ oW o cL f)) := hD
    refine lv_istore (lv' := [(5, .int k), (0, .ref b), (1, .ref g), (2, .ref h), (3, .ref o), (4, .int (nI (4 * i)))]) hx hb dL_law_1001 hl (by decide) rfl (fun ls hl => ?_)
    refine lv_aload_n hx hb dL_law_1003 rfl (lv_at hl 3 rfl) ?_
    refine lv_aload_n hx hb dL_law_1004 rfl (lv_at hl 1 rfl) ?_
    refine lv_iload hx hb dL_law_1005 (lv_at hl 5 rfl) ?_
    refine lv_iconst (v := nI 1) hx hb dL_law_1007 (by decide) ?_
    refine lv_iadd hx hb dL_law_1008 ?_
    refine va_sld hx hb hX hbl hbA hS (lw_in1 (j := 1) (by omega) hL) dL_law_1009 ?_
    refine ct_top e1 ?_
    refine lv_aload_n hx hb dL_law_1010 rfl (lv_at hl 1 rfl) ?_
    refine lv_iload hx hb dL_law_1011 (lv_at hl 5 rfl) ?_
    refine lv_iconst (v := nI 2) hx hb dL_law_1013 (by decide) ?_
    refine lv_iadd hx hb dL_law_1014 ?_
    refine va_sld hx hb hX hbl hbA hS (lw_in1 (j := 2) (by omega) hL) dL_law_1015 ?_
    refine ct_top e2 ?_
    refine cy_Vi (As := [.int v, .int q]) (rest := []) (wr := fW g hn ha adn ada cI hei dra rai σ cre gai see fou z ++ oW o cL f) (W0 := fW g hn ha adn ada cI hei dra rai σ cre gai see fou z ++ (mM h ad cI thr hei dra rai σ flo lak row ++ oW o cL f)) (W1 := fun w => fW g hn ha adn ada cI hei dra rai σ cre gai see fou z ++ ((mM h ad cI w.1 hei dra rai σ w.2.1 w.2.2.1 w.2.2.2) ++ oW o cL f)) (cells1 := C + 9) (slots1 := S + 282) ⟨hx, hb, hml, hown, hts⟩ (c_X2_foresee l D cI cJ h ad thr hei dra rai σ flo lak row ht9 hi1 (fun n hn => inv_w (inv_hours hI n (by omega))) v q) (cwV 2 hts gL_law_X2_foresee rfl rfl rfl (by decide +kernel) ⟨Nat.le_of_ble_eq_true rfl, Nat.le_of_ble_eq_true rfl⟩) hK hP hD hS hA hY [25, 26, 27, 28, 29, 30, 31, 32, 33, 34, 35, 36] [0, 1, 2, 3, 4, 5, 6, 7, 8, 9, 10, 11, 12, 13, 14, 15, 16, 17, 18, 19, 20, 21, 22, 23, 24, 37] ⟨rfl, rfl, rfl, rfl, rfl⟩ [0, 1, 2, 3, 4, 5, 6, 7, 8, 9, 10, 11, 12, 13, 14, 15, 16, 17, 18, 19, 20, 21, 22, 23, 24, 26, 27, 28, 29, 30, 31, 32, 33, 34, 35, 36, 37, 25] rfl (fun _ => rfl) [0, 1] rfl (va_recv hK hP (ci := 2) (q0 := 25) rfl rfl) rfl hl.1 rfl (Nat.le_of_ble_eq_true rfl) (Nat.add_assoc _ _ _) (Nat.add_assoc _ _ _) (lw_hc hC (Nat.le_of_ble_eq_true rfl) (Nat.le_of_ble_eq_true rfl)) dL_law_1016 (fun r w H locs hm hP hD hS => ?_)
    obtain ⟨w1, w2, w3, w4⟩ := w
    have hu : k = w1 ∧ ¬ k = 0 := by
      rcases hw with ⟨rfl, ⟨h1, -⟩ | ⟨-, h1, h2⟩⟩ | ⟨rfl, ⟨-, h1⟩ | ⟨h1, -⟩⟩
      · exact absurd h1 (by decide +kernel)
      · rcases hm with ⟨g1, -⟩ | ⟨-, -, g2⟩ | ⟨-, g1, -⟩
        · exact absurd h1 g1
        · exact ⟨g2.symm, by decide⟩
        · exact absurd g1 h2
      · rcases hm with ⟨g1, g2⟩ | ⟨g1, -⟩ | ⟨g1, -⟩
        · exact ⟨g2.symm, by decide⟩
        · exact absurd g1 h1
        · exact absurd g1 h1
      · exact absurd h1 (by decide +kernel)
    obtain ⟨rfl, hk0⟩ := hu
    replace hP : va_P D vwCl (fW g hn ha adn ada cI hei dra rai σ cre gai see fou z ++ (mM h ad cI k hei dra rai σ w2 w3 w4 ++ oW o cL f)) H := hP
    replace hD : va_D (lw_A s) (fW g hn ha adn ada cI hei dra rai σ cre gai see fou z ++ (mM h ad cI k hei dra rai σ w2 w3 w4 ++ oW o cL f)) := hD
    refine lv_istore (lv' := [(6, .int r), (5, .int k), (0, .ref b), (1, .ref g), (2, .ref h), (3, .ref o), (4, .int (nI (4 * i)))]) hx hb dL_law_1019 hl (by decide) rfl (fun ls hl => ?_)
    refine lv_aload_n hx hb dL_law_1021 rfl (lv_at hl 4 rfl) ?_
    refine ct_Vi (As := []) (rest := []) (wr := fW g hn ha adn ada cI hei dra rai σ cre gai see fou z ++ oW o cL f) (W0 := fW g hn ha adn ada cI hei dra rai σ cre gai see fou z ++ (mM h ad cI k hei dra rai σ w2 w3 w4 ++ oW o cL f)) (W1 := fun _ => fW g hn ha adn ada cI hei dra rai σ cre gai see fou z ++ (mM h ad cI k hei dra rai σ w2 w3 w4 ++ oW o cL f)) (cells1 := C + 9) (slots1 := S + 282) ⟨hx, hb, hml, hown, hts⟩ (c_X2_thrown l D cI h ad k hei (m_wat σ) (m_dam σ) (m_wea σ) dra (m_peo σ) rai (q_num (nI (m_t σ)) (m_bro σ) (m_drd σ) (m_lef σ)) w2 w3 w4) (cwV 0 hts gL_law_X2_thrown rfl rfl rfl (by decide +kernel) ⟨Nat.le_of_ble_eq_true rfl, Nat.le_of_ble_eq_true rfl⟩) hK hP hD hS hA [25, 26, 27, 28, 29, 30, 31, 32, 33, 34, 35, 36] [0, 1, 2, 3, 4, 5, 6, 7, 8, 9, 10, 11, 12, 13, 14, 15, 16, 17, 18, 19, 20, 21, 22, 23, 24, 37] ⟨rfl, rfl, rfl, rfl, rfl⟩ [0, 1, 2, 3, 4, 5, 6, 7, 8, 9, 10, 11, 12, 13, 14, 15, 16, 17, 18, 19, 20, 21, 22, 23, 24, 26, 27, 28, 29, 30, 31, 32, 33, 34, 35, 36, 37, 25] rfl (fun _ => rfl) [0] rfl (va_recv hK hP (ci := 2) (q0 := 25) rfl rfl) rfl hl.1 rfl (Nat.le_of_ble_eq_true rfl) rfl rfl (lw_hc hC (Nat.le_of_ble_eq_true rfl) (Nat.le_of_ble_eq_true rfl)) dL_law_1022 (fun r9 _ H locs hw9 hP hD hS => ?_)
    refine ct_top hw9 ?_
    refine lv_iload hx hb dL_law_1025 (lv_at hl 1 rfl) ?_
    refine lv_icmp_eq (tgt := 1032) hx hb dL_law_1027 (by decide) (fun _ => ?_) (fun hc => absurd rfl hc)
    refine lv_iload hx hb dL_law_1032 (lv_at hl 1 rfl) ?_
    refine lv_if_ne (tgt := 1049) hx hb dL_law_1034 (by decide) (fun _ => ?_) (fun hc => absurd hc hk0)
    refine lv_goto (tgt := 1219) hx hb dL_law_1049 (by decide) ?_
    refine W.widen (k := C + 80) (n := S + 700) (by omega) (by omega) ?_
    exact kk d0 hei dra rai σ cre gai see fou z k w2 w3 w4 f H locs ls hd0 (inv_up hI (by omega)) (by omega) hP hD hS (lv_sub hl [2, 3, 4, 5, 6] rfl)
  · skip
    obtain ⟨rfl, r0, hp0, hf0⟩ := hw
    replace hP : va_P D vwCl (fW g hn ha adn ada cI hei dra rai σ cre gai see fou u ++ (mM h ad cI thr hei dra rai σ flo lak row ++ oW o cL f1)) H := hP
    replace hD : va_D (lw_A s) (fW g hn ha adn ada cI hei dra rai σ cre gai see fou u ++ (mM h ad cI thr hei dra rai σ flo lak row ++ oW o cL f1)) := hD
    refine lv_istore (lv' := [(5, .int 0), (0, .ref b), (1, .ref g), (2, .ref h), (3, .ref o), (4, .int (nI (4 * i)))]) hx hb dL_law_1001 hl (by decide) rfl (fun ls hl => ?_)
    refine lv_aload_n hx hb dL_law_1003 rfl (lv_at hl 3 rfl) ?_
    refine lv_aload_n hx hb dL_law_1004 rfl (lv_at hl 1 rfl) ?_
    refine lv_iload hx hb dL_law_1005 (lv_at hl 5 rfl) ?_
    refine lv_iconst (v := nI 1) hx hb dL_law_1007 (by decide) ?_
    refine lv_iadd hx hb dL_law_1008 ?_
    refine va_sld hx hb hX hbl hbA hS (lw_in1 (j := 1) (by omega) hL) dL_law_1009 ?_
    refine ct_top e1 ?_
    refine lv_aload_n hx hb dL_law_1010 rfl (lv_at hl 1 rfl) ?_
    refine lv_iload hx hb dL_law_1011 (lv_at hl 5 rfl) ?_
    refine lv_iconst (v := nI 2) hx hb dL_law_1013 (by decide) ?_
    refine lv_iadd hx hb dL_law_1014 ?_
    refine va_sld hx hb hX hbl hbA hS (lw_in1 (j := 2) (by omega) hL) dL_law_1015 ?_
    refine ct_top e2 ?_
    refine cy_Vi (As := [.int v, .int q]) (rest := []) (wr := fW g hn ha adn ada cI hei dra rai σ cre gai see fou u ++ oW o cL f1) (W0 := fW g hn ha adn ada cI hei dra rai σ cre gai see fou u ++ (mM h ad cI thr hei dra rai σ flo lak row ++ oW o cL f1)) (W1 := fun w => fW g hn ha adn ada cI hei dra rai σ cre gai see fou u ++ ((mM h ad cI w.1 hei dra rai σ w.2.1 w.2.2.1 w.2.2.2) ++ oW o cL f1)) (cells1 := C + 9) (slots1 := S + 282) ⟨hx, hb, hml, hown, hts⟩ (c_X2_foresee l D cI cJ h ad thr hei dra rai σ flo lak row ht9 hi1 (fun n hn => inv_w (inv_hours hI n (by omega))) v q) (cwV 2 hts gL_law_X2_foresee rfl rfl rfl (by decide +kernel) ⟨Nat.le_of_ble_eq_true rfl, Nat.le_of_ble_eq_true rfl⟩) hK hP hD hS hA hY [25, 26, 27, 28, 29, 30, 31, 32, 33, 34, 35, 36] [0, 1, 2, 3, 4, 5, 6, 7, 8, 9, 10, 11, 12, 13, 14, 15, 16, 17, 18, 19, 20, 21, 22, 23, 24, 37] ⟨rfl, rfl, rfl, rfl, rfl⟩ [0, 1, 2, 3, 4, 5, 6, 7, 8, 9, 10, 11, 12, 13, 14, 15, 16, 17, 18, 19, 20, 21, 22, 23, 24, 26, 27, 28, 29, 30, 31, 32, 33, 34, 35, 36, 37, 25] rfl (fun _ => rfl) [0, 1] rfl (va_recv hK hP (ci := 2) (q0 := 25) rfl rfl) rfl hl.1 rfl (Nat.le_of_ble_eq_true rfl) (Nat.add_assoc _ _ _) (Nat.add_assoc _ _ _) (lw_hc hC (Nat.le_of_ble_eq_true rfl) (Nat.le_of_ble_eq_true rfl)) dL_law_1016 (fun r w H locs hm hP hD hS => ?_)
    obtain ⟨w1, w2, w3, w4⟩ := w
    have hu : 0 = w1 ∧ r0 = r := by
      rcases hm with ⟨g1, -⟩ | ⟨-, g1, -⟩ | ⟨-, -, g2, g3⟩
      · exact absurd hp0.1 g1
      · exact absurd hp0.2.1 g1
      · exact ⟨g2.symm, hp0.2.2.trans g3.symm⟩
    obtain ⟨rfl, rfl⟩ := hu
    replace hP : va_P D vwCl (fW g hn ha adn ada cI hei dra rai σ cre gai see fou u ++ (mM h ad cI 0 hei dra rai σ w2 w3 w4 ++ oW o cL f1)) H := hP
    replace hD : va_D (lw_A s) (fW g hn ha adn ada cI hei dra rai σ cre gai see fou u ++ (mM h ad cI 0 hei dra rai σ w2 w3 w4 ++ oW o cL f1)) := hD
    refine lv_istore (lv' := [(6, .int r0), (5, .int 0), (0, .ref b), (1, .ref g), (2, .ref h), (3, .ref o), (4, .int (nI (4 * i)))]) hx hb dL_law_1019 hl (by decide) rfl (fun ls hl => ?_)
    refine lv_aload_n hx hb dL_law_1021 rfl (lv_at hl 4 rfl) ?_
    refine ct_Vi (As := []) (rest := []) (wr := fW g hn ha adn ada cI hei dra rai σ cre gai see fou u ++ oW o cL f1) (W0 := fW g hn ha adn ada cI hei dra rai σ cre gai see fou u ++ (mM h ad cI 0 hei dra rai σ w2 w3 w4 ++ oW o cL f1)) (W1 := fun _ => fW g hn ha adn ada cI hei dra rai σ cre gai see fou u ++ (mM h ad cI 0 hei dra rai σ w2 w3 w4 ++ oW o cL f1)) (cells1 := C + 9) (slots1 := S + 282) ⟨hx, hb, hml, hown, hts⟩ (c_X2_thrown l D cI h ad 0 hei (m_wat σ) (m_dam σ) (m_wea σ) dra (m_peo σ) rai (q_num (nI (m_t σ)) (m_bro σ) (m_drd σ) (m_lef σ)) w2 w3 w4) (cwV 0 hts gL_law_X2_thrown rfl rfl rfl (by decide +kernel) ⟨Nat.le_of_ble_eq_true rfl, Nat.le_of_ble_eq_true rfl⟩) hK hP hD hS hA [25, 26, 27, 28, 29, 30, 31, 32, 33, 34, 35, 36] [0, 1, 2, 3, 4, 5, 6, 7, 8, 9, 10, 11, 12, 13, 14, 15, 16, 17, 18, 19, 20, 21, 22, 23, 24, 37] ⟨rfl, rfl, rfl, rfl, rfl⟩ [0, 1, 2, 3, 4, 5, 6, 7, 8, 9, 10, 11, 12, 13, 14, 15, 16, 17, 18, 19, 20, 21, 22, 23, 24, 26, 27, 28, 29, 30, 31, 32, 33, 34, 35, 36, 37, 25] rfl (fun _ => rfl) [0] rfl (va_recv hK hP (ci := 2) (q0 := 25) rfl rfl) rfl hl.1 rfl (Nat.le_of_ble_eq_true rfl) rfl rfl (lw_hc hC (Nat.le_of_ble_eq_true rfl) (Nat.le_of_ble_eq_true rfl)) dL_law_1022 (fun r9 _ H locs hw9 hP hD hS => ?_)
    refine ct_top hw9 ?_
    refine lv_iload hx hb dL_law_1025 (lv_at hl 1 rfl) ?_
    refine lv_icmp_eq (tgt := 1032) hx hb dL_law_1027 (by decide) (fun _ => ?_) (fun hc => absurd rfl hc)
    refine lv_iload hx hb dL_law_1032 (lv_at hl 1 rfl) ?_
    refine lv_if_ne (tgt := 1049) hx hb dL_law_1034 (by decide) (fun hc => absurd rfl hc) (fun _ => ?_)
    refine lv_aload_n hx hb dL_law_1037 rfl (lv_at hl 5 rfl) ?_
    refine lv_iconst (v := 0) hx hb dL_law_1038 (by decide) ?_
    refine va_lald (cl := vwCl) (f := f1) hx hb hK hP 37 2 rfl rfl z_in0 dL_law_1039 ?_
    refine lv_iload hx hb dL_law_1040 (lv_at hl 0 rfl) ?_
    refine lv_i2l (v := Int32.toInt64 r0) hx hb dL_law_1042 rfl ?_
    refine lv_lcmp0 hx hb hf0 dL_law_1043 ?_
    refine lv_if_eq (tgt := 1049) hx hb dL_law_1044 (by decide) (fun _ => ?_) (fun hc => absurd rfl hc)
    refine lv_goto (tgt := 1219) hx hb dL_law_1049 (by decide) ?_
    refine W.widen (k := C + 80) (n := S + 700) (by omega) (by omega) ?_
    exact kk d0 hei dra rai σ cre gai see fou u 0 w2 w3 w4 f1 H locs ls hd0 (inv_up hI (by omega)) (by omega) hP hD hS (lv_sub hl [2, 3, 4, 5, 6] rfl)
set_option maxHeartbeats 4000000 in
set_option maxRecDepth 100000 in
theorem law_holds {p : Program} {l : Launch} {e : Env} {s : State} {m : MethodId} {below : List Frame} {meth : Method} {c : Code} {b L : Nat} {xs : Nat → Int32} {D : va_G} {cI cJ cL : ClassId} {sa1 sa2 : Nat} {g hn ha : Nat} {adn ada : Nat → Nat} {h : Nat} {ad : Nat → Nat} {o i C S : Nat} {v : Int32} (C9 : lw_Cx p l m c b L xs D cI cJ cL sa1 sa2 s) (hL : L ≤ 2048) (hi : 4 * i + 4 ≤ L) (hC : C + 80 ≤ 840170 ∧ S + 700 ≤ 6575593) (kk : lw_Nx p l e s m below meth c b D cI cL g hn ha adn ada h ad o i (C + 80) (S + 700)) {d0 : Drawn} (hd0 : s.drawn.sameBut d0 lw_cs) {hei dra rai : Nat → Int32} {σ : Ms} {cre gai see fou : Nat → Int32} {z : Nat → Nat → Int32} {thr : Int32} {flo lak row : Nat → Int32} {f : Nat → Int64} (hI : inv (28000 * (i : Int)) hei dra rai σ) (ht : m_t σ ≤ 48 * i) {H : Heap} {locs : List Loc} {ls : Array Slot} (e1 : xs (nI (4 * i) + nI 1).toNatClampNeg = v)
    (hP : va_P D vwCl (fW g hn ha adn ada cI hei dra rai σ cre gai see fou z ++ (mM h ad cI thr hei dra rai σ flo lak row ++ oW o cL f)) H) (hD : va_D (lw_A s) (fW g hn ha adn ada cI hei dra rai σ cre gai see fou z ++ (mM h ad cI thr hei dra rai σ flo lak row ++ oW o cL f))) (hS : va_S (lw_A s) s.heap H locs) (hl : lv_has ls 9 [(0, .ref b), (1, .ref g), (2, .ref h), (3, .ref o), (4, .int (nI (4 * i)))]) :
    W p l e room_1 (s.setDrawn d0) m #[Value.ref b] below meth c H locs C S (lw_Z below #[Value.ref b] s) (F0 m 1052 ls []) := by
  obtain ⟨hx, hb, hml, hown, hts, hK, hT, hY, hX, hbl, hst⟩ := C9.drew d0
  have hA : ∀ q : Nat, (s.setDrawn d0).heap.size ≤ q → lw_A s q := fun _ h9 => h9
  have hbA : ¬ lw_A s b := Nat.not_le.mpr hbl
  have ht9 : m_t σ < 2 ^ 29 := by omega
  have hi1 := inv_1 hI
  have hw0 := inv_w hI
  have hdm := inv_dm hI
  replace hS : va_S (lw_A s) (s.setDrawn d0).heap H locs := hS
  refine lv_aload_n hx hb dL_law_1052 rfl (lv_at hl 1 rfl) ?_
  refine lv_aload_n hx hb dL_law_1053 rfl (lv_at hl 0 rfl) ?_
  refine lv_iload hx hb dL_law_1054 (lv_at hl 4 rfl) ?_
  refine lv_iconst (v := nI 1) hx hb dL_law_1056 (by decide) ?_
  refine lv_iadd hx hb dL_law_1057 ?_
  refine va_sld hx hb hX hbl hbA hS (lw_in1 (j := 1) (by omega) hL) dL_law_1058 ?_
  refine ct_top e1 ?_
  refine lv_aload_n hx hb dL_law_1059 rfl (lv_at hl 3 rfl) ?_
  refine cz_Si (As := [.ref g, .int v, .ref o]) (rest := []) (wr := mM h ad cI thr hei dra rai σ flo lak row) (W0 := fW g hn ha adn ada cI hei dra rai σ cre gai see fou z ++ (mM h ad cI thr hei dra rai σ flo lak row ++ oW o cL f)) (W1 := z_w1 (fW g hn ha adn ada cI hei dra rai σ cre gai see fou z) (fun u => (fW g hn ha adn ada cI hei dra rai σ cre gai see fou u)) (mM h ad cI thr hei dra rai σ flo lak row) o cL f) (cells1 := C + 1) (slots1 := S + 6) ⟨hx, hb, hml, hown, hts⟩ (c_L_holds l hst D cI cL sa1 sa2 g hn ha adn ada hei dra rai σ cre gai see fou z ht9 v o f) (vx_cwSW (hh := [(0, 9, 12, 15)]) 3 hts gL_law_L_holds rfl rfl rfl (by decide +kernel) ⟨Nat.le_of_ble_eq_true rfl, Nat.le_of_ble_eq_true rfl⟩) hK hP hD hS hA hT [0, 1, 2, 3, 4, 5, 6, 7, 8, 9, 10, 11, 12, 13, 14, 15, 16, 17, 18, 19, 20, 21, 22, 23, 24, 37] [25, 26, 27, 28, 29, 30, 31, 32, 33, 34, 35, 36] ⟨rfl, rfl, rfl, rfl, rfl⟩ [12, 13, 14, 15, 16, 17, 18, 19, 20, 21, 22, 23, 24, 25, 26, 27, 28, 29, 30, 31, 32, 33, 34, 35, 36, 0, 1, 2, 3, 4, 5, 6, 7, 8, 9, 10, 11, 37] rfl (fun u => by rcases u with _ | ⟨u, f1⟩ <;> rfl) [0, 2] rfl rfl hl.1 rfl (Nat.le_of_ble_eq_true rfl) rfl rfl (lw_hc hC (Nat.le_of_ble_eq_true rfl) (Nat.le_of_ble_eq_true rfl)) dL_law_1060 (fun k u H locs hw hP hD hS => ?_)
  rcases u with _ | ⟨u, f1⟩
  · skip
    replace hP : va_P D vwCl (fW g hn ha adn ada cI hei dra rai σ cre gai see fou z ++ (mM h ad cI thr hei dra rai σ flo lak row ++ oW o cL f)) H := hP
    replace hD : va_D (lw_A s) (fW g hn ha adn ada cI hei dra rai σ cre gai see fou z ++ (mM h ad cI thr hei dra rai σ flo lak row ++ oW o cL f)) := hD
    refine lv_istore (lv' := [(5, .int k), (0, .ref b), (1, .ref g), (2, .ref h), (3, .ref o), (4, .int (nI (4 * i)))]) hx hb dL_law_1063 hl (by decide) rfl (fun ls hl => ?_)
    refine lv_aload_n hx hb dL_law_1065 rfl (lv_at hl 3 rfl) ?_
    refine lv_aload_n hx hb dL_law_1066 rfl (lv_at hl 1 rfl) ?_
    refine lv_iload hx hb dL_law_1067 (lv_at hl 5 rfl) ?_
    refine lv_iconst (v := nI 1) hx hb dL_law_1069 (by decide) ?_
    refine lv_iadd hx hb dL_law_1070 ?_
    refine va_sld hx hb hX hbl hbA hS (lw_in1 (j := 1) (by omega) hL) dL_law_1071 ?_
    refine ct_top e1 ?_
    refine cy_Vi (As := [.int v]) (rest := []) (wr := fW g hn ha adn ada cI hei dra rai σ cre gai see fou z ++ oW o cL f) (W0 := fW g hn ha adn ada cI hei dra rai σ cre gai see fou z ++ (mM h ad cI thr hei dra rai σ flo lak row ++ oW o cL f)) (W1 := fun w => fW g hn ha adn ada cI hei dra rai σ cre gai see fou z ++ ((mM h ad cI w.1 hei dra rai σ w.2 lak row) ++ oW o cL f)) (cells1 := C + 72) (slots1 := S + 596) ⟨hx, hb, hml, hown, hts⟩ (c_X2_holds l D cI cJ h ad thr hei dra rai σ flo lak row ht9 hi1 hdm v) (cwV 1 hts gL_law_X2_holds rfl rfl rfl (by decide +kernel) ⟨Nat.le_of_ble_eq_true rfl, Nat.le_of_ble_eq_true rfl⟩) hK hP hD hS hA hY [25, 26, 27, 28, 29, 30, 31, 32, 33, 34, 35, 36] [0, 1, 2, 3, 4, 5, 6, 7, 8, 9, 10, 11, 12, 13, 14, 15, 16, 17, 18, 19, 20, 21, 22, 23, 24, 37] ⟨rfl, rfl, rfl, rfl, rfl⟩ [0, 1, 2, 3, 4, 5, 6, 7, 8, 9, 10, 11, 12, 13, 14, 15, 16, 17, 18, 19, 20, 21, 22, 23, 24, 26, 27, 28, 29, 30, 31, 32, 33, 34, 35, 36, 37, 25] rfl (fun _ => rfl) [0, 1] rfl (va_recv hK hP (ci := 2) (q0 := 25) rfl rfl) rfl hl.1 rfl (Nat.le_of_ble_eq_true rfl) (Nat.add_assoc _ _ _) (Nat.add_assoc _ _ _) (lw_hc hC (Nat.le_of_ble_eq_true rfl) (Nat.le_of_ble_eq_true rfl)) dL_law_1072 (fun r w H locs hm hP hD hS => ?_)
    obtain ⟨w1, w2⟩ := w
    have hu : k = w1 ∧ ¬ k = 0 := by
      rcases hw with ⟨rfl, h1, -⟩ | ⟨rfl, -, h1⟩
      · exact absurd h1 (by decide +kernel)
      · rcases hm with ⟨g1, g2⟩ | ⟨g1, -⟩
        · exact ⟨g2.symm, by decide⟩
        · exact absurd g1 h1
    obtain ⟨rfl, hk0⟩ := hu
    replace hP : va_P D vwCl (fW g hn ha adn ada cI hei dra rai σ cre gai see fou z ++ (mM h ad cI k hei dra rai σ w2 lak row ++ oW o cL f)) H := hP
    replace hD : va_D (lw_A s) (fW g hn ha adn ada cI hei dra rai σ cre gai see fou z ++ (mM h ad cI k hei dra rai σ w2 lak row ++ oW o cL f)) := hD
    refine lv_istore (lv' := [(6, .int r), (5, .int k), (0, .ref b), (1, .ref g), (2, .ref h), (3, .ref o), (4, .int (nI (4 * i)))]) hx hb dL_law_1075 hl (by decide) rfl (fun ls hl => ?_)
    refine lv_aload_n hx hb dL_law_1077 rfl (lv_at hl 4 rfl) ?_
    refine ct_Vi (As := []) (rest := []) (wr := fW g hn ha adn ada cI hei dra rai σ cre gai see fou z ++ oW o cL f) (W0 := fW g hn ha adn ada cI hei dra rai σ cre gai see fou z ++ (mM h ad cI k hei dra rai σ w2 lak row ++ oW o cL f)) (W1 := fun _ => fW g hn ha adn ada cI hei dra rai σ cre gai see fou z ++ (mM h ad cI k hei dra rai σ w2 lak row ++ oW o cL f)) (cells1 := C + 72) (slots1 := S + 596) ⟨hx, hb, hml, hown, hts⟩ (c_X2_thrown l D cI h ad k hei (m_wat σ) (m_dam σ) (m_wea σ) dra (m_peo σ) rai (q_num (nI (m_t σ)) (m_bro σ) (m_drd σ) (m_lef σ)) w2 lak row) (cwV 0 hts gL_law_X2_thrown rfl rfl rfl (by decide +kernel) ⟨Nat.le_of_ble_eq_true rfl, Nat.le_of_ble_eq_true rfl⟩) hK hP hD hS hA [25, 26, 27, 28, 29, 30, 31, 32, 33, 34, 35, 36] [0, 1, 2, 3, 4, 5, 6, 7, 8, 9, 10, 11, 12, 13, 14, 15, 16, 17, 18, 19, 20, 21, 22, 23, 24, 37] ⟨rfl, rfl, rfl, rfl, rfl⟩ [0, 1, 2, 3, 4, 5, 6, 7, 8, 9, 10, 11, 12, 13, 14, 15, 16, 17, 18, 19, 20, 21, 22, 23, 24, 26, 27, 28, 29, 30, 31, 32, 33, 34, 35, 36, 37, 25] rfl (fun _ => rfl) [0] rfl (va_recv hK hP (ci := 2) (q0 := 25) rfl rfl) rfl hl.1 rfl (Nat.le_of_ble_eq_true rfl) rfl rfl (lw_hc hC (Nat.le_of_ble_eq_true rfl) (Nat.le_of_ble_eq_true rfl)) dL_law_1078 (fun r9 _ H locs hw9 hP hD hS => ?_)
    refine ct_top hw9 ?_
    refine lv_iload hx hb dL_law_1081 (lv_at hl 1 rfl) ?_
    refine lv_icmp_eq (tgt := 1088) hx hb dL_law_1083 (by decide) (fun _ => ?_) (fun hc => absurd rfl hc)
    refine lv_iload hx hb dL_law_1088 (lv_at hl 1 rfl) ?_
    refine lv_if_ne (tgt := 1105) hx hb dL_law_1090 (by decide) (fun _ => ?_) (fun hc => absurd hc hk0)
    refine lv_goto (tgt := 1219) hx hb dL_law_1105 (by decide) ?_
    refine W.widen (k := C + 80) (n := S + 700) (by omega) (by omega) ?_
    exact kk d0 hei dra rai σ cre gai see fou z k w2 lak row f H locs ls hd0 (inv_up hI (by omega)) (by omega) hP hD hS (lv_sub hl [2, 3, 4, 5, 6] rfl)
  · skip
    obtain ⟨rfl, r0, hp0, hf0⟩ := hw
    replace hP : va_P D vwCl (fW g hn ha adn ada cI hei dra rai σ cre gai see fou u ++ (mM h ad cI thr hei dra rai σ flo lak row ++ oW o cL f1)) H := hP
    replace hD : va_D (lw_A s) (fW g hn ha adn ada cI hei dra rai σ cre gai see fou u ++ (mM h ad cI thr hei dra rai σ flo lak row ++ oW o cL f1)) := hD
    refine lv_istore (lv' := [(5, .int 0), (0, .ref b), (1, .ref g), (2, .ref h), (3, .ref o), (4, .int (nI (4 * i)))]) hx hb dL_law_1063 hl (by decide) rfl (fun ls hl => ?_)
    refine lv_aload_n hx hb dL_law_1065 rfl (lv_at hl 3 rfl) ?_
    refine lv_aload_n hx hb dL_law_1066 rfl (lv_at hl 1 rfl) ?_
    refine lv_iload hx hb dL_law_1067 (lv_at hl 5 rfl) ?_
    refine lv_iconst (v := nI 1) hx hb dL_law_1069 (by decide) ?_
    refine lv_iadd hx hb dL_law_1070 ?_
    refine va_sld hx hb hX hbl hbA hS (lw_in1 (j := 1) (by omega) hL) dL_law_1071 ?_
    refine ct_top e1 ?_
    refine cy_Vi (As := [.int v]) (rest := []) (wr := fW g hn ha adn ada cI hei dra rai σ cre gai see fou u ++ oW o cL f1) (W0 := fW g hn ha adn ada cI hei dra rai σ cre gai see fou u ++ (mM h ad cI thr hei dra rai σ flo lak row ++ oW o cL f1)) (W1 := fun w => fW g hn ha adn ada cI hei dra rai σ cre gai see fou u ++ ((mM h ad cI w.1 hei dra rai σ w.2 lak row) ++ oW o cL f1)) (cells1 := C + 72) (slots1 := S + 596) ⟨hx, hb, hml, hown, hts⟩ (c_X2_holds l D cI cJ h ad thr hei dra rai σ flo lak row ht9 hi1 hdm v) (cwV 1 hts gL_law_X2_holds rfl rfl rfl (by decide +kernel) ⟨Nat.le_of_ble_eq_true rfl, Nat.le_of_ble_eq_true rfl⟩) hK hP hD hS hA hY [25, 26, 27, 28, 29, 30, 31, 32, 33, 34, 35, 36] [0, 1, 2, 3, 4, 5, 6, 7, 8, 9, 10, 11, 12, 13, 14, 15, 16, 17, 18, 19, 20, 21, 22, 23, 24, 37] ⟨rfl, rfl, rfl, rfl, rfl⟩ [0, 1, 2, 3, 4, 5, 6, 7, 8, 9, 10, 11, 12, 13, 14, 15, 16, 17, 18, 19, 20, 21, 22, 23, 24, 26, 27, 28, 29, 30, 31, 32, 33, 34, 35, 36, 37, 25] rfl (fun _ => rfl) [0, 1] rfl (va_recv hK hP (ci := 2) (q0 := 25) rfl rfl) rfl hl.1 rfl (Nat.le_of_ble_eq_true rfl) (Nat.add_assoc _ _ _) (Nat.add_assoc _ _ _) (lw_hc hC (Nat.le_of_ble_eq_true rfl) (Nat.le_of_ble_eq_true rfl)) dL_law_1072 (fun r w H locs hm hP hD hS => ?_)
    obtain ⟨w1, w2⟩ := w
    have hu : 0 = w1 ∧ r0 = r := by
      rcases hm with ⟨g1, -⟩ | ⟨-, g2, g3⟩
      · exact absurd hp0.1 g1
      · exact ⟨g2.symm, hp0.2.trans g3.symm⟩
    obtain ⟨rfl, rfl⟩ := hu
    replace hP : va_P D vwCl (fW g hn ha adn ada cI hei dra rai σ cre gai see fou u ++ (mM h ad cI 0 hei dra rai σ w2 lak row ++ oW o cL f1)) H := hP
    replace hD : va_D (lw_A s) (fW g hn ha adn ada cI hei dra rai σ cre gai see fou u ++ (mM h ad cI 0 hei dra rai σ w2 lak row ++ oW o cL f1)) := hD
    refine lv_istore (lv' := [(6, .int r0), (5, .int 0), (0, .ref b), (1, .ref g), (2, .ref h), (3, .ref o), (4, .int (nI (4 * i)))]) hx hb dL_law_1075 hl (by decide) rfl (fun ls hl => ?_)
    refine lv_aload_n hx hb dL_law_1077 rfl (lv_at hl 4 rfl) ?_
    refine ct_Vi (As := []) (rest := []) (wr := fW g hn ha adn ada cI hei dra rai σ cre gai see fou u ++ oW o cL f1) (W0 := fW g hn ha adn ada cI hei dra rai σ cre gai see fou u ++ (mM h ad cI 0 hei dra rai σ w2 lak row ++ oW o cL f1)) (W1 := fun _ => fW g hn ha adn ada cI hei dra rai σ cre gai see fou u ++ (mM h ad cI 0 hei dra rai σ w2 lak row ++ oW o cL f1)) (cells1 := C + 72) (slots1 := S + 596) ⟨hx, hb, hml, hown, hts⟩ (c_X2_thrown l D cI h ad 0 hei (m_wat σ) (m_dam σ) (m_wea σ) dra (m_peo σ) rai (q_num (nI (m_t σ)) (m_bro σ) (m_drd σ) (m_lef σ)) w2 lak row) (cwV 0 hts gL_law_X2_thrown rfl rfl rfl (by decide +kernel) ⟨Nat.le_of_ble_eq_true rfl, Nat.le_of_ble_eq_true rfl⟩) hK hP hD hS hA [25, 26, 27, 28, 29, 30, 31, 32, 33, 34, 35, 36] [0, 1, 2, 3, 4, 5, 6, 7, 8, 9, 10, 11, 12, 13, 14, 15, 16, 17, 18, 19, 20, 21, 22, 23, 24, 37] ⟨rfl, rfl, rfl, rfl, rfl⟩ [0, 1, 2, 3, 4, 5, 6, 7, 8, 9, 10, 11, 12, 13, 14, 15, 16, 17, 18, 19, 20, 21, 22, 23, 24, 26, 27, 28, 29, 30, 31, 32, 33, 34, 35, 36, 37, 25] rfl (fun _ => rfl) [0] rfl (va_recv hK hP (ci := 2) (q0 := 25) rfl rfl) rfl hl.1 rfl (Nat.le_of_ble_eq_true rfl) rfl rfl (lw_hc hC (Nat.le_of_ble_eq_true rfl) (Nat.le_of_ble_eq_true rfl)) dL_law_1078 (fun r9 _ H locs hw9 hP hD hS => ?_)
    refine ct_top hw9 ?_
    refine lv_iload hx hb dL_law_1081 (lv_at hl 1 rfl) ?_
    refine lv_icmp_eq (tgt := 1088) hx hb dL_law_1083 (by decide) (fun _ => ?_) (fun hc => absurd rfl hc)
    refine lv_iload hx hb dL_law_1088 (lv_at hl 1 rfl) ?_
    refine lv_if_ne (tgt := 1105) hx hb dL_law_1090 (by decide) (fun hc => absurd rfl hc) (fun _ => ?_)
    refine lv_aload_n hx hb dL_law_1093 rfl (lv_at hl 5 rfl) ?_
    refine lv_iconst (v := 0) hx hb dL_law_1094 (by decide) ?_
    refine va_lald (cl := vwCl) (f := f1) hx hb hK hP 37 2 rfl rfl z_in0 dL_law_1095 ?_
    refine lv_iload hx hb dL_law_1096 (lv_at hl 0 rfl) ?_
    refine lv_i2l (v := Int32.toInt64 r0) hx hb dL_law_1098 rfl ?_
    refine lv_lcmp0 hx hb hf0 dL_law_1099 ?_
    refine lv_if_eq (tgt := 1105) hx hb dL_law_1100 (by decide) (fun _ => ?_) (fun hc => absurd rfl hc)
    refine lv_goto (tgt := 1219) hx hb dL_law_1105 (by decide) ?_
    refine W.widen (k := C + 80) (n := S + 700) (by omega) (by omega) ?_
    exact kk d0 hei dra rai σ cre gai see fou u 0 w2 lak row f1 H locs ls hd0 (inv_up hI (by omega)) (by omega) hP hD hS (lv_sub hl [2, 3, 4, 5, 6] rfl)
set_option maxHeartbeats 4000000 in
set_option maxRecDepth 100000 in
theorem law_advise {p : Program} {l : Launch} {e : Env} {s : State} {m : MethodId} {below : List Frame} {meth : Method} {c : Code} {b L : Nat} {xs : Nat → Int32} {D : va_G} {cI cJ cL : ClassId} {sa1 sa2 : Nat} {g hn ha : Nat} {adn ada : Nat → Nat} {h : Nat} {ad : Nat → Nat} {o i C S : Nat} {v : Int32} (C9 : lw_Cx p l m c b L xs D cI cJ cL sa1 sa2 s) (hL : L ≤ 2048) (hi : 4 * i + 4 ≤ L) (hC : C + 80 ≤ 840170 ∧ S + 700 ≤ 6575593) (kk : lw_Nx p l e s m below meth c b D cI cL g hn ha adn ada h ad o i (C + 80) (S + 700)) {d0 : Drawn} (hd0 : s.drawn.sameBut d0 lw_cs) {hei dra rai : Nat → Int32} {σ : Ms} {cre gai see fou : Nat → Int32} {z : Nat → Nat → Int32} {thr : Int32} {flo lak row : Nat → Int32} {f : Nat → Int64} (hI : inv (28000 * (i : Int)) hei dra rai σ) (ht : m_t σ ≤ 48 * i) {H : Heap} {locs : List Loc} {ls : Array Slot} (e1 : xs (nI (4 * i) + nI 1).toNatClampNeg = v)
    (hP : va_P D vwCl (fW g hn ha adn ada cI hei dra rai σ cre gai see fou z ++ (mM h ad cI thr hei dra rai σ flo lak row ++ oW o cL f)) H) (hD : va_D (lw_A s) (fW g hn ha adn ada cI hei dra rai σ cre gai see fou z ++ (mM h ad cI thr hei dra rai σ flo lak row ++ oW o cL f))) (hS : va_S (lw_A s) s.heap H locs) (hl : lv_has ls 9 [(0, .ref b), (1, .ref g), (2, .ref h), (3, .ref o), (4, .int (nI (4 * i)))]) :
    W p l e room_1 (s.setDrawn d0) m #[Value.ref b] below meth c H locs C S (lw_Z below #[Value.ref b] s) (F0 m 1108 ls []) := by
  obtain ⟨hx, hb, hml, hown, hts, hK, hT, hY, hX, hbl, hst⟩ := C9.drew d0
  have hA : ∀ q : Nat, (s.setDrawn d0).heap.size ≤ q → lw_A s q := fun _ h9 => h9
  have hbA : ¬ lw_A s b := Nat.not_le.mpr hbl
  have ht9 : m_t σ < 2 ^ 29 := by omega
  have hi1 := inv_1 hI
  have hw0 := inv_w hI
  have hdm := inv_dm hI
  replace hS : va_S (lw_A s) (s.setDrawn d0).heap H locs := hS
  refine lv_aload_n hx hb dL_law_1108 rfl (lv_at hl 1 rfl) ?_
  refine lv_aload_n hx hb dL_law_1109 rfl (lv_at hl 0 rfl) ?_
  refine lv_iload hx hb dL_law_1110 (lv_at hl 4 rfl) ?_
  refine lv_iconst (v := nI 1) hx hb dL_law_1112 (by decide) ?_
  refine lv_iadd hx hb dL_law_1113 ?_
  refine va_sld hx hb hX hbl hbA hS (lw_in1 (j := 1) (by omega) hL) dL_law_1114 ?_
  refine ct_top e1 ?_
  refine lv_aload_n hx hb dL_law_1115 rfl (lv_at hl 3 rfl) ?_
  refine cz_Si (As := [.ref g, .int v, .ref o]) (rest := []) (wr := mM h ad cI thr hei dra rai σ flo lak row) (W0 := fW g hn ha adn ada cI hei dra rai σ cre gai see fou z ++ (mM h ad cI thr hei dra rai σ flo lak row ++ oW o cL f)) (W1 := z_w1 (fW g hn ha adn ada cI hei dra rai σ cre gai see fou z) (fun u => (fW g hn ha adn ada cI hei dra rai σ cre gai see fou u)) (mM h ad cI thr hei dra rai σ flo lak row) o cL f) (cells1 := C + 1) (slots1 := S + 6) ⟨hx, hb, hml, hown, hts⟩ (c_L_advise l hst D cI cL sa1 sa2 g hn ha adn ada hei dra rai σ cre gai see fou z ht9 v o f) (vx_cwSW (hh := [(0, 9, 12, 15)]) 3 hts gL_law_L_advise rfl rfl rfl (by decide +kernel) ⟨Nat.le_of_ble_eq_true rfl, Nat.le_of_ble_eq_true rfl⟩) hK hP hD hS hA hT [0, 1, 2, 3, 4, 5, 6, 7, 8, 9, 10, 11, 12, 13, 14, 15, 16, 17, 18, 19, 20, 21, 22, 23, 24, 37] [25, 26, 27, 28, 29, 30, 31, 32, 33, 34, 35, 36] ⟨rfl, rfl, rfl, rfl, rfl⟩ [12, 13, 14, 15, 16, 17, 18, 19, 20, 21, 22, 23, 24, 25, 26, 27, 28, 29, 30, 31, 32, 33, 34, 35, 36, 0, 1, 2, 3, 4, 5, 6, 7, 8, 9, 10, 11, 37] rfl (fun u => by rcases u with _ | ⟨u, f1⟩ <;> rfl) [0, 2] rfl rfl hl.1 rfl (Nat.le_of_ble_eq_true rfl) rfl rfl (lw_hc hC (Nat.le_of_ble_eq_true rfl) (Nat.le_of_ble_eq_true rfl)) dL_law_1116 (fun k u H locs hw hP hD hS => ?_)
  rcases u with _ | ⟨u, f1⟩
  · skip
    replace hP : va_P D vwCl (fW g hn ha adn ada cI hei dra rai σ cre gai see fou z ++ (mM h ad cI thr hei dra rai σ flo lak row ++ oW o cL f)) H := hP
    replace hD : va_D (lw_A s) (fW g hn ha adn ada cI hei dra rai σ cre gai see fou z ++ (mM h ad cI thr hei dra rai σ flo lak row ++ oW o cL f)) := hD
    refine lv_istore (lv' := [(5, .int k), (0, .ref b), (1, .ref g), (2, .ref h), (3, .ref o), (4, .int (nI (4 * i)))]) hx hb dL_law_1119 hl (by decide) rfl (fun ls hl => ?_)
    refine lv_aload_n hx hb dL_law_1121 rfl (lv_at hl 3 rfl) ?_
    refine lv_aload_n hx hb dL_law_1122 rfl (lv_at hl 1 rfl) ?_
    refine lv_iload hx hb dL_law_1123 (lv_at hl 5 rfl) ?_
    refine lv_iconst (v := nI 1) hx hb dL_law_1125 (by decide) ?_
    refine lv_iadd hx hb dL_law_1126 ?_
    refine va_sld hx hb hX hbl hbA hS (lw_in1 (j := 1) (by omega) hL) dL_law_1127 ?_
    refine ct_top e1 ?_
    refine cy_Vi (As := [.int v]) (rest := []) (wr := fW g hn ha adn ada cI hei dra rai σ cre gai see fou z ++ oW o cL f) (W0 := fW g hn ha adn ada cI hei dra rai σ cre gai see fou z ++ (mM h ad cI thr hei dra rai σ flo lak row ++ oW o cL f)) (W1 := fun w => fW g hn ha adn ada cI hei dra rai σ cre gai see fou z ++ ((mM h ad cI w.1 hei dra rai σ w.2 lak row) ++ oW o cL f)) (cells1 := C + 72) (slots1 := S + 596) ⟨hx, hb, hml, hown, hts⟩ (c_X2_advise l D cI cJ h ad thr hei dra rai σ flo lak row ht9 hi1 hdm v) (cwV 1 hts gL_law_X2_advise rfl rfl rfl (by decide +kernel) ⟨Nat.le_of_ble_eq_true rfl, Nat.le_of_ble_eq_true rfl⟩) hK hP hD hS hA hY [25, 26, 27, 28, 29, 30, 31, 32, 33, 34, 35, 36] [0, 1, 2, 3, 4, 5, 6, 7, 8, 9, 10, 11, 12, 13, 14, 15, 16, 17, 18, 19, 20, 21, 22, 23, 24, 37] ⟨rfl, rfl, rfl, rfl, rfl⟩ [0, 1, 2, 3, 4, 5, 6, 7, 8, 9, 10, 11, 12, 13, 14, 15, 16, 17, 18, 19, 20, 21, 22, 23, 24, 26, 27, 28, 29, 30, 31, 32, 33, 34, 35, 36, 37, 25] rfl (fun _ => rfl) [0, 1] rfl (va_recv hK hP (ci := 2) (q0 := 25) rfl rfl) rfl hl.1 rfl (Nat.le_of_ble_eq_true rfl) (Nat.add_assoc _ _ _) (Nat.add_assoc _ _ _) (lw_hc hC (Nat.le_of_ble_eq_true rfl) (Nat.le_of_ble_eq_true rfl)) dL_law_1128 (fun r w H locs hm hP hD hS => ?_)
    obtain ⟨w1, w2⟩ := w
    have hu : k = w1 ∧ ¬ k = 0 := by
      rcases hw with ⟨rfl, h1, -⟩ | ⟨rfl, -, h1⟩
      · exact absurd h1 (by decide +kernel)
      · rcases hm with ⟨g1, g2⟩ | ⟨g1, -⟩
        · exact ⟨g2.symm, by decide⟩
        · exact absurd g1 h1
    obtain ⟨rfl, hk0⟩ := hu
    replace hP : va_P D vwCl (fW g hn ha adn ada cI hei dra rai σ cre gai see fou z ++ (mM h ad cI k hei dra rai σ w2 lak row ++ oW o cL f)) H := hP
    replace hD : va_D (lw_A s) (fW g hn ha adn ada cI hei dra rai σ cre gai see fou z ++ (mM h ad cI k hei dra rai σ w2 lak row ++ oW o cL f)) := hD
    refine lv_istore (lv' := [(6, .int r), (5, .int k), (0, .ref b), (1, .ref g), (2, .ref h), (3, .ref o), (4, .int (nI (4 * i)))]) hx hb dL_law_1131 hl (by decide) rfl (fun ls hl => ?_)
    refine lv_aload_n hx hb dL_law_1133 rfl (lv_at hl 4 rfl) ?_
    refine ct_Vi (As := []) (rest := []) (wr := fW g hn ha adn ada cI hei dra rai σ cre gai see fou z ++ oW o cL f) (W0 := fW g hn ha adn ada cI hei dra rai σ cre gai see fou z ++ (mM h ad cI k hei dra rai σ w2 lak row ++ oW o cL f)) (W1 := fun _ => fW g hn ha adn ada cI hei dra rai σ cre gai see fou z ++ (mM h ad cI k hei dra rai σ w2 lak row ++ oW o cL f)) (cells1 := C + 72) (slots1 := S + 596) ⟨hx, hb, hml, hown, hts⟩ (c_X2_thrown l D cI h ad k hei (m_wat σ) (m_dam σ) (m_wea σ) dra (m_peo σ) rai (q_num (nI (m_t σ)) (m_bro σ) (m_drd σ) (m_lef σ)) w2 lak row) (cwV 0 hts gL_law_X2_thrown rfl rfl rfl (by decide +kernel) ⟨Nat.le_of_ble_eq_true rfl, Nat.le_of_ble_eq_true rfl⟩) hK hP hD hS hA [25, 26, 27, 28, 29, 30, 31, 32, 33, 34, 35, 36] [0, 1, 2, 3, 4, 5, 6, 7, 8, 9, 10, 11, 12, 13, 14, 15, 16, 17, 18, 19, 20, 21, 22, 23, 24, 37] ⟨rfl, rfl, rfl, rfl, rfl⟩ [0, 1, 2, 3, 4, 5, 6, 7, 8, 9, 10, 11, 12, 13, 14, 15, 16, 17, 18, 19, 20, 21, 22, 23, 24, 26, 27, 28, 29, 30, 31, 32, 33, 34, 35, 36, 37, 25] rfl (fun _ => rfl) [0] rfl (va_recv hK hP (ci := 2) (q0 := 25) rfl rfl) rfl hl.1 rfl (Nat.le_of_ble_eq_true rfl) rfl rfl (lw_hc hC (Nat.le_of_ble_eq_true rfl) (Nat.le_of_ble_eq_true rfl)) dL_law_1134 (fun r9 _ H locs hw9 hP hD hS => ?_)
    refine ct_top hw9 ?_
    refine lv_iload hx hb dL_law_1137 (lv_at hl 1 rfl) ?_
    refine lv_icmp_eq (tgt := 1144) hx hb dL_law_1139 (by decide) (fun _ => ?_) (fun hc => absurd rfl hc)
    refine lv_iload hx hb dL_law_1144 (lv_at hl 1 rfl) ?_
    refine lv_if_ne (tgt := 1161) hx hb dL_law_1146 (by decide) (fun _ => ?_) (fun hc => absurd hc hk0)
    refine lv_goto (tgt := 1219) hx hb dL_law_1161 (by decide) ?_
    refine W.widen (k := C + 80) (n := S + 700) (by omega) (by omega) ?_
    exact kk d0 hei dra rai σ cre gai see fou z k w2 lak row f H locs ls hd0 (inv_up hI (by omega)) (by omega) hP hD hS (lv_sub hl [2, 3, 4, 5, 6] rfl)
  · skip
    obtain ⟨rfl, r0, hp0, hf0⟩ := hw
    replace hP : va_P D vwCl (fW g hn ha adn ada cI hei dra rai σ cre gai see fou u ++ (mM h ad cI thr hei dra rai σ flo lak row ++ oW o cL f1)) H := hP
    replace hD : va_D (lw_A s) (fW g hn ha adn ada cI hei dra rai σ cre gai see fou u ++ (mM h ad cI thr hei dra rai σ flo lak row ++ oW o cL f1)) := hD
    refine lv_istore (lv' := [(5, .int 0), (0, .ref b), (1, .ref g), (2, .ref h), (3, .ref o), (4, .int (nI (4 * i)))]) hx hb dL_law_1119 hl (by decide) rfl (fun ls hl => ?_)
    refine lv_aload_n hx hb dL_law_1121 rfl (lv_at hl 3 rfl) ?_
    refine lv_aload_n hx hb dL_law_1122 rfl (lv_at hl 1 rfl) ?_
    refine lv_iload hx hb dL_law_1123 (lv_at hl 5 rfl) ?_
    refine lv_iconst (v := nI 1) hx hb dL_law_1125 (by decide) ?_
    refine lv_iadd hx hb dL_law_1126 ?_
    refine va_sld hx hb hX hbl hbA hS (lw_in1 (j := 1) (by omega) hL) dL_law_1127 ?_
    refine ct_top e1 ?_
    refine cy_Vi (As := [.int v]) (rest := []) (wr := fW g hn ha adn ada cI hei dra rai σ cre gai see fou u ++ oW o cL f1) (W0 := fW g hn ha adn ada cI hei dra rai σ cre gai see fou u ++ (mM h ad cI thr hei dra rai σ flo lak row ++ oW o cL f1)) (W1 := fun w => fW g hn ha adn ada cI hei dra rai σ cre gai see fou u ++ ((mM h ad cI w.1 hei dra rai σ w.2 lak row) ++ oW o cL f1)) (cells1 := C + 72) (slots1 := S + 596) ⟨hx, hb, hml, hown, hts⟩ (c_X2_advise l D cI cJ h ad thr hei dra rai σ flo lak row ht9 hi1 hdm v) (cwV 1 hts gL_law_X2_advise rfl rfl rfl (by decide +kernel) ⟨Nat.le_of_ble_eq_true rfl, Nat.le_of_ble_eq_true rfl⟩) hK hP hD hS hA hY [25, 26, 27, 28, 29, 30, 31, 32, 33, 34, 35, 36] [0, 1, 2, 3, 4, 5, 6, 7, 8, 9, 10, 11, 12, 13, 14, 15, 16, 17, 18, 19, 20, 21, 22, 23, 24, 37] ⟨rfl, rfl, rfl, rfl, rfl⟩ [0, 1, 2, 3, 4, 5, 6, 7, 8, 9, 10, 11, 12, 13, 14, 15, 16, 17, 18, 19, 20, 21, 22, 23, 24, 26, 27, 28, 29, 30, 31, 32, 33, 34, 35, 36, 37, 25] rfl (fun _ => rfl) [0, 1] rfl (va_recv hK hP (ci := 2) (q0 := 25) rfl rfl) rfl hl.1 rfl (Nat.le_of_ble_eq_true rfl) (Nat.add_assoc _ _ _) (Nat.add_assoc _ _ _) (lw_hc hC (Nat.le_of_ble_eq_true rfl) (Nat.le_of_ble_eq_true rfl)) dL_law_1128 (fun r w H locs hm hP hD hS => ?_)
    obtain ⟨w1, w2⟩ := w
    have hu : 0 = w1 ∧ r0 = r := by
      rcases hm with ⟨g1, -⟩ | ⟨-, g2, g3⟩
      · exact absurd hp0.1 g1
      · exact ⟨g2.symm, hp0.2.trans g3.symm⟩
    obtain ⟨rfl, rfl⟩ := hu
    replace hP : va_P D vwCl (fW g hn ha adn ada cI hei dra rai σ cre gai see fou u ++ (mM h ad cI 0 hei dra rai σ w2 lak row ++ oW o cL f1)) H := hP
    replace hD : va_D (lw_A s) (fW g hn ha adn ada cI hei dra rai σ cre gai see fou u ++ (mM h ad cI 0 hei dra rai σ w2 lak row ++ oW o cL f1)) := hD
    refine lv_istore (lv' := [(6, .int r0), (5, .int 0), (0, .ref b), (1, .ref g), (2, .ref h), (3, .ref o), (4, .int (nI (4 * i)))]) hx hb dL_law_1131 hl (by decide) rfl (fun ls hl => ?_)
    refine lv_aload_n hx hb dL_law_1133 rfl (lv_at hl 4 rfl) ?_
    refine ct_Vi (As := []) (rest := []) (wr := fW g hn ha adn ada cI hei dra rai σ cre gai see fou u ++ oW o cL f1) (W0 := fW g hn ha adn ada cI hei dra rai σ cre gai see fou u ++ (mM h ad cI 0 hei dra rai σ w2 lak row ++ oW o cL f1)) (W1 := fun _ => fW g hn ha adn ada cI hei dra rai σ cre gai see fou u ++ (mM h ad cI 0 hei dra rai σ w2 lak row ++ oW o cL f1)) (cells1 := C + 72) (slots1 := S + 596) ⟨hx, hb, hml, hown, hts⟩ (c_X2_thrown l D cI h ad 0 hei (m_wat σ) (m_dam σ) (m_wea σ) dra (m_peo σ) rai (q_num (nI (m_t σ)) (m_bro σ) (m_drd σ) (m_lef σ)) w2 lak row) (cwV 0 hts gL_law_X2_thrown rfl rfl rfl (by decide +kernel) ⟨Nat.le_of_ble_eq_true rfl, Nat.le_of_ble_eq_true rfl⟩) hK hP hD hS hA [25, 26, 27, 28, 29, 30, 31, 32, 33, 34, 35, 36] [0, 1, 2, 3, 4, 5, 6, 7, 8, 9, 10, 11, 12, 13, 14, 15, 16, 17, 18, 19, 20, 21, 22, 23, 24, 37] ⟨rfl, rfl, rfl, rfl, rfl⟩ [0, 1, 2, 3, 4, 5, 6, 7, 8, 9, 10, 11, 12, 13, 14, 15, 16, 17, 18, 19, 20, 21, 22, 23, 24, 26, 27, 28, 29, 30, 31, 32, 33, 34, 35, 36, 37, 25] rfl (fun _ => rfl) [0] rfl (va_recv hK hP (ci := 2) (q0 := 25) rfl rfl) rfl hl.1 rfl (Nat.le_of_ble_eq_true rfl) rfl rfl (lw_hc hC (Nat.le_of_ble_eq_true rfl) (Nat.le_of_ble_eq_true rfl)) dL_law_1134 (fun r9 _ H locs hw9 hP hD hS => ?_)
    refine ct_top hw9 ?_
    refine lv_iload hx hb dL_law_1137 (lv_at hl 1 rfl) ?_
    refine lv_icmp_eq (tgt := 1144) hx hb dL_law_1139 (by decide) (fun _ => ?_) (fun hc => absurd rfl hc)
    refine lv_iload hx hb dL_law_1144 (lv_at hl 1 rfl) ?_
    refine lv_if_ne (tgt := 1161) hx hb dL_law_1146 (by decide) (fun hc => absurd rfl hc) (fun _ => ?_)
    refine lv_aload_n hx hb dL_law_1149 rfl (lv_at hl 5 rfl) ?_
    refine lv_iconst (v := 0) hx hb dL_law_1150 (by decide) ?_
    refine va_lald (cl := vwCl) (f := f1) hx hb hK hP 37 2 rfl rfl z_in0 dL_law_1151 ?_
    refine lv_iload hx hb dL_law_1152 (lv_at hl 0 rfl) ?_
    refine lv_i2l (v := Int32.toInt64 r0) hx hb dL_law_1154 rfl ?_
    refine lv_lcmp0 hx hb hf0 dL_law_1155 ?_
    refine lv_if_eq (tgt := 1161) hx hb dL_law_1156 (by decide) (fun _ => ?_) (fun hc => absurd rfl hc)
    refine lv_goto (tgt := 1219) hx hb dL_law_1161 (by decide) ?_
    refine W.widen (k := C + 80) (n := S + 700) (by omega) (by omega) ?_
    exact kk d0 hei dra rai σ cre gai see fou u 0 w2 lak row f1 H locs ls hd0 (inv_up hI (by omega)) (by omega) hP hD hS (lv_sub hl [2, 3, 4, 5, 6] rfl)
