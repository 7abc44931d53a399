set_option maxHeartbeats 4000000 in
set_option maxRecDepth 100000 in
theorem law_raise {p : Program} {l : Launch} {e : Env} {s : State} {m : MethodId} {below : List Frame} {meth : Method} {c : Code} {b L : Nat} {xs : Nat → Int32} {D : va_G} {cI cJ cL : ClassId} {sa1 sa2 : Nat} {g hn ha : Nat} {adn ada : Nat → Nat} {h : Nat} {ad : Nat → Nat} {o i C S : Nat} {x y v : Int32} (C9 : lw_Cx p l m c b L xs D cI cJ cL sa1 sa2 s) (hL : L ≤ 2048) (hi : 4 * i + 4 ≤ L) (hC : C + 80 ≤ 840170 ∧ S + 700 ≤ 6575593) (kk : lw_Nx p l e s m below meth c b D cI cL g hn ha adn ada h ad o i (C + 80) (S + 700)) {d0 : Drawn} (hd0 : s.drawn.sameBut d0 lw_cs) {hei dra rai : Nat → Int32} {σ : Ms} {cre gai see fou : Nat → Int32} {z : Nat → Nat → Int32} {thr : Int32} {flo lak row : Nat → Int32} {f : Nat → Int64} (hI : inv (28000 * (i : Int)) hei dra rai σ) (ht : m_t σ ≤ 48 * i) {H : Heap} {locs : List Loc} {ls : Array Slot} (e1 : xs (nI (4 * i) + nI 1).toNatClampNeg = x) (e2 : xs (nI (4 * i) + nI 2).toNatClampNeg = y) (e3 : xs (nI (4 * i) + nI 3).toNatClampNeg = v)
    (hP : va_P D vwCl (fW g hn ha adn ada cI hei dra rai σ cre gai see fou z ++ (mM h ad cI thr hei dra rai σ flo lak row ++ oW o cL f)) H) (hD : va_D (lw_A s) (fW g hn ha adn ada cI hei dra rai σ cre gai see fou z ++ (mM h ad cI thr hei dra rai σ flo lak row ++ oW o cL f))) (hS : va_S (lw_A s) s.heap H locs) (hl : lv_has ls 9 [(0, .ref b), (1, .ref g), (2, .ref h), (3, .ref o), (4, .int (nI (4 * i)))]) :
    W p l e room_1 (s.setDrawn d0) m #[Value.ref b] below meth c H locs C S (lw_Z below #[Value.ref b] s) (F0 m 120 ls []) := by
  obtain ⟨hx, hb, hml, hown, hts, hK, hT, hY, hX, hbl, hst⟩ := C9.drew d0
  have hA : ∀ q : Nat, (s.setDrawn d0).heap.size ≤ q → lw_A s q := fun _ h9 => h9
  have hbA : ¬ lw_A s b := Nat.not_le.mpr hbl
  have ht9 : m_t σ < 2 ^ 29 := by omega
  have hi1 := inv_1 hI
  have hw0 := inv_w hI
  have hdm := inv_dm hI
  replace hS : va_S (lw_A s) (s.setDrawn d0).heap H locs := hS
  refine lv_aload_n hx hb dL_law_120 rfl (lv_at hl 1 rfl) ?_
  refine lv_aload_n hx hb dL_law_121 rfl (lv_at hl 0 rfl) ?_
  refine lv_iload hx hb dL_law_122 (lv_at hl 4 rfl) ?_
  refine lv_iconst (v := nI 1) hx hb dL_law_124 (by decide) ?_
  refine lv_iadd hx hb dL_law_125 ?_
  refine va_sld hx hb hX hbl hbA hS (lw_in1 (j := 1) (by omega) hL) dL_law_126 ?_
  refine ct_top e1 ?_
  refine lv_aload_n hx hb dL_law_127 rfl (lv_at hl 0 rfl) ?_
  refine lv_iload hx hb dL_law_128 (lv_at hl 4 rfl) ?_
  refine lv_iconst (v := nI 2) hx hb dL_law_130 (by decide) ?_
  refine lv_iadd hx hb dL_law_131 ?_
  refine va_sld hx hb hX hbl hbA hS (lw_in1 (j := 2) (by omega) hL) dL_law_132 ?_
  refine ct_top e2 ?_
  refine lv_aload_n hx hb dL_law_133 rfl (lv_at hl 0 rfl) ?_
  refine lv_iload hx hb dL_law_134 (lv_at hl 4 rfl) ?_
  refine lv_iconst (v := nI 3) hx hb dL_law_136 (by decide) ?_
  refine lv_iadd hx hb dL_law_137 ?_
  refine va_sld hx hb hX hbl hbA hS (lw_in1 (j := 3) (by omega) hL) dL_law_138 ?_
  refine ct_top e3 ?_
  refine lv_aload_n hx hb dL_law_139 rfl (lv_at hl 3 rfl) ?_
  refine cz_Si (As := [.ref g, .int x, .int y, .int v, .ref o]) (rest := []) (wr := mM h ad cI thr hei dra rai σ flo lak row) (W0 := fW g hn ha adn ada cI hei dra rai σ cre gai see fou z ++ (mM h ad cI thr hei dra rai σ flo lak row ++ oW o cL f)) (W1 := z_w1 (fW g hn ha adn ada cI hei dra rai σ cre gai see fou z) (fun _ => (fW g hn ha adn ada cI (upd hei (q_at x y) v) dra rai σ cre gai see fou z)) (mM h ad cI thr hei dra rai σ flo lak row) o cL f) (cells1 := C + 3) (slots1 := S + 18) ⟨hx, hb, hml, hown, hts⟩ (c_L_raise l hst D cI cL sa1 sa2 g hn ha adn ada hei dra rai σ cre gai see fou z x y v o f) (vx_cwSW (hh := [(0, 12, 15, 13), (0, 12, 19, 15)]) 5 hts gL_law_L_raise rfl rfl rfl (by decide +kernel) ⟨Nat.le_of_ble_eq_true rfl, Nat.le_of_ble_eq_true rfl⟩) hK hP hD hS hA hT [0, 1, 2, 3, 4, 5, 6, 7, 8, 9, 10, 11, 12, 13, 14, 15, 16, 17, 18, 19, 20, 21, 22, 23, 24, 37] [25, 26, 27, 28, 29, 30, 31, 32, 33, 34, 35, 36] ⟨rfl, rfl, rfl, rfl, rfl⟩ [12, 13, 14, 15, 16, 17, 18, 19, 20, 21, 22, 23, 24, 25, 26, 27, 28, 29, 30, 31, 32, 33, 34, 35, 36, 0, 1, 2, 3, 4, 5, 6, 7, 8, 9, 10, 11, 37] rfl (fun u => by rcases u with _ | ⟨u, f1⟩ <;> rfl) [0, 2] rfl rfl hl.1 rfl (Nat.le_of_ble_eq_true rfl) rfl rfl (lw_hc hC (Nat.le_of_ble_eq_true rfl) (Nat.le_of_ble_eq_true rfl)) dL_law_140 (fun k u H locs hw hP hD hS => ?_)
  rcases u with _ | ⟨u, f1⟩
  · skip
    replace hP : va_P D vwCl (fW g hn ha adn ada cI hei dra rai σ cre gai see fou z ++ (mM h ad cI thr hei dra rai σ flo lak row ++ oW o cL f)) H := hP
    replace hD : va_D (lw_A s) (fW g hn ha adn ada cI hei dra rai σ cre gai see fou z ++ (mM h ad cI thr hei dra rai σ flo lak row ++ oW o cL f)) := hD
    refine lv_istore (lv' := [(5, .int k), (0, .ref b), (1, .ref g), (2, .ref h), (3, .ref o), (4, .int (nI (4 * i)))]) hx hb dL_law_143 hl (by decide) rfl (fun ls hl => ?_)
    refine lv_aload_n hx hb dL_law_145 rfl (lv_at hl 3 rfl) ?_
    refine lv_aload_n hx hb dL_law_146 rfl (lv_at hl 1 rfl) ?_
    refine lv_iload hx hb dL_law_147 (lv_at hl 5 rfl) ?_
    refine lv_iconst (v := nI 1) hx hb dL_law_149 (by decide) ?_
    refine lv_iadd hx hb dL_law_150 ?_
    refine va_sld hx hb hX hbl hbA hS (lw_in1 (j := 1) (by omega) hL) dL_law_151 ?_
    refine ct_top e1 ?_
    refine lv_aload_n hx hb dL_law_152 rfl (lv_at hl 1 rfl) ?_
    refine lv_iload hx hb dL_law_153 (lv_at hl 5 rfl) ?_
    refine lv_iconst (v := nI 2) hx hb dL_law_155 (by decide) ?_
    refine lv_iadd hx hb dL_law_156 ?_
    refine va_sld hx hb hX hbl hbA hS (lw_in1 (j := 2) (by omega) hL) dL_law_157 ?_
    refine ct_top e2 ?_
    refine lv_aload_n hx hb dL_law_158 rfl (lv_at hl 1 rfl) ?_
    refine lv_iload hx hb dL_law_159 (lv_at hl 5 rfl) ?_
    refine lv_iconst (v := nI 3) hx hb dL_law_161 (by decide) ?_
    refine lv_iadd hx hb dL_law_162 ?_
    refine va_sld hx hb hX hbl hbA hS (lw_in1 (j := 3) (by omega) hL) dL_law_163 ?_
    refine ct_top e3 ?_
    refine ct_Vi (As := [.int x, .int y, .int v]) (rest := []) (wr := fW g hn ha adn ada cI hei dra rai σ cre gai see fou z ++ oW o cL f) (W0 := fW g hn ha adn ada cI hei dra rai σ cre gai see fou z ++ (mM h ad cI thr hei dra rai σ flo lak row ++ oW o cL f)) (W1 := fun w => fW g hn ha adn ada cI hei dra rai σ cre gai see fou z ++ ((mW h ad cI w.1 w.2 (m_wat σ) (m_dam σ) (m_wea σ) dra (m_peo σ) rai (q_num (nI (m_t σ)) (m_bro σ) (m_drd σ) (m_lef σ)) flo lak row) ++ oW o cL f)) (cells1 := C + 3) (slots1 := S + 18) ⟨hx, hb, hml, hown, hts⟩ (c_X2_raise l D cI h ad thr hei (m_wat σ) (m_dam σ) (m_wea σ) dra (m_peo σ) rai (q_num (nI (m_t σ)) (m_bro σ) (m_drd σ) (m_lef σ)) flo lak row  x y v) (cwV 3 hts gL_law_X2_raise rfl rfl rfl (by decide +kernel) ⟨Nat.le_of_ble_eq_true rfl, Nat.le_of_ble_eq_true rfl⟩) hK hP hD hS hA [25, 26, 27, 28, 29, 30, 31, 32, 33, 34, 35, 36] [0, 1, 2, 3, 4, 5, 6, 7, 8, 9, 10, 11, 12, 13, 14, 15, 16, 17, 18, 19, 20, 21, 22, 23, 24, 37] ⟨rfl, rfl, rfl, rfl, rfl⟩ [0, 1, 2, 3, 4, 5, 6, 7, 8, 9, 10, 11, 12, 13, 14, 15, 16, 17, 18, 19, 20, 21, 22, 23, 24, 26, 27, 28, 29, 30, 31, 32, 33, 34, 35, 36, 37, 25] rfl (fun _ => rfl) [0] rfl (va_recv hK hP (ci := 2) (q0 := 25) rfl rfl) rfl hl.1 rfl (Nat.le_of_ble_eq_true rfl) rfl rfl (lw_hc hC (Nat.le_of_ble_eq_true rfl) (Nat.le_of_ble_eq_true rfl)) dL_law_164 (fun r w H locs hm hP hD hS => ?_)
    obtain ⟨w1, w2⟩ := w
    have hu : k = w1 ∧ ¬ k = 0 ∧ hei = w2 := by
      rcases hw with ⟨rfl, ⟨-, h1⟩ | ⟨h1, -⟩⟩ | ⟨rfl, ⟨h1, -⟩ | ⟨-, h1, h2⟩⟩
      · rcases hm with ⟨g1, g2, g3⟩ | ⟨g1, -⟩ | ⟨g1, -⟩
        · exact ⟨g2.symm, by decide, g3.symm⟩
        · exact absurd g1 h1
        · exact absurd g1 h1
      · exact absurd h1 (by decide +kernel)
      · exact absurd h1 (by decide +kernel)
      · rcases hm with ⟨g1, -⟩ | ⟨-, -, g2, g3⟩ | ⟨-, g1, -⟩
        · exact absurd h1 g1
        · exact ⟨g2.symm, by decide, g3.symm⟩
        · exact absurd g1 h2
    obtain ⟨rfl, hk0, rfl⟩ := hu
    replace hP : va_P D vwCl (fW g hn ha adn ada cI hei dra rai σ cre gai see fou z ++ (mM h ad cI k hei dra rai σ flo lak row ++ oW o cL f)) H := hP
    replace hD : va_D (lw_A s) (fW g hn ha adn ada cI hei dra rai σ cre gai see fou z ++ (mM h ad cI k hei dra rai σ flo lak row ++ oW o cL f)) := hD
    refine lv_istore (lv' := [(6, .int r), (5, .int k), (0, .ref b), (1, .ref g), (2, .ref h), (3, .ref o), (4, .int (nI (4 * i)))]) hx hb dL_law_167 hl (by decide) rfl (fun ls hl => ?_)
    refine lv_aload_n hx hb dL_law_169 rfl (lv_at hl 4 rfl) ?_
    refine ct_Vi (As := []) (rest := []) (wr := fW g hn ha adn ada cI hei dra rai σ cre gai see fou z ++ oW o cL f) (W0 := fW g hn ha adn ada cI hei dra rai σ cre gai see fou z ++ (mM h ad cI k hei dra rai σ flo lak row ++ oW o cL f)) (W1 := fun _ => fW g hn ha adn ada cI hei dra rai σ cre gai see fou z ++ (mM h ad cI k hei dra rai σ flo lak row ++ oW o cL f)) (cells1 := C + 3) (slots1 := S + 18) ⟨hx, hb, hml, hown, hts⟩ (c_X2_thrown l D cI h ad k hei (m_wat σ) (m_dam σ) (m_wea σ) dra (m_peo σ) rai (q_num (nI (m_t σ)) (m_bro σ) (m_drd σ) (m_lef σ)) flo lak row) (cwV 0 hts gL_law_X2_thrown rfl rfl rfl (by decide +kernel) ⟨Nat.le_of_ble_eq_true rfl, Nat.le_of_ble_eq_true rfl⟩) hK hP hD hS hA [25, 26, 27, 28, 29, 30, 31, 32, 33, 34, 35, 36] [0, 1, 2, 3, 4, 5, 6, 7, 8, 9, 10, 11, 12, 13, 14, 15, 16, 17, 18, 19, 20, 21, 22, 23, 24, 37] ⟨rfl, rfl, rfl, rfl, rfl⟩ [0, 1, 2, 3, 4, 5, 6, 7, 8, 9, 10, 11, 12, 13, 14, 15, 16, 17, 18, 19, 20, 21, 22, 23, 24, 26, 27, 28, 29, 30, 31, 32, 33, 34, 35, 36, 37, 25] rfl (fun _ => rfl) [0] rfl (va_recv hK hP (ci := 2) (q0 := 25) rfl rfl) rfl hl.1 rfl (Nat.le_of_ble_eq_true rfl) rfl rfl (lw_hc hC (Nat.le_of_ble_eq_true rfl) (Nat.le_of_ble_eq_true rfl)) dL_law_170 (fun r9 _ H locs hw9 hP hD hS => ?_)
    refine ct_top hw9 ?_
    refine lv_iload hx hb dL_law_173 (lv_at hl 1 rfl) ?_
    refine lv_icmp_eq (tgt := 180) hx hb dL_law_175 (by decide) (fun _ => ?_) (fun hc => absurd rfl hc)
    refine lv_iload hx hb dL_law_180 (lv_at hl 1 rfl) ?_
    refine lv_if_ne (tgt := 197) hx hb dL_law_182 (by decide) (fun _ => ?_) (fun hc => absurd hc hk0)
    refine lv_goto (tgt := 1219) hx hb dL_law_197 (by decide) ?_
    refine W.widen (k := C + 80) (n := S + 700) (by omega) (by omega) ?_
    exact kk d0 hei dra rai σ cre gai see fou z k flo lak row f H locs ls hd0 (inv_up hI (by omega)) (by omega) hP hD hS (lv_sub hl [2, 3, 4, 5, 6] rfl)
  · skip
    obtain ⟨rfl, r0, hp0, hf0⟩ := hw
    replace hP : va_P D vwCl (fW g hn ha adn ada cI (upd hei (q_at x y) v) dra rai σ cre gai see fou z ++ (mM h ad cI thr hei dra rai σ flo lak row ++ oW o cL f1)) H := hP
    replace hD : va_D (lw_A s) (fW g hn ha adn ada cI (upd hei (q_at x y) v) dra rai σ cre gai see fou z ++ (mM h ad cI thr hei dra rai σ flo lak row ++ oW o cL f1)) := hD
    refine lv_istore (lv' := [(5, .int 0), (0, .ref b), (1, .ref g), (2, .ref h), (3, .ref o), (4, .int (nI (4 * i)))]) hx hb dL_law_143 hl (by decide) rfl (fun ls hl => ?_)
    refine lv_aload_n hx hb dL_law_145 rfl (lv_at hl 3 rfl) ?_
    refine lv_aload_n hx hb dL_law_146 rfl (lv_at hl 1 rfl) ?_
    refine lv_iload hx hb dL_law_147 (lv_at hl 5 rfl) ?_
    refine lv_iconst (v := nI 1) hx hb dL_law_149 (by decide) ?_
    refine lv_iadd hx hb dL_law_150 ?_
    refine va_sld hx hb hX hbl hbA hS (lw_in1 (j := 1) (by omega) hL) dL_law_151 ?_
    refine ct_top e1 ?_
    refine lv_aload_n hx hb dL_law_152 rfl (lv_at hl 1 rfl) ?_
    refine lv_iload hx hb dL_law_153 (lv_at hl 5 rfl) ?_
    refine lv_iconst (v := nI 2) hx hb dL_law_155 (by decide) ?_
    refine lv_iadd hx hb dL_law_156 ?_
    refine va_sld hx hb hX hbl hbA hS (lw_in1 (j := 2) (by omega) hL) dL_law_157 ?_
    refine ct_top e2 ?_
    refine lv_aload_n hx hb dL_law_158 rfl (lv_at hl 1 rfl) ?_
    refine lv_iload hx hb dL_law_159 (lv_at hl 5 rfl) ?_
    refine lv_iconst (v := nI 3) hx hb dL_law_161 (by decide) ?_
    refine lv_iadd hx hb dL_law_162 ?_
    refine va_sld hx hb hX hbl hbA hS (lw_in1 (j := 3) (by omega) hL) dL_law_163 ?_
    refine ct_top e3 ?_
    refine ct_Vi (As := [.int x, .int y, .int v]) (rest := []) (wr := fW g hn ha adn ada cI (upd hei (q_at x y) v) dra rai σ cre gai see fou z ++ oW o cL f1) (W0 := fW g hn ha adn ada cI (upd hei (q_at x y) v) dra rai σ cre gai see fou z ++ (mM h ad cI thr hei dra rai σ flo lak row ++ oW o cL f1)) (W1 := fun w => fW g hn ha adn ada cI (upd hei (q_at x y) v) dra rai σ cre gai see fou z ++ ((mW h ad cI w.1 w.2 (m_wat σ) (m_dam σ) (m_wea σ) dra (m_peo σ) rai (q_num (nI (m_t σ)) (m_bro σ) (m_drd σ) (m_lef σ)) flo lak row) ++ oW o cL f1)) (cells1 := C + 3) (slots1 := S + 18) ⟨hx, hb, hml, hown, hts⟩ (c_X2_raise l D cI h ad thr hei (m_wat σ) (m_dam σ) (m_wea σ) dra (m_peo σ) rai (q_num (nI (m_t σ)) (m_bro σ) (m_drd σ) (m_lef σ)) flo lak row  x y v) (cwV 3 hts gL_law_X2_raise rfl rfl rfl (by decide +kernel) ⟨Nat.le_of_ble_eq_true rfl, Nat.le_of_ble_eq_true rfl⟩) hK hP hD hS hA [25, 26, 27, 28, 29, 30, 31, 32, 33, 34, 35, 36] [0, 1, 2, 3, 4, 5, 6, 7, 8, 9, 10, 11, 12, 13, 14, 15, 16, 17, 18, 19, 20, 21, 22, 23, 24, 37] ⟨rfl, rfl, rfl, rfl, rfl⟩ [0, 1, 2, 3, 4, 5, 6, 7, 8, 9, 10, 11, 12, 13, 14, 15, 16, 17, 18, 19, 20, 21, 22, 23, 24, 26, 27, 28, 29, 30, 31, 32, 33, 34, 35, 36, 37, 25] rfl (fun _ => rfl) [0] rfl (va_recv hK hP (ci := 2) (q0 := 25) rfl rfl) rfl hl.1 rfl (Nat.le_of_ble_eq_true rfl) rfl rfl (lw_hc hC (Nat.le_of_ble_eq_true rfl) (Nat.le_of_ble_eq_true rfl)) dL_law_164 (fun r w H locs hm hP hD hS => ?_)
    obtain ⟨w1, w2⟩ := w
    have hu : 0 = w1 ∧ r0 = r ∧ upd hei (q_at x y) v = w2 := by
      rcases hm with ⟨g1, -⟩ | ⟨-, g1, -⟩ | ⟨-, -, g2, g3, g4⟩
      · exact absurd hp0.1 g1
      · exact absurd hp0.2.1 g1
      · exact ⟨g2.symm, hp0.2.2.trans g3.symm, g4.symm⟩
    obtain ⟨rfl, rfl, rfl⟩ := hu
    replace hP : va_P D vwCl (fW g hn ha adn ada cI (upd hei (q_at x y) v) dra rai σ cre gai see fou z ++ (mM h ad cI 0 (upd hei (q_at x y) v) dra rai σ flo lak row ++ oW o cL f1)) H := hP
    replace hD : va_D (lw_A s) (fW g hn ha adn ada cI (upd hei (q_at x y) v) dra rai σ cre gai see fou z ++ (mM h ad cI 0 (upd hei (q_at x y) v) dra rai σ flo lak row ++ oW o cL f1)) := hD
    refine lv_istore (lv' := [(6, .int r0), (5, .int 0), (0, .ref b), (1, .ref g), (2, .ref h), (3, .ref o), (4, .int (nI (4 * i)))]) hx hb dL_law_167 hl (by decide) rfl (fun ls hl => ?_)
    refine lv_aload_n hx hb dL_law_169 rfl (lv_at hl 4 rfl) ?_
    refine ct_Vi (As := []) (rest := []) (wr := fW g hn ha adn ada cI (upd hei (q_at x y) v) dra rai σ cre gai see fou z ++ oW o cL f1) (W0 := fW g hn ha adn ada cI (upd hei (q_at x y) v) dra rai σ cre gai see fou z ++ (mM h ad cI 0 (upd hei (q_at x y) v) dra rai σ flo lak row ++ oW o cL f1)) (W1 := fun _ => fW g hn ha adn ada cI (upd hei (q_at x y) v) dra rai σ cre gai see fou z ++ (mM h ad cI 0 (upd hei (q_at x y) v) dra rai σ flo lak row ++ oW o cL f1)) (cells1 := C + 3) (slots1 := S + 18) ⟨hx, hb, hml, hown, hts⟩ (c_X2_thrown l D cI h ad 0 (upd hei (q_at x y) v) (m_wat σ) (m_dam σ) (m_wea σ) dra (m_peo σ) rai (q_num (nI (m_t σ)) (m_bro σ) (m_drd σ) (m_lef σ)) flo lak row) (cwV 0 hts gL_law_X2_thrown rfl rfl rfl (by decide +kernel) ⟨Nat.le_of_ble_eq_true rfl, Nat.le_of_ble_eq_true rfl⟩) hK hP hD hS hA [25, 26, 27, 28, 29, 30, 31, 32, 33, 34, 35, 36] [0, 1, 2, 3, 4, 5, 6, 7, 8, 9, 10, 11, 12, 13, 14, 15, 16, 17, 18, 19, 20, 21, 22, 23, 24, 37] ⟨rfl, rfl, rfl, rfl, rfl⟩ [0, 1, 2, 3, 4, 5, 6, 7, 8, 9, 10, 11, 12, 13, 14, 15, 16, 17, 18, 19, 20, 21, 22, 23, 24, 26, 27, 28, 29, 30, 31, 32, 33, 34, 35, 36, 37, 25] rfl (fun _ => rfl) [0] rfl (va_recv hK hP (ci := 2) (q0 := 25) rfl rfl) rfl hl.1 rfl (Nat.le_of_ble_eq_true rfl) rfl rfl (lw_hc hC (Nat.le_of_ble_eq_true rfl) (Nat.le_of_ble_eq_true rfl)) dL_law_170 (fun r9 _ H locs hw9 hP hD hS => ?_)
    refine ct_top hw9 ?_
    refine lv_iload hx hb dL_law_173 (lv_at hl 1 rfl) ?_
    refine lv_icmp_eq (tgt := 180) hx hb dL_law_175 (by decide) (fun _ => ?_) (fun hc => absurd rfl hc)
    refine lv_iload hx hb dL_law_180 (lv_at hl 1 rfl) ?_
    refine lv_if_ne (tgt := 197) hx hb dL_law_182 (by decide) (fun hc => absurd rfl hc) (fun _ => ?_)
    refine lv_aload_n hx hb dL_law_185 rfl (lv_at hl 5 rfl) ?_
    refine lv_iconst (v := 0) hx hb dL_law_186 (by decide) ?_
    refine va_lald (cl := vwCl) (f := f1) hx hb hK hP 37 2 rfl rfl z_in0 dL_law_187 ?_
    refine lv_iload hx hb dL_law_188 (lv_at hl 0 rfl) ?_
    refine lv_i2l (v := Int32.toInt64 r0) hx hb dL_law_190 rfl ?_
    refine lv_lcmp0 hx hb hf0 dL_law_191 ?_
    refine lv_if_eq (tgt := 197) hx hb dL_law_192 (by decide) (fun _ => ?_) (fun hc => absurd rfl hc)
    refine lv_goto (tgt := 1219) hx hb dL_law_197 (by decide) ?_
    refine W.widen (k := C + 80) (n := S + 700) (by omega) (by omega) ?_
    exact kk d0 (upd hei (q_at x y) v) dra rai σ cre gai see fou z 0 flo lak row f1 H locs ls hd0 (inv_up (inv_hei hI _ hp0.2.1) (by omega)) (by omega) hP hD hS (lv_sub hl [2, 3, 4, 5, 6] rfl)
set_option maxHeartbeats 4000000 in
set_option maxRecDepth 100000 in
theorem law_pour {p : Program} {l : Launch} {e : Env} {s : State} {m : MethodId} {below : List Frame} {meth : Method} {c : Code} {b L : Nat} {xs : Nat → Int32} {D : va_G} {cI cJ cL : ClassId} {sa1 sa2 : Nat} {g hn ha : Nat} {adn ada : Nat → Nat} {h : Nat} {ad : Nat → Nat} {o i C S : Nat} {x y v : Int32} (C9 : lw_Cx p l m c b L xs D cI cJ cL sa1 sa2 s) (hL : L ≤ 2048) (hi : 4 * i + 4 ≤ L) (hC : C + 80 ≤ 840170 ∧ S + 700 ≤ 6575593) (kk : lw_Nx p l e s m below meth c b D cI cL g hn ha adn ada h ad o i (C + 80) (S + 700)) {d0 : Drawn} (hd0 : s.drawn.sameBut d0 lw_cs) {hei dra rai : Nat → Int32} {σ : Ms} {cre gai see fou : Nat → Int32} {z : Nat → Nat → Int32} {thr : Int32} {flo lak row : Nat → Int32} {f : Nat → Int64} (hI : inv (28000 * (i : Int)) hei dra rai σ) (ht : m_t σ ≤ 48 * i) {H : Heap} {locs : List Loc} {ls : Array Slot} (e1 : xs (nI (4 * i) + nI 1).toNatClampNeg = x) (e2 : xs (nI (4 * i) + nI 2).toNatClampNeg = y) (e3 : xs (nI (4 * i) + nI 3).toNatClampNeg = v)
    (hP : va_P D vwCl (fW g hn ha adn ada cI hei dra rai σ cre gai see fou z ++ (mM h ad cI thr hei dra rai σ flo lak row ++ oW o cL f)) H) (hD : va_D (lw_A s) (fW g hn ha adn ada cI hei dra rai σ cre gai see fou z ++ (mM h ad cI thr hei dra rai σ flo lak row ++ oW o cL f))) (hS : va_S (lw_A s) s.heap H locs) (hl : lv_has ls 9 [(0, .ref b), (1, .ref g), (2, .ref h), (3, .ref o), (4, .int (nI (4 * i)))]) :
    W p l e room_1 (s.setDrawn d0) m #[Value.ref b] below meth c H locs C S (lw_Z below #[Value.ref b] s) (F0 m 200 ls []) := by
  obtain ⟨hx, hb, hml, hown, hts, hK, hT, hY, hX, hbl, hst⟩ := C9.drew d0
  have hA : ∀ q : Nat, (s.setDrawn d0).heap.size ≤ q → lw_A s q := fun _ h9 => h9
  have hbA : ¬ lw_A s b := Nat.not_le.mpr hbl
  have ht9 : m_t σ < 2 ^ 29 := by omega
  have hi1 := inv_1 hI
  have hw0 := inv_w hI
  have hdm := inv_dm hI
  replace hS : va_S (lw_A s) (s.setDrawn d0).heap H locs := hS
  refine lv_aload_n hx hb dL_law_200 rfl (lv_at hl 1 rfl) ?_
  refine lv_aload_n hx hb dL_law_201 rfl (lv_at hl 0 rfl) ?_
  refine lv_iload hx hb dL_law_202 (lv_at hl 4 rfl) ?_
  refine lv_iconst (v := nI 1) hx hb dL_law_204 (by decide) ?_
  refine lv_iadd hx hb dL_law_205 ?_
  refine va_sld hx hb hX hbl hbA hS (lw_in1 (j := 1) (by omega) hL) dL_law_206 ?_
  refine ct_top e1 ?_
  refine lv_aload_n hx hb dL_law_207 rfl (lv_at hl 0 rfl) ?_
  refine lv_iload hx hb dL_law_208 (lv_at hl 4 rfl) ?_
  refine lv_iconst (v := nI 2) hx hb dL_law_210 (by decide) ?_
  refine lv_iadd hx hb dL_law_211 ?_
  refine va_sld hx hb hX hbl hbA hS (lw_in1 (j := 2) (by omega) hL) dL_law_212 ?_
  refine ct_top e2 ?_
  refine lv_aload_n hx hb dL_law_213 rfl (lv_at hl 0 rfl) ?_
  refine lv_iload hx hb dL_law_214 (lv_at hl 4 rfl) ?_
  refine lv_iconst (v := nI 3) hx hb dL_law_216 (by decide) ?_
  refine lv_iadd hx hb dL_law_217 ?_
  refine va_sld hx hb hX hbl hbA hS (lw_in1 (j := 3) (by omega) hL) dL_law_218 ?_
  refine ct_top e3 ?_
  refine lv_aload_n hx hb dL_law_219 rfl (lv_at hl 3 rfl) ?_
  refine cz_Si (As := [.ref g, .int x, .int y, .int v, .ref o]) (rest := []) (wr := mM h ad cI thr hei dra rai σ flo lak row) (W0 := fW g hn ha adn ada cI hei dra rai σ cre gai see fou z ++ (mM h ad cI thr hei dra rai σ flo lak row ++ oW o cL f)) (W1 := z_w1 (fW g hn ha adn ada cI hei dra rai σ cre gai see fou z) (fun _ => (fW g hn ha adn ada cI hei dra rai (upd (m_wat σ) (q_at x y) (i_max 0 (m_wat σ (q_at x y) + v)), m_dam σ, m_wea σ, m_peo σ, m_t σ, m_bro σ, m_drd σ, m_lef σ) cre gai see fou z)) (mM h ad cI thr hei dra rai σ flo lak row) o cL f) (cells1 := C + 3) (slots1 := S + 18) ⟨hx, hb, hml, hown, hts⟩ (c_L_pour l hst D cI cL sa1 sa2 g hn ha adn ada hei dra rai σ cre gai see fou z x y v o f) (vx_cwSW (hh := [(0, 12, 15, 13), (0, 12, 19, 15)]) 5 hts gL_law_L_pour rfl rfl rfl (by decide +kernel) ⟨Nat.le_of_ble_eq_true rfl, Nat.le_of_ble_eq_true rfl⟩) hK hP hD hS hA hT [0, 1, 2, 3, 4, 5, 6, 7, 8, 9, 10, 11, 12, 13, 14, 15, 16, 17, 18, 19, 20, 21, 22, 23, 24, 37] [25, 26, 27, 28, 29, 30, 31, 32, 33, 34, 35, 36] ⟨rfl, rfl, rfl, rfl, rfl⟩ [12, 13, 14, 15, 16, 17, 18, 19, 20, 21, 22, 23, 24, 25, 26, 27, 28, 29, 30, 31, 32, 33, 34, 35, 36, 0, 1, 2, 3, 4, 5, 6, 7, 8, 9, 10, 11, 37] rfl (fun u => by rcases u with _ | ⟨u, f1⟩ <;> rfl) [0, 2] rfl rfl hl.1 rfl (Nat.le_of_ble_eq_true rfl) rfl rfl (lw_hc hC (Nat.le_of_ble_eq_true rfl) (Nat.le_of_ble_eq_true rfl)) dL_law_220 (fun k u H locs hw hP hD hS => ?_)
  rcases u with _ | ⟨u, f1⟩
  · skip
    replace hP : va_P D vwCl (fW g hn ha adn ada cI hei dra rai σ cre gai see fou z ++ (mM h ad cI thr hei dra rai σ flo lak row ++ oW o cL f)) H := hP
    replace hD : va_D (lw_A s) (fW g hn ha adn ada cI hei dra rai σ cre gai see fou z ++ (mM h ad cI thr hei dra rai σ flo lak row ++ oW o cL f)) := hD
    refine lv_istore (lv' := [(5, .int k), (0, .ref b), (1, .ref g), (2, .ref h), (3, .ref o), (4, .int (nI (4 * i)))]) hx hb dL_law_223 hl (by decide) rfl (fun ls hl => ?_)
    refine lv_aload_n hx hb dL_law_225 rfl (lv_at hl 3 rfl) ?_
    refine lv_aload_n hx hb dL_law_226 rfl (lv_at hl 1 rfl) ?_
    refine lv_iload hx hb dL_law_227 (lv_at hl 5 rfl) ?_
    refine lv_iconst (v := nI 1) hx hb dL_law_229 (by decide) ?_
    refine lv_iadd hx hb dL_law_230 ?_
    refine va_sld hx hb hX hbl hbA hS (lw_in1 (j := 1) (by omega) hL) dL_law_231 ?_
    refine ct_top e1 ?_
    refine lv_aload_n hx hb dL_law_232 rfl (lv_at hl 1 rfl) ?_
    refine lv_iload hx hb dL_law_233 (lv_at hl 5 rfl) ?_
    refine lv_iconst (v := nI 2) hx hb dL_law_235 (by decide) ?_
    refine lv_iadd hx hb dL_law_236 ?_
    refine va_sld hx hb hX hbl hbA hS (lw_in1 (j := 2) (by omega) hL) dL_law_237 ?_
    refine ct_top e2 ?_
    refine lv_aload_n hx hb dL_law_238 rfl (lv_at hl 1 rfl) ?_
    refine lv_iload hx hb dL_law_239 (lv_at hl 5 rfl) ?_
    refine lv_iconst (v := nI 3) hx hb dL_law_241 (by decide) ?_
    refine lv_iadd hx hb dL_law_242 ?_
    refine va_sld hx hb hX hbl hbA hS (lw_in1 (j := 3) (by omega) hL) dL_law_243 ?_
    refine ct_top e3 ?_
    refine ct_Vi (As := [.int x, .int y, .int v]) (rest := []) (wr := fW g hn ha adn ada cI hei dra rai σ cre gai see fou z ++ oW o cL f) (W0 := fW g hn ha adn ada cI hei dra rai σ cre gai see fou z ++ (mM h ad cI thr hei dra rai σ flo lak row ++ oW o cL f)) (W1 := fun w => fW g hn ha adn ada cI hei dra rai σ cre gai see fou z ++ ((mW h ad cI w.1 hei w.2 (m_dam σ) (m_wea σ) dra (m_peo σ) rai (q_num (nI (m_t σ)) (m_bro σ) (m_drd σ) (m_lef σ)) flo lak row) ++ oW o cL f)) (cells1 := C + 3) (slots1 := S + 18) ⟨hx, hb, hml, hown, hts⟩ (c_X2_pour l D cI h ad thr hei (m_wat σ) (m_dam σ) (m_wea σ) dra (m_peo σ) rai (q_num (nI (m_t σ)) (m_bro σ) (m_drd σ) (m_lef σ)) flo lak row  x y v) (cwV 3 hts gL_law_X2_pour rfl rfl rfl (by decide +kernel) ⟨Nat.le_of_ble_eq_true rfl, Nat.le_of_ble_eq_true rfl⟩) hK hP hD hS hA [25, 26, 27, 28, 29, 30, 31, 32, 33, 34, 35, 36] [0, 1, 2, 3, 4, 5, 6, 7, 8, 9, 10, 11, 12, 13, 14, 15, 16, 17, 18, 19, 20, 21, 22, 23, 24, 37] ⟨rfl, rfl, rfl, rfl, rfl⟩ [0, 1, 2, 3, 4, 5, 6, 7, 8, 9, 10, 11, 12, 13, 14, 15, 16, 17, 18, 19, 20, 21, 22, 23, 24, 26, 27, 28, 29, 30, 31, 32, 33, 34, 35, 36, 37, 25] rfl (fun _ => rfl) [0] rfl (va_recv hK hP (ci := 2) (q0 := 25) rfl rfl) rfl hl.1 rfl (Nat.le_of_ble_eq_true rfl) rfl rfl (lw_hc hC (Nat.le_of_ble_eq_true rfl) (Nat.le_of_ble_eq_true rfl)) dL_law_244 (fun r w H locs hm hP hD hS => ?_)
    obtain ⟨w1, w2⟩ := w
    have hu : k = w1 ∧ ¬ k = 0 ∧ m_wat σ = w2 := by
      rcases hw with ⟨rfl, ⟨-, h1⟩ | ⟨h1, -⟩⟩ | ⟨rfl, ⟨h1, -⟩ | ⟨-, h1, h2⟩⟩
      · rcases hm with ⟨g1, g2, g3⟩ | ⟨g1, -⟩ | ⟨g1, -⟩
        · exact ⟨g2.symm, by decide, g3.symm⟩
        · exact absurd g1 h1
        · exact absurd g1 h1
      · exact absurd h1 (by decide +kernel)
      · exact absurd h1 (by decide +kernel)
      · rcases hm with ⟨g1, -⟩ | ⟨-, -, g2, g3⟩ | ⟨-, g1, -⟩
        · exact absurd h1 g1
        · exact ⟨g2.symm, by decide, g3.symm⟩
        · exact absurd g1 h2
    obtain ⟨rfl, hk0, rfl⟩ := hu
    replace hP : va_P D vwCl (fW g hn ha adn ada cI hei dra rai σ cre gai see fou z ++ (mM h ad cI k hei dra rai σ flo lak row ++ oW o cL f)) H := hP
    replace hD : va_D (lw_A s) (fW g hn ha adn ada cI hei dra rai σ cre gai see fou z ++ (mM h ad cI k hei dra rai σ flo lak row ++ oW o cL f)) := hD
    refine lv_istore (lv' := [(6, .int r), (5, .int k), (0, .ref b), (1, .ref g), (2, .ref h), (3, .ref o), (4, .int (nI (4 * i)))]) hx hb dL_law_247 hl (by decide) rfl (fun ls hl => ?_)
    refine lv_aload_n hx hb dL_law_249 rfl (lv_at hl 4 rfl) ?_
    refine ct_Vi (As := []) (rest := []) (wr := fW g hn ha adn ada cI hei dra rai σ cre gai see fou z ++ oW o cL f) (W0 := fW g hn ha adn ada cI hei dra rai σ cre gai see fou z ++ (mM h ad cI k hei dra rai σ flo lak row ++ oW o cL f)) (W1 := fun _ => fW g hn ha adn ada cI hei dra rai σ cre gai see fou z ++ (mM h ad cI k hei dra rai σ flo lak row ++ oW o cL f)) (cells1 := C + 3) (slots1 := S + 18) ⟨hx, hb, hml, hown, hts⟩ (c_X2_thrown l D cI h ad k hei (m_wat σ) (m_dam σ) (m_wea σ) dra (m_peo σ) rai (q_num (nI (m_t σ)) (m_bro σ) (m_drd σ) (m_lef σ)) flo lak row) (cwV 0 hts gL_law_X2_thrown rfl rfl rfl (by decide +kernel) ⟨Nat.le_of_ble_eq_true rfl, Nat.le_of_ble_eq_true rfl⟩) hK hP hD hS hA [25, 26, 27, 28, 29, 30, 31, 32, 33, 34, 35, 36] [0, 1, 2, 3, 4, 5, 6, 7, 8, 9, 10, 11, 12, 13, 14, 15, 16, 17, 18, 19, 20, 21, 22, 23, 24, 37] ⟨rfl, rfl, rfl, rfl, rfl⟩ [0, 1, 2, 3, 4, 5, 6, 7, 8, 9, 10, 11, 12, 13, 14, 15, 16, 17, 18, 19, 20, 21, 22, 23, 24, 26, 27, 28, 29, 30, 31, 32, 33, 34, 35, 36, 37, 25] rfl (fun _ => rfl) [0] rfl (va_recv hK hP (ci := 2) (q0 := 25) rfl rfl) rfl hl.1 rfl (Nat.le_of_ble_eq_true rfl) rfl rfl (lw_hc hC (Nat.le_of_ble_eq_true rfl) (Nat.le_of_ble_eq_true rfl)) dL_law_250 (fun r9 _ H locs hw9 hP hD hS => ?_)
    refine ct_top hw9 ?_
    refine lv_iload hx hb dL_law_253 (lv_at hl 1 rfl) ?_
    refine lv_icmp_eq (tgt := 260) hx hb dL_law_255 (by decide) (fun _ => ?_) (fun hc => absurd rfl hc)
    refine lv_iload hx hb dL_law_260 (lv_at hl 1 rfl) ?_
    refine lv_if_ne (tgt := 277) hx hb dL_law_262 (by decide) (fun _ => ?_) (fun hc => absurd hc hk0)
    refine lv_goto (tgt := 1219) hx hb dL_law_277 (by decide) ?_
    refine W.widen (k := C + 80) (n := S + 700) (by omega) (by omega) ?_
    exact kk d0 hei dra rai σ cre gai see fou z k flo lak row f H locs ls hd0 (inv_up hI (by omega)) (by omega) hP hD hS (lv_sub hl [2, 3, 4, 5, 6] rfl)
  · skip
    obtain ⟨rfl, r0, hp0, hf0⟩ := hw
    replace hP : va_P D vwCl (fW g hn ha adn ada cI hei dra rai (upd (m_wat σ) (q_at x y) (i_max 0 (m_wat σ (q_at x y) + v)), m_dam σ, m_wea σ, m_peo σ, m_t σ, m_bro σ, m_drd σ, m_lef σ) cre gai see fou z ++ (mM h ad cI thr hei dra rai σ flo lak row ++ oW o cL f1)) H := hP
    replace hD : va_D (lw_A s) (fW g hn ha adn ada cI hei dra rai (upd (m_wat σ) (q_at x y) (i_max 0 (m_wat σ (q_at x y) + v)), m_dam σ, m_wea σ, m_peo σ, m_t σ, m_bro σ, m_drd σ, m_lef σ) cre gai see fou z ++ (mM h ad cI thr hei dra rai σ flo lak row ++ oW o cL f1)) := hD
    refine lv_istore (lv' := [(5, .int 0), (0, .ref b), (1, .ref g), (2, .ref h), (3, .ref o), (4, .int (nI (4 * i)))]) hx hb dL_law_223 hl (by decide) rfl (fun ls hl => ?_)
    refine lv_aload_n hx hb dL_law_225 rfl (lv_at hl 3 rfl) ?_
    refine lv_aload_n hx hb dL_law_226 rfl (lv_at hl 1 rfl) ?_
    refine lv_iload hx hb dL_law_227 (lv_at hl 5 rfl) ?_
    refine lv_iconst (v := nI 1) hx hb dL_law_229 (by decide) ?_
    refine lv_iadd hx hb dL_law_230 ?_
    refine va_sld hx hb hX hbl hbA hS (lw_in1 (j := 1) (by omega) hL) dL_law_231 ?_
    refine ct_top e1 ?_
    refine lv_aload_n hx hb dL_law_232 rfl (lv_at hl 1 rfl) ?_
    refine lv_iload hx hb dL_law_233 (lv_at hl 5 rfl) ?_
    refine lv_iconst (v := nI 2) hx hb dL_law_235 (by decide) ?_
    refine lv_iadd hx hb dL_law_236 ?_
    refine va_sld hx hb hX hbl hbA hS (lw_in1 (j := 2) (by omega) hL) dL_law_237 ?_
    refine ct_top e2 ?_
    refine lv_aload_n hx hb dL_law_238 rfl (lv_at hl 1 rfl) ?_
    refine lv_iload hx hb dL_law_239 (lv_at hl 5 rfl) ?_
    refine lv_iconst (v := nI 3) hx hb dL_law_241 (by decide) ?_
    refine lv_iadd hx hb dL_law_242 ?_
    refine va_sld hx hb hX hbl hbA hS (lw_in1 (j := 3) (by omega) hL) dL_law_243 ?_
    refine ct_top e3 ?_
    refine ct_Vi (As := [.int x, .int y, .int v]) (rest := []) (wr := fW g hn ha adn ada cI hei dra rai (upd (m_wat σ) (q_at x y) (i_max 0 (m_wat σ (q_at x y) + v)), m_dam σ, m_wea σ, m_peo σ, m_t σ, m_bro σ, m_drd σ, m_lef σ) cre gai see fou z ++ oW o cL f1) (W0 := fW g hn ha adn ada cI hei dra rai (upd (m_wat σ) (q_at x y) (i_max 0 (m_wat σ (q_at x y) + v)), m_dam σ, m_wea σ, m_peo σ, m_t σ, m_bro σ, m_drd σ, m_lef σ) cre gai see fou z ++ (mM h ad cI thr hei dra rai σ flo lak row ++ oW o cL f1)) (W1 := fun w => fW g hn ha adn ada cI hei dra rai (upd (m_wat σ) (q_at x y) (i_max 0 (m_wat σ (q_at x y) + v)), m_dam σ, m_wea σ, m_peo σ, m_t σ, m_bro σ, m_drd σ, m_lef σ) cre gai see fou z ++ ((mW h ad cI w.1 hei w.2 (m_dam σ) (m_wea σ) dra (m_peo σ) rai (q_num (nI (m_t σ)) (m_bro σ) (m_drd σ) (m_lef σ)) flo lak row) ++ oW o cL f1)) (cells1 := C + 3) (slots1 := S + 18) ⟨hx, hb, hml, hown, hts⟩ (c_X2_pour l D cI h ad thr hei (m_wat σ) (m_dam σ) (m_wea σ) dra (m_peo σ) rai (q_num (nI (m_t σ)) (m_bro σ) (m_drd σ) (m_lef σ)) flo lak row  x y v) (cwV 3 hts gL_law_X2_pour rfl rfl rfl (by decide +kernel) ⟨Nat.le_of_ble_eq_true rfl, Nat.le_of_ble_eq_true rfl⟩) hK hP hD hS hA [25, 26, 27, 28, 29, 30, 31, 32, 33, 34, 35, 36] [0, 1, 2, 3, 4, 5, 6, 7, 8, 9, 10, 11, 12, 13, 14, 15, 16, 17, 18, 19, 20, 21, 22, 23, 24, 37] ⟨rfl, rfl, rfl, rfl, rfl⟩ [0, 1, 2, 3, 4, 5, 6, 7, 8, 9, 10, 11, 12, 13, 14, 15, 16, 17, 18, 19, 20, 21, 22, 23, 24, 26, 27, 28, 29, 30, 31, 32, 33, 34, 35, 36, 37, 25] rfl (fun _ => rfl) [0] rfl (va_recv hK hP (ci := 2) (q0 := 25) rfl rfl) rfl hl.1 rfl (Nat.le_of_ble_eq_true rfl) rfl rfl (lw_hc hC (Nat.le_of_ble_eq_true rfl) (Nat.le_of_ble_eq_true rfl)) dL_law_244 (fun r w H locs hm hP hD hS => ?_)
    obtain ⟨w1, w2⟩ := w
    have hu : 0 = w1 ∧ r0 = r ∧ upd (m_wat σ) (q_at x y) (i_max 0 (m_wat σ (q_at x y) + v)) = w2 := by
      rcases hm with ⟨g1, -⟩ | ⟨-, g1, -⟩ | ⟨-, -, g2, g3, g4⟩
      · exact absurd hp0.1 g1
      · exact absurd hp0.2.1 g1
      · exact ⟨g2.symm, hp0.2.2.trans g3.symm, g4.symm⟩
    obtain ⟨rfl, rfl, rfl⟩ := hu
    replace hP : va_P D vwCl (fW g hn ha adn ada cI hei dra rai (upd (m_wat σ) (q_at x y) (i_max 0 (m_wat σ (q_at x y) + v)), m_dam σ, m_wea σ, m_peo σ, m_t σ, m_bro σ, m_drd σ, m_lef σ) cre gai see fou z ++ (mM h ad cI 0 hei dra rai (upd (m_wat σ) (q_at x y) (i_max 0 (m_wat σ (q_at x y) + v)), m_dam σ, m_wea σ, m_peo σ, m_t σ, m_bro σ, m_drd σ, m_lef σ) flo lak row ++ oW o cL f1)) H := hP
    replace hD : va_D (lw_A s) (fW g hn ha adn ada cI hei dra rai (upd (m_wat σ) (q_at x y) (i_max 0 (m_wat σ (q_at x y) + v)), m_dam σ, m_wea σ, m_peo σ, m_t σ, m_bro σ, m_drd σ, m_lef σ) cre gai see fou z ++ (mM h ad cI 0 hei dra rai (upd (m_wat σ) (q_at x y) (i_max 0 (m_wat σ (q_at x y) + v)), m_dam σ, m_wea σ, m_peo σ, m_t σ, m_bro σ, m_drd σ, m_lef σ) flo lak row ++ oW o cL f1)) := hD
    refine lv_istore (lv' := [(6, .int r0), (5, .int 0), (0, .ref b), (1, .ref g), (2, .ref h), (3, .ref o), (4, .int (nI (4 * i)))]) hx hb dL_law_247 hl (by decide) rfl (fun ls hl => ?_)
    refine lv_aload_n hx hb dL_law_249 rfl (lv_at hl 4 rfl) ?_
    refine ct_Vi (As := []) (rest := []) (wr := fW g hn ha adn ada cI hei dra rai (upd (m_wat σ) (q_at x y) (i_max 0 (m_wat σ (q_at x y) + v)), m_dam σ, m_wea σ, m_peo σ, m_t σ, m_bro σ, m_drd σ, m_lef σ) cre gai see fou z ++ oW o cL f1) (W0 := fW g hn ha adn ada cI hei dra rai (upd (m_wat σ) (q_at x y) (i_max 0 (m_wat σ (q_at x y) + v)), m_dam σ, m_wea σ, m_peo σ, m_t σ, m_bro σ, m_drd σ, m_lef σ) cre gai see fou z ++ (mM h ad cI 0 hei dra rai (upd (m_wat σ) (q_at x y) (i_max 0 (m_wat σ (q_at x y) + v)), m_dam σ, m_wea σ, m_peo σ, m_t σ, m_bro σ, m_drd σ, m_lef σ) flo lak row ++ oW o cL f1)) (W1 := fun _ => fW g hn ha adn ada cI hei dra rai (upd (m_wat σ) (q_at x y) (i_max 0 (m_wat σ (q_at x y) + v)), m_dam σ, m_wea σ, m_peo σ, m_t σ, m_bro σ, m_drd σ, m_lef σ) cre gai see fou z ++ (mM h ad cI 0 hei dra rai (upd (m_wat σ) (q_at x y) (i_max 0 (m_wat σ (q_at x y) + v)), m_dam σ, m_wea σ, m_peo σ, m_t σ, m_bro σ, m_drd σ, m_lef σ) flo lak row ++ oW o cL f1)) (cells1 := C + 3) (slots1 := S + 18) ⟨hx, hb, hml, hown, hts⟩ (c_X2_thrown l D cI h ad 0 hei (m_wat (upd (m_wat σ) (q_at x y) (i_max 0 (m_wat σ (q_at x y) + v)), m_dam σ, m_wea σ, m_peo σ, m_t σ, m_bro σ, m_drd σ, m_lef σ)) (m_dam (upd (m_wat σ) (q_at x y) (i_max 0 (m_wat σ (q_at x y) + v)), m_dam σ, m_wea σ, m_peo σ, m_t σ, m_bro σ, m_drd σ, m_lef σ)) (m_wea (upd (m_wat σ) (q_at x y) (i_max 0 (m_wat σ (q_at x y) + v)), m_dam σ, m_wea σ, m_peo σ, m_t σ, m_bro σ, m_drd σ, m_lef σ)) dra (m_peo (upd (m_wat σ) (q_at x y) (i_max 0 (m_wat σ (q_at x y) + v)), m_dam σ, m_wea σ, m_peo σ, m_t σ, m_bro σ, m_drd σ, m_lef σ)) rai (q_num (nI (m_t (upd (m_wat σ) (q_at x y) (i_max 0 (m_wat σ (q_at x y) + v)), m_dam σ, m_wea σ, m_peo σ, m_t σ, m_bro σ, m_drd σ, m_lef σ))) (m_bro (upd (m_wat σ) (q_at x y) (i_max 0 (m_wat σ (q_at x y) + v)), m_dam σ, m_wea σ, m_peo σ, m_t σ, m_bro σ, m_drd σ, m_lef σ)) (m_drd (upd (m_wat σ) (q_at x y) (i_max 0 (m_wat σ (q_at x y) + v)), m_dam σ, m_wea σ, m_peo σ, m_t σ, m_bro σ, m_drd σ, m_lef σ)) (m_lef (upd (m_wat σ) (q_at x y) (i_max 0 (m_wat σ (q_at x y) + v)), m_dam σ, m_wea σ, m_peo σ, m_t σ, m_bro σ, m_drd σ, m_lef σ))) flo lak row) (cwV 0 hts gL_law_X2_thrown rfl rfl rfl (by decide +kernel) ⟨Nat.le_of_ble_eq_true rfl, Nat.le_of_ble_eq_true rfl⟩) hK hP hD hS hA [25, 26, 27, 28, 29, 30, 31, 32, 33, 34, 35, 36] [0, 1, 2, 3, 4, 5, 6, 7, 8, 9, 10, 11, 12, 13, 14, 15, 16, 17, 18, 19, 20, 21, 22, 23, 24, 37] ⟨rfl, rfl, rfl, rfl, rfl⟩ [0, 1, 2, 3, 4, 5, 6, 7, 8, 9, 10, 11, 12, 13, 14, 15, 16, 17, 18, 19, 20, 21, 22, 23, 24, 26, 27, 28, 29, 30, 31, 32, 33, 34, 35, 36, 37, 25] rfl (fun _ => rfl) [0] rfl (va_recv hK hP (ci := 2) (q0 := 25) rfl rfl) rfl hl.1 rfl (Nat.le_of_ble_eq_true rfl) rfl rfl (lw_hc hC (Nat.le_of_ble_eq_true rfl) (Nat.le_of_ble_eq_true rfl)) dL_law_250 (fun r9 _ H locs hw9 hP hD hS => ?_)
    refine ct_top hw9 ?_
    refine lv_iload hx hb dL_law_253 (lv_at hl 1 rfl) ?_
    refine lv_icmp_eq (tgt := 260) hx hb dL_law_255 (by decide) (fun _ => ?_) (fun hc => absurd rfl hc)
    refine lv_iload hx hb dL_law_260 (lv_at hl 1 rfl) ?_
    refine lv_if_ne (tgt := 277) hx hb dL_law_262 (by decide) (fun hc => absurd rfl hc) (fun _ => ?_)
    refine lv_aload_n hx hb dL_law_265 rfl (lv_at hl 5 rfl) ?_
    refine lv_iconst (v := 0) hx hb dL_law_266 (by decide) ?_
    refine va_lald (cl := vwCl) (f := f1) hx hb hK hP 37 2 rfl rfl z_in0 dL_law_267 ?_
    refine lv_iload hx hb dL_law_268 (lv_at hl 0 rfl) ?_
    refine lv_i2l (v := Int32.toInt64 r0) hx hb dL_law_270 rfl ?_
    refine lv_lcmp0 hx hb hf0 dL_law_271 ?_
    refine lv_if_eq (tgt := 277) hx hb dL_law_272 (by decide) (fun _ => ?_) (fun hc => absurd rfl hc)
    refine lv_goto (tgt := 1219) hx hb dL_law_277 (by decide) ?_
    refine W.widen (k := C + 80) (n := S + 700) (by omega) (by omega) ?_
    exact kk d0 hei dra rai (upd (m_wat σ) (q_at x y) (i_max 0 (m_wat σ (q_at x y) + v)), m_dam σ, m_wea σ, m_peo σ, m_t σ, m_bro σ, m_drd σ, m_lef σ) cre gai see fou z 0 flo lak row f1 H locs ls hd0 (inv_up (inv_pour (by omega) hI (q_at_lt hp0.1) hp0.2.1) (by omega)) (show m_t σ ≤ 48 * i + 48 by omega) hP hD hS (lv_sub hl [2, 3, 4, 5, 6] rfl)
set_option maxHeartbeats 4000000 in
set_option maxRecDepth 100000 in
theorem law_dam {p : Program} {l : Launch} {e : Env} {s : State} {m : MethodId} {below : List Frame} {meth : Method} {c : Code} {b L : Nat} {xs : Nat → Int32} {D : va_G} {cI cJ cL : ClassId} {sa1 sa2 : Nat} {g hn ha : Nat} {adn ada : Nat → Nat} {h : Nat} {ad : Nat → Nat} {o i C S : Nat} {x y v : Int32} (C9 : lw_Cx p l m c b L xs D cI cJ cL sa1 sa2 s) (hL : L ≤ 2048) (hi : 4 * i + 4 ≤ L) (hC : C + 80 ≤ 840170 ∧ S + 700 ≤ 6575593) (kk : lw_Nx p l e s m below meth c b D cI cL g hn ha adn ada h ad o i (C + 80) (S + 700)) {d0 : Drawn} (hd0 : s.drawn.sameBut d0 lw_cs) {hei dra rai : Nat → Int32} {σ : Ms} {cre gai see fou : Nat → Int32} {z : Nat → Nat → Int32} {thr : Int32} {flo lak row : Nat → Int32} {f : Nat → Int64} (hI : inv (28000 * (i : Int)) hei dra rai σ) (ht : m_t σ ≤ 48 * i) {H : Heap} {locs : List Loc} {ls : Array Slot} (e1 : xs (nI (4 * i) + nI 1).toNatClampNeg = x) (e2 : xs (nI (4 * i) + nI 2).toNatClampNeg = y) (e3 : xs (nI (4 * i) + nI 3).toNatClampNeg = v)
    (hP : va_P D vwCl (fW g hn ha adn ada cI hei dra rai σ cre gai see fou z ++ (mM h ad cI thr hei dra rai σ flo lak row ++ oW o cL f)) H) (hD : va_D (lw_A s) (fW g hn ha adn ada cI hei dra rai σ cre gai see fou z ++ (mM h ad cI thr hei dra rai σ flo lak row ++ oW o cL f))) (hS : va_S (lw_A s) s.heap H locs) (hl : lv_has ls 9 [(0, .ref b), (1, .ref g), (2, .ref h), (3, .ref o), (4, .int (nI (4 * i)))]) :
    W p l e room_1 (s.setDrawn d0) m #[Value.ref b] below meth c H locs C S (lw_Z below #[Value.ref b] s) (F0 m 280 ls []) := by
  obtain ⟨hx, hb, hml, hown, hts, hK, hT, hY, hX, hbl, hst⟩ := C9.drew d0
  have hA : ∀ q : Nat, (s.setDrawn d0).heap.size ≤ q → lw_A s q := fun _ h9 => h9
  have hbA : ¬ lw_A s b := Nat.not_le.mpr hbl
  have ht9 : m_t σ < 2 ^ 29 := by omega
  have hi1 := inv_1 hI
  have hw0 := inv_w hI
  have hdm := inv_dm hI
  replace hS : va_S (lw_A s) (s.setDrawn d0).heap H locs := hS
  refine lv_aload_n hx hb dL_law_280 rfl (lv_at hl 1 rfl) ?_
  refine lv_aload_n hx hb dL_law_281 rfl (lv_at hl 0 rfl) ?_
  refine lv_iload hx hb dL_law_282 (lv_at hl 4 rfl) ?_
  refine lv_iconst (v := nI 1) hx hb dL_law_284 (by decide) ?_
  refine lv_iadd hx hb dL_law_285 ?_
  refine va_sld hx hb hX hbl hbA hS (lw_in1 (j := 1) (by omega) hL) dL_law_286 ?_
  refine ct_top e1 ?_
  refine lv_aload_n hx hb dL_law_287 rfl (lv_at hl 0 rfl) ?_
  refine lv_iload hx hb dL_law_288 (lv_at hl 4 rfl) ?_
  refine lv_iconst (v := nI 2) hx hb dL_law_290 (by decide) ?_
  refine lv_iadd hx hb dL_law_291 ?_
  refine va_sld hx hb hX hbl hbA hS (lw_in1 (j := 2) (by omega) hL) dL_law_292 ?_
  refine ct_top e2 ?_
  refine lv_aload_n hx hb dL_law_293 rfl (lv_at hl 0 rfl) ?_
  refine lv_iload hx hb dL_law_294 (lv_at hl 4 rfl) ?_
  refine lv_iconst (v := nI 3) hx hb dL_law_296 (by decide) ?_
  refine lv_iadd hx hb dL_law_297 ?_
  refine va_sld hx hb hX hbl hbA hS (lw_in1 (j := 3) (by omega) hL) dL_law_298 ?_
  refine ct_top e3 ?_
  refine lv_aload_n hx hb dL_law_299 rfl (lv_at hl 3 rfl) ?_
  refine cz_Si (As := [.ref g, .int x, .int y, .int v, .ref o]) (rest := []) (wr := mM h ad cI thr hei dra rai σ flo lak row) (W0 := fW g hn ha adn ada cI hei dra rai σ cre gai see fou z ++ (mM h ad cI thr hei dra rai σ flo lak row ++ oW o cL f)) (W1 := z_w1 (fW g hn ha adn ada cI hei dra rai σ cre gai see fou z) (fun _ => (fW g hn ha adn ada cI hei dra rai (q_with σ (q_at x y) v) cre gai see fou z)) (mM h ad cI thr hei dra rai σ flo lak row) o cL f) (cells1 := C + 3) (slots1 := S + 18) ⟨hx, hb, hml, hown, hts⟩ (c_L_dam l hst D cI cL sa1 sa2 g hn ha adn ada hei dra rai σ cre gai see fou z x y v o f) (vx_cwSW (hh := [(0, 12, 15, 13), (0, 12, 19, 15)]) 5 hts gL_law_L_dam rfl rfl rfl (by decide +kernel) ⟨Nat.le_of_ble_eq_true rfl, Nat.le_of_ble_eq_true rfl⟩) hK hP hD hS hA hT [0, 1, 2, 3, 4, 5, 6, 7, 8, 9, 10, 11, 12, 13, 14, 15, 16, 17, 18, 19, 20, 21, 22, 23, 24, 37] [25, 26, 27, 28, 29, 30, 31, 32, 33, 34, 35, 36] ⟨rfl, rfl, rfl, rfl, rfl⟩ [12, 13, 14, 15, 16, 17, 18, 19, 20, 21, 22, 23, 24, 25, 26, 27, 28, 29, 30, 31, 32, 33, 34, 35, 36, 0, 1, 2, 3, 4, 5, 6, 7, 8, 9, 10, 11, 37] rfl (fun u => by rcases u with _ | ⟨u, f1⟩ <;> rfl) [0, 2] rfl rfl hl.1 rfl (Nat.le_of_ble_eq_true rfl) rfl rfl (lw_hc hC (Nat.le_of_ble_eq_true rfl) (Nat.le_of_ble_eq_true rfl)) dL_law_300 (fun k u H locs hw hP hD hS => ?_)
  rcases u with _ | ⟨u, f1⟩
  · skip
    replace hP : va_P D vwCl (fW g hn ha adn ada cI hei dra rai σ cre gai see fou z ++ (mM h ad cI thr hei dra rai σ flo lak row ++ oW o cL f)) H := hP
    replace hD : va_D (lw_A s) (fW g hn ha adn ada cI hei dra rai σ cre gai see fou z ++ (mM h ad cI thr hei dra rai σ flo lak row ++ oW o cL f)) := hD
    refine lv_istore (lv' := [(5, .int k), (0, .ref b), (1, .ref g), (2, .ref h), (3, .ref o), (4, .int (nI (4 * i)))]) hx hb dL_law_303 hl (by decide) rfl (fun ls hl => ?_)
    refine lv_aload_n hx hb dL_law_305 rfl (lv_at hl 3 rfl) ?_
    refine lv_aload_n hx hb dL_law_306 rfl (lv_at hl 1 rfl) ?_
    refine lv_iload hx hb dL_law_307 (lv_at hl 5 rfl) ?_
    refine lv_iconst (v := nI 1) hx hb dL_law_309 (by decide) ?_
    refine lv_iadd hx hb dL_law_310 ?_
    refine va_sld hx hb hX hbl hbA hS (lw_in1 (j := 1) (by omega) hL) dL_law_311 ?_
    refine ct_top e1 ?_
    refine lv_aload_n hx hb dL_law_312 rfl (lv_at hl 1 rfl) ?_
    refine lv_iload hx hb dL_law_313 (lv_at hl 5 rfl) ?_
    refine lv_iconst (v := nI 2) hx hb dL_law_315 (by decide) ?_
    refine lv_iadd hx hb dL_law_316 ?_
    refine va_sld hx hb hX hbl hbA hS (lw_in1 (j := 2) (by omega) hL) dL_law_317 ?_
    refine ct_top e2 ?_
    refine lv_aload_n hx hb dL_law_318 rfl (lv_at hl 1 rfl) ?_
    refine lv_iload hx hb dL_law_319 (lv_at hl 5 rfl) ?_
    refine lv_iconst (v := nI 3) hx hb dL_law_321 (by decide) ?_
    refine lv_iadd hx hb dL_law_322 ?_
    refine va_sld hx hb hX hbl hbA hS (lw_in1 (j := 3) (by omega) hL) dL_law_323 ?_
    refine ct_top e3 ?_
    refine ct_Vi (As := [.int x, .int y, .int v]) (rest := []) (wr := fW g hn ha adn ada cI hei dra rai σ cre gai see fou z ++ oW o cL f) (W0 := fW g hn ha adn ada cI hei dra rai σ cre gai see fou z ++ (mM h ad cI thr hei dra rai σ flo lak row ++ oW o cL f)) (W1 := fun w => fW g hn ha adn ada cI hei dra rai σ cre gai see fou z ++ ((mW h ad cI w.1 hei (m_wat σ) w.2.1 w.2.2 dra (m_peo σ) rai (q_num (nI (m_t σ)) (m_bro σ) (m_drd σ) (m_lef σ)) flo lak row) ++ oW o cL f)) (cells1 := C + 3) (slots1 := S + 18) ⟨hx, hb, hml, hown, hts⟩ (c_X2_dam l D cI h ad thr hei (m_wat σ) (m_dam σ) (m_wea σ) dra (m_peo σ) rai (q_num (nI (m_t σ)) (m_bro σ) (m_drd σ) (m_lef σ)) flo lak row  x y v) (cwV 3 hts gL_law_X2_dam rfl rfl rfl (by decide +kernel) ⟨Nat.le_of_ble_eq_true rfl, Nat.le_of_ble_eq_true rfl⟩) hK hP hD hS hA [25, 26, 27, 28, 29, 30, 31, 32, 33, 34, 35, 36] [0, 1, 2, 3, 4, 5, 6, 7, 8, 9, 10, 11, 12, 13, 14, 15, 16, 17, 18, 19, 20, 21, 22, 23, 24, 37] ⟨rfl, rfl, rfl, rfl, rfl⟩ [0, 1, 2, 3, 4, 5, 6, 7, 8, 9, 10, 11, 12, 13, 14, 15, 16, 17, 18, 19, 20, 21, 22, 23, 24, 26, 27, 28, 29, 30, 31, 32, 33, 34, 35, 36, 37, 25] rfl (fun _ => rfl) [0] rfl (va_recv hK hP (ci := 2) (q0 := 25) rfl rfl) rfl hl.1 rfl (Nat.le_of_ble_eq_true rfl) rfl rfl (lw_hc hC (Nat.le_of_ble_eq_true rfl) (Nat.le_of_ble_eq_true rfl)) dL_law_324 (fun r w H locs hm hP hD hS => ?_)
    obtain ⟨w1, w2, w3⟩ := w
    have hu : k = w1 ∧ ¬ k = 0 ∧ m_dam σ = w2 ∧ m_wea σ = w3 := by
      rcases hw with ⟨rfl, ⟨-, h1⟩ | ⟨h1, -⟩⟩ | ⟨rfl, ⟨h1, -⟩ | ⟨-, h1, h2⟩⟩
      · rcases hm with ⟨g1, g2, g3, g4⟩ | ⟨g1, -⟩ | ⟨g1, -⟩
        · exact ⟨g2.symm, by decide, g3.symm, g4.symm⟩
        · exact absurd g1 h1
        · exact absurd g1 h1
      · exact absurd h1 (by decide +kernel)
      · exact absurd h1 (by decide +kernel)
      · rcases hm with ⟨g1, -⟩ | ⟨-, -, g2, g3, g4⟩ | ⟨-, g1, -⟩
        · exact absurd h1 g1
        · exact ⟨g2.symm, by decide, g3.symm, g4.symm⟩
        · exact absurd g1 h2
    obtain ⟨rfl, hk0, rfl, rfl⟩ := hu
    replace hP : va_P D vwCl (fW g hn ha adn ada cI hei dra rai σ cre gai see fou z ++ (mM h ad cI k hei dra rai σ flo lak row ++ oW o cL f)) H := hP
    replace hD : va_D (lw_A s) (fW g hn ha adn ada cI hei dra rai σ cre gai see fou z ++ (mM h ad cI k hei dra rai σ flo lak row ++ oW o cL f)) := hD
    refine lv_istore (lv' := [(6, .int r), (5, .int k), (0, .ref b), (1, .ref g), (2, .ref h), (3, .ref o), (4, .int (nI (4 * i)))]) hx hb dL_law_327 hl (by decide) rfl (fun ls hl => ?_)
    refine lv_aload_n hx hb dL_law_329 rfl (lv_at hl 4 rfl) ?_
    refine ct_Vi (As := []) (rest := []) (wr := fW g hn ha adn ada cI hei dra rai σ cre gai see fou z ++ oW o cL f) (W0 := fW g hn ha adn ada cI hei dra rai σ cre gai see fou z ++ (mM h ad cI k hei dra rai σ flo lak row ++ oW o cL f)) (W1 := fun _ => fW g hn ha adn ada cI hei dra rai σ cre gai see fou z ++ (mM h ad cI k hei dra rai σ flo lak row ++ oW o cL f)) (cells1 := C + 3) (slots1 := S + 18) ⟨hx, hb, hml, hown, hts⟩ (c_X2_thrown l D cI h ad k hei (m_wat σ) (m_dam σ) (m_wea σ) dra (m_peo σ) rai (q_num (nI (m_t σ)) (m_bro σ) (m_drd σ) (m_lef σ)) flo lak row) (cwV 0 hts gL_law_X2_thrown rfl rfl rfl (by decide +kernel) ⟨Nat.le_of_ble_eq_true rfl, Nat.le_of_ble_eq_true rfl⟩) hK hP hD hS hA [25, 26, 27, 28, 29, 30, 31, 32, 33, 34, 35, 36] [0, 1, 2, 3, 4, 5, 6, 7, 8, 9, 10, 11, 12, 13, 14, 15, 16, 17, 18, 19, 20, 21, 22, 23, 24, 37] ⟨rfl, rfl, rfl, rfl, rfl⟩ [0, 1, 2, 3, 4, 5, 6, 7, 8, 9, 10, 11, 12, 13, 14, 15, 16, 17, 18, 19, 20, 21, 22, 23, 24, 26, 27, 28, 29, 30, 31, 32, 33, 34, 35, 36, 37, 25] rfl (fun _ => rfl) [0] rfl (va_recv hK hP (ci := 2) (q0 := 25) rfl rfl) rfl hl.1 rfl (Nat.le_of_ble_eq_true rfl) rfl rfl (lw_hc hC (Nat.le_of_ble_eq_true rfl) (Nat.le_of_ble_eq_true rfl)) dL_law_330 (fun r9 _ H locs hw9 hP hD hS => ?_)
    refine ct_top hw9 ?_
    refine lv_iload hx hb dL_law_333 (lv_at hl 1 rfl) ?_
    refine lv_icmp_eq (tgt := 340) hx hb dL_law_335 (by decide) (fun _ => ?_) (fun hc => absurd rfl hc)
    refine lv_iload hx hb dL_law_340 (lv_at hl 1 rfl) ?_
    refine lv_if_ne (tgt := 357) hx hb dL_law_342 (by decide) (fun _ => ?_) (fun hc => absurd hc hk0)
    refine lv_goto (tgt := 1219) hx hb dL_law_357 (by decide) ?_
    refine W.widen (k := C + 80) (n := S + 700) (by omega) (by omega) ?_
    exact kk d0 hei dra rai σ cre gai see fou z k flo lak row f H locs ls hd0 (inv_up hI (by omega)) (by omega) hP hD hS (lv_sub hl [2, 3, 4, 5, 6] rfl)
  · skip
    obtain ⟨rfl, r0, hp0, hf0⟩ := hw
    replace hP : va_P D vwCl (fW g hn ha adn ada cI hei dra rai (q_with σ (q_at x y) v) cre gai see fou z ++ (mM h ad cI thr hei dra rai σ flo lak row ++ oW o cL f1)) H := hP
    replace hD : va_D (lw_A s) (fW g hn ha adn ada cI hei dra rai (q_with σ (q_at x y) v) cre gai see fou z ++ (mM h ad cI thr hei dra rai σ flo lak row ++ oW o cL f1)) := hD
    refine lv_istore (lv' := [(5, .int 0), (0, .ref b), (1, .ref g), (2, .ref h), (3, .ref o), (4, .int (nI (4 * i)))]) hx hb dL_law_303 hl (by decide) rfl (fun ls hl => ?_)
    refine lv_aload_n hx hb dL_law_305 rfl (lv_at hl 3 rfl) ?_
    refine lv_aload_n hx hb dL_law_306 rfl (lv_at hl 1 rfl) ?_
    refine lv_iload hx hb dL_law_307 (lv_at hl 5 rfl) ?_
    refine lv_iconst (v := nI 1) hx hb dL_law_309 (by decide) ?_
    refine lv_iadd hx hb dL_law_310 ?_
    refine va_sld hx hb hX hbl hbA hS (lw_in1 (j := 1) (by omega) hL) dL_law_311 ?_
    refine ct_top e1 ?_
    refine lv_aload_n hx hb dL_law_312 rfl (lv_at hl 1 rfl) ?_
    refine lv_iload hx hb dL_law_313 (lv_at hl 5 rfl) ?_
    refine lv_iconst (v := nI 2) hx hb dL_law_315 (by decide) ?_
    refine lv_iadd hx hb dL_law_316 ?_
    refine va_sld hx hb hX hbl hbA hS (lw_in1 (j := 2) (by omega) hL) dL_law_317 ?_
    refine ct_top e2 ?_
    refine lv_aload_n hx hb dL_law_318 rfl (lv_at hl 1 rfl) ?_
    refine lv_iload hx hb dL_law_319 (lv_at hl 5 rfl) ?_
    refine lv_iconst (v := nI 3) hx hb dL_law_321 (by decide) ?_
    refine lv_iadd hx hb dL_law_322 ?_
    refine va_sld hx hb hX hbl hbA hS (lw_in1 (j := 3) (by omega) hL) dL_law_323 ?_
    refine ct_top e3 ?_
    refine ct_Vi (As := [.int x, .int y, .int v]) (rest := []) (wr := fW g hn ha adn ada cI hei dra rai (q_with σ (q_at x y) v) cre gai see fou z ++ oW o cL f1) (W0 := fW g hn ha adn ada cI hei dra rai (q_with σ (q_at x y) v) cre gai see fou z ++ (mM h ad cI thr hei dra rai σ flo lak row ++ oW o cL f1)) (W1 := fun w => fW g hn ha adn ada cI hei dra rai (q_with σ (q_at x y) v) cre gai see fou z ++ ((mW h ad cI w.1 hei (m_wat σ) w.2.1 w.2.2 dra (m_peo σ) rai (q_num (nI (m_t σ)) (m_bro σ) (m_drd σ) (m_lef σ)) flo lak row) ++ oW o cL f1)) (cells1 := C + 3) (slots1 := S + 18) ⟨hx, hb, hml, hown, hts⟩ (c_X2_dam l D cI h ad thr hei (m_wat σ) (m_dam σ) (m_wea σ) dra (m_peo σ) rai (q_num (nI (m_t σ)) (m_bro σ) (m_drd σ) (m_lef σ)) flo lak row  x y v) (cwV 3 hts gL_law_X2_dam rfl rfl rfl (by decide +kernel) ⟨Nat.le_of_ble_eq_true rfl, Nat.le_of_ble_eq_true rfl⟩) hK hP hD hS hA [25, 26, 27, 28, 29, 30, 31, 32, 33, 34, 35, 36] [0, 1, 2, 3, 4, 5, 6, 7, 8, 9, 10, 11, 12, 13, 14, 15, 16, 17, 18, 19, 20, 21, 22, 23, 24, 37] ⟨rfl, rfl, rfl, rfl, rfl⟩ [0, 1, 2, 3, 4, 5, 6, 7, 8, 9, 10, 11, 12, 13, 14, 15, 16, 17, 18, 19, 20, 21, 22, 23, 24, 26, 27, 28, 29, 30, 31, 32, 33, 34, 35, 36, 37, 25] rfl (fun _ => rfl) [0] rfl (va_recv hK hP (ci := 2) (q0 := 25) rfl rfl) rfl hl.1 rfl (Nat.le_of_ble_eq_true rfl) rfl rfl (lw_hc hC (Nat.le_of_ble_eq_true rfl) (Nat.le_of_ble_eq_true rfl)) dL_law_324 (fun r w H locs hm hP hD hS => ?_)
    obtain ⟨w1, w2, w3⟩ := w
    have hu : 0 = w1 ∧ r0 = r ∧ upd (m_dam σ) (q_at x y) v = w2 ∧ upd (m_wea σ) (q_at x y) 0 = w3 := by
      rcases hm with ⟨g1, -⟩ | ⟨-, g1, -⟩ | ⟨-, -, g2, g3, g4, g5⟩
      · exact absurd hp0.1 g1
      · exact absurd hp0.2.1 g1
      · exact ⟨g2.symm, hp0.2.2.trans g3.symm, g4.symm, g5.symm⟩
    obtain ⟨rfl, rfl, rfl, rfl⟩ := hu
    replace hP : va_P D vwCl (fW g hn ha adn ada cI hei dra rai (q_with σ (q_at x y) v) cre gai see fou z ++ (mM h ad cI 0 hei dra rai (q_with σ (q_at x y) v) flo lak row ++ oW o cL f1)) H := hP
    replace hD : va_D (lw_A s) (fW g hn ha adn ada cI hei dra rai (q_with σ (q_at x y) v) cre gai see fou z ++ (mM h ad cI 0 hei dra rai (q_with σ (q_at x y) v) flo lak row ++ oW o cL f1)) := hD
    refine lv_istore (lv' := [(6, .int r0), (5, .int 0), (0, .ref b), (1, .ref g), (2, .ref h), (3, .ref o), (4, .int (nI (4 * i)))]) hx hb dL_law_327 hl (by decide) rfl (fun ls hl => ?_)
    refine lv_aload_n hx hb dL_law_329 rfl (lv_at hl 4 rfl) ?_
    refine ct_Vi (As := []) (rest := []) (wr := fW g hn ha adn ada cI hei dra rai (q_with σ (q_at x y) v) cre gai see fou z ++ oW o cL f1) (W0 := fW g hn ha adn ada cI hei dra rai (q_with σ (q_at x y) v) cre gai see fou z ++ (mM h ad cI 0 hei dra rai (q_with σ (q_at x y) v) flo lak row ++ oW o cL f1)) (W1 := fun _ => fW g hn ha adn ada cI hei dra rai (q_with σ (q_at x y) v) cre gai see fou z ++ (mM h ad cI 0 hei dra rai (q_with σ (q_at x y) v) flo lak row ++ oW o cL f1)) (cells1 := C + 3) (slots1 := S + 18) ⟨hx, hb, hml, hown, hts⟩ (c_X2_thrown l D cI h ad 0 hei (m_wat (q_with σ (q_at x y) v)) (m_dam (q_with σ (q_at x y) v)) (m_wea (q_with σ (q_at x y) v)) dra (m_peo (q_with σ (q_at x y) v)) rai (q_num (nI (m_t (q_with σ (q_at x y) v))) (m_bro (q_with σ (q_at x y) v)) (m_drd (q_with σ (q_at x y) v)) (m_lef (q_with σ (q_at x y) v))) flo lak row) (cwV 0 hts gL_law_X2_thrown rfl rfl rfl (by decide +kernel) ⟨Nat.le_of_ble_eq_true rfl, Nat.le_of_ble_eq_true rfl⟩) hK hP hD hS hA [25, 26, 27, 28, 29, 30, 31, 32, 33, 34, 35, 36] [0, 1, 2, 3, 4, 5, 6, 7, 8, 9, 10, 11, 12, 13, 14, 15, 16, 17, 18, 19, 20, 21, 22, 23, 24, 37] ⟨rfl, rfl, rfl, rfl, rfl⟩ [0, 1, 2, 3, 4, 5, 6, 7, 8, 9, 10, 11, 12, 13, 14, 15, 16, 17, 18, 19, 20, 21, 22, 23, 24, 26, 27, 28, 29, 30, 31, 32, 33, 34, 35, 36, 37, 25] rfl (fun _ => rfl) [0] rfl (va_recv hK hP (ci := 2) (q0 := 25) rfl rfl) rfl hl.1 rfl (Nat.le_of_ble_eq_true rfl) rfl rfl (lw_hc hC (Nat.le_of_ble_eq_true rfl) (Nat.le_of_ble_eq_true rfl)) dL_law_330 (fun r9 _ H locs hw9 hP hD hS => ?_)
    refine ct_top hw9 ?_
    refine lv_iload hx hb dL_law_333 (lv_at hl 1 rfl) ?_
    refine lv_icmp_eq (tgt := 340) hx hb dL_law_335 (by decide) (fun _ => ?_) (fun hc => absurd rfl hc)
    refine lv_iload hx hb dL_law_340 (lv_at hl 1 rfl) ?_
    refine lv_if_ne (tgt := 357) hx hb dL_law_342 (by decide) (fun hc => absurd rfl hc) (fun _ => ?_)
    refine lv_aload_n hx hb dL_law_345 rfl (lv_at hl 5 rfl) ?_
    refine lv_iconst (v := 0) hx hb dL_law_346 (by decide) ?_
    refine va_lald (cl := vwCl) (f := f1) hx hb hK hP 37 2 rfl rfl z_in0 dL_law_347 ?_
    refine lv_iload hx hb dL_law_348 (lv_at hl 0 rfl) ?_
    refine lv_i2l (v := Int32.toInt64 r0) hx hb dL_law_350 rfl ?_
    refine lv_lcmp0 hx hb hf0 dL_law_351 ?_
    refine lv_if_eq (tgt := 357) hx hb dL_law_352 (by decide) (fun _ => ?_) (fun hc => absurd rfl hc)
    refine lv_goto (tgt := 1219) hx hb dL_law_357 (by decide) ?_
    refine W.widen (k := C + 80) (n := S + 700) (by omega) (by omega) ?_
    exact kk d0 hei dra rai (q_with σ (q_at x y) v) cre gai see fou z 0 flo lak row f1 H locs ls hd0 (inv_up (inv_with hI _ hp0.2.1) (by omega)) (show m_t σ ≤ 48 * i + 48 by omega) hP hD hS (lv_sub hl [2, 3, 4, 5, 6] rfl)
