set_option maxHeartbeats 4000000 in
set_option maxRecDepth 100000 in
theorem lw_chk3 {p : Program} {l : Launch} {e : Env} {s : State} {m : MethodId} {args : Array Value} {below : List Frame} {meth : Method} {c : Code} {A : Nat → Prop} {Q : State → Prop} {D : va_G} {cI cJ cZ cB : ClassId} {κ : Kx} {g hn ha : Nat} {adn ada : Nat → Nat} {cre gai see fou : Nat → Int32} {z : Nat → Nat → Int32} {h : Nat} {a : Nat → Nat} {r : Nat → Nat → Nat} {aw : Nat} {bw : Nat → Nat} {hei dra rai : Nat → Int32} {σ : Ms} {nC nS : Nat} {t xa ya : Nat} {zv : Int32} {q : Nat} {rr : Nat → Nat} {G : Nat → Nat → Int32} {tq cq : Nat} {ft fc : Nat → Int32} {d0 : Drawn} (hd0 : s.drawn.sameBut d0 lw_cs) (C0 : cg_S p (s.setDrawn d0) m args c A D yL_law wsL_law cL_law 22 [(cI, .int), (cJ, .array .int), (cZ, .boolean), (cB, .array .boolean)] κ) (hC : nC ≤ 500000 ∧ nS ≤ 6000000) (hst : l.stackTraces = false) (hL : κ.2.2.2.1 ≤ 260) (kk : ∀ (d1 : Drawn) (see : Nat → Int32) (fou : Nat → Int32) (H : Heap) (locs : List Loc) (ls : Array Slot), s.drawn.sameBut d1 lw_cs → va_P D vwCl ((fW g hn ha adn ada cI hei dra rai (q_hour hei dra rai σ) cre gai see fou z) ++ (([(tq, .inl (cI, 9, .inl ft)), (cq, .inl (cI, 9, .inl fc))]) ++ ((sM h a r aw bw cI cJ hei dra rai (q_hour hei dra rai σ)) ++ ((wG q rr cI cJ G))))) H → va_D A ((fW g hn ha adn ada cI hei dra rai (q_hour hei dra rai σ) cre gai see fou z) ++ (([(tq, .inl (cI, 9, .inl ft)), (cq, .inl (cI, 9, .inl fc))]) ++ ((sM h a r aw bw cI cJ hei dra rai (q_hour hei dra rai σ)) ++ ((wG q rr cI cJ G))))) → va_S A s.heap H locs → lv_has ls 22 [(0, .ref κ.2.2.1), (1, .ref g), (2, .ref h), (3, .int (nI t)), (4, .int zv), (5, .ref q), (6, .ref cq), (7, .ref tq), (8, .int (nI xa)), (9, .int (nI ya)), (10, .int (q_floods hei dra rai σ (8 * ya + xa))), (11, .int (q_breaks hei dra rai σ (8 * ya + xa))), (12, .int (m_lef (q_hour hei dra rai σ) - m_lef σ)), (13, .int (rai (m_t σ % 12)))] → W p l e room_1 (s.setDrawn d1) m args below meth c H locs (nC + 4) (nS + 24) Q (F0 m 1011 ls [])) {H : Heap} {locs : List Loc} {ls : Array Slot} (hP : va_P D vwCl ((fW g hn ha adn ada cI hei dra rai (q_hour hei dra rai σ) cre gai see fou z) ++ (([(tq, .inl (cI, 9, .inl ft)), (cq, .inl (cI, 9, .inl fc))]) ++ ((sM h a r aw bw cI cJ hei dra rai (q_hour hei dra rai σ)) ++ ((wG q rr cI cJ G))))) H) (hD : va_D A ((fW g hn ha adn ada cI hei dra rai (q_hour hei dra rai σ) cre gai see fou z) ++ (([(tq, .inl (cI, 9, .inl ft)), (cq, .inl (cI, 9, .inl fc))]) ++ ((sM h a r aw bw cI cJ hei dra rai (q_hour hei dra rai σ)) ++ ((wG q rr cI cJ G)))))) (hS : va_S A s.heap H locs) (hl : lv_has ls 22 [(0, .ref κ.2.2.1), (1, .ref g), (2, .ref h), (3, .int (nI t)), (4, .int zv), (5, .ref q), (6, .ref cq), (7, .ref tq), (8, .int (nI xa)), (9, .int (nI ya)), (10, .int (q_floods hei dra rai σ (8 * ya + xa))), (11, .int (q_breaks hei dra rai σ (8 * ya + xa))), (12, .int (m_lef (q_hour hei dra rai σ) - m_lef σ)), (13, .int (rai (m_t σ % 12))), (14, .int (q_sum (q_pos (m_wat (q_hour hei dra rai σ))) 64))]) : W p l e room_1 (s.setDrawn d0) m args below meth c H locs nC nS Q (F0 m 934 ls []) := by
  have C9 := C0
  obtain ⟨hx, hb, hml, hown, hts, hA, hK, hX⟩ := C0
  have hown : (s.setDrawn d0).vm.findClass RL = some m.cls := hown
  refine lv_iload hx hb dL_law_934 (lv_at hl 14 rfl) ?_
  refine lv_aload_n hx hb dL_law_936 rfl (lv_at hl 1 rfl) ?_
  refine lv_iconst (v := 2) hx hb dL_law_937 (by decide) ?_
  refine cpx_Vi (As := [.int 2]) (rest := [.int (q_sum (q_pos (m_wat (q_hour hei dra rai σ))) 64)]) (wr := ((([(tq, .inl (cI, 9, .inl ft)), (cq, .inl (cI, 9, .inl fc))]) ++ ((sM h a r aw bw cI cJ hei dra rai (q_hour hei dra rai σ)) ++ ((wG q rr cI cJ G)))))) (cells1 := (nC + 1)) (slots1 := (nS + 6)) ⟨hx, hb, hml, hown, hts⟩ (c_X1_count l hst D cI κ.1 κ.2.1 g hn ha adn ada hei dra rai (q_hour hei dra rai σ) cre gai see fou z 2) (cwV 1 hts gL_law_X1_count rfl rfl rfl (by decide +kernel) ⟨Nat.le_of_ble_eq_true rfl, Nat.le_of_ble_eq_true rfl⟩) hK hP hD hS hA hX.1 (fun E z9 => by exact z9.2 (by decide)) [0] rfl (va_recv hK hP (ci := 1) (q0 := 0) rfl rfl) rfl hl.1 rfl (Nat.le_of_ble_eq_true rfl) rfl rfl ⟨by show _ ≤ 608781; omega, by show _ ≤ 7275125; omega⟩ dL_law_938 (fun r1 u1 H locs hw hP hD hS => ?_)
  have hP : va_P D vwCl ((fW g hn ha adn ada cI hei dra rai (q_hour hei dra rai σ) cre gai u1.1 u1.2 z) ++ (([(tq, .inl (cI, 9, .inl ft)), (cq, .inl (cI, 9, .inl fc))]) ++ ((sM h a r aw bw cI cJ hei dra rai (q_hour hei dra rai σ)) ++ ((wG q rr cI cJ G))))) H := hP
  have hD : va_D A ((fW g hn ha adn ada cI hei dra rai (q_hour hei dra rai σ) cre gai u1.1 u1.2 z) ++ (([(tq, .inl (cI, 9, .inl ft)), (cq, .inl (cI, 9, .inl fc))]) ++ ((sM h a r aw bw cI cJ hei dra rai (q_hour hei dra rai σ)) ++ ((wG q rr cI cJ G))))) := hD
  have e1 : r1 = (q_tally (q_hour hei dra rai σ) 2) := hw.2
  subst e1
  refine lv_icmp_ne (tgt := 1009) hx hb dL_law_941 (by decide) (fun hs => ?_) (fun hs => ?_)
  · exact absurd rfl hs
  refine lv_aload_n hx hb dL_law_944 rfl (lv_at hl 1 rfl) ?_
  refine cp_Vd (As := []) (rest := []) (wr := ((([(tq, .inl (cI, 9, .inl ft)), (cq, .inl (cI, 9, .inl fc))]) ++ ((sM h a r aw bw cI cJ hei dra rai (q_hour hei dra rai σ)) ++ ((wG q rr cI cJ G)))))) (cells1 := (nC + 1)) (slots1 := (nS + 6)) hd0 ⟨hx, hb, hml, hown, hts⟩ (c_X1_mean l D cI g hn ha adn ada hei dra rai (q_hour hei dra rai σ) cre gai u1.1 u1.2 z) (cwV 0 hts gL_law_X1_mean rfl rfl rfl (by decide +kernel) ⟨Nat.le_of_ble_eq_true rfl, Nat.le_of_ble_eq_true rfl⟩) hK hP hD hS hA [0] rfl (va_recv hK hP (ci := 1) (q0 := 0) rfl rfl) rfl hl.1 rfl (Nat.le_of_ble_eq_true rfl) rfl rfl ⟨by show _ ≤ 608781; omega, by show _ ≤ 7275125; omega⟩ dL_law_945 (fun r0 u d1 H locs hd1 hm hP hD hS => ?_)
  have hP : va_P D vwCl ((fW g hn ha adn ada cI hei dra rai (q_hour hei dra rai σ) cre gai u1.1 u1.2 z) ++ (([(tq, .inl (cI, 9, .inl ft)), (cq, .inl (cI, 9, .inl fc))]) ++ ((sM h a r aw bw cI cJ hei dra rai (q_hour hei dra rai σ)) ++ ((wG q rr cI cJ G))))) H := hP
  have hD : va_D A ((fW g hn ha adn ada cI hei dra rai (q_hour hei dra rai σ) cre gai u1.1 u1.2 z) ++ (([(tq, .inl (cI, 9, .inl ft)), (cq, .inl (cI, 9, .inl fc))]) ++ ((sM h a r aw bw cI cJ hei dra rai (q_hour hei dra rai σ)) ++ ((wG q rr cI cJ G))))) := hD
  clear hown hts hA hK hX
  obtain ⟨-, -, -, hown, hts, hA, hK, hX⟩ := (show cg_S p (s.setDrawn d1) m args c A D yL_law wsL_law cL_law 22 [(cI, .int), (cJ, .array .int), (cZ, .boolean), (cB, .array .boolean)] κ from C9.drew d1)
  have hown : (s.setDrawn d1).vm.findClass RL = some m.cls := hown
  refine lv_iload hx hb dL_law_948 (lv_at hl 14 rfl) ?_
  refine lv_if_ne (tgt := 957) hx hb dL_law_950 (by decide) (fun hz => ?_) (fun hz => ?_)
  · skip
    refine lv_aload_n hx hb dL_law_957 rfl (lv_at hl 1 rfl) ?_
    refine lv_iconst (v := 1) hx hb dL_law_958 (by decide) ?_
    refine cpx_Vi (As := [.int 1]) (rest := [.double r0]) (wr := ((([(tq, .inl (cI, 9, .inl ft)), (cq, .inl (cI, 9, .inl fc))]) ++ ((sM h a r aw bw cI cJ hei dra rai (q_hour hei dra rai σ)) ++ ((wG q rr cI cJ G)))))) (cells1 := ((nC + 1) + 1)) (slots1 := ((nS + 6) + 6)) ⟨hx, hb, hml, hown, hts⟩ (c_X1_count l hst D cI κ.1 κ.2.1 g hn ha adn ada hei dra rai (q_hour hei dra rai σ) cre gai u1.1 u1.2 z 1) (cwV 1 hts gL_law_X1_count rfl rfl rfl (by decide +kernel) ⟨Nat.le_of_ble_eq_true rfl, Nat.le_of_ble_eq_true rfl⟩) hK hP hD hS hA hX.1 (fun E z9 => by exact z9.2 (by decide)) [0] rfl (va_recv hK hP (ci := 1) (q0 := 0) rfl rfl) rfl hl.1 rfl (Nat.le_of_ble_eq_true rfl) rfl rfl ⟨by show _ ≤ 608781; omega, by show _ ≤ 7275125; omega⟩ dL_law_959 (fun r2 u2 H locs hw hP hD hS => ?_)
    have hP : va_P D vwCl ((fW g hn ha adn ada cI hei dra rai (q_hour hei dra rai σ) cre gai u2.1 u2.2 z) ++ (([(tq, .inl (cI, 9, .inl ft)), (cq, .inl (cI, 9, .inl fc))]) ++ ((sM h a r aw bw cI cJ hei dra rai (q_hour hei dra rai σ)) ++ ((wG q rr cI cJ G))))) H := hP
    have hD : va_D A ((fW g hn ha adn ada cI hei dra rai (q_hour hei dra rai σ) cre gai u2.1 u2.2 z) ++ (([(tq, .inl (cI, 9, .inl ft)), (cq, .inl (cI, 9, .inl fc))]) ++ ((sM h a r aw bw cI cJ hei dra rai (q_hour hei dra rai σ)) ++ ((wG q rr cI cJ G))))) := hD
    have e1 : r2 = (q_tally (q_hour hei dra rai σ) 1) := hw.2
    subst e1
    refine lv_i2d hx hb dL_law_962 ?_
    refine lv_iload hx hb dL_law_963 (lv_at hl 14 rfl) ?_
    refine lv_i2d hx hb dL_law_965 ?_
    refine lv_ddiv_any hd1 lw_bits hx hb dL_law_966 (fun r9 d2 hal hd2 => ?_)
    clear hown hts hA hK hX
    obtain ⟨-, -, -, hown, hts, hA, hK, hX⟩ := (show cg_S p (s.setDrawn d2) m args c A D yL_law wsL_law cL_law 22 [(cI, .int), (cJ, .array .int), (cZ, .boolean), (cB, .array .boolean)] κ from C9.drew d2)
    have hown : (s.setDrawn d2).vm.findClass RL = some m.cls := hown
    refine lv_dcmp hx hb dL_law_967 ?_
    refine lv_if_ne (tgt := 1009) hx hb dL_law_968 (by decide) (fun hs => ?_) (fun hs => ?_)
    · exact absurd (nn_mean1 hm hz hal) hs
    refine lv_aload_n hx hb dL_law_971 rfl (lv_at hl 1 rfl) ?_
    refine lv_bipush (v := 8) hx hb dL_law_972 (by decide) ?_
    refine cpx_Vi (As := [.int 8]) (rest := []) (wr := ((([(tq, .inl (cI, 9, .inl ft)), (cq, .inl (cI, 9, .inl fc))]) ++ ((sM h a r aw bw cI cJ hei dra rai (q_hour hei dra rai σ)) ++ ((wG q rr cI cJ G)))))) (cells1 := (((nC + 1) + 1) + 1)) (slots1 := (((nS + 6) + 6) + 6)) ⟨hx, hb, hml, hown, hts⟩ (c_X1_count l hst D cI κ.1 κ.2.1 g hn ha adn ada hei dra rai (q_hour hei dra rai σ) cre gai u2.1 u2.2 z 8) (cwV 1 hts gL_law_X1_count rfl rfl rfl (by decide +kernel) ⟨Nat.le_of_ble_eq_true rfl, Nat.le_of_ble_eq_true rfl⟩) hK hP hD hS hA hX.1 (fun E z9 => by exact z9.2 (by decide)) [0] rfl (va_recv hK hP (ci := 1) (q0 := 0) rfl rfl) rfl hl.1 rfl (Nat.le_of_ble_eq_true rfl) rfl rfl ⟨by show _ ≤ 608781; omega, by show _ ≤ 7275125; omega⟩ dL_law_974 (fun r3 u3 H locs hw hP hD hS => ?_)
    have hP : va_P D vwCl ((fW g hn ha adn ada cI hei dra rai (q_hour hei dra rai σ) cre gai u3.1 u3.2 z) ++ (([(tq, .inl (cI, 9, .inl ft)), (cq, .inl (cI, 9, .inl fc))]) ++ ((sM h a r aw bw cI cJ hei dra rai (q_hour hei dra rai σ)) ++ ((wG q rr cI cJ G))))) H := hP
    have hD : va_D A ((fW g hn ha adn ada cI hei dra rai (q_hour hei dra rai σ) cre gai u3.1 u3.2 z) ++ (([(tq, .inl (cI, 9, .inl ft)), (cq, .inl (cI, 9, .inl fc))]) ++ ((sM h a r aw bw cI cJ hei dra rai (q_hour hei dra rai σ)) ++ ((wG q rr cI cJ G))))) := hD
    have e1 : r3 = (q_tally (q_hour hei dra rai σ) 8) := hw.2
    subst e1
    refine lv_iload hx hb dL_law_977 (lv_at hl 14 rfl) ?_
    refine lv_icmp_gt (tgt := 1009) hx hb dL_law_979 (by decide) (fun hs => ?_) (fun hs => ?_)
    · exact absurd hs (Int32.not_lt.mpr (lakes_le (m_wat (q_hour hei dra rai σ))).1)
    refine lv_aload_n hx hb dL_law_982 rfl (lv_at hl 1 rfl) ?_
    refine lv_bipush (v := 8) hx hb dL_law_983 (by decide) ?_
    refine cpx_Vi (As := [.int 8]) (rest := []) (wr := ((([(tq, .inl (cI, 9, .inl ft)), (cq, .inl (cI, 9, .inl fc))]) ++ ((sM h a r aw bw cI cJ hei dra rai (q_hour hei dra rai σ)) ++ ((wG q rr cI cJ G)))))) (cells1 := ((((nC + 1) + 1) + 1) + 1)) (slots1 := ((((nS + 6) + 6) + 6) + 6)) ⟨hx, hb, hml, hown, hts⟩ (c_X1_count l hst D cI κ.1 κ.2.1 g hn ha adn ada hei dra rai (q_hour hei dra rai σ) cre gai u3.1 u3.2 z 8) (cwV 1 hts gL_law_X1_count rfl rfl rfl (by decide +kernel) ⟨Nat.le_of_ble_eq_true rfl, Nat.le_of_ble_eq_true rfl⟩) hK hP hD hS hA hX.1 (fun E z9 => by exact z9.2 (by decide)) [0] rfl (va_recv hK hP (ci := 1) (q0 := 0) rfl rfl) rfl hl.1 rfl (Nat.le_of_ble_eq_true rfl) rfl rfl ⟨by show _ ≤ 608781; omega, by show _ ≤ 7275125; omega⟩ dL_law_985 (fun r4 u4 H locs hw hP hD hS => ?_)
    have hP : va_P D vwCl ((fW g hn ha adn ada cI hei dra rai (q_hour hei dra rai σ) cre gai u4.1 u4.2 z) ++ (([(tq, .inl (cI, 9, .inl ft)), (cq, .inl (cI, 9, .inl fc))]) ++ ((sM h a r aw bw cI cJ hei dra rai (q_hour hei dra rai σ)) ++ ((wG q rr cI cJ G))))) H := hP
    have hD : va_D A ((fW g hn ha adn ada cI hei dra rai (q_hour hei dra rai σ) cre gai u4.1 u4.2 z) ++ (([(tq, .inl (cI, 9, .inl ft)), (cq, .inl (cI, 9, .inl fc))]) ++ ((sM h a r aw bw cI cJ hei dra rai (q_hour hei dra rai σ)) ++ ((wG q rr cI cJ G))))) := hD
    have e1 : r4 = (q_tally (q_hour hei dra rai σ) 8) := hw.2
    subst e1
    refine lv_if_le (tgt := 995) hx hb dL_law_988 (by decide) (fun h1 => ?_) (fun h1 => ?_)
    · skip
      refine lv_iconst (v := 0) hx hb dL_law_995 (by decide) ?_
      refine lv_iload hx hb dL_law_996 (lv_at hl 14 rfl) ?_
      refine lv_if_le (tgt := 1005) hx hb dL_law_998 (by decide) (fun h2 => ?_) (fun h2 => ?_)
      · skip
        refine lv_iconst (v := 0) hx hb dL_law_1005 (by decide) ?_
        refine lv_icmp_eq (tgt := 1011) hx hb dL_law_1006 (by decide) (fun hs => ?_) (fun hs => ?_)
        rotate_left
        · exact absurd rfl hs
        refine W.widen (k := (nC + 4)) (n := (nS + 24)) (by omega) (by omega) ?_
        exact kk d2 u4.1 u4.2 H locs ls hd2 hP hD hS (lv_sub hl [0, 1, 2, 3, 4, 5, 6, 7, 8, 9, 10, 11, 12, 13] rfl)
      · skip
        exact absurd ((lakes_le (m_wat (q_hour hei dra rai σ))).2.mpr (Int32.not_le.mp h2)) (Int32.not_lt.mpr h1)
    · skip
      refine lv_iconst (v := 1) hx hb dL_law_991 (by decide) ?_
      refine lv_goto (tgt := 996) hx hb dL_law_992 (by decide) ?_
      refine lv_iload hx hb dL_law_996 (lv_at hl 14 rfl) ?_
      refine lv_if_le (tgt := 1005) hx hb dL_law_998 (by decide) (fun h2 => ?_) (fun h2 => ?_)
      · skip
        exact absurd ((lakes_le (m_wat (q_hour hei dra rai σ))).2.mp (Int32.not_le.mp h1)) (Int32.not_lt.mpr h2)
      · skip
        refine lv_iconst (v := 1) hx hb dL_law_1001 (by decide) ?_
        refine lv_goto (tgt := 1006) hx hb dL_law_1002 (by decide) ?_
        refine lv_icmp_eq (tgt := 1011) hx hb dL_law_1006 (by decide) (fun hs => ?_) (fun hs => ?_)
        rotate_left
        · exact absurd rfl hs
        refine W.widen (k := (nC + 4)) (n := (nS + 24)) (by omega) (by omega) ?_
        exact kk d2 u4.1 u4.2 H locs ls hd2 hP hD hS (lv_sub hl [0, 1, 2, 3, 4, 5, 6, 7, 8, 9, 10, 11, 12, 13] rfl)
  · skip
    refine lv_dconst0 hx hb dL_law_953 ?_
    refine lv_goto (tgt := 967) hx hb dL_law_954 (by decide) ?_
    refine lv_dcmp hx hb dL_law_967 ?_
    refine lv_if_ne (tgt := 1009) hx hb dL_law_968 (by decide) (fun hs => ?_) (fun hs => ?_)
    · exact absurd (nn_mean0 hm hz) hs
    refine lv_aload_n hx hb dL_law_971 rfl (lv_at hl 1 rfl) ?_
    refine lv_bipush (v := 8) hx hb dL_law_972 (by decide) ?_
    refine cpx_Vi (As := [.int 8]) (rest := []) (wr := ((([(tq, .inl (cI, 9, .inl ft)), (cq, .inl (cI, 9, .inl fc))]) ++ ((sM h a r aw bw cI cJ hei dra rai (q_hour hei dra rai σ)) ++ ((wG q rr cI cJ G)))))) (cells1 := ((nC + 1) + 1)) (slots1 := ((nS + 6) + 6)) ⟨hx, hb, hml, hown, hts⟩ (c_X1_count l hst D cI κ.1 κ.2.1 g hn ha adn ada hei dra rai (q_hour hei dra rai σ) cre gai u1.1 u1.2 z 8) (cwV 1 hts gL_law_X1_count rfl rfl rfl (by decide +kernel) ⟨Nat.le_of_ble_eq_true rfl, Nat.le_of_ble_eq_true rfl⟩) hK hP hD hS hA hX.1 (fun E z9 => by exact z9.2 (by decide)) [0] rfl (va_recv hK hP (ci := 1) (q0 := 0) rfl rfl) rfl hl.1 rfl (Nat.le_of_ble_eq_true rfl) rfl rfl ⟨by show _ ≤ 608781; omega, by show _ ≤ 7275125; omega⟩ dL_law_974 (fun r3 u3 H locs hw hP hD hS => ?_)
    have hP : va_P D vwCl ((fW g hn ha adn ada cI hei dra rai (q_hour hei dra rai σ) cre gai u3.1 u3.2 z) ++ (([(tq, .inl (cI, 9, .inl ft)), (cq, .inl (cI, 9, .inl fc))]) ++ ((sM h a r aw bw cI cJ hei dra rai (q_hour hei dra rai σ)) ++ ((wG q rr cI cJ G))))) H := hP
    have hD : va_D A ((fW g hn ha adn ada cI hei dra rai (q_hour hei dra rai σ) cre gai u3.1 u3.2 z) ++ (([(tq, .inl (cI, 9, .inl ft)), (cq, .inl (cI, 9, .inl fc))]) ++ ((sM h a r aw bw cI cJ hei dra rai (q_hour hei dra rai σ)) ++ ((wG q rr cI cJ G))))) := hD
    have e1 : r3 = (q_tally (q_hour hei dra rai σ) 8) := hw.2
    subst e1
    refine lv_iload hx hb dL_law_977 (lv_at hl 14 rfl) ?_
    refine lv_icmp_gt (tgt := 1009) hx hb dL_law_979 (by decide) (fun hs => ?_) (fun hs => ?_)
    · exact absurd hs (Int32.not_lt.mpr (lakes_le (m_wat (q_hour hei dra rai σ))).1)
    refine lv_aload_n hx hb dL_law_982 rfl (lv_at hl 1 rfl) ?_
    refine lv_bipush (v := 8) hx hb dL_law_983 (by decide) ?_
    refine cpx_Vi (As := [.int 8]) (rest := []) (wr := ((([(tq, .inl (cI, 9, .inl ft)), (cq, .inl (cI, 9, .inl fc))]) ++ ((sM h a r aw bw cI cJ hei dra rai (q_hour hei dra rai σ)) ++ ((wG q rr cI cJ G)))))) (cells1 := (((nC + 1) + 1) + 1)) (slots1 := (((nS + 6) + 6) + 6)) ⟨hx, hb, hml, hown, hts⟩ (c_X1_count l hst D cI κ.1 κ.2.1 g hn ha adn ada hei dra rai (q_hour hei dra rai σ) cre gai u3.1 u3.2 z 8) (cwV 1 hts gL_law_X1_count rfl rfl rfl (by decide +kernel) ⟨Nat.le_of_ble_eq_true rfl, Nat.le_of_ble_eq_true rfl⟩) hK hP hD hS hA hX.1 (fun E z9 => by exact z9.2 (by decide)) [0] rfl (va_recv hK hP (ci := 1) (q0 := 0) rfl rfl) rfl hl.1 rfl (Nat.le_of_ble_eq_true rfl) rfl rfl ⟨by show _ ≤ 608781; omega, by show _ ≤ 7275125; omega⟩ dL_law_985 (fun r4 u4 H locs hw hP hD hS => ?_)
    have hP : va_P D vwCl ((fW g hn ha adn ada cI hei dra rai (q_hour hei dra rai σ) cre gai u4.1 u4.2 z) ++ (([(tq, .inl (cI, 9, .inl ft)), (cq, .inl (cI, 9, .inl fc))]) ++ ((sM h a r aw bw cI cJ hei dra rai (q_hour hei dra rai σ)) ++ ((wG q rr cI cJ G))))) H := hP
    have hD : va_D A ((fW g hn ha adn ada cI hei dra rai (q_hour hei dra rai σ) cre gai u4.1 u4.2 z) ++ (([(tq, .inl (cI, 9, .inl ft)), (cq, .inl (cI, 9, .inl fc))]) ++ ((sM h a r aw bw cI cJ hei dra rai (q_hour hei dra rai σ)) ++ ((wG q rr cI cJ G))))) := hD
    have e1 : r4 = (q_tally (q_hour hei dra rai σ) 8) := hw.2
    subst e1
    refine lv_if_le (tgt := 995) hx hb dL_law_988 (by decide) (fun h1 => ?_) (fun h1 => ?_)
    · skip
      refine lv_iconst (v := 0) hx hb dL_law_995 (by decide) ?_
      refine lv_iload hx hb dL_law_996 (lv_at hl 14 rfl) ?_
      refine lv_if_le (tgt := 1005) hx hb dL_law_998 (by decide) (fun h2 => ?_) (fun h2 => ?_)
      · skip
        refine lv_iconst (v := 0) hx hb dL_law_1005 (by decide) ?_
        refine lv_icmp_eq (tgt := 1011) hx hb dL_law_1006 (by decide) (fun hs => ?_) (fun hs => ?_)
        rotate_left
        · exact absurd rfl hs
        refine W.widen (k := (nC + 4)) (n := (nS + 24)) (by omega) (by omega) ?_
        exact kk d1 u4.1 u4.2 H locs ls hd1 hP hD hS (lv_sub hl [0, 1, 2, 3, 4, 5, 6, 7, 8, 9, 10, 11, 12, 13] rfl)
      · skip
        exact absurd ((lakes_le (m_wat (q_hour hei dra rai σ))).2.mpr (Int32.not_le.mp h2)) (Int32.not_lt.mpr h1)
    · skip
      refine lv_iconst (v := 1) hx hb dL_law_991 (by decide) ?_
      refine lv_goto (tgt := 996) hx hb dL_law_992 (by decide) ?_
      refine lv_iload hx hb dL_law_996 (lv_at hl 14 rfl) ?_
      refine lv_if_le (tgt := 1005) hx hb dL_law_998 (by decide) (fun h2 => ?_) (fun h2 => ?_)
      · skip
        exact absurd ((lakes_le (m_wat (q_hour hei dra rai σ))).2.mp (Int32.not_le.mp h1)) (Int32.not_lt.mpr h2)
      · skip
        refine lv_iconst (v := 1) hx hb dL_law_1001 (by decide) ?_
        refine lv_goto (tgt := 1006) hx hb dL_law_1002 (by decide) ?_
        refine lv_icmp_eq (tgt := 1011) hx hb dL_law_1006 (by decide) (fun hs => ?_) (fun hs => ?_)
        rotate_left
        · exact absurd rfl hs
        refine W.widen (k := (nC + 4)) (n := (nS + 24)) (by omega) (by omega) ?_
        exact kk d1 u4.1 u4.2 H locs ls hd1 hP hD hS (lv_sub hl [0, 1, 2, 3, 4, 5, 6, 7, 8, 9, 10, 11, 12, 13] rfl)
