set_option maxHeartbeats 4000000 in
set_option maxRecDepth 100000 in
theorem lw_chk1 {p : Program} {l : Launch} {e : Env} {s : State} {m : MethodId} {args : Array Value} {below : List Frame} {meth : Method} {c : Code} {A : Nat → Prop} {Q : State → Prop} {D : va_G} {cI cJ cZ cB : ClassId} {κ : Kx} {g hn ha : Nat} {adn ada : Nat → Nat} {cre gai see fou : Nat → Int32} {z : Nat → Nat → Int32} {h : Nat} {a : Nat → Nat} {r : Nat → Nat → Nat} {aw : Nat} {bw : Nat → Nat} {hei dra rai : Nat → Int32} {σ : Ms} {nC nS : Nat} {t xa ya : Nat} {zv : Int32} {q : Nat} {rr : Nat → Nat} {G : Nat → Nat → Int32} {tq cq : Nat} {ft fc : Nat → Int32} (C0 : cg_S p s m args c A D yL_law wsL_law cL_law 22 [(cI, .int), (cJ, .array .int), (cZ, .boolean), (cB, .array .boolean)] κ) (hC : nC ≤ 500000 ∧ nS ≤ 6000000) (hst : l.stackTraces = false) (hL : κ.2.2.2.1 ≤ 260) (hfc : ∀ j, 0 ≤ j → j < 9 → fc j = q_tally σ j) (hft : ∀ j, 1 ≤ j → j < 9 → ft j = q_tally (q_hour hei dra rai σ) j) (kk : ∀ (see : Nat → Int32) (fou : Nat → Int32) (H : Heap) (locs : List Loc) (ls : Array Slot), va_P D vwCl ((fW g hn ha adn ada cI hei dra rai (q_hour hei dra rai σ) cre gai see fou z) ++ (([(tq, .inl (cI, 9, .inl ft)), (cq, .inl (cI, 9, .inl fc))]) ++ ((sM h a r aw bw cI cJ hei dra rai (q_hour hei dra rai σ)) ++ ((wG q rr cI cJ G))))) H → va_D A ((fW g hn ha adn ada cI hei dra rai (q_hour hei dra rai σ) cre gai see fou z) ++ (([(tq, .inl (cI, 9, .inl ft)), (cq, .inl (cI, 9, .inl fc))]) ++ ((sM h a r aw bw cI cJ hei dra rai (q_hour hei dra rai σ)) ++ ((wG q rr cI cJ G))))) → va_S A s.heap H locs → lv_has ls 22 [(0, .ref κ.2.2.1), (1, .ref g), (2, .ref h), (3, .int (nI t)), (4, .int zv), (5, .ref q), (6, .ref cq), (7, .ref tq), (8, .int (nI xa)), (9, .int (nI ya)), (10, .int (q_floods hei dra rai σ (8 * ya + xa))), (11, .int (q_breaks hei dra rai σ (8 * ya + xa))), (12, .int (m_lef (q_hour hei dra rai σ) - m_lef σ)), (13, .int (rai (m_t σ % 12)))] → W p l e room_1 s m args below meth c H locs (nC + 15) (nS + 90) Q (F0 m 415 ls [])) {H : Heap} {locs : List Loc} {ls : Array Slot} (hP : va_P D vwCl ((fW g hn ha adn ada cI hei dra rai (q_hour hei dra rai σ) cre gai see fou z) ++ (([(tq, .inl (cI, 9, .inl ft)), (cq, .inl (cI, 9, .inl fc))]) ++ ((sM h a r aw bw cI cJ hei dra rai (q_hour hei dra rai σ)) ++ ((wG q rr cI cJ G))))) H) (hD : va_D A ((fW g hn ha adn ada cI hei dra rai (q_hour hei dra rai σ) cre gai see fou z) ++ (([(tq, .inl (cI, 9, .inl ft)), (cq, .inl (cI, 9, .inl fc))]) ++ ((sM h a r aw bw cI cJ hei dra rai (q_hour hei dra rai σ)) ++ ((wG q rr cI cJ G)))))) (hS : va_S A s.heap H locs) (hl : lv_has ls 22 [(0, .ref κ.2.2.1), (1, .ref g), (2, .ref h), (3, .int (nI t)), (4, .int zv), (5, .ref q), (6, .ref cq), (7, .ref tq), (8, .int (nI xa)), (9, .int (nI ya)), (10, .int (q_floods hei dra rai σ (8 * ya + xa))), (11, .int (q_breaks hei dra rai σ (8 * ya + xa))), (12, .int (m_lef (q_hour hei dra rai σ) - m_lef σ)), (13, .int (rai (m_t σ % 12)))]) : W p l e room_1 s m args below meth c H locs nC nS Q (F0 m 281 ls []) := by
  obtain ⟨hx, hb, hml, hown, hts, hA, hK, hX⟩ := C0
  have hown : s.vm.findClass RL = some m.cls := hown
  refine lv_iconst (v := 1) hx hb dL_law_281 (by decide) ?_
  refine lv_istore (lv' := [(14, .int 1), (0, .ref κ.2.2.1), (1, .ref g), (2, .ref h), (3, .int (nI t)), (4, .int zv), (5, .ref q), (6, .ref cq), (7, .ref tq), (8, .int (nI xa)), (9, .int (nI ya)), (10, .int (q_floods hei dra rai σ (8 * ya + xa))), (11, .int (q_breaks hei dra rai σ (8 * ya + xa))), (12, .int (m_lef (q_hour hei dra rai σ) - m_lef σ)), (13, .int (rai (m_t σ % 12)))]) hx hb dL_law_282 hl (by decide) rfl (fun ls hl => ?_)
  refine W.widen (k := (nC + 1 * 0)) (n := (nS + 6 * 0)) (by omega) (by omega) ?_
  have ln : ∀ (fun8 n : Nat), n + fun8 = 8 → ∀ (see : Nat → Int32) (fou : Nat → Int32) (H : Heap) (locs : List Loc) (ls : Array Slot), va_P D vwCl ((fW g hn ha adn ada cI hei dra rai (q_hour hei dra rai σ) cre gai see fou z) ++ (([(tq, .inl (cI, 9, .inl ft)), (cq, .inl (cI, 9, .inl fc))]) ++ ((sM h a r aw bw cI cJ hei dra rai (q_hour hei dra rai σ)) ++ ((wG q rr cI cJ G))))) H → va_D A ((fW g hn ha adn ada cI hei dra rai (q_hour hei dra rai σ) cre gai see fou z) ++ (([(tq, .inl (cI, 9, .inl ft)), (cq, .inl (cI, 9, .inl fc))]) ++ ((sM h a r aw bw cI cJ hei dra rai (q_hour hei dra rai σ)) ++ ((wG q rr cI cJ G))))) → va_S A s.heap H locs → lv_has ls 22 [(0, .ref κ.2.2.1), (1, .ref g), (2, .ref h), (3, .int (nI t)), (4, .int zv), (5, .ref q), (6, .ref cq), (7, .ref tq), (8, .int (nI xa)), (9, .int (nI ya)), (10, .int (q_floods hei dra rai σ (8 * ya + xa))), (11, .int (q_breaks hei dra rai σ (8 * ya + xa))), (12, .int (m_lef (q_hour hei dra rai σ) - m_lef σ)), (13, .int (rai (m_t σ % 12))), (14, .int (nI (n + 1)))] → W p l e room_1 s m args below meth c H locs (nC + 1 * n) (nS + 6 * n) Q (F0 m 284 ls []) := by
    intro fun8
    induction fun8 with
    | zero =>
      intro n hin see fou H locs ls  hP hD hS hl
      obtain rfl : 8 = n := by omega
      refine lv_iload hx hb dL_law_284 (lv_at hl 14 rfl) ?_
      refine lv_bipush (v := 9) hx hb dL_law_286 (by decide) ?_
      refine lv_icmp_ge (tgt := 313) hx hb dL_law_288 (by decide) (fun hc => ?_) (fun hc => ?_)
      · skip
        refine lv_aload_n hx hb dL_law_313 rfl (lv_at hl 1 rfl) ?_
        refine lv_iconst (v := 0) hx hb dL_law_314 (by decide) ?_
        refine cpx_Vi (As := [.int 0]) (rest := []) (wr := ((([(tq, .inl (cI, 9, .inl ft)), (cq, .inl (cI, 9, .inl fc))]) ++ ((sM h a r aw bw cI cJ hei dra rai (q_hour hei dra rai σ)) ++ ((wG q rr cI cJ G)))))) (cells1 := ((nC + 1 * 8) + 1)) (slots1 := ((nS + 6 * 8) + 6)) ⟨hx, hb, hml, hown, hts⟩ (c_X1_count l hst D cI κ.1 κ.2.1 g hn ha adn ada hei dra rai (q_hour hei dra rai σ) cre gai see fou z 0) (cwV 1 hts gL_law_X1_count rfl rfl rfl (by decide +kernel) ⟨Nat.le_of_ble_eq_true rfl, Nat.le_of_ble_eq_true rfl⟩) hK hP hD hS hA hX.1 (fun E z9 => by exact z9.2 (by decide)) [0] rfl (va_recv hK hP (ci := 1) (q0 := 0) rfl rfl) rfl hl.1 rfl (Nat.le_of_ble_eq_true rfl) rfl rfl ⟨by show _ ≤ 608781; omega, by show _ ≤ 7275125; omega⟩ dL_law_315 (fun r0 u0 H locs hw hP hD hS => ?_)
        have hP : va_P D vwCl ((fW g hn ha adn ada cI hei dra rai (q_hour hei dra rai σ) cre gai u0.1 u0.2 z) ++ (([(tq, .inl (cI, 9, .inl ft)), (cq, .inl (cI, 9, .inl fc))]) ++ ((sM h a r aw bw cI cJ hei dra rai (q_hour hei dra rai σ)) ++ ((wG q rr cI cJ G))))) H := hP
        have hD : va_D A ((fW g hn ha adn ada cI hei dra rai (q_hour hei dra rai σ) cre gai u0.1 u0.2 z) ++ (([(tq, .inl (cI, 9, .inl ft)), (cq, .inl (cI, 9, .inl fc))]) ++ ((sM h a r aw bw cI cJ hei dra rai (q_hour hei dra rai σ)) ++ ((wG q rr cI cJ G))))) := hD
        have e1 : r0 = (q_tally (q_hour hei dra rai σ) 0) := hw.2
        subst e1
        refine lv_aload hx hb dL_law_318 (lv_at hl 6 rfl) ?_
        refine lv_iconst (v := 0) hx hb dL_law_320 (by decide) ?_
        refine ct_iald (v := (q_tally σ 0)) hx hb hK hP 26 0 rfl rfl 0 rfl (by decide) (by decide) (hfc 0 (Nat.zero_le _) (by decide)) dL_law_321 ?_
        refine lv_iconst (v := 1) hx hb dL_law_322 (by decide) ?_
        refine lv_iadd hx hb dL_law_323 ?_
        refine lv_icmp_ne (tgt := 413) hx hb dL_law_324 (by decide) (fun hs => ?_) (fun hs => ?_)
        · exact absurd ((nI_1 _).symm) hs
        refine lv_iload hx hb dL_law_327 (lv_at hl 12 rfl) ?_
        refine lv_aload_n hx hb dL_law_329 rfl (lv_at hl 1 rfl) ?_
        refine lv_bipush (v := 7) hx hb dL_law_330 (by decide) ?_
        refine cpx_Vi (As := [.int 7]) (rest := [.int (m_lef (q_hour hei dra rai σ) - m_lef σ)]) (wr := ((([(tq, .inl (cI, 9, .inl ft)), (cq, .inl (cI, 9, .inl fc))]) ++ ((sM h a r aw bw cI cJ hei dra rai (q_hour hei dra rai σ)) ++ ((wG q rr cI cJ G)))))) (cells1 := (((nC + 1 * 8) + 1) + 1)) (slots1 := (((nS + 6 * 8) + 6) + 6)) ⟨hx, hb, hml, hown, hts⟩ (c_X1_count l hst D cI κ.1 κ.2.1 g hn ha adn ada hei dra rai (q_hour hei dra rai σ) cre gai u0.1 u0.2 z 7) (cwV 1 hts gL_law_X1_count rfl rfl rfl (by decide +kernel) ⟨Nat.le_of_ble_eq_true rfl, Nat.le_of_ble_eq_true rfl⟩) hK hP hD hS hA hX.1 (fun E z9 => by exact z9.2 (by decide)) [0] rfl (va_recv hK hP (ci := 1) (q0 := 0) rfl rfl) rfl hl.1 rfl (Nat.le_of_ble_eq_true rfl) rfl rfl ⟨by show _ ≤ 608781; omega, by show _ ≤ 7275125; omega⟩ dL_law_332 (fun r1 u1 H locs hw hP hD hS => ?_)
        have hP : va_P D vwCl ((fW g hn ha adn ada cI hei dra rai (q_hour hei dra rai σ) cre gai u1.1 u1.2 z) ++ (([(tq, .inl (cI, 9, .inl ft)), (cq, .inl (cI, 9, .inl fc))]) ++ ((sM h a r aw bw cI cJ hei dra rai (q_hour hei dra rai σ)) ++ ((wG q rr cI cJ G))))) H := hP
        have hD : va_D A ((fW g hn ha adn ada cI hei dra rai (q_hour hei dra rai σ) cre gai u1.1 u1.2 z) ++ (([(tq, .inl (cI, 9, .inl ft)), (cq, .inl (cI, 9, .inl fc))]) ++ ((sM h a r aw bw cI cJ hei dra rai (q_hour hei dra rai σ)) ++ ((wG q rr cI cJ G))))) := hD
        have e1 : r1 = (q_tally (q_hour hei dra rai σ) 7) := hw.2
        subst e1
        refine lv_aload hx hb dL_law_335 (lv_at hl 6 rfl) ?_
        refine lv_bipush (v := 7) hx hb dL_law_337 (by decide) ?_
        refine ct_iald (v := (q_tally σ 7)) hx hb hK hP 26 0 rfl rfl 7 rfl (by decide) (by decide) (hfc 7 (Nat.zero_le _) (by decide)) dL_law_339 ?_
        refine lv_isub hx hb dL_law_340 ?_
        refine lv_icmp_ne (tgt := 413) hx hb dL_law_341 (by decide) (fun hs => ?_) (fun hs => ?_)
        · exact absurd (rfl) hs
        refine lv_aload hx hb dL_law_344 (lv_at hl 6 rfl) ?_
        refine lv_iconst (v := 1) hx hb dL_law_346 (by decide) ?_
        refine ct_iald (v := (q_tally σ 1)) hx hb hK hP 26 0 rfl rfl 1 rfl (by decide) (by decide) (hfc 1 (Nat.zero_le _) (by decide)) dL_law_347 ?_
        refine lv_bipush (v := 64) hx hb dL_law_348 (by decide) ?_
        refine lv_iload hx hb dL_law_350 (lv_at hl 13 rfl) ?_
        refine lv_imul hx hb dL_law_352 ?_
        refine lv_iadd hx hb dL_law_353 ?_
        refine lv_aload_n hx hb dL_law_354 rfl (lv_at hl 1 rfl) ?_
        refine lv_iconst (v := 1) hx hb dL_law_355 (by decide) ?_
        refine cpx_Vi (As := [.int 1]) (rest := [.int ((q_tally σ 1) + (64 * (rai (m_t σ % 12))))]) (wr := ((([(tq, .inl (cI, 9, .inl ft)), (cq, .inl (cI, 9, .inl fc))]) ++ ((sM h a r aw bw cI cJ hei dra rai (q_hour hei dra rai σ)) ++ ((wG q rr cI cJ G)))))) (cells1 := ((((nC + 1 * 8) + 1) + 1) + 1)) (slots1 := ((((nS + 6 * 8) + 6) + 6) + 6)) ⟨hx, hb, hml, hown, hts⟩ (c_X1_count l hst D cI κ.1 κ.2.1 g hn ha adn ada hei dra rai (q_hour hei dra rai σ) cre gai u1.1 u1.2 z 1) (cwV 1 hts gL_law_X1_count rfl rfl rfl (by decide +kernel) ⟨Nat.le_of_ble_eq_true rfl, Nat.le_of_ble_eq_true rfl⟩) hK hP hD hS hA hX.1 (fun E z9 => by exact z9.2 (by decide)) [0] rfl (va_recv hK hP (ci := 1) (q0 := 0) rfl rfl) rfl hl.1 rfl (Nat.le_of_ble_eq_true rfl) rfl rfl ⟨by show _ ≤ 608781; omega, by show _ ≤ 7275125; omega⟩ dL_law_356 (fun r2 u2 H locs hw hP hD hS => ?_)
        have hP : va_P D vwCl ((fW g hn ha adn ada cI hei dra rai (q_hour hei dra rai σ) cre gai u2.1 u2.2 z) ++ (([(tq, .inl (cI, 9, .inl ft)), (cq, .inl (cI, 9, .inl fc))]) ++ ((sM h a r aw bw cI cJ hei dra rai (q_hour hei dra rai σ)) ++ ((wG q rr cI cJ G))))) H := hP
        have hD : va_D A ((fW g hn ha adn ada cI hei dra rai (q_hour hei dra rai σ) cre gai u2.1 u2.2 z) ++ (([(tq, .inl (cI, 9, .inl ft)), (cq, .inl (cI, 9, .inl fc))]) ++ ((sM h a r aw bw cI cJ hei dra rai (q_hour hei dra rai σ)) ++ ((wG q rr cI cJ G))))) := hD
        have e1 : r2 = (q_tally (q_hour hei dra rai σ) 1) := hw.2
        subst e1
        refine lv_aload_n hx hb dL_law_359 rfl (lv_at hl 1 rfl) ?_
        refine lv_iconst (v := 5) hx hb dL_law_360 (by decide) ?_
        refine cpx_Vi (As := [.int 5]) (rest := [.int (q_tally (q_hour hei dra rai σ) 1), .int ((q_tally σ 1) + (64 * (rai (m_t σ % 12))))]) (wr := ((([(tq, .inl (cI, 9, .inl ft)), (cq, .inl (cI, 9, .inl fc))]) ++ ((sM h a r aw bw cI cJ hei dra rai (q_hour hei dra rai σ)) ++ ((wG q rr cI cJ G)))))) (cells1 := (((((nC + 1 * 8) + 1) + 1) + 1) + 1)) (slots1 := (((((nS + 6 * 8) + 6) + 6) + 6) + 6)) ⟨hx, hb, hml, hown, hts⟩ (c_X1_count l hst D cI κ.1 κ.2.1 g hn ha adn ada hei dra rai (q_hour hei dra rai σ) cre gai u2.1 u2.2 z 5) (cwV 1 hts gL_law_X1_count rfl rfl rfl (by decide +kernel) ⟨Nat.le_of_ble_eq_true rfl, Nat.le_of_ble_eq_true rfl⟩) hK hP hD hS hA hX.1 (fun E z9 => by exact z9.2 (by decide)) [0] rfl (va_recv hK hP (ci := 1) (q0 := 0) rfl rfl) rfl hl.1 rfl (Nat.le_of_ble_eq_true rfl) rfl rfl ⟨by show _ ≤ 608781; omega, by show _ ≤ 7275125; omega⟩ dL_law_361 (fun r3 u3 H locs hw hP hD hS => ?_)
        have hP : va_P D vwCl ((fW g hn ha adn ada cI hei dra rai (q_hour hei dra rai σ) cre gai u3.1 u3.2 z) ++ (([(tq, .inl (cI, 9, .inl ft)), (cq, .inl (cI, 9, .inl fc))]) ++ ((sM h a r aw bw cI cJ hei dra rai (q_hour hei dra rai σ)) ++ ((wG q rr cI cJ G))))) H := hP
        have hD : va_D A ((fW g hn ha adn ada cI hei dra rai (q_hour hei dra rai σ) cre gai u3.1 u3.2 z) ++ (([(tq, .inl (cI, 9, .inl ft)), (cq, .inl (cI, 9, .inl fc))]) ++ ((sM h a r aw bw cI cJ hei dra rai (q_hour hei dra rai σ)) ++ ((wG q rr cI cJ G))))) := hD
        have e1 : r3 = (q_tally (q_hour hei dra rai σ) 5) := hw.2
        subst e1
        refine lv_iadd hx hb dL_law_364 ?_
        refine lv_aload hx hb dL_law_365 (lv_at hl 6 rfl) ?_
        refine lv_iconst (v := 5) hx hb dL_law_367 (by decide) ?_
        refine ct_iald (v := (q_tally σ 5)) hx hb hK hP 26 0 rfl rfl 5 rfl (by decide) (by decide) (hfc 5 (Nat.zero_le _) (by decide)) dL_law_368 ?_
        refine lv_isub hx hb dL_law_369 ?_
        refine lv_icmp_ne (tgt := 413) hx hb dL_law_370 (by decide) (fun hs => ?_) (fun hs => ?_)
        · exact absurd (ck_water) hs
        refine lv_aload hx hb dL_law_373 (lv_at hl 6 rfl) ?_
        refine lv_bipush (v := 6) hx hb dL_law_375 (by decide) ?_
        refine ct_iald (v := (q_tally σ 6)) hx hb hK hP 26 0 rfl rfl 6 rfl (by decide) (by decide) (hfc 6 (Nat.zero_le _) (by decide)) dL_law_377 ?_
        refine lv_aload_n hx hb dL_law_378 rfl (lv_at hl 1 rfl) ?_
        refine lv_bipush (v := 6) hx hb dL_law_379 (by decide) ?_
        refine cpx_Vi (As := [.int 6]) (rest := [.int (q_tally σ 6)]) (wr := ((([(tq, .inl (cI, 9, .inl ft)), (cq, .inl (cI, 9, .inl fc))]) ++ ((sM h a r aw bw cI cJ hei dra rai (q_hour hei dra rai σ)) ++ ((wG q rr cI cJ G)))))) (cells1 := ((((((nC + 1 * 8) + 1) + 1) + 1) + 1) + 1)) (slots1 := ((((((nS + 6 * 8) + 6) + 6) + 6) + 6) + 6)) ⟨hx, hb, hml, hown, hts⟩ (c_X1_count l hst D cI κ.1 κ.2.1 g hn ha adn ada hei dra rai (q_hour hei dra rai σ) cre gai u3.1 u3.2 z 6) (cwV 1 hts gL_law_X1_count rfl rfl rfl (by decide +kernel) ⟨Nat.le_of_ble_eq_true rfl, Nat.le_of_ble_eq_true rfl⟩) hK hP hD hS hA hX.1 (fun E z9 => by exact z9.2 (by decide)) [0] rfl (va_recv hK hP (ci := 1) (q0 := 0) rfl rfl) rfl hl.1 rfl (Nat.le_of_ble_eq_true rfl) rfl rfl ⟨by show _ ≤ 608781; omega, by show _ ≤ 7275125; omega⟩ dL_law_381 (fun r4 u4 H locs hw hP hD hS => ?_)
        have hP : va_P D vwCl ((fW g hn ha adn ada cI hei dra rai (q_hour hei dra rai σ) cre gai u4.1 u4.2 z) ++ (([(tq, .inl (cI, 9, .inl ft)), (cq, .inl (cI, 9, .inl fc))]) ++ ((sM h a r aw bw cI cJ hei dra rai (q_hour hei dra rai σ)) ++ ((wG q rr cI cJ G))))) H := hP
        have hD : va_D A ((fW g hn ha adn ada cI hei dra rai (q_hour hei dra rai σ) cre gai u4.1 u4.2 z) ++ (([(tq, .inl (cI, 9, .inl ft)), (cq, .inl (cI, 9, .inl fc))]) ++ ((sM h a r aw bw cI cJ hei dra rai (q_hour hei dra rai σ)) ++ ((wG q rr cI cJ G))))) := hD
        have e1 : r4 = (q_tally (q_hour hei dra rai σ) 6) := hw.2
        subst e1
        refine lv_iload hx hb dL_law_384 (lv_at hl 12 rfl) ?_
        refine lv_iadd hx hb dL_law_386 ?_
        refine lv_icmp_ne (tgt := 413) hx hb dL_law_387 (by decide) (fun hs => ?_) (fun hs => ?_)
        · exact absurd (ck_peo) hs
        refine lv_aload hx hb dL_law_390 (lv_at hl 6 rfl) ?_
        refine lv_iconst (v := 3) hx hb dL_law_392 (by decide) ?_
        refine ct_iald (v := (q_tally σ 3)) hx hb hK hP 26 0 rfl rfl 3 rfl (by decide) (by decide) (hfc 3 (Nat.zero_le _) (by decide)) dL_law_393 ?_
        refine lv_aload_n hx hb dL_law_394 rfl (lv_at hl 1 rfl) ?_
        refine lv_iconst (v := 3) hx hb dL_law_395 (by decide) ?_
        refine cpx_Vi (As := [.int 3]) (rest := [.int (q_tally σ 3)]) (wr := ((([(tq, .inl (cI, 9, .inl ft)), (cq, .inl (cI, 9, .inl fc))]) ++ ((sM h a r aw bw cI cJ hei dra rai (q_hour hei dra rai σ)) ++ ((wG q rr cI cJ G)))))) (cells1 := (((((((nC + 1 * 8) + 1) + 1) + 1) + 1) + 1) + 1)) (slots1 := (((((((nS + 6 * 8) + 6) + 6) + 6) + 6) + 6) + 6)) ⟨hx, hb, hml, hown, hts⟩ (c_X1_count l hst D cI κ.1 κ.2.1 g hn ha adn ada hei dra rai (q_hour hei dra rai σ) cre gai u4.1 u4.2 z 3) (cwV 1 hts gL_law_X1_count rfl rfl rfl (by decide +kernel) ⟨Nat.le_of_ble_eq_true rfl, Nat.le_of_ble_eq_true rfl⟩) hK hP hD hS hA hX.1 (fun E z9 => by exact z9.2 (by decide)) [0] rfl (va_recv hK hP (ci := 1) (q0 := 0) rfl rfl) rfl hl.1 rfl (Nat.le_of_ble_eq_true rfl) rfl rfl ⟨by show _ ≤ 608781; omega, by show _ ≤ 7275125; omega⟩ dL_law_396 (fun r5 u5 H locs hw hP hD hS => ?_)
        have hP : va_P D vwCl ((fW g hn ha adn ada cI hei dra rai (q_hour hei dra rai σ) cre gai u5.1 u5.2 z) ++ (([(tq, .inl (cI, 9, .inl ft)), (cq, .inl (cI, 9, .inl fc))]) ++ ((sM h a r aw bw cI cJ hei dra rai (q_hour hei dra rai σ)) ++ ((wG q rr cI cJ G))))) H := hP
        have hD : va_D A ((fW g hn ha adn ada cI hei dra rai (q_hour hei dra rai σ) cre gai u5.1 u5.2 z) ++ (([(tq, .inl (cI, 9, .inl ft)), (cq, .inl (cI, 9, .inl fc))]) ++ ((sM h a r aw bw cI cJ hei dra rai (q_hour hei dra rai σ)) ++ ((wG q rr cI cJ G))))) := hD
        have e1 : r5 = (q_tally (q_hour hei dra rai σ) 3) := hw.2
        subst e1
        refine lv_aload_n hx hb dL_law_399 rfl (lv_at hl 1 rfl) ?_
        refine lv_iconst (v := 4) hx hb dL_law_400 (by decide) ?_
        refine cpx_Vi (As := [.int 4]) (rest := [.int (q_tally (q_hour hei dra rai σ) 3), .int (q_tally σ 3)]) (wr := ((([(tq, .inl (cI, 9, .inl ft)), (cq, .inl (cI, 9, .inl fc))]) ++ ((sM h a r aw bw cI cJ hei dra rai (q_hour hei dra rai σ)) ++ ((wG q rr cI cJ G)))))) (cells1 := ((((((((nC + 1 * 8) + 1) + 1) + 1) + 1) + 1) + 1) + 1)) (slots1 := ((((((((nS + 6 * 8) + 6) + 6) + 6) + 6) + 6) + 6) + 6)) ⟨hx, hb, hml, hown, hts⟩ (c_X1_count l hst D cI κ.1 κ.2.1 g hn ha adn ada hei dra rai (q_hour hei dra rai σ) cre gai u5.1 u5.2 z 4) (cwV 1 hts gL_law_X1_count rfl rfl rfl (by decide +kernel) ⟨Nat.le_of_ble_eq_true rfl, Nat.le_of_ble_eq_true rfl⟩) hK hP hD hS hA hX.1 (fun E z9 => by exact z9.2 (by decide)) [0] rfl (va_recv hK hP (ci := 1) (q0 := 0) rfl rfl) rfl hl.1 rfl (Nat.le_of_ble_eq_true rfl) rfl rfl ⟨by show _ ≤ 608781; omega, by show _ ≤ 7275125; omega⟩ dL_law_401 (fun r6 u6 H locs hw hP hD hS => ?_)
        have hP : va_P D vwCl ((fW g hn ha adn ada cI hei dra rai (q_hour hei dra rai σ) cre gai u6.1 u6.2 z) ++ (([(tq, .inl (cI, 9, .inl ft)), (cq, .inl (cI, 9, .inl fc))]) ++ ((sM h a r aw bw cI cJ hei dra rai (q_hour hei dra rai σ)) ++ ((wG q rr cI cJ G))))) H := hP
        have hD : va_D A ((fW g hn ha adn ada cI hei dra rai (q_hour hei dra rai σ) cre gai u6.1 u6.2 z) ++ (([(tq, .inl (cI, 9, .inl ft)), (cq, .inl (cI, 9, .inl fc))]) ++ ((sM h a r aw bw cI cJ hei dra rai (q_hour hei dra rai σ)) ++ ((wG q rr cI cJ G))))) := hD
        have e1 : r6 = (q_tally (q_hour hei dra rai σ) 4) := hw.2
        subst e1
        refine lv_iadd hx hb dL_law_404 ?_
        refine lv_aload hx hb dL_law_405 (lv_at hl 6 rfl) ?_
        refine lv_iconst (v := 4) hx hb dL_law_407 (by decide) ?_
        refine ct_iald (v := (q_tally σ 4)) hx hb hK hP 26 0 rfl rfl 4 rfl (by decide) (by decide) (hfc 4 (Nat.zero_le _) (by decide)) dL_law_408 ?_
        refine lv_isub hx hb dL_law_409 ?_
        refine lv_icmp_eq (tgt := 415) hx hb dL_law_410 (by decide) (fun hs => ?_) (fun hs => ?_)
        rotate_left
        · exact absurd (ck_dam) hs
        refine W.widen (k := (nC + 15)) (n := (nS + 90)) (by omega) (by omega) ?_
        exact kk u6.1 u6.2 H locs ls hP hD hS (lv_sub hl [0, 1, 2, 3, 4, 5, 6, 7, 8, 9, 10, 11, 12, 13] rfl)
      · skip
        exact absurd (show (9 : Int32) ≤ nI (8 + 1) by decide) hc
    | succ fun8 ihn =>
      intro n hin see fou H locs ls  hP hD hS hl
      have hn8 : n < 8 := by omega
      refine lv_iload hx hb dL_law_284 (lv_at hl 14 rfl) ?_
      refine lv_bipush (v := 9) hx hb dL_law_286 (by decide) ?_
      refine lv_icmp_ge (tgt := 313) hx hb dL_law_288 (by decide) (fun hc => ?_) (fun hc => ?_)
      · skip
        exact absurd hc (nI_ge (b := 9) (by omega) (by decide))
      · skip
        refine lv_aload_n hx hb dL_law_291 rfl (lv_at hl 1 rfl) ?_
        refine lv_iload hx hb dL_law_292 (lv_at hl 14 rfl) ?_
        refine cpx_Vi (As := [.int (nI (n + 1))]) (rest := []) (wr := ((([(tq, .inl (cI, 9, .inl ft)), (cq, .inl (cI, 9, .inl fc))]) ++ ((sM h a r aw bw cI cJ hei dra rai (q_hour hei dra rai σ)) ++ ((wG q rr cI cJ G)))))) (cells1 := ((nC + 1 * n) + 1)) (slots1 := ((nS + 6 * n) + 6)) ⟨hx, hb, hml, hown, hts⟩ (c_X1_count l hst D cI κ.1 κ.2.1 g hn ha adn ada hei dra rai (q_hour hei dra rai σ) cre gai see fou z (nI (n + 1))) (cwV 1 hts gL_law_X1_count rfl rfl rfl (by decide +kernel) ⟨Nat.le_of_ble_eq_true rfl, Nat.le_of_ble_eq_true rfl⟩) hK hP hD hS hA hX.1 (fun E z9 => by exact z9.2 (⟨nI_pos0 _ (by omega), nI_le8 (by omega)⟩)) [0] rfl (va_recv hK hP (ci := 1) (q0 := 0) rfl rfl) rfl hl.1 rfl (Nat.le_of_ble_eq_true rfl) rfl rfl ⟨by show _ ≤ 608781; omega, by show _ ≤ 7275125; omega⟩ dL_law_294 (fun r1 u H locs hw hP hD hS => ?_)
        have hP : va_P D vwCl ((fW g hn ha adn ada cI hei dra rai (q_hour hei dra rai σ) cre gai u.1 u.2 z) ++ (([(tq, .inl (cI, 9, .inl ft)), (cq, .inl (cI, 9, .inl fc))]) ++ ((sM h a r aw bw cI cJ hei dra rai (q_hour hei dra rai σ)) ++ ((wG q rr cI cJ G))))) H := hP
        have hD : va_D A ((fW g hn ha adn ada cI hei dra rai (q_hour hei dra rai σ) cre gai u.1 u.2 z) ++ (([(tq, .inl (cI, 9, .inl ft)), (cq, .inl (cI, 9, .inl fc))]) ++ ((sM h a r aw bw cI cJ hei dra rai (q_hour hei dra rai σ)) ++ ((wG q rr cI cJ G))))) := hD
        have e1 : r1 = (q_tally (q_hour hei dra rai σ) (n + 1)) := by rw [hw.2, nI_clamp (by omega)]
        subst e1
        refine lv_aload hx hb dL_law_297 (lv_at hl 7 rfl) ?_
        refine lv_iload hx hb dL_law_299 (lv_at hl 14 rfl) ?_
        refine ct_iald (v := (q_tally (q_hour hei dra rai σ) (n + 1))) hx hb hK hP 25 0 rfl rfl (n + 1) rfl (by omega) (by decide) (hft (n + 1) (by omega) (by omega)) dL_law_301 ?_
        refine lv_icmp_eq (tgt := 307) hx hb dL_law_302 (by decide) (fun hs => ?_) (fun hs => ?_)
        · skip
          refine lv_iinc (v := (nI ((n + 1) + 1))) (lv' := [(14, .int (nI ((n + 1) + 1))), (0, .ref κ.2.2.1), (1, .ref g), (2, .ref h), (3, .int (nI t)), (4, .int zv), (5, .ref q), (6, .ref cq), (7, .ref tq), (8, .int (nI xa)), (9, .int (nI ya)), (10, .int (q_floods hei dra rai σ (8 * ya + xa))), (11, .int (q_breaks hei dra rai σ (8 * ya + xa))), (12, .int (m_lef (q_hour hei dra rai σ) - m_lef σ)), (13, .int (rai (m_t σ % 12)))]) hx hb dL_law_307 hl (k := 14) rfl (nI_1 (n + 1)) (by decide) rfl (fun ls hl => ?_)
          refine lv_goto (tgt := 284) hx hb dL_law_310 (by decide) ?_
          refine W.widen (k := (nC + 1 * (n + 1))) (n := (nS + 6 * (n + 1))) (by omega) (by omega) ?_
          exact ihn (n + 1) (by omega) u.1 u.2 H locs ls  hP hD hS (lv_sub hl [1, 2, 3, 4, 5, 6, 7, 8, 9, 10, 11, 12, 13, 14, 0] rfl)
        · skip
          exact absurd rfl hs
  exact ln 8 0 (by omega) see fou H locs ls  hP hD hS (lv_sub hl [1, 2, 3, 4, 5, 6, 7, 8, 9, 10, 11, 12, 13, 14, 0] rfl)
