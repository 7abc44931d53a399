set_option maxHeartbeats 4000000 in
set_option maxRecDepth 100000 in
theorem lw_chk2 {p : Program} {l : Launch} {e : Env} {s : State} {m : MethodId} {args : Array Value} {below : List Frame} {meth : Method} {c : Code} {A : Nat → Prop} {Q : State → Prop} {D : va_G} {cI cJ cZ cB : ClassId} {κ : Kx} {g hn ha : Nat} {adn ada : Nat → Nat} {cre gai see fou : Nat → Int32} {z : Nat → Nat → Int32} {h : Nat} {a : Nat → Nat} {r : Nat → Nat → Nat} {aw : Nat} {bw : Nat → Nat} {hei dra rai : Nat → Int32} {σ : Ms} {nC nS : Nat} {t xa ya : Nat} {zv : Int32} {q : Nat} {rr : Nat → Nat} {G : Nat → Nat → Int32} {tq cq : Nat} {ft fc : Nat → Int32} (C0 : cg_S p s m args c A D yL_law wsL_law cL_law 22 [(cI, .int), (cJ, .array .int), (cZ, .boolean), (cB, .array .boolean)] κ) (hC : nC ≤ 500000 ∧ nS ≤ 6000000) (hst : l.stackTraces = false) (hL : κ.2.2.2.1 ≤ 260) (ht : m_t (q_hour hei dra rai σ) < 2 ^ 29) (hxa : xa < 8) (hya : ya < 8) (kk : ∀ (z : Nat → Nat → Int32) (H : Heap) (locs : List Loc) (ls : Array Slot), va_P D vwCl ((fW g hn ha adn ada cI hei dra rai (q_hour hei dra rai σ) cre gai see fou z) ++ (([(tq, .inl (cI, 9, .inl ft)), (cq, .inl (cI, 9, .inl fc))]) ++ ((sM h a r aw bw cI cJ hei dra rai (q_hour hei dra rai σ)) ++ ((wG q rr cI cJ G))))) H → va_D A ((fW g hn ha adn ada cI hei dra rai (q_hour hei dra rai σ) cre gai see fou z) ++ (([(tq, .inl (cI, 9, .inl ft)), (cq, .inl (cI, 9, .inl fc))]) ++ ((sM h a r aw bw cI cJ hei dra rai (q_hour hei dra rai σ)) ++ ((wG q rr cI cJ G))))) → va_S A s.heap H locs → lv_has ls 22 [(0, .ref κ.2.2.1), (1, .ref g), (2, .ref h), (3, .int (nI t)), (4, .int zv), (5, .ref q), (6, .ref cq), (7, .ref tq), (8, .int (nI xa)), (9, .int (nI ya)), (10, .int (q_floods hei dra rai σ (8 * ya + xa))), (11, .int (q_breaks hei dra rai σ (8 * ya + xa))), (12, .int (m_lef (q_hour hei dra rai σ) - m_lef σ)), (13, .int (rai (m_t σ % 12)))] → W p l e room_1 s m args below meth c H locs (nC + 10) (nS + 60) Q (F0 m 501 ls [])) {H : Heap} {locs : List Loc} {ls : Array Slot} (hP : va_P D vwCl ((fW g hn ha adn ada cI hei dra rai (q_hour hei dra rai σ) cre gai see fou z) ++ (([(tq, .inl (cI, 9, .inl ft)), (cq, .inl (cI, 9, .inl fc))]) ++ ((sM h a r aw bw cI cJ hei dra rai (q_hour hei dra rai σ)) ++ ((wG q rr cI cJ G))))) H) (hD : va_D A ((fW g hn ha adn ada cI hei dra rai (q_hour hei dra rai σ) cre gai see fou z) ++ (([(tq, .inl (cI, 9, .inl ft)), (cq, .inl (cI, 9, .inl fc))]) ++ ((sM h a r aw bw cI cJ hei dra rai (q_hour hei dra rai σ)) ++ ((wG q rr cI cJ G)))))) (hS : va_S A s.heap H locs) (hl : lv_has ls 22 [(0, .ref κ.2.2.1), (1, .ref g), (2, .ref h), (3, .int (nI t)), (4, .int zv), (5, .ref q), (6, .ref cq), (7, .ref tq), (8, .int (nI xa)), (9, .int (nI ya)), (10, .int (q_floods hei dra rai σ (8 * ya + xa))), (11, .int (q_breaks hei dra rai σ (8 * ya + xa))), (12, .int (m_lef (q_hour hei dra rai σ) - m_lef σ)), (13, .int (rai (m_t σ % 12)))]) : W p l e room_1 s m args below meth c H locs nC nS Q (F0 m 415 ls []) := by
  obtain ⟨hx, hb, hml, hown, hts, hA, hK, hX⟩ := C0
  have hown : s.vm.findClass RL = some m.cls := hown
  have hxy : inC (nI xa) (nI ya) := (inC_nI (by omega) (by omega)).mpr ⟨by omega, by omega⟩
  have hat : q_at (nI xa) (nI ya) = 8 * ya + xa := qat_nI (by omega) (by omega)
  have k494 : ∀ (z : Nat → Nat → Int32) (H : Heap) (locs : List Loc) (ls : Array Slot), va_P D vwCl ((fW g hn ha adn ada cI hei dra rai (q_hour hei dra rai σ) cre gai see fou z) ++ (([(tq, .inl (cI, 9, .inl ft)), (cq, .inl (cI, 9, .inl fc))]) ++ ((sM h a r aw bw cI cJ hei dra rai (q_hour hei dra rai σ)) ++ ((wG q rr cI cJ G))))) H → va_D A ((fW g hn ha adn ada cI hei dra rai (q_hour hei dra rai σ) cre gai see fou z) ++ (([(tq, .inl (cI, 9, .inl ft)), (cq, .inl (cI, 9, .inl fc))]) ++ ((sM h a r aw bw cI cJ hei dra rai (q_hour hei dra rai σ)) ++ ((wG q rr cI cJ G))))) → va_S A s.heap H locs → lv_has ls 22 [(0, .ref κ.2.2.1), (1, .ref g), (2, .ref h), (3, .int (nI t)), (4, .int zv), (5, .ref q), (6, .ref cq), (7, .ref tq), (8, .int (nI xa)), (9, .int (nI ya)), (10, .int (q_floods hei dra rai σ (8 * ya + xa))), (11, .int (q_breaks hei dra rai σ (8 * ya + xa))), (12, .int (m_lef (q_hour hei dra rai σ) - m_lef σ)), (13, .int (rai (m_t σ % 12)))] → W p l e room_1 s m args below meth c H locs (nC + 10) (nS + 60) Q (F0 m 494 ls []) := by
    intro z H locs ls hP hD hS hl
    refine lv_iload hx hb dL_law_494 (lv_at hl 11 rfl) ?_
    refine lv_if_ne (tgt := 501) hx hb dL_law_496 (by decide) (fun hs => ?_) (fun hs => ?_)
    · skip
      exact kk z H locs ls hP hD hS (lv_sub hl [0, 1, 2, 3, 4, 5, 6, 7, 8, 9, 10, 11, 12, 13] rfl)
    · skip
      exact absurd hs ck_br0
  have k476 : ∀ (z : Nat → Nat → Int32) (H : Heap) (locs : List Loc) (ls : Array Slot), va_P D vwCl ((fW g hn ha adn ada cI hei dra rai (q_hour hei dra rai σ) cre gai see fou z) ++ (([(tq, .inl (cI, 9, .inl ft)), (cq, .inl (cI, 9, .inl fc))]) ++ ((sM h a r aw bw cI cJ hei dra rai (q_hour hei dra rai σ)) ++ ((wG q rr cI cJ G))))) H → va_D A ((fW g hn ha adn ada cI hei dra rai (q_hour hei dra rai σ) cre gai see fou z) ++ (([(tq, .inl (cI, 9, .inl ft)), (cq, .inl (cI, 9, .inl fc))]) ++ ((sM h a r aw bw cI cJ hei dra rai (q_hour hei dra rai σ)) ++ ((wG q rr cI cJ G))))) → va_S A s.heap H locs → lv_has ls 22 [(0, .ref κ.2.2.1), (1, .ref g), (2, .ref h), (3, .int (nI t)), (4, .int zv), (5, .ref q), (6, .ref cq), (7, .ref tq), (8, .int (nI xa)), (9, .int (nI ya)), (10, .int (q_floods hei dra rai σ (8 * ya + xa))), (11, .int (q_breaks hei dra rai σ (8 * ya + xa))), (12, .int (m_lef (q_hour hei dra rai σ) - m_lef σ)), (13, .int (rai (m_t σ % 12)))] → W p l e room_1 s m args below meth c H locs (nC + 7) (nS + 42) Q (F0 m 476 ls []) := by
    intro z H locs ls hP hD hS hl
    refine lv_iload hx hb dL_law_476 (lv_at hl 11 rfl) ?_
    refine lv_iconst (v := 1) hx hb dL_law_478 (by decide) ?_
    refine lv_icmp_ne (tgt := 494) hx hb dL_law_479 (by decide) (fun hb1 => ?_) (fun hb1 => ?_)
    · skip
      refine W.widen (k := (nC + 10)) (n := (nS + 60)) (by omega) (by omega) ?_
      exact k494 z H locs ls hP hD hS (lv_sub hl [0, 1, 2, 3, 4, 5, 6, 7, 8, 9, 10, 11, 12, 13] rfl)
    · skip
      refine lv_aload_n hx hb dL_law_482 rfl (lv_at hl 1 rfl) ?_
      refine lv_iload hx hb dL_law_483 (lv_at hl 8 rfl) ?_
      refine lv_iload hx hb dL_law_485 (lv_at hl 9 rfl) ?_
      refine lv_iconst (v := 2) hx hb dL_law_487 (by decide) ?_
      refine cpx_Vi (As := [.int (nI xa), .int (nI ya), .int 2]) (rest := []) (wr := ((([(tq, .inl (cI, 9, .inl ft)), (cq, .inl (cI, 9, .inl fc))]) ++ ((sM h a r aw bw cI cJ hei dra rai (q_hour hei dra rai σ)) ++ ((wG q rr cI cJ G)))))) (cells1 := ((nC + 7) + 3)) (slots1 := ((nS + 42) + 18)) ⟨hx, hb, hml, hown, hts⟩ (c_X1_cell l hst D cI κ.1 κ.2.1 g hn ha adn ada hei dra rai (q_hour hei dra rai σ) cre gai see fou z (nI xa) (nI ya) 2) (cwV 3 hts gL_law_X1_cell rfl rfl rfl (by decide +kernel) ⟨Nat.le_of_ble_eq_true rfl, Nat.le_of_ble_eq_true rfl⟩) hK hP hD hS hA hX.1 (fun E z9 => by exact z9.2 ⟨hxy, by decide⟩) [0] rfl (va_recv hK hP (ci := 1) (q0 := 0) rfl rfl) rfl hl.1 rfl (Nat.le_of_ble_eq_true rfl) rfl rfl ⟨by show _ ≤ 608781; omega, by show _ ≤ 7275125; omega⟩ dL_law_488 (fun r1 _ H locs hw hP hD hS => ?_)
      have hP : va_P D vwCl ((fW g hn ha adn ada cI hei dra rai (q_hour hei dra rai σ) cre gai see fou z) ++ (([(tq, .inl (cI, 9, .inl ft)), (cq, .inl (cI, 9, .inl fc))]) ++ ((sM h a r aw bw cI cJ hei dra rai (q_hour hei dra rai σ)) ++ ((wG q rr cI cJ G))))) H := hP
      have hD : va_D A ((fW g hn ha adn ada cI hei dra rai (q_hour hei dra rai σ) cre gai see fou z) ++ (([(tq, .inl (cI, 9, .inl ft)), (cq, .inl (cI, 9, .inl fc))]) ++ ((sM h a r aw bw cI cJ hei dra rai (q_hour hei dra rai σ)) ++ ((wG q rr cI cJ G))))) := hD
      have e1 : r1 = (m_dam (q_hour hei dra rai σ) (8 * ya + xa)) := by rw [hw.2.2, hat]; rfl
      subst e1
      refine lv_if_ne (tgt := 499) hx hb dL_law_491 (by decide) (fun hs => ?_) (fun hs => ?_)
      · skip
        exact absurd (ck_br1 hb1) hs
      · skip
        refine W.widen (k := (nC + 10)) (n := (nS + 60)) (by omega) (by omega) ?_
        exact k494 z H locs ls hP hD hS (lv_sub hl [0, 1, 2, 3, 4, 5, 6, 7, 8, 9, 10, 11, 12, 13] rfl)
  have k455 : ∀ (z : Nat → Nat → Int32) (H : Heap) (locs : List Loc) (ls : Array Slot), va_P D vwCl ((fW g hn ha adn ada cI hei dra rai (q_hour hei dra rai σ) cre gai see fou z) ++ (([(tq, .inl (cI, 9, .inl ft)), (cq, .inl (cI, 9, .inl fc))]) ++ ((sM h a r aw bw cI cJ hei dra rai (q_hour hei dra rai σ)) ++ ((wG q rr cI cJ G))))) H → va_D A ((fW g hn ha adn ada cI hei dra rai (q_hour hei dra rai σ) cre gai see fou z) ++ (([(tq, .inl (cI, 9, .inl ft)), (cq, .inl (cI, 9, .inl fc))]) ++ ((sM h a r aw bw cI cJ hei dra rai (q_hour hei dra rai σ)) ++ ((wG q rr cI cJ G))))) → va_S A s.heap H locs → lv_has ls 22 [(0, .ref κ.2.2.1), (1, .ref g), (2, .ref h), (3, .int (nI t)), (4, .int zv), (5, .ref q), (6, .ref cq), (7, .ref tq), (8, .int (nI xa)), (9, .int (nI ya)), (10, .int (q_floods hei dra rai σ (8 * ya + xa))), (11, .int (q_breaks hei dra rai σ (8 * ya + xa))), (12, .int (m_lef (q_hour hei dra rai σ) - m_lef σ)), (13, .int (rai (m_t σ % 12)))] → W p l e room_1 s m args below meth c H locs (nC + 5) (nS + 30) Q (F0 m 455 ls []) := by
    intro z H locs ls hP hD hS hl
    refine lv_iload hx hb dL_law_455 (lv_at hl 11 rfl) ?_
    refine lv_iconst (v := 1) hx hb dL_law_457 (by decide) ?_
    refine lv_icmp_le (tgt := 476) hx hb dL_law_458 (by decide) (fun hb1 => ?_) (fun hb1 => ?_)
    · skip
      refine W.widen (k := (nC + 7)) (n := (nS + 42)) (by omega) (by omega) ?_
      exact k476 z H locs ls hP hD hS (lv_sub hl [0, 1, 2, 3, 4, 5, 6, 7, 8, 9, 10, 11, 12, 13] rfl)
    · skip
      refine lv_aload_n hx hb dL_law_461 rfl (lv_at hl 1 rfl) ?_
      refine lv_iload hx hb dL_law_462 (lv_at hl 8 rfl) ?_
      refine lv_iload hx hb dL_law_464 (lv_at hl 9 rfl) ?_
      refine cpx_Vi (As := [.int (nI xa), .int (nI ya)]) (rest := []) (wr := ((([(tq, .inl (cI, 9, .inl ft)), (cq, .inl (cI, 9, .inl fc))]) ++ ((sM h a r aw bw cI cJ hei dra rai (q_hour hei dra rai σ)) ++ ((wG q rr cI cJ G)))))) (cells1 := ((nC + 5) + 2)) (slots1 := ((nS + 30) + 12)) ⟨hx, hb, hml, hown, hts⟩ (c_X1_breaks l hst D cI κ.1 κ.2.1 g hn ha adn ada hei dra rai (q_hour hei dra rai σ) cre gai see fou z ht (nI xa) (nI ya)) (cwV 2 hts gL_law_X1_breaks rfl rfl rfl (by decide +kernel) ⟨Nat.le_of_ble_eq_true rfl, Nat.le_of_ble_eq_true rfl⟩) hK hP hD hS hA hX.1 (fun E z9 => by exact z9.2 hxy) [0] rfl (va_recv hK hP (ci := 1) (q0 := 0) rfl rfl) rfl hl.1 rfl (Nat.le_of_ble_eq_true rfl) rfl rfl ⟨by show _ ≤ 608781; omega, by show _ ≤ 7275125; omega⟩ dL_law_466 (fun r1 u H locs hw hP hD hS => ?_)
      have hP : va_P D vwCl ((fW g hn ha adn ada cI hei dra rai (q_hour hei dra rai σ) cre gai see fou u) ++ (([(tq, .inl (cI, 9, .inl ft)), (cq, .inl (cI, 9, .inl fc))]) ++ ((sM h a r aw bw cI cJ hei dra rai (q_hour hei dra rai σ)) ++ ((wG q rr cI cJ G))))) H := hP
      have hD : va_D A ((fW g hn ha adn ada cI hei dra rai (q_hour hei dra rai σ) cre gai see fou u) ++ (([(tq, .inl (cI, 9, .inl ft)), (cq, .inl (cI, 9, .inl fc))]) ++ ((sM h a r aw bw cI cJ hei dra rai (q_hour hei dra rai σ)) ++ ((wG q rr cI cJ G))))) := hD
      have e1 : r1 = q_breaks hei dra rai (q_hour hei dra rai σ) (8 * ya + xa) := by rw [hw.2, hat]
      refine lv_iload hx hb dL_law_469 (lv_at hl 11 rfl) ?_
      refine lv_iconst (v := 1) hx hb dL_law_471 (by decide) ?_
      refine lv_isub hx hb dL_law_472 ?_
      refine lv_icmp_ne (tgt := 499) hx hb dL_law_473 (by decide) (fun hs => ?_) (fun hs => ?_)
      · skip
        exact absurd (e1.trans (ck_br (Int32.not_le.mp hb1))) hs
      · skip
        refine W.widen (k := (nC + 7)) (n := (nS + 42)) (by omega) (by omega) ?_
        exact k476 u H locs ls hP hD hS (lv_sub hl [0, 1, 2, 3, 4, 5, 6, 7, 8, 9, 10, 11, 12, 13] rfl)
  have k436 : ∀ (z : Nat → Nat → Int32) (H : Heap) (locs : List Loc) (ls : Array Slot), va_P D vwCl ((fW g hn ha adn ada cI hei dra rai (q_hour hei dra rai σ) cre gai see fou z) ++ (([(tq, .inl (cI, 9, .inl ft)), (cq, .inl (cI, 9, .inl fc))]) ++ ((sM h a r aw bw cI cJ hei dra rai (q_hour hei dra rai σ)) ++ ((wG q rr cI cJ G))))) H → va_D A ((fW g hn ha adn ada cI hei dra rai (q_hour hei dra rai σ) cre gai see fou z) ++ (([(tq, .inl (cI, 9, .inl ft)), (cq, .inl (cI, 9, .inl fc))]) ++ ((sM h a r aw bw cI cJ hei dra rai (q_hour hei dra rai σ)) ++ ((wG q rr cI cJ G))))) → va_S A s.heap H locs → lv_has ls 22 [(0, .ref κ.2.2.1), (1, .ref g), (2, .ref h), (3, .int (nI t)), (4, .int zv), (5, .ref q), (6, .ref cq), (7, .ref tq), (8, .int (nI xa)), (9, .int (nI ya)), (10, .int (q_floods hei dra rai σ (8 * ya + xa))), (11, .int (q_breaks hei dra rai σ (8 * ya + xa))), (12, .int (m_lef (q_hour hei dra rai σ) - m_lef σ)), (13, .int (rai (m_t σ % 12)))] → W p l e room_1 s m args below meth c H locs (nC + 2) (nS + 12) Q (F0 m 436 ls []) := by
    intro z H locs ls hP hD hS hl
    refine lv_iload hx hb dL_law_436 (lv_at hl 10 rfl) ?_
    refine lv_iconst (v := 1) hx hb dL_law_438 (by decide) ?_
    refine lv_icmp_ne (tgt := 455) hx hb dL_law_439 (by decide) (fun hb1 => ?_) (fun hb1 => ?_)
    · skip
      refine W.widen (k := (nC + 5)) (n := (nS + 30)) (by omega) (by omega) ?_
      exact k455 z H locs ls hP hD hS (lv_sub hl [0, 1, 2, 3, 4, 5, 6, 7, 8, 9, 10, 11, 12, 13] rfl)
    · skip
      refine lv_aload_n hx hb dL_law_442 rfl (lv_at hl 1 rfl) ?_
      refine lv_iload hx hb dL_law_443 (lv_at hl 8 rfl) ?_
      refine lv_iload hx hb dL_law_445 (lv_at hl 9 rfl) ?_
      refine lv_iconst (v := 1) hx hb dL_law_447 (by decide) ?_
      refine cpx_Vi (As := [.int (nI xa), .int (nI ya), .int 1]) (rest := []) (wr := ((([(tq, .inl (cI, 9, .inl ft)), (cq, .inl (cI, 9, .inl fc))]) ++ ((sM h a r aw bw cI cJ hei dra rai (q_hour hei dra rai σ)) ++ ((wG q rr cI cJ G)))))) (cells1 := ((nC + 2) + 3)) (slots1 := ((nS + 12) + 18)) ⟨hx, hb, hml, hown, hts⟩ (c_X1_cell l hst D cI κ.1 κ.2.1 g hn ha adn ada hei dra rai (q_hour hei dra rai σ) cre gai see fou z (nI xa) (nI ya) 1) (cwV 3 hts gL_law_X1_cell rfl rfl rfl (by decide +kernel) ⟨Nat.le_of_ble_eq_true rfl, Nat.le_of_ble_eq_true rfl⟩) hK hP hD hS hA hX.1 (fun E z9 => by exact z9.2 ⟨hxy, by decide⟩) [0] rfl (va_recv hK hP (ci := 1) (q0 := 0) rfl rfl) rfl hl.1 rfl (Nat.le_of_ble_eq_true rfl) rfl rfl ⟨by show _ ≤ 608781; omega, by show _ ≤ 7275125; omega⟩ dL_law_448 (fun r1 _ H locs hw hP hD hS => ?_)
      have hP : va_P D vwCl ((fW g hn ha adn ada cI hei dra rai (q_hour hei dra rai σ) cre gai see fou z) ++ (([(tq, .inl (cI, 9, .inl ft)), (cq, .inl (cI, 9, .inl fc))]) ++ ((sM h a r aw bw cI cJ hei dra rai (q_hour hei dra rai σ)) ++ ((wG q rr cI cJ G))))) H := hP
      have hD : va_D A ((fW g hn ha adn ada cI hei dra rai (q_hour hei dra rai σ) cre gai see fou z) ++ (([(tq, .inl (cI, 9, .inl ft)), (cq, .inl (cI, 9, .inl fc))]) ++ ((sM h a r aw bw cI cJ hei dra rai (q_hour hei dra rai σ)) ++ ((wG q rr cI cJ G))))) := hD
      have e1 : r1 = (m_wat (q_hour hei dra rai σ) (8 * ya + xa)) := by rw [hw.2.2, hat]; rfl
      subst e1
      refine lv_iconst (v := 3) hx hb dL_law_451 (by decide) ?_
      refine lv_icmp_lt (tgt := 499) hx hb dL_law_452 (by decide) (fun hs => ?_) (fun hs => ?_)
      · skip
        exact absurd hs (Int32.not_lt.mpr (ck_fl1 hb1))
      · skip
        refine W.widen (k := (nC + 5)) (n := (nS + 30)) (by omega) (by omega) ?_
        exact k455 z H locs ls hP hD hS (lv_sub hl [0, 1, 2, 3, 4, 5, 6, 7, 8, 9, 10, 11, 12, 13] rfl)
  refine lv_iload hx hb dL_law_415 (lv_at hl 10 rfl) ?_
  refine lv_iconst (v := 1) hx hb dL_law_417 (by decide) ?_
  refine lv_icmp_le (tgt := 436) hx hb dL_law_418 (by decide) (fun hb1 => ?_) (fun hb1 => ?_)
  · skip
    refine W.widen (k := (nC + 2)) (n := (nS + 12)) (by omega) (by omega) ?_
    exact k436 z H locs ls hP hD hS (lv_sub hl [0, 1, 2, 3, 4, 5, 6, 7, 8, 9, 10, 11, 12, 13] rfl)
  · skip
    refine lv_aload_n hx hb dL_law_421 rfl (lv_at hl 1 rfl) ?_
    refine lv_iload hx hb dL_law_422 (lv_at hl 8 rfl) ?_
    refine lv_iload hx hb dL_law_424 (lv_at hl 9 rfl) ?_
    refine cpx_Vi (As := [.int (nI xa), .int (nI ya)]) (rest := []) (wr := ((([(tq, .inl (cI, 9, .inl ft)), (cq, .inl (cI, 9, .inl fc))]) ++ ((sM h a r aw bw cI cJ hei dra rai (q_hour hei dra rai σ)) ++ ((wG q rr cI cJ G)))))) (cells1 := (nC + 2)) (slots1 := (nS + 12)) ⟨hx, hb, hml, hown, hts⟩ (c_X1_floods l hst D cI κ.1 κ.2.1 g hn ha adn ada hei dra rai (q_hour hei dra rai σ) cre gai see fou z ht (nI xa) (nI ya)) (cwV 2 hts gL_law_X1_floods rfl rfl rfl (by decide +kernel) ⟨Nat.le_of_ble_eq_true rfl, Nat.le_of_ble_eq_true rfl⟩) hK hP hD hS hA hX.1 (fun E z9 => by exact z9.2 hxy) [0] rfl (va_recv hK hP (ci := 1) (q0 := 0) rfl rfl) rfl hl.1 rfl (Nat.le_of_ble_eq_true rfl) rfl rfl ⟨by show _ ≤ 608781; omega, by show _ ≤ 7275125; omega⟩ dL_law_426 (fun r1 u H locs hw hP hD hS => ?_)
    have hP : va_P D vwCl ((fW g hn ha adn ada cI hei dra rai (q_hour hei dra rai σ) cre gai see fou u) ++ (([(tq, .inl (cI, 9, .inl ft)), (cq, .inl (cI, 9, .inl fc))]) ++ ((sM h a r aw bw cI cJ hei dra rai (q_hour hei dra rai σ)) ++ ((wG q rr cI cJ G))))) H := hP
    have hD : va_D A ((fW g hn ha adn ada cI hei dra rai (q_hour hei dra rai σ) cre gai see fou u) ++ (([(tq, .inl (cI, 9, .inl ft)), (cq, .inl (cI, 9, .inl fc))]) ++ ((sM h a r aw bw cI cJ hei dra rai (q_hour hei dra rai σ)) ++ ((wG q rr cI cJ G))))) := hD
    have e1 : r1 = q_floods hei dra rai (q_hour hei dra rai σ) (8 * ya + xa) := by rw [hw.2, hat]
    subst e1
    refine lv_iload hx hb dL_law_429 (lv_at hl 10 rfl) ?_
    refine lv_iconst (v := 1) hx hb dL_law_431 (by decide) ?_
    refine lv_isub hx hb dL_law_432 ?_
    refine lv_icmp_gt (tgt := 499) hx hb dL_law_433 (by decide) (fun hs => ?_) (fun hs => ?_)
    · skip
      exact absurd hs (ck_fl (Int32.not_le.mp hb1))
    · skip
      refine W.widen (k := (nC + 2)) (n := (nS + 12)) (by omega) (by omega) ?_
      exact k436 u H locs ls hP hD hS (lv_sub hl [0, 1, 2, 3, 4, 5, 6, 7, 8, 9, 10, 11, 12, 13] rfl)
