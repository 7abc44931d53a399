set_option maxHeartbeats 4000000 in
set_option maxRecDepth 100000 in
theorem lw_was {p : Program} {l : Launch} {e : Env} {s : State} {m : MethodId} {args : Array Value} {below : List Frame} {meth : Method} {c : Code} {A : Nat → Prop} {Q : State → Prop} {D : va_G} {cI cJ cZ cB : ClassId} {κ : Kx} {g hn ha : Nat} {adn ada : Nat → Nat} {cre gai see fou : Nat → Int32} {z : Nat → Nat → Int32} {h : Nat} {a : Nat → Nat} {r : Nat → Nat → Nat} {aw : Nat} {bw : Nat → Nat} {hei dra rai : Nat → Int32} {σ : Ms} {nC nS : Nat} {t : Nat} {zv : Int32} (C0 : cg_S p s m args c A D yL_law wsL_law cL_law 22 [(cI, .int), (cJ, .array .int), (cZ, .boolean), (cB, .array .boolean)] κ) (hC : nC ≤ 500000 ∧ nS ≤ 6000000) (hst : l.stackTraces = false) (hL : κ.2.2.2.1 ≤ 260) (kk : ∀ (q : Nat) (rr : Nat → Nat) (G : Nat → Nat → Int32) (H : Heap) (locs : List Loc) (ls : Array Slot), (∀ i j, i < 64 → j < 6 → G i j = (q_cell hei (m_wat σ) (m_dam σ) (m_wea σ) dra (m_peo σ)) i j) → va_P D vwCl ((fW g hn ha adn ada cI hei dra rai σ cre gai see fou z) ++ ((sM h a r aw bw cI cJ hei dra rai σ) ++ ((wG q rr cI cJ G)))) H → va_D A ((fW g hn ha adn ada cI hei dra rai σ cre gai see fou z) ++ ((sM h a r aw bw cI cJ hei dra rai σ) ++ ((wG q rr cI cJ G)))) → va_S A s.heap H locs → lv_has ls 22 [(0, .ref κ.2.2.1), (1, .ref g), (2, .ref h), (3, .int (nI t)), (4, .int zv), (5, .ref q)] → W p l e room_1 s m args below meth c H locs (nC + 1217) (nS + 7360) Q (F0 m 145 ls [])) {H : Heap} {locs : List Loc} {ls : Array Slot} (hP : va_P D vwCl ((fW g hn ha adn ada cI hei dra rai σ cre gai see fou z) ++ (sM h a r aw bw cI cJ hei dra rai σ)) H) (hD : va_D A ((fW g hn ha adn ada cI hei dra rai σ cre gai see fou z) ++ (sM h a r aw bw cI cJ hei dra rai σ))) (hS : va_S A s.heap H locs) (hl : lv_has ls 22 [(0, .ref κ.2.2.1), (1, .ref g), (2, .ref h), (3, .int (nI t)), (4, .int zv)]) : W p l e room_1 s m args below meth c H locs nC nS Q (F0 m 79 ls []) := by
  obtain ⟨hx, hb, hml, hown, hts, hA, hK, hX⟩ := C0
  have hown : s.vm.findClass RL = some m.cls := hown
  refine lv_bipush (v := 64) hx hb dL_law_79 (by decide) ?_
  refine lv_bipush (v := 6) hx hb dL_law_81 (by decide) ?_
  refine gr_mna (cells1 := (nC + 65)) (slots1 := (nS + 448)) hx hb hown (hts (Cond.classLink RL 78 "[[I") (List.mem_of_getElem? (i := 3) rfl)) hX.2.1 (hts (Cond.arrayClass .int) (List.mem_of_getElem? (i := 4) rfl)) 0 1 rfl rfl hK hP hD hS hA 64 6 rfl rfl (by decide) (by decide) rfl rfl (by show _ ≤ 608781; omega) (by show _ ≤ 7275125; omega) dL_law_83 (fun q rr H hP hD hS => ?_)
  have hP := gp_asc hP
  have hD := gp_ascD hD
  have hP : va_P D vwCl ((fW g hn ha adn ada cI hei dra rai σ cre gai see fou z) ++ ((sM h a r aw bw cI cJ hei dra rai σ) ++ ((wG q rr cI cJ (fun _ _ => 0))))) H := hP
  have hD : va_D A ((fW g hn ha adn ada cI hei dra rai σ cre gai see fou z) ++ ((sM h a r aw bw cI cJ hei dra rai σ) ++ ((wG q rr cI cJ (fun _ _ => 0))))) := hD
  refine lv_astore (lv' := [(5, .ref q), (0, .ref κ.2.2.1), (1, .ref g), (2, .ref h), (3, .int (nI t)), (4, .int zv)]) hx hb dL_law_87 hl (by decide) rfl (fun ls hl => ?_)
  refine lv_iconst (v := 0) hx hb dL_law_89 (by decide) ?_
  refine lv_istore (lv' := [(6, .int 0), (5, .ref q), (0, .ref κ.2.2.1), (1, .ref g), (2, .ref h), (3, .int (nI t)), (4, .int zv)]) hx hb dL_law_90 hl (by decide) rfl (fun ls hl => ?_)
  have lk : ∀ (fuk k : Nat), k + fuk = 64 → ∀ (G : Nat → Nat → Int32) (H : Heap) (locs : List Loc) (ls : Array Slot), (∀ i j, i < k → j < 6 → G i j = (q_cell hei (m_wat σ) (m_dam σ) (m_wea σ) dra (m_peo σ)) i j) → va_P D vwCl ((fW g hn ha adn ada cI hei dra rai σ cre gai see fou z) ++ ((sM h a r aw bw cI cJ hei dra rai σ) ++ ((wG q rr cI cJ G)))) H → va_D A ((fW g hn ha adn ada cI hei dra rai σ cre gai see fou z) ++ ((sM h a r aw bw cI cJ hei dra rai σ) ++ ((wG q rr cI cJ G)))) → va_S A s.heap H locs → lv_has ls 22 [(0, .ref κ.2.2.1), (1, .ref g), (2, .ref h), (3, .int (nI t)), (4, .int zv), (5, .ref q), (6, .int (nI k))] → W p l e room_1 s m args below meth c H locs (nC + 65 + 3 * (6 * k)) (nS + 448 + 18 * (6 * k)) Q (F0 m 92 ls []) := by
    intro fuk
    induction fuk with
    | zero =>
      intro k hik G H locs ls hG hP hD hS hl
      obtain rfl : 64 = k := by omega
      refine lv_iload hx hb dL_law_92 (lv_at hl 6 rfl) ?_
      refine lv_bipush (v := 64) hx hb dL_law_94 (by decide) ?_
      refine lv_icmp_ge (tgt := 145) hx hb dL_law_96 (by decide) (fun hc => ?_) (fun hc => ?_)
      · skip
        exact kk q rr G H locs ls hG hP hD hS (lv_sub hl [0, 1, 2, 3, 4, 5] rfl)
      · skip
        exact absurd (show (64 : Int32) ≤ nI 64 by decide) hc
    | succ fuk ihk =>
      intro k hik G H locs ls hG hP hD hS hl
      have hk64 : k < 64 := by omega
      refine lv_iload hx hb dL_law_92 (lv_at hl 6 rfl) ?_
      refine lv_bipush (v := 64) hx hb dL_law_94 (by decide) ?_
      refine lv_icmp_ge (tgt := 145) hx hb dL_law_96 (by decide) (fun hc => ?_) (fun hc => ?_)
      · skip
        exact absurd hc (nI_ge (b := 64) hk64 (by decide))
      · skip
        refine lv_iconst (v := 0) hx hb dL_law_99 (by decide) ?_
        refine lv_istore (lv' := [(7, .int 0), (0, .ref κ.2.2.1), (1, .ref g), (2, .ref h), (3, .int (nI t)), (4, .int zv), (5, .ref q), (6, .int (nI k))]) hx hb dL_law_100 hl (by decide) rfl (fun ls hl => ?_)
        have lj : ∀ (fuj jj : Nat), jj + fuj = 6 → ∀ (G : Nat → Nat → Int32) (H : Heap) (locs : List Loc) (ls : Array Slot), (∀ i j9, j9 < 6 → (i < k ∨ (i = k ∧ j9 < jj)) → G i j9 = (q_cell hei (m_wat σ) (m_dam σ) (m_wea σ) dra (m_peo σ)) i j9) → va_P D vwCl ((fW g hn ha adn ada cI hei dra rai σ cre gai see fou z) ++ ((sM h a r aw bw cI cJ hei dra rai σ) ++ ((wG q rr cI cJ G)))) H → va_D A ((fW g hn ha adn ada cI hei dra rai σ cre gai see fou z) ++ ((sM h a r aw bw cI cJ hei dra rai σ) ++ ((wG q rr cI cJ G)))) → va_S A s.heap H locs → lv_has ls 22 [(0, .ref κ.2.2.1), (1, .ref g), (2, .ref h), (3, .int (nI t)), (4, .int zv), (5, .ref q), (6, .int (nI k)), (7, .int (nI jj))] → W p l e room_1 s m args below meth c H locs (nC + 65 + 3 * (6 * k + jj)) (nS + 448 + 18 * (6 * k + jj)) Q (F0 m 102 ls []) := by
          intro fuj
          induction fuj with
          | zero =>
            intro jj hij G H locs ls hG2 hP hD hS hl
            obtain rfl : 6 = jj := by omega
            refine lv_iload hx hb dL_law_102 (lv_at hl 7 rfl) ?_
            refine lv_bipush (v := 6) hx hb dL_law_104 (by decide) ?_
            refine lv_icmp_ge (tgt := 139) hx hb dL_law_106 (by decide) (fun hc2 => ?_) (fun hc2 => ?_)
            · skip
              refine lv_iinc (v := (nI (k + 1))) (lv' := [(6, .int (nI (k + 1))), (0, .ref κ.2.2.1), (1, .ref g), (2, .ref h), (3, .int (nI t)), (4, .int zv), (5, .ref q), (7, .int (nI 6))]) hx hb dL_law_139 hl (k := 6) rfl (nI_1 k) (by decide) rfl (fun ls hl => ?_)
              refine lv_goto (tgt := 92) hx hb dL_law_142 (by decide) ?_
              refine W.widen (k := (nC + 65 + 3 * (6 * (k + 1)))) (n := (nS + 448 + 18 * (6 * (k + 1)))) (by omega) (by omega) ?_
              exact ihk (k + 1) (by omega) G H locs ls (fun i j9 a9 b9 => hG2 i j9 b9 (by omega)) hP hD hS (lv_sub hl [1, 2, 3, 4, 5, 6, 0] rfl)
            · skip
              exact absurd (show (6 : Int32) ≤ nI 6 by decide) hc2
          | succ fuj ihj =>
            intro jj hij G H locs ls hG2 hP hD hS hl
            have hj6 : jj < 6 := by omega
            refine lv_iload hx hb dL_law_102 (lv_at hl 7 rfl) ?_
            refine lv_bipush (v := 6) hx hb dL_law_104 (by decide) ?_
            refine lv_icmp_ge (tgt := 139) hx hb dL_law_106 (by decide) (fun hc2 => ?_) (fun hc2 => ?_)
            · skip
              exact absurd hc2 (nI_ge (b := 6) hj6 (by decide))
            · skip
              refine lv_aload hx hb dL_law_109 (lv_at hl 5 rfl) ?_
              refine lv_iload hx hb dL_law_111 (lv_at hl 6 rfl) ?_
              refine gr_aald hx hb hK hP 81 1 rfl rfl k rfl (by omega) (by decide) dL_law_113 ?_
              refine lv_iload hx hb dL_law_114 (lv_at hl 7 rfl) ?_
              refine lv_aload_n hx hb dL_law_116 rfl (lv_at hl 1 rfl) ?_
              refine lv_iload hx hb dL_law_117 (lv_at hl 6 rfl) ?_
              refine lv_bipush (v := 8) hx hb dL_law_119 (by decide) ?_
              refine ct_irem hx hb k 8 rfl rfl (by omega) (by decide) (by decide) dL_law_121 ?_
              refine lv_iload hx hb dL_law_122 (lv_at hl 6 rfl) ?_
              refine lv_bipush (v := 8) hx hb dL_law_124 (by decide) ?_
              refine ct_idiv hx hb k 8 rfl rfl (by omega) (by decide) (by decide) dL_law_126 ?_
              refine lv_iload hx hb dL_law_127 (lv_at hl 7 rfl) ?_
              refine cpx_Vi (As := [.int (nI (k % 8)), .int (nI (k / 8)), .int (nI jj)]) (rest := [.int (nI jj), .ref (rr k)]) (wr := (((sM h a r aw bw cI cJ hei dra rai σ) ++ (wG q rr cI cJ G)))) (cells1 := ((nC + 65 + 3 * (6 * k + jj)) + 3)) (slots1 := ((nS + 448 + 18 * (6 * k + jj)) + 18)) ⟨hx, hb, hml, hown, hts⟩ (c_X1_cell l hst D cI κ.1 κ.2.1 g hn ha adn ada hei dra rai σ cre gai see fou z (nI (k % 8)) (nI (k / 8)) (nI jj)) (cwV 3 hts gL_law_X1_cell rfl rfl rfl (by decide +kernel) ⟨Nat.le_of_ble_eq_true rfl, Nat.le_of_ble_eq_true rfl⟩) hK hP hD hS hA hX.1 (fun E z9 => by exact z9.2 ⟨in_k hk64, nI_pos0 jj (by omega), nI_le7 (by omega)⟩) [0] rfl (va_recv hK hP (ci := 1) (q0 := 0) rfl rfl) rfl hl.1 rfl (Nat.le_of_ble_eq_true rfl) rfl rfl ⟨by show _ ≤ 608781; omega, by show _ ≤ 7275125; omega⟩ dL_law_129 (fun r1 u H locs hw hP hD hS => ?_)
              have hP : va_P D vwCl ((fW g hn ha adn ada cI hei dra rai σ cre gai see fou z) ++ ((sM h a r aw bw cI cJ hei dra rai σ) ++ ((wG q rr cI cJ G)))) H := hP
              have hD : va_D A ((fW g hn ha adn ada cI hei dra rai σ cre gai see fou z) ++ ((sM h a r aw bw cI cJ hei dra rai σ) ++ ((wG q rr cI cJ G)))) := hD
              have e1 : r1 = (q_cell hei (m_wat σ) (m_dam σ) (m_wea σ) dra (m_peo σ)) k jj := by rw [hw.2.2, at_k hk64, nI_clamp (by omega)]
              refine wg_iast (G1 := (fun i => if i = k then upd (G k) jj r1 else G i)) (ws1 := ((fW g hn ha adn ada cI hei dra rai σ cre gai see fou z) ++ ((sM h a r aw bw cI cJ hei dra rai σ) ++ ((wG q rr cI cJ (fun i => if i = k then upd (G k) jj r1 else G i)))))) hx hb hK hP hD hS 81 0 rfl rfl k jj (by omega) (by omega) rfl rfl rfl dL_law_132 (fun H locs hP hD hS => ?_)
              refine lv_iinc (v := (nI (jj + 1))) (lv' := [(7, .int (nI (jj + 1))), (0, .ref κ.2.2.1), (1, .ref g), (2, .ref h), (3, .int (nI t)), (4, .int zv), (5, .ref q), (6, .int (nI k))]) hx hb dL_law_133 hl (k := 7) rfl (nI_1 jj) (by decide) rfl (fun ls hl => ?_)
              refine lv_goto (tgt := 102) hx hb dL_law_136 (by decide) ?_
              refine W.widen (k := (nC + 65 + 3 * (6 * k + (jj + 1)))) (n := (nS + 448 + 18 * (6 * k + (jj + 1)))) (by omega) (by omega) ?_
              exact ihj (jj + 1) (by omega) (fun i => if i = k then upd (G k) jj r1 else G i) H locs ls (wg_step e1 hG2) hP hD hS (lv_sub hl [1, 2, 3, 4, 5, 6, 7, 0] rfl)
        exact lj 6 0 (by omega) G H locs ls (fun i j9 a9 b9 => hG i j9 (b9.elim id (fun z9 => absurd z9.2 (Nat.not_lt_zero _))) a9) hP hD hS (lv_sub hl [1, 2, 3, 4, 5, 6, 7, 0] rfl)
  exact lk 64 0 (by omega) (fun _ _ => 0) H locs ls (fun i j z9 => absurd z9 (Nat.not_lt_zero _)) hP hD hS (lv_sub hl [2, 3, 4, 5, 6, 1, 0] rfl)
