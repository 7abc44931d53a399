theorem wet_y {W : Nat → Int32} {k : Nat} {v : Int32} (h : 0 < W k) (hv : v = q_sum (q_pos W) k) : v + 1 = q_sum (q_pos W) (k + 1) := by
  rw [hv]
  show _ = q_sum (q_pos W) k + (if 0 < W k then 1 else 0)
  rw [if_pos h]
theorem wet_n {W : Nat → Int32} {k : Nat} {v : Int32} (h : ¬ 0 < W k) (hv : v = q_sum (q_pos W) k) : v + 0 = q_sum (q_pos W) (k + 1) := by
  rw [hv]
  show _ = q_sum (q_pos W) k + (if 0 < W k then 1 else 0)
  rw [if_neg h]
theorem cre_mx {hei dam wat : Nat → Int32} {k : Nat} : q_cre hei dam wat k = hei k + i_max (wat k) (dam k) := by
  unfold q_cre
  rw [i_max_c]
theorem at_k1 {k : Nat} (hk : k < 64) (h7 : k % 8 < 7) : q_at (nI (k % 8 + 1)) (nI (k / 8)) = k + 1 := by
  rw [qat_nI (by omega) (by omega)]
  omega
theorem in_k1 {k : Nat} (hk : k < 64) (h7 : k % 8 < 7) : inC (nI (k % 8 + 1)) (nI (k / 8)) := (inC_nI (by omega) (by omega)).mpr ⟨by omega, by omega⟩
theorem nb_k1 {k : Nat} (h7 : k % 8 < 7) : q_nb k 1 = some (k + 1) := by
  simp only [q_nb]
  rw [if_pos h7]
theorem pos_of {x : Int32} (h0 : 0 ≤ x) (h : ¬ x = 0) : 0 < x := Int32.lt_iff_le_and_ne.mpr ⟨h0, fun z => h z.symm⟩
set_option maxHeartbeats 4000000 in
set_option maxRecDepth 100000 in
theorem lw_cells {p : Program} {l : Launch} {e : Env} {s : State} {m : MethodId} {args : Array Value} {below : List Frame} {meth : Method} {c : Code} {A : Nat → Prop} {Q : State → Prop} {D : va_G} {cI cJ cZ cB : ClassId} {κ : Kx} {g hn ha : Nat} {adn ada : Nat → Nat} {cre gai see fou : Nat → Int32} {z : Nat → Nat → Int32} {h : Nat} {a : Nat → Nat} {r : Nat → Nat → Nat} {aw : Nat} {bw : Nat → Nat} {hei dra rai : Nat → Int32} {σ : Ms} {nC nS : Nat} {t xa ya : Nat} {zv : Int32} {q : Nat} {rr : Nat → Nat} {G : Nat → Nat → Int32} {tq cq : Nat} {ft fc : Nat → Int32} {B : Int} (C0 : cg_S p s m args c A D yL_law wsL_law cL_law 22 [(cI, .int), (cJ, .array .int), (cZ, .boolean), (cB, .array .boolean)] κ) (hC : nC ≤ 500000 ∧ nS ≤ 6000000) (hst : l.stackTraces = false) (hL : κ.2.2.2.1 ≤ 260) (hI : pv B hei dra rai σ) (hI1 : pv (B + 576) hei dra rai (q_hour hei dra rai σ)) (hG : ∀ i j, i < 64 → j < 6 → G i j = (q_cell hei (m_wat σ) (m_dam σ) (m_wea σ) dra (m_peo σ)) i j) (kk : ∀ (see : Nat → Int32) (fou : Nat → Int32) (H : Heap) (locs : List Loc) (ls : Array Slot), va_P D vwCl ((fW g hn ha adn ada cI hei dra rai (q_hour hei dra rai σ) cre gai see fou z) ++ (([(tq, .inl (cI, 9, .inl ft)), (cq, .inl (cI, 9, .inl fc))]) ++ ((sM h a r aw bw cI cJ hei dra rai (q_hour hei dra rai σ)) ++ ((wG q rr cI cJ G))))) H → va_D A ((fW g hn ha adn ada cI hei dra rai (q_hour hei dra rai σ) cre gai see fou z) ++ (([(tq, .inl (cI, 9, .inl ft)), (cq, .inl (cI, 9, .inl fc))]) ++ ((sM h a r aw bw cI cJ hei dra rai (q_hour hei dra rai σ)) ++ ((wG q rr cI cJ G))))) → va_S A s.heap H locs → lv_has ls 22 [(0, .ref κ.2.2.1), (1, .ref g), (2, .ref h), (3, .int (nI t)), (4, .int zv), (5, .ref q), (6, .ref cq), (7, .ref tq), (8, .int (nI xa)), (9, .int (nI ya)), (10, .int (q_floods hei dra rai σ (8 * ya + xa))), (11, .int (q_breaks hei dra rai σ (8 * ya + xa))), (12, .int (m_lef (q_hour hei dra rai σ) - m_lef σ)), (13, .int (rai (m_t σ % 12))), (14, .int (q_sum (q_pos (m_wat (q_hour hei dra rai σ))) 64))] → W p l e room_1 s m args below meth c H locs (nC + 40 * 64) (nS + 240 * 64) Q (F0 m 934 ls [])) {H : Heap} {locs : List Loc} {ls : Array Slot} (hP : va_P D vwCl ((fW g hn ha adn ada cI hei dra rai (q_hour hei dra rai σ) cre gai see fou z) ++ (([(tq, .inl (cI, 9, .inl ft)), (cq, .inl (cI, 9, .inl fc))]) ++ ((sM h a r aw bw cI cJ hei dra rai (q_hour hei dra rai σ)) ++ ((wG q rr cI cJ G))))) H) (hD : va_D A ((fW g hn ha adn ada cI hei dra rai (q_hour hei dra rai σ) cre gai see fou z) ++ (([(tq, .inl (cI, 9, .inl ft)), (cq, .inl (cI, 9, .inl fc))]) ++ ((sM h a r aw bw cI cJ hei dra rai (q_hour hei dra rai σ)) ++ ((wG q rr cI cJ G)))))) (hS : va_S A s.heap H locs) (hl : lv_has ls 22 [(0, .ref κ.2.2.1), (1, .ref g), (2, .ref h), (3, .int (nI t)), (4, .int zv), (5, .ref q), (6, .ref cq), (7, .ref tq), (8, .int (nI xa)), (9, .int (nI ya)), (10, .int (q_floods hei dra rai σ (8 * ya + xa))), (11, .int (q_breaks hei dra rai σ (8 * ya + xa))), (12, .int (m_lef (q_hour hei dra rai σ) - m_lef σ)), (13, .int (rai (m_t σ % 12)))]) : W p l e room_1 s m args below meth c H locs nC nS Q (F0 m 501 ls []) := by
  obtain ⟨hx, hb, hml, hown, hts, hA, hK, hX⟩ := C0
  have hown : s.vm.findClass RL = some m.cls := hown
  refine lv_iconst (v := 0) hx hb dL_law_501 (by decide) ?_
  refine lv_istore (lv' := [(14, .int 0), (0, .ref κ.2.2.1), (1, .ref g), (2, .ref h), (3, .int (nI t)), (4, .int zv), (5, .ref q), (6, .ref cq), (7, .ref tq), (8, .int (nI xa)), (9, .int (nI ya)), (10, .int (q_floods hei dra rai σ (8 * ya + xa))), (11, .int (q_breaks hei dra rai σ (8 * ya + xa))), (12, .int (m_lef (q_hour hei dra rai σ) - m_lef σ)), (13, .int (rai (m_t σ % 12)))]) hx hb dL_law_502 hl (by decide) rfl (fun ls hl => ?_)
  refine lv_iconst (v := 0) hx hb dL_law_504 (by decide) ?_
  refine lv_istore (lv' := [(15, .int 0), (14, .int 0), (0, .ref κ.2.2.1), (1, .ref g), (2, .ref h), (3, .int (nI t)), (4, .int zv), (5, .ref q), (6, .ref cq), (7, .ref tq), (8, .int (nI xa)), (9, .int (nI ya)), (10, .int (q_floods hei dra rai σ (8 * ya + xa))), (11, .int (q_breaks hei dra rai σ (8 * ya + xa))), (12, .int (m_lef (q_hour hei dra rai σ) - m_lef σ)), (13, .int (rai (m_t σ % 12)))]) hx hb dL_law_505 hl (by decide) rfl (fun ls hl => ?_)
  have lk : ∀ (fuk k : Nat), k + fuk = 64 → ∀ (see : Nat → Int32) (fou : Nat → Int32) (wv : Int32) (H : Heap) (locs : List Loc) (ls : Array Slot), (wv = q_sum (q_pos (m_wat (q_hour hei dra rai σ))) k) → va_P D vwCl ((fW g hn ha adn ada cI hei dra rai (q_hour hei dra rai σ) cre gai see fou z) ++ (([(tq, .inl (cI, 9, .inl ft)), (cq, .inl (cI, 9, .inl fc))]) ++ ((sM h a r aw bw cI cJ hei dra rai (q_hour hei dra rai σ)) ++ ((wG q rr cI cJ G))))) H → va_D A ((fW g hn ha adn ada cI hei dra rai (q_hour hei dra rai σ) cre gai see fou z) ++ (([(tq, .inl (cI, 9, .inl ft)), (cq, .inl (cI, 9, .inl fc))]) ++ ((sM h a r aw bw cI cJ hei dra rai (q_hour hei dra rai σ)) ++ ((wG q rr cI cJ G))))) → va_S A s.heap H locs → lv_has ls 22 [(0, .ref κ.2.2.1), (1, .ref g), (2, .ref h), (3, .int (nI t)), (4, .int zv), (5, .ref q), (6, .ref cq), (7, .ref tq), (8, .int (nI xa)), (9, .int (nI ya)), (10, .int (q_floods hei dra rai σ (8 * ya + xa))), (11, .int (q_breaks hei dra rai σ (8 * ya + xa))), (12, .int (m_lef (q_hour hei dra rai σ) - m_lef σ)), (13, .int (rai (m_t σ % 12))), (14, .int wv), (15, .int (nI k))] → W p l e room_1 s m args below meth c H locs (nC + 40 * k) (nS + 240 * k) Q (F0 m 507 ls []) := by
    intro fuk
    induction fuk with
    | zero =>
      intro k hik see fou wv H locs ls hwv hP hD hS hl
      obtain rfl : 64 = k := by omega
      refine lv_iload hx hb dL_law_507 (lv_at hl 15 rfl) ?_
      refine lv_bipush (v := 64) hx hb dL_law_509 (by decide) ?_
      refine lv_icmp_ge (tgt := 934) hx hb dL_law_511 (by decide) (fun hc => ?_) (fun hc => ?_)
      · skip
        subst hwv
        exact kk see fou H locs ls hP hD hS (lv_sub hl [0, 1, 2, 3, 4, 5, 6, 7, 8, 9, 10, 11, 12, 13, 14] rfl)
      · skip
        exact absurd (show (64 : Int32) ≤ nI 64 by decide) hc
    | succ fuk ihk =>
      intro k hik see fou wv H locs ls hwv hP hD hS hl
      have hk64 : k < 64 := by omega
      refine lv_iload hx hb dL_law_507 (lv_at hl 15 rfl) ?_
      refine lv_bipush (v := 64) hx hb dL_law_509 (by decide) ?_
      refine lv_icmp_ge (tgt := 934) hx hb dL_law_511 (by decide) (fun hc => ?_) (fun hc => ?_)
      · skip
        exact absurd hc (nI_ge (b := 64) hk64 (by decide))
      · skip
        have hwn := inv_w hI1.1 k hk64
        have k928 : ∀ (see : Nat → Int32) (fou : Nat → Int32) (wv2 : Int32) (H : Heap) (locs : List Loc) (ls : Array Slot), (wv2 = q_sum (q_pos (m_wat (q_hour hei dra rai σ))) (k + 1)) → va_P D vwCl ((fW g hn ha adn ada cI hei dra rai (q_hour hei dra rai σ) cre gai see fou z) ++ (([(tq, .inl (cI, 9, .inl ft)), (cq, .inl (cI, 9, .inl fc))]) ++ ((sM h a r aw bw cI cJ hei dra rai (q_hour hei dra rai σ)) ++ ((wG q rr cI cJ G))))) H → va_D A ((fW g hn ha adn ada cI hei dra rai (q_hour hei dra rai σ) cre gai see fou z) ++ (([(tq, .inl (cI, 9, .inl ft)), (cq, .inl (cI, 9, .inl fc))]) ++ ((sM h a r aw bw cI cJ hei dra rai (q_hour hei dra rai σ)) ++ ((wG q rr cI cJ G))))) → va_S A s.heap H locs → lv_has ls 22 [(0, .ref κ.2.2.1), (1, .ref g), (2, .ref h), (3, .int (nI t)), (4, .int zv), (5, .ref q), (6, .ref cq), (7, .ref tq), (8, .int (nI xa)), (9, .int (nI ya)), (10, .int (q_floods hei dra rai σ (8 * ya + xa))), (11, .int (q_breaks hei dra rai σ (8 * ya + xa))), (12, .int (m_lef (q_hour hei dra rai σ) - m_lef σ)), (13, .int (rai (m_t σ % 12))), (14, .int wv2), (15, .int (nI k)), (16, .int (nI (k % 8))), (17, .int (nI (k / 8))), (18, .int (m_wat (q_hour hei dra rai σ) k)), (19, .int (m_dam (q_hour hei dra rai σ) k))] → W p l e room_1 s m args below meth c H locs (nC + 40 * k + 39) (nS + 240 * k + 234) Q (F0 m 928 ls []) := by
          intro see fou wv2 H locs ls hw2 hP hD hS hl
          refine lv_iinc (v := (nI (k + 1))) (lv' := [(15, .int (nI (k + 1))), (0, .ref κ.2.2.1), (1, .ref g), (2, .ref h), (3, .int (nI t)), (4, .int zv), (5, .ref q), (6, .ref cq), (7, .ref tq), (8, .int (nI xa)), (9, .int (nI ya)), (10, .int (q_floods hei dra rai σ (8 * ya + xa))), (11, .int (q_breaks hei dra rai σ (8 * ya + xa))), (12, .int (m_lef (q_hour hei dra rai σ) - m_lef σ)), (13, .int (rai (m_t σ % 12))), (14, .int wv2), (16, .int (nI (k % 8))), (17, .int (nI (k / 8))), (18, .int (m_wat (q_hour hei dra rai σ) k)), (19, .int (m_dam (q_hour hei dra rai σ) k))]) hx hb dL_law_928 hl (k := 15) rfl (nI_1 k) (by decide) rfl (fun ls hl => ?_)
          refine lv_goto (tgt := 507) hx hb dL_law_931 (by decide) ?_
          refine W.widen (k := (nC + 40 * (k + 1))) (n := (nS + 240 * (k + 1))) (by omega) (by omega) ?_
          exact ihk (k + 1) (by omega) see fou wv2 H locs ls hw2 hP hD hS (lv_sub hl [1, 2, 3, 4, 5, 6, 7, 8, 9, 10, 11, 12, 13, 14, 15, 0] rfl)
        have k872 : ∀ (see : Nat → Int32) (fou : Nat → Int32) (wv2 : Int32) (H : Heap) (locs : List Loc) (ls : Array Slot), (wv2 = q_sum (q_pos (m_wat (q_hour hei dra rai σ))) (k + 1)) → va_P D vwCl ((fW g hn ha adn ada cI hei dra rai (q_hour hei dra rai σ) cre gai see fou z) ++ (([(tq, .inl (cI, 9, .inl ft)), (cq, .inl (cI, 9, .inl fc))]) ++ ((sM h a r aw bw cI cJ hei dra rai (q_hour hei dra rai σ)) ++ ((wG q rr cI cJ G))))) H → va_D A ((fW g hn ha adn ada cI hei dra rai (q_hour hei dra rai σ) cre gai see fou z) ++ (([(tq, .inl (cI, 9, .inl ft)), (cq, .inl (cI, 9, .inl fc))]) ++ ((sM h a r aw bw cI cJ hei dra rai (q_hour hei dra rai σ)) ++ ((wG q rr cI cJ G))))) → va_S A s.heap H locs → lv_has ls 22 [(0, .ref κ.2.2.1), (1, .ref g), (2, .ref h), (3, .int (nI t)), (4, .int zv), (5, .ref q), (6, .ref cq), (7, .ref tq), (8, .int (nI xa)), (9, .int (nI ya)), (10, .int (q_floods hei dra rai σ (8 * ya + xa))), (11, .int (q_breaks hei dra rai σ (8 * ya + xa))), (12, .int (m_lef (q_hour hei dra rai σ) - m_lef σ)), (13, .int (rai (m_t σ % 12))), (14, .int wv2), (15, .int (nI k)), (16, .int (nI (k % 8))), (17, .int (nI (k / 8))), (18, .int (m_wat (q_hour hei dra rai σ) k)), (19, .int (m_dam (q_hour hei dra rai σ) k))] → W p l e room_1 s m args below meth c H locs (nC + 40 * k + 32) (nS + 240 * k + 192) Q (F0 m 872 ls []) := by
          intro see fou wv2 H locs ls hw2 hP hD hS hl
          refine lv_iload hx hb dL_law_872 (lv_at hl 18 rfl) ?_
          refine lv_if_le (tgt := 928) hx hb dL_law_874 (by decide) (fun h1 => ?_) (fun h1 => ?_)
          · skip
            refine W.widen (k := (nC + 40 * k + 39)) (n := (nS + 240 * k + 234)) (by omega) (by omega) ?_
            exact k928 see fou wv2 H locs ls hw2 hP hD hS (lv_sub hl [0, 1, 2, 3, 4, 5, 6, 7, 8, 9, 10, 11, 12, 13, 14, 15, 16, 17, 18, 19] rfl)
          · skip
            refine lv_iload hx hb dL_law_877 (lv_at hl 16 rfl) ?_
            refine lv_bipush (v := 7) hx hb dL_law_879 (by decide) ?_
            refine lv_icmp_ge (tgt := 928) hx hb dL_law_881 (by decide) (fun h2 => ?_) (fun h2 => ?_)
            · skip
              refine W.widen (k := (nC + 40 * k + 39)) (n := (nS + 240 * k + 234)) (by omega) (by omega) ?_
              exact k928 see fou wv2 H locs ls hw2 hP hD hS (lv_sub hl [0, 1, 2, 3, 4, 5, 6, 7, 8, 9, 10, 11, 12, 13, 14, 15, 16, 17, 18, 19] rfl)
            · skip
              have h7 : k % 8 < 7 := Nat.lt_of_not_le (fun z9 => h2 ((nI_leI (a := 7) (by decide) (by omega)).mpr z9))
              refine lv_aload_n hx hb dL_law_884 rfl (lv_at hl 1 rfl) ?_
              refine lv_iload hx hb dL_law_885 (lv_at hl 16 rfl) ?_
              refine lv_iconst (v := 1) hx hb dL_law_887 (by decide) ?_
              refine lv_iadd hx hb dL_law_888 ?_
              refine ct_top (y := (nI (k % 8 + 1))) (nI_1 _) ?_
              refine lv_iload hx hb dL_law_889 (lv_at hl 17 rfl) ?_
              refine lv_iconst (v := 1) hx hb dL_law_891 (by decide) ?_
              refine cpx_Vi (As := [.int (nI (k % 8 + 1)), .int (nI (k / 8)), .int 1]) (rest := []) (wr := ((([(tq, .inl (cI, 9, .inl ft)), (cq, .inl (cI, 9, .inl fc))]) ++ ((sM h a r aw bw cI cJ hei dra rai (q_hour hei dra rai σ)) ++ ((wG q rr cI cJ G)))))) (cells1 := ((nC + 40 * k + 32) + 3)) (slots1 := ((nS + 240 * k + 192) + 18)) ⟨hx, hb, hml, hown, hts⟩ (c_X1_cell l hst D cI κ.1 κ.2.1 g hn ha adn ada hei dra rai (q_hour hei dra rai σ) cre gai see fou z (nI (k % 8 + 1)) (nI (k / 8)) 1) (cwV 3 hts gL_law_X1_cell rfl rfl rfl (by decide +kernel) ⟨Nat.le_of_ble_eq_true rfl, Nat.le_of_ble_eq_true rfl⟩) hK hP hD hS hA hX.1 (fun E z9 => by exact z9.2 ⟨in_k1 hk64 h7, by decide⟩) [0] rfl (va_recv hK hP (ci := 1) (q0 := 0) rfl rfl) rfl hl.1 rfl (Nat.le_of_ble_eq_true rfl) rfl rfl ⟨by show _ ≤ 608781; omega, by show _ ≤ 7275125; omega⟩ dL_law_892 (fun r1 _ H locs hw hP hD hS => ?_)
              have hP : va_P D vwCl ((fW g hn ha adn ada cI hei dra rai (q_hour hei dra rai σ) cre gai see fou z) ++ (([(tq, .inl (cI, 9, .inl ft)), (cq, .inl (cI, 9, .inl fc))]) ++ ((sM h a r aw bw cI cJ hei dra rai (q_hour hei dra rai σ)) ++ ((wG q rr cI cJ G))))) H := hP
              have hD : va_D A ((fW g hn ha adn ada cI hei dra rai (q_hour hei dra rai σ) cre gai see fou z) ++ (([(tq, .inl (cI, 9, .inl ft)), (cq, .inl (cI, 9, .inl fc))]) ++ ((sM h a r aw bw cI cJ hei dra rai (q_hour hei dra rai σ)) ++ ((wG q rr cI cJ G))))) := hD
              have e1 : r1 = (m_wat (q_hour hei dra rai σ) (k + 1)) := by rw [hw.2.2, at_k1 hk64 h7]; rfl
              subst e1
              refine lv_if_le (tgt := 928) hx hb dL_law_895 (by decide) (fun h3 => ?_) (fun h3 => ?_)
              · skip
                refine W.widen (k := (nC + 40 * k + 39)) (n := (nS + 240 * k + 234)) (by omega) (by omega) ?_
                exact k928 see fou wv2 H locs ls hw2 hP hD hS (lv_sub hl [0, 1, 2, 3, 4, 5, 6, 7, 8, 9, 10, 11, 12, 13, 14, 15, 16, 17, 18, 19] rfl)
              · skip
                refine lv_iload hx hb dL_law_898 (lv_at hl 15 rfl) ?_
                refine lv_iconst (v := 3) hx hb dL_law_900 (by decide) ?_
                refine ct_irem hx hb k 3 rfl rfl (by omega) (by decide) (by decide) dL_law_901 ?_
                refine lv_if_ne (tgt := 928) hx hb dL_law_902 (by decide) (fun h4 => ?_) (fun h4 => ?_)
                · skip
                  refine W.widen (k := (nC + 40 * k + 39)) (n := (nS + 240 * k + 234)) (by omega) (by omega) ?_
                  exact k928 see fou wv2 H locs ls hw2 hP hD hS (lv_sub hl [0, 1, 2, 3, 4, 5, 6, 7, 8, 9, 10, 11, 12, 13, 14, 15, 16, 17, 18, 19] rfl)
                · skip
                  refine lv_aload_n hx hb dL_law_905 rfl (lv_at hl 1 rfl) ?_
                  refine lv_iload hx hb dL_law_906 (lv_at hl 16 rfl) ?_
                  refine lv_iload hx hb dL_law_908 (lv_at hl 17 rfl) ?_
                  refine cpx_Vi (As := [.int (nI (k % 8)), .int (nI (k / 8))]) (rest := []) (wr := ((([(tq, .inl (cI, 9, .inl ft)), (cq, .inl (cI, 9, .inl fc))]) ++ ((sM h a r aw bw cI cJ hei dra rai (q_hour hei dra rai σ)) ++ ((wG q rr cI cJ G)))))) (cells1 := (((nC + 40 * k + 32) + 3) + 2)) (slots1 := (((nS + 240 * k + 192) + 18) + 12)) ⟨hx, hb, hml, hown, hts⟩ (c_X1_lake l hst D cI κ.1 κ.2.1 g hn ha adn ada hei dra rai (q_hour hei dra rai σ) cre gai see fou z (nI (k % 8)) (nI (k / 8))) (cwV 2 hts gL_law_X1_lake rfl rfl rfl (by decide +kernel) ⟨Nat.le_of_ble_eq_true rfl, Nat.le_of_ble_eq_true rfl⟩) hK hP hD hS hA hX.1 (fun E z9 => by exact z9.2 (in_k hk64)) [0] rfl (va_recv hK hP (ci := 1) (q0 := 0) rfl rfl) rfl hl.1 rfl (Nat.le_of_ble_eq_true rfl) rfl rfl ⟨by show _ ≤ 608781; omega, by show _ ≤ 7275125; omega⟩ dL_law_910 (fun r1 u1 H locs hw hP hD hS => ?_)
                  have hP : va_P D vwCl ((fW g hn ha adn ada cI hei dra rai (q_hour hei dra rai σ) cre gai u1.1 u1.2 z) ++ (([(tq, .inl (cI, 9, .inl ft)), (cq, .inl (cI, 9, .inl fc))]) ++ ((sM h a r aw bw cI cJ hei dra rai (q_hour hei dra rai σ)) ++ ((wG q rr cI cJ G))))) H := hP
                  have hD : va_D A ((fW g hn ha adn ada cI hei dra rai (q_hour hei dra rai σ) cre gai u1.1 u1.2 z) ++ (([(tq, .inl (cI, 9, .inl ft)), (cq, .inl (cI, 9, .inl fc))]) ++ ((sM h a r aw bw cI cJ hei dra rai (q_hour hei dra rai σ)) ++ ((wG q rr cI cJ G))))) := hD
                  have e1 : r1 = (q_lakeSize (m_wat (q_hour hei dra rai σ)) k) := by rw [hw.2, at_k hk64]
                  subst e1
                  refine lv_aload_n hx hb dL_law_913 rfl (lv_at hl 1 rfl) ?_
                  refine lv_iload hx hb dL_law_914 (lv_at hl 16 rfl) ?_
                  refine lv_iconst (v := 1) hx hb dL_law_916 (by decide) ?_
                  refine lv_iadd hx hb dL_law_917 ?_
                  refine ct_top (y := (nI (k % 8 + 1))) (nI_1 _) ?_
                  refine lv_iload hx hb dL_law_918 (lv_at hl 17 rfl) ?_
                  refine cpx_Vi (As := [.int (nI (k % 8 + 1)), .int (nI (k / 8))]) (rest := [.int (q_lakeSize (m_wat (q_hour hei dra rai σ)) k)]) (wr := ((([(tq, .inl (cI, 9, .inl ft)), (cq, .inl (cI, 9, .inl fc))]) ++ ((sM h a r aw bw cI cJ hei dra rai (q_hour hei dra rai σ)) ++ ((wG q rr cI cJ G)))))) (cells1 := ((((nC + 40 * k + 32) + 3) + 2) + 2)) (slots1 := ((((nS + 240 * k + 192) + 18) + 12) + 12)) ⟨hx, hb, hml, hown, hts⟩ (c_X1_lake l hst D cI κ.1 κ.2.1 g hn ha adn ada hei dra rai (q_hour hei dra rai σ) cre gai u1.1 u1.2 z (nI (k % 8 + 1)) (nI (k / 8))) (cwV 2 hts gL_law_X1_lake rfl rfl rfl (by decide +kernel) ⟨Nat.le_of_ble_eq_true rfl, Nat.le_of_ble_eq_true rfl⟩) hK hP hD hS hA hX.1 (fun E z9 => by exact z9.2 (in_k1 hk64 h7)) [0] rfl (va_recv hK hP (ci := 1) (q0 := 0) rfl rfl) rfl hl.1 rfl (Nat.le_of_ble_eq_true rfl) rfl rfl ⟨by show _ ≤ 608781; omega, by show _ ≤ 7275125; omega⟩ dL_law_920 (fun r1 u2 H locs hw hP hD hS => ?_)
                  have hP : va_P D vwCl ((fW g hn ha adn ada cI hei dra rai (q_hour hei dra rai σ) cre gai u2.1 u2.2 z) ++ (([(tq, .inl (cI, 9, .inl ft)), (cq, .inl (cI, 9, .inl fc))]) ++ ((sM h a r aw bw cI cJ hei dra rai (q_hour hei dra rai σ)) ++ ((wG q rr cI cJ G))))) H := hP
                  have hD : va_D A ((fW g hn ha adn ada cI hei dra rai (q_hour hei dra rai σ) cre gai u2.1 u2.2 z) ++ (([(tq, .inl (cI, 9, .inl ft)), (cq, .inl (cI, 9, .inl fc))]) ++ ((sM h a r aw bw cI cJ hei dra rai (q_hour hei dra rai σ)) ++ ((wG q rr cI cJ G))))) := hD
                  have e1 : r1 = (q_lakeSize (m_wat (q_hour hei dra rai σ)) (k + 1)) := by rw [hw.2, at_k1 hk64 h7]
                  subst e1
                  refine lv_icmp_eq (tgt := 928) hx hb dL_law_923 (by decide) (fun hs => ?_) (fun hs => ?_)
                  rotate_left
                  · exact absurd (lake_same hk64 (nb_k1 h7) (Int32.not_le.mp h1) (Int32.not_le.mp h3)) hs
                  refine W.widen (k := (nC + 40 * k + 39)) (n := (nS + 240 * k + 234)) (by omega) (by omega) ?_
                  exact k928 u2.1 u2.2 wv2 H locs ls hw2 hP hD hS (lv_sub hl [0, 1, 2, 3, 4, 5, 6, 7, 8, 9, 10, 11, 12, 13, 14, 15, 16, 17, 18, 19] rfl)
        have k841 : ∀ (see : Nat → Int32) (fou : Nat → Int32) (wv2 : Int32) (H : Heap) (locs : List Loc) (ls : Array Slot), (wv2 = q_sum (q_pos (m_wat (q_hour hei dra rai σ))) (k + 1)) → va_P D vwCl ((fW g hn ha adn ada cI hei dra rai (q_hour hei dra rai σ) cre gai see fou z) ++ (([(tq, .inl (cI, 9, .inl ft)), (cq, .inl (cI, 9, .inl fc))]) ++ ((sM h a r aw bw cI cJ hei dra rai (q_hour hei dra rai σ)) ++ ((wG q rr cI cJ G))))) H → va_D A ((fW g hn ha adn ada cI hei dra rai (q_hour hei dra rai σ) cre gai see fou z) ++ (([(tq, .inl (cI, 9, .inl ft)), (cq, .inl (cI, 9, .inl fc))]) ++ ((sM h a r aw bw cI cJ hei dra rai (q_hour hei dra rai σ)) ++ ((wG q rr cI cJ G))))) → va_S A s.heap H locs → lv_has ls 22 [(0, .ref κ.2.2.1), (1, .ref g), (2, .ref h), (3, .int (nI t)), (4, .int zv), (5, .ref q), (6, .ref cq), (7, .ref tq), (8, .int (nI xa)), (9, .int (nI ya)), (10, .int (q_floods hei dra rai σ (8 * ya + xa))), (11, .int (q_breaks hei dra rai σ (8 * ya + xa))), (12, .int (m_lef (q_hour hei dra rai σ) - m_lef σ)), (13, .int (rai (m_t σ % 12))), (14, .int wv2), (15, .int (nI k)), (16, .int (nI (k % 8))), (17, .int (nI (k / 8))), (18, .int (m_wat (q_hour hei dra rai σ) k)), (19, .int (m_dam (q_hour hei dra rai σ) k))] → W p l e room_1 s m args below meth c H locs (nC + 40 * k + 30) (nS + 240 * k + 180) Q (F0 m 841 ls []) := by
          intro see fou wv2 H locs ls hw2 hP hD hS hl
          refine lv_iload hx hb dL_law_841 (lv_at hl 18 rfl) ?_
          refine lv_if_ne (tgt := 850) hx hb dL_law_843 (by decide) (fun h1 => ?_) (fun h1 => ?_)
          · skip
            refine lv_iconst (v := 0) hx hb dL_law_850 (by decide) ?_
            refine lv_aload_n hx hb dL_law_851 rfl (lv_at hl 1 rfl) ?_
            refine lv_iload hx hb dL_law_852 (lv_at hl 16 rfl) ?_
            refine lv_iload hx hb dL_law_854 (lv_at hl 17 rfl) ?_
            refine cpx_Vi (As := [.int (nI (k % 8)), .int (nI (k / 8))]) (rest := [.int 0]) (wr := ((([(tq, .inl (cI, 9, .inl ft)), (cq, .inl (cI, 9, .inl fc))]) ++ ((sM h a r aw bw cI cJ hei dra rai (q_hour hei dra rai σ)) ++ ((wG q rr cI cJ G)))))) (cells1 := ((nC + 40 * k + 30) + 2)) (slots1 := ((nS + 240 * k + 180) + 12)) ⟨hx, hb, hml, hown, hts⟩ (c_X1_lake l hst D cI κ.1 κ.2.1 g hn ha adn ada hei dra rai (q_hour hei dra rai σ) cre gai see fou z (nI (k % 8)) (nI (k / 8))) (cwV 2 hts gL_law_X1_lake rfl rfl rfl (by decide +kernel) ⟨Nat.le_of_ble_eq_true rfl, Nat.le_of_ble_eq_true rfl⟩) hK hP hD hS hA hX.1 (fun E z9 => by exact z9.2 (in_k hk64)) [0] rfl (va_recv hK hP (ci := 1) (q0 := 0) rfl rfl) rfl hl.1 rfl (Nat.le_of_ble_eq_true rfl) rfl rfl ⟨by show _ ≤ 608781; omega, by show _ ≤ 7275125; omega⟩ dL_law_856 (fun r1 u1 H locs hw hP hD hS => ?_)
            have hP : va_P D vwCl ((fW g hn ha adn ada cI hei dra rai (q_hour hei dra rai σ) cre gai u1.1 u1.2 z) ++ (([(tq, .inl (cI, 9, .inl ft)), (cq, .inl (cI, 9, .inl fc))]) ++ ((sM h a r aw bw cI cJ hei dra rai (q_hour hei dra rai σ)) ++ ((wG q rr cI cJ G))))) H := hP
            have hD : va_D A ((fW g hn ha adn ada cI hei dra rai (q_hour hei dra rai σ) cre gai u1.1 u1.2 z) ++ (([(tq, .inl (cI, 9, .inl ft)), (cq, .inl (cI, 9, .inl fc))]) ++ ((sM h a r aw bw cI cJ hei dra rai (q_hour hei dra rai σ)) ++ ((wG q rr cI cJ G))))) := hD
            have e1 : r1 = (q_lakeSize (m_wat (q_hour hei dra rai σ)) k) := by rw [hw.2, at_k hk64]
            subst e1
            refine lv_if_ne (tgt := 866) hx hb dL_law_859 (by decide) (fun hs => ?_) (fun hs => ?_)
            rotate_left
            · exact absurd (pos_of hwn h1) ((lake_dry hk64).mp hs)
            refine lv_iconst (v := 0) hx hb dL_law_866 (by decide) ?_
            refine lv_icmp_eq (tgt := 872) hx hb dL_law_867 (by decide) (fun hs => ?_) (fun hs => ?_)
            rotate_left
            · exact absurd rfl hs
            refine W.widen (k := (nC + 40 * k + 32)) (n := (nS + 240 * k + 192)) (by omega) (by omega) ?_
            exact k872 u1.1 u1.2 wv2 H locs ls hw2 hP hD hS (lv_sub hl [0, 1, 2, 3, 4, 5, 6, 7, 8, 9, 10, 11, 12, 13, 14, 15, 16, 17, 18, 19] rfl)
          · skip
            refine lv_iconst (v := 1) hx hb dL_law_846 (by decide) ?_
            refine lv_goto (tgt := 851) hx hb dL_law_847 (by decide) ?_
            refine lv_aload_n hx hb dL_law_851 rfl (lv_at hl 1 rfl) ?_
            refine lv_iload hx hb dL_law_852 (lv_at hl 16 rfl) ?_
            refine lv_iload hx hb dL_law_854 (lv_at hl 17 rfl) ?_
            refine cpx_Vi (As := [.int (nI (k % 8)), .int (nI (k / 8))]) (rest := [.int 1]) (wr := ((([(tq, .inl (cI, 9, .inl ft)), (cq, .inl (cI, 9, .inl fc))]) ++ ((sM h a r aw bw cI cJ hei dra rai (q_hour hei dra rai σ)) ++ ((wG q rr cI cJ G)))))) (cells1 := ((nC + 40 * k + 30) + 2)) (slots1 := ((nS + 240 * k + 180) + 12)) ⟨hx, hb, hml, hown, hts⟩ (c_X1_lake l hst D cI κ.1 κ.2.1 g hn ha adn ada hei dra rai (q_hour hei dra rai σ) cre gai see fou z (nI (k % 8)) (nI (k / 8))) (cwV 2 hts gL_law_X1_lake rfl rfl rfl (by decide +kernel) ⟨Nat.le_of_ble_eq_true rfl, Nat.le_of_ble_eq_true rfl⟩) hK hP hD hS hA hX.1 (fun E z9 => by exact z9.2 (in_k hk64)) [0] rfl (va_recv hK hP (ci := 1) (q0 := 0) rfl rfl) rfl hl.1 rfl (Nat.le_of_ble_eq_true rfl) rfl rfl ⟨by show _ ≤ 608781; omega, by show _ ≤ 7275125; omega⟩ dL_law_856 (fun r1 u1 H locs hw hP hD hS => ?_)
            have hP : va_P D vwCl ((fW g hn ha adn ada cI hei dra rai (q_hour hei dra rai σ) cre gai u1.1 u1.2 z) ++ (([(tq, .inl (cI, 9, .inl ft)), (cq, .inl (cI, 9, .inl fc))]) ++ ((sM h a r aw bw cI cJ hei dra rai (q_hour hei dra rai σ)) ++ ((wG q rr cI cJ G))))) H := hP
            have hD : va_D A ((fW g hn ha adn ada cI hei dra rai (q_hour hei dra rai σ) cre gai u1.1 u1.2 z) ++ (([(tq, .inl (cI, 9, .inl ft)), (cq, .inl (cI, 9, .inl fc))]) ++ ((sM h a r aw bw cI cJ hei dra rai (q_hour hei dra rai σ)) ++ ((wG q rr cI cJ G))))) := hD
            have e1 : r1 = (q_lakeSize (m_wat (q_hour hei dra rai σ)) k) := by rw [hw.2, at_k hk64]
            subst e1
            refine lv_if_ne (tgt := 866) hx hb dL_law_859 (by decide) (fun hs => ?_) (fun hs => ?_)
            · exact absurd ((lake_dry hk64).mpr (by rw [h1]; decide)) hs
            refine lv_iconst (v := 1) hx hb dL_law_862 (by decide) ?_
            refine lv_goto (tgt := 867) hx hb dL_law_863 (by decide) ?_
            refine lv_icmp_eq (tgt := 872) hx hb dL_law_867 (by decide) (fun hs => ?_) (fun hs => ?_)
            rotate_left
            · exact absurd rfl hs
            refine W.widen (k := (nC + 40 * k + 32)) (n := (nS + 240 * k + 192)) (by omega) (by omega) ?_
            exact k872 u1.1 u1.2 wv2 H locs ls hw2 hP hD hS (lv_sub hl [0, 1, 2, 3, 4, 5, 6, 7, 8, 9, 10, 11, 12, 13, 14, 15, 16, 17, 18, 19] rfl)
        have k784 : ∀ (see : Nat → Int32) (fou : Nat → Int32) (wv2 : Int32) (H : Heap) (locs : List Loc) (ls : Array Slot), (wv2 = q_sum (q_pos (m_wat (q_hour hei dra rai σ))) (k + 1)) → va_P D vwCl ((fW g hn ha adn ada cI hei dra rai (q_hour hei dra rai σ) cre gai see fou z) ++ (([(tq, .inl (cI, 9, .inl ft)), (cq, .inl (cI, 9, .inl fc))]) ++ ((sM h a r aw bw cI cJ hei dra rai (q_hour hei dra rai σ)) ++ ((wG q rr cI cJ G))))) H → va_D A ((fW g hn ha adn ada cI hei dra rai (q_hour hei dra rai σ) cre gai see fou z) ++ (([(tq, .inl (cI, 9, .inl ft)), (cq, .inl (cI, 9, .inl fc))]) ++ ((sM h a r aw bw cI cJ hei dra rai (q_hour hei dra rai σ)) ++ ((wG q rr cI cJ G))))) → va_S A s.heap H locs → lv_has ls 22 [(0, .ref κ.2.2.1), (1, .ref g), (2, .ref h), (3, .int (nI t)), (4, .int zv), (5, .ref q), (6, .ref cq), (7, .ref tq), (8, .int (nI xa)), (9, .int (nI ya)), (10, .int (q_floods hei dra rai σ (8 * ya + xa))), (11, .int (q_breaks hei dra rai σ (8 * ya + xa))), (12, .int (m_lef (q_hour hei dra rai σ) - m_lef σ)), (13, .int (rai (m_t σ % 12))), (14, .int wv2), (15, .int (nI k)), (16, .int (nI (k % 8))), (17, .int (nI (k / 8))), (18, .int (m_wat (q_hour hei dra rai σ) k)), (19, .int (m_dam (q_hour hei dra rai σ) k))] → W p l e room_1 s m args below meth c H locs (nC + 40 * k + 27) (nS + 240 * k + 162) Q (F0 m 784 ls []) := by
          intro see fou wv2 H locs ls hw2 hP hD hS hl
          refine lv_aload hx hb dL_law_784 (lv_at hl 5 rfl) ?_
          refine lv_iload hx hb dL_law_786 (lv_at hl 15 rfl) ?_
          refine gr_aald hx hb hK hP 83 1 rfl rfl k rfl (by omega) (by decide) dL_law_788 ?_
          refine lv_iconst (v := 5) hx hb dL_law_789 (by decide) ?_
          refine wg_iald (v := (m_peo σ k)) hx hb hK hP 83 0 rfl rfl k 5 (by omega) (by decide) rfl (hG k 5 hk64 (by decide)) dL_law_790 ?_
          refine lv_aload_n hx hb dL_law_791 rfl (lv_at hl 1 rfl) ?_
          refine lv_iload hx hb dL_law_792 (lv_at hl 16 rfl) ?_
          refine lv_iload hx hb dL_law_794 (lv_at hl 17 rfl) ?_
          refine lv_iconst (v := 5) hx hb dL_law_796 (by decide) ?_
          refine cpx_Vi (As := [.int (nI (k % 8)), .int (nI (k / 8)), .int 5]) (rest := [.int (m_peo σ k)]) (wr := ((([(tq, .inl (cI, 9, .inl ft)), (cq, .inl (cI, 9, .inl fc))]) ++ ((sM h a r aw bw cI cJ hei dra rai (q_hour hei dra rai σ)) ++ ((wG q rr cI cJ G)))))) (cells1 := ((nC + 40 * k + 27) + 3)) (slots1 := ((nS + 240 * k + 162) + 18)) ⟨hx, hb, hml, hown, hts⟩ (c_X1_cell l hst D cI κ.1 κ.2.1 g hn ha adn ada hei dra rai (q_hour hei dra rai σ) cre gai see fou z (nI (k % 8)) (nI (k / 8)) 5) (cwV 3 hts gL_law_X1_cell rfl rfl rfl (by decide +kernel) ⟨Nat.le_of_ble_eq_true rfl, Nat.le_of_ble_eq_true rfl⟩) hK hP hD hS hA hX.1 (fun E z9 => by exact z9.2 ⟨in_k hk64, by decide⟩) [0] rfl (va_recv hK hP (ci := 1) (q0 := 0) rfl rfl) rfl hl.1 rfl (Nat.le_of_ble_eq_true rfl) rfl rfl ⟨by show _ ≤ 608781; omega, by show _ ≤ 7275125; omega⟩ dL_law_797 (fun r1 _ H locs hw hP hD hS => ?_)
          have hP : va_P D vwCl ((fW g hn ha adn ada cI hei dra rai (q_hour hei dra rai σ) cre gai see fou z) ++ (([(tq, .inl (cI, 9, .inl ft)), (cq, .inl (cI, 9, .inl fc))]) ++ ((sM h a r aw bw cI cJ hei dra rai (q_hour hei dra rai σ)) ++ ((wG q rr cI cJ G))))) H := hP
          have hD : va_D A ((fW g hn ha adn ada cI hei dra rai (q_hour hei dra rai σ) cre gai see fou z) ++ (([(tq, .inl (cI, 9, .inl ft)), (cq, .inl (cI, 9, .inl fc))]) ++ ((sM h a r aw bw cI cJ hei dra rai (q_hour hei dra rai σ)) ++ ((wG q rr cI cJ G))))) := hD
          have e1 : r1 = (m_peo (q_hour hei dra rai σ) k) := by rw [hw.2.2, at_k hk64]; rfl
          subst e1
          refine lv_isub hx hb dL_law_800 ?_
          refine lv_istore (lv' := [(21, .int ((m_peo σ k) - (m_peo (q_hour hei dra rai σ) k))), (0, .ref κ.2.2.1), (1, .ref g), (2, .ref h), (3, .int (nI t)), (4, .int zv), (5, .ref q), (6, .ref cq), (7, .ref tq), (8, .int (nI xa)), (9, .int (nI ya)), (10, .int (q_floods hei dra rai σ (8 * ya + xa))), (11, .int (q_breaks hei dra rai σ (8 * ya + xa))), (12, .int (m_lef (q_hour hei dra rai σ) - m_lef σ)), (13, .int (rai (m_t σ % 12))), (14, .int wv2), (15, .int (nI k)), (16, .int (nI (k % 8))), (17, .int (nI (k / 8))), (18, .int (m_wat (q_hour hei dra rai σ) k)), (19, .int (m_dam (q_hour hei dra rai σ) k))]) hx hb dL_law_801 hl (by decide) rfl (fun ls hl => ?_)
          refine lv_iload hx hb dL_law_803 (lv_at hl 0 rfl) ?_
          refine lv_iload hx hb dL_law_805 (lv_at hl 19 rfl) ?_
          refine lv_iconst (v := 3) hx hb dL_law_807 (by decide) ?_
          refine lv_icmp_lt (tgt := 821) hx hb dL_law_808 (by decide) (fun h1 => ?_) (fun h1 => ?_)
          · skip
            refine lv_iconst (v := 0) hx hb dL_law_821 (by decide) ?_
            refine lv_goto (tgt := 836) hx hb dL_law_822 (by decide) ?_
            refine lv_icmp_eq (tgt := 841) hx hb dL_law_836 (by decide) (fun hs => ?_) (fun hs => ?_)
            rotate_left
            · exact absurd (ck_go0 (Or.inl (Int32.not_le.mpr h1))) hs
            refine W.widen (k := (nC + 40 * k + 30)) (n := (nS + 240 * k + 180)) (by omega) (by omega) ?_
            exact k841 see fou wv2 H locs ls hw2 hP hD hS (lv_sub hl [1, 2, 3, 4, 5, 6, 7, 8, 9, 10, 11, 12, 13, 14, 15, 16, 17, 18, 19, 20] rfl)
          · skip
            refine lv_aload hx hb dL_law_811 (lv_at hl 6 rfl) ?_
            refine lv_iload hx hb dL_law_813 (lv_at hl 16 rfl) ?_
            refine gr_aald hx hb hK hP 83 1 rfl rfl k rfl (by omega) (by decide) dL_law_815 ?_
            refine lv_iconst (v := 5) hx hb dL_law_816 (by decide) ?_
            refine wg_iald (v := (m_peo σ k)) hx hb hK hP 83 0 rfl rfl k 5 (by omega) (by decide) rfl (hG k 5 hk64 (by decide)) dL_law_817 ?_
            refine lv_if_ne (tgt := 825) hx hb dL_law_818 (by decide) (fun h2 => ?_) (fun h2 => ?_)
            · skip
              refine lv_aload hx hb dL_law_825 (lv_at hl 6 rfl) ?_
              refine lv_iload hx hb dL_law_827 (lv_at hl 16 rfl) ?_
              refine gr_aald hx hb hK hP 83 1 rfl rfl k rfl (by omega) (by decide) dL_law_829 ?_
              refine lv_iconst (v := 5) hx hb dL_law_830 (by decide) ?_
              refine wg_iald (v := (m_peo σ k)) hx hb hK hP 83 0 rfl rfl k 5 (by omega) (by decide) rfl (hG k 5 hk64 (by decide)) dL_law_831 ?_
              refine lv_iconst (v := 3) hx hb dL_law_832 (by decide) ?_
              refine lv_idiv hx hb dL_law_833 (by decide) ?_
              refine lv_iconst (v := 1) hx hb dL_law_834 (by decide) ?_
              refine lv_iadd hx hb dL_law_835 ?_
              refine lv_icmp_eq (tgt := 841) hx hb dL_law_836 (by decide) (fun hs => ?_) (fun hs => ?_)
              rotate_left
              · exact absurd (ck_go1 hk64 hI (Int32.not_lt.mp h1) h2) hs
              refine W.widen (k := (nC + 40 * k + 30)) (n := (nS + 240 * k + 180)) (by omega) (by omega) ?_
              exact k841 see fou wv2 H locs ls hw2 hP hD hS (lv_sub hl [1, 2, 3, 4, 5, 6, 7, 8, 9, 10, 11, 12, 13, 14, 15, 16, 17, 18, 19, 20] rfl)
            · skip
              refine lv_iconst (v := 0) hx hb dL_law_821 (by decide) ?_
              refine lv_goto (tgt := 836) hx hb dL_law_822 (by decide) ?_
              refine lv_icmp_eq (tgt := 841) hx hb dL_law_836 (by decide) (fun hs => ?_) (fun hs => ?_)
              rotate_left
              · exact absurd (ck_go0 (Or.inr h2)) hs
              refine W.widen (k := (nC + 40 * k + 30)) (n := (nS + 240 * k + 180)) (by omega) (by omega) ?_
              exact k841 see fou wv2 H locs ls hw2 hP hD hS (lv_sub hl [1, 2, 3, 4, 5, 6, 7, 8, 9, 10, 11, 12, 13, 14, 15, 16, 17, 18, 19, 20] rfl)
        have k565 : ∀ (see : Nat → Int32) (fou : Nat → Int32) (wv2 : Int32) (H : Heap) (locs : List Loc) (ls : Array Slot), (wv2 = q_sum (q_pos (m_wat (q_hour hei dra rai σ))) (k + 1)) → va_P D vwCl ((fW g hn ha adn ada cI hei dra rai (q_hour hei dra rai σ) cre gai see fou z) ++ (([(tq, .inl (cI, 9, .inl ft)), (cq, .inl (cI, 9, .inl fc))]) ++ ((sM h a r aw bw cI cJ hei dra rai (q_hour hei dra rai σ)) ++ ((wG q rr cI cJ G))))) H → va_D A ((fW g hn ha adn ada cI hei dra rai (q_hour hei dra rai σ) cre gai see fou z) ++ (([(tq, .inl (cI, 9, .inl ft)), (cq, .inl (cI, 9, .inl fc))]) ++ ((sM h a r aw bw cI cJ hei dra rai (q_hour hei dra rai σ)) ++ ((wG q rr cI cJ G))))) → va_S A s.heap H locs → lv_has ls 22 [(0, .ref κ.2.2.1), (1, .ref g), (2, .ref h), (3, .int (nI t)), (4, .int zv), (5, .ref q), (6, .ref cq), (7, .ref tq), (8, .int (nI xa)), (9, .int (nI ya)), (10, .int (q_floods hei dra rai σ (8 * ya + xa))), (11, .int (q_breaks hei dra rai σ (8 * ya + xa))), (12, .int (m_lef (q_hour hei dra rai σ) - m_lef σ)), (13, .int (rai (m_t σ % 12))), (14, .int wv2), (15, .int (nI k)), (16, .int (nI (k % 8))), (17, .int (nI (k / 8))), (18, .int (m_wat (q_hour hei dra rai σ) k)), (19, .int (m_dam (q_hour hei dra rai σ) k))] → W p l e room_1 s m args below meth c H locs (nC + 40 * k + 6) (nS + 240 * k + 36) Q (F0 m 565 ls []) := by
          intro see fou wv2 H locs ls hw2 hP hD hS hl
          refine lv_iload hx hb dL_law_565 (lv_at hl 18 rfl) ?_
          refine lv_if_lt (tgt := 659) hx hb dL_law_567 (by decide) (fun hs => ?_) (fun hs => ?_)
          · exact absurd hs (Int32.not_lt.mpr hwn)
          refine lv_aload_n hx hb dL_law_570 rfl (lv_at hl 1 rfl) ?_
          refine lv_iload hx hb dL_law_571 (lv_at hl 16 rfl) ?_
          refine lv_iload hx hb dL_law_573 (lv_at hl 17 rfl) ?_
          refine lv_iconst (v := 0) hx hb dL_law_575 (by decide) ?_
          refine cpx_Vi (As := [.int (nI (k % 8)), .int (nI (k / 8)), .int 0]) (rest := []) (wr := ((([(tq, .inl (cI, 9, .inl ft)), (cq, .inl (cI, 9, .inl fc))]) ++ ((sM h a r aw bw cI cJ hei dra rai (q_hour hei dra rai σ)) ++ ((wG q rr cI cJ G)))))) (cells1 := ((nC + 40 * k + 6) + 3)) (slots1 := ((nS + 240 * k + 36) + 18)) ⟨hx, hb, hml, hown, hts⟩ (c_X1_cell l hst D cI κ.1 κ.2.1 g hn ha adn ada hei dra rai (q_hour hei dra rai σ) cre gai see fou z (nI (k % 8)) (nI (k / 8)) 0) (cwV 3 hts gL_law_X1_cell rfl rfl rfl (by decide +kernel) ⟨Nat.le_of_ble_eq_true rfl, Nat.le_of_ble_eq_true rfl⟩) hK hP hD hS hA hX.1 (fun E z9 => by exact z9.2 ⟨in_k hk64, by decide⟩) [0] rfl (va_recv hK hP (ci := 1) (q0 := 0) rfl rfl) rfl hl.1 rfl (Nat.le_of_ble_eq_true rfl) rfl rfl ⟨by show _ ≤ 608781; omega, by show _ ≤ 7275125; omega⟩ dL_law_576 (fun r1 _ H locs hw hP hD hS => ?_)
          have hP : va_P D vwCl ((fW g hn ha adn ada cI hei dra rai (q_hour hei dra rai σ) cre gai see fou z) ++ (([(tq, .inl (cI, 9, .inl ft)), (cq, .inl (cI, 9, .inl fc))]) ++ ((sM h a r aw bw cI cJ hei dra rai (q_hour hei dra rai σ)) ++ ((wG q rr cI cJ G))))) H := hP
          have hD : va_D A ((fW g hn ha adn ada cI hei dra rai (q_hour hei dra rai σ) cre gai see fou z) ++ (([(tq, .inl (cI, 9, .inl ft)), (cq, .inl (cI, 9, .inl fc))]) ++ ((sM h a r aw bw cI cJ hei dra rai (q_hour hei dra rai σ)) ++ ((wG q rr cI cJ G))))) := hD
          have e1 : r1 = (hei k) := by rw [hw.2.2, at_k hk64]; rfl
          subst e1
          refine lv_aload hx hb dL_law_579 (lv_at hl 5 rfl) ?_
          refine lv_iload hx hb dL_law_581 (lv_at hl 15 rfl) ?_
          refine gr_aald hx hb hK hP 83 1 rfl rfl k rfl (by omega) (by decide) dL_law_583 ?_
          refine lv_iconst (v := 0) hx hb dL_law_584 (by decide) ?_
          refine wg_iald (v := (hei k)) hx hb hK hP 83 0 rfl rfl k 0 (by omega) (by decide) rfl (hG k 0 hk64 (by decide)) dL_law_585 ?_
          refine lv_icmp_ne (tgt := 659) hx hb dL_law_586 (by decide) (fun hs => ?_) (fun hs => ?_)
          · exact absurd rfl hs
          refine lv_aload_n hx hb dL_law_589 rfl (lv_at hl 1 rfl) ?_
          refine lv_iload hx hb dL_law_590 (lv_at hl 16 rfl) ?_
          refine lv_iload hx hb dL_law_592 (lv_at hl 17 rfl) ?_
          refine lv_iconst (v := 4) hx hb dL_law_594 (by decide) ?_
          refine cpx_Vi (As := [.int (nI (k % 8)), .int (nI (k / 8)), .int 4]) (rest := []) (wr := ((([(tq, .inl (cI, 9, .inl ft)), (cq, .inl (cI, 9, .inl fc))]) ++ ((sM h a r aw bw cI cJ hei dra rai (q_hour hei dra rai σ)) ++ ((wG q rr cI cJ G)))))) (cells1 := (((nC + 40 * k + 6) + 3) + 3)) (slots1 := (((nS + 240 * k + 36) + 18) + 18)) ⟨hx, hb, hml, hown, hts⟩ (c_X1_cell l hst D cI κ.1 κ.2.1 g hn ha adn ada hei dra rai (q_hour hei dra rai σ) cre gai see fou z (nI (k % 8)) (nI (k / 8)) 4) (cwV 3 hts gL_law_X1_cell rfl rfl rfl (by decide +kernel) ⟨Nat.le_of_ble_eq_true rfl, Nat.le_of_ble_eq_true rfl⟩) hK hP hD hS hA hX.1 (fun E z9 => by exact z9.2 ⟨in_k hk64, by decide⟩) [0] rfl (va_recv hK hP (ci := 1) (q0 := 0) rfl rfl) rfl hl.1 rfl (Nat.le_of_ble_eq_true rfl) rfl rfl ⟨by show _ ≤ 608781; omega, by show _ ≤ 7275125; omega⟩ dL_law_595 (fun r1 _ H locs hw hP hD hS => ?_)
          have hP : va_P D vwCl ((fW g hn ha adn ada cI hei dra rai (q_hour hei dra rai σ) cre gai see fou z) ++ (([(tq, .inl (cI, 9, .inl ft)), (cq, .inl (cI, 9, .inl fc))]) ++ ((sM h a r aw bw cI cJ hei dra rai (q_hour hei dra rai σ)) ++ ((wG q rr cI cJ G))))) H := hP
          have hD : va_D A ((fW g hn ha adn ada cI hei dra rai (q_hour hei dra rai σ) cre gai see fou z) ++ (([(tq, .inl (cI, 9, .inl ft)), (cq, .inl (cI, 9, .inl fc))]) ++ ((sM h a r aw bw cI cJ hei dra rai (q_hour hei dra rai σ)) ++ ((wG q rr cI cJ G))))) := hD
          have e1 : r1 = (dra k) := by rw [hw.2.2, at_k hk64]; rfl
          subst e1
          refine lv_aload hx hb dL_law_598 (lv_at hl 5 rfl) ?_
          refine lv_iload hx hb dL_law_600 (lv_at hl 15 rfl) ?_
          refine gr_aald hx hb hK hP 83 1 rfl rfl k rfl (by omega) (by decide) dL_law_602 ?_
          refine lv_iconst (v := 4) hx hb dL_law_603 (by decide) ?_
          refine wg_iald (v := (dra k)) hx hb hK hP 83 0 rfl rfl k 4 (by omega) (by decide) rfl (hG k 4 hk64 (by decide)) dL_law_604 ?_
          refine lv_icmp_ne (tgt := 659) hx hb dL_law_605 (by decide) (fun hs => ?_) (fun hs => ?_)
          · exact absurd rfl hs
          refine lv_aload_n hx hb dL_law_608 rfl (lv_at hl 1 rfl) ?_
          refine lv_iload hx hb dL_law_609 (lv_at hl 16 rfl) ?_
          refine lv_iload hx hb dL_law_611 (lv_at hl 17 rfl) ?_
          refine lv_bipush (v := 6) hx hb dL_law_613 (by decide) ?_
          refine cpx_Vi (As := [.int (nI (k % 8)), .int (nI (k / 8)), .int 6]) (rest := []) (wr := ((([(tq, .inl (cI, 9, .inl ft)), (cq, .inl (cI, 9, .inl fc))]) ++ ((sM h a r aw bw cI cJ hei dra rai (q_hour hei dra rai σ)) ++ ((wG q rr cI cJ G)))))) (cells1 := ((((nC + 40 * k + 6) + 3) + 3) + 3)) (slots1 := ((((nS + 240 * k + 36) + 18) + 18) + 18)) ⟨hx, hb, hml, hown, hts⟩ (c_X1_cell l hst D cI κ.1 κ.2.1 g hn ha adn ada hei dra rai (q_hour hei dra rai σ) cre gai see fou z (nI (k % 8)) (nI (k / 8)) 6) (cwV 3 hts gL_law_X1_cell rfl rfl rfl (by decide +kernel) ⟨Nat.le_of_ble_eq_true rfl, Nat.le_of_ble_eq_true rfl⟩) hK hP hD hS hA hX.1 (fun E z9 => by exact z9.2 ⟨in_k hk64, by decide⟩) [0] rfl (va_recv hK hP (ci := 1) (q0 := 0) rfl rfl) rfl hl.1 rfl (Nat.le_of_ble_eq_true rfl) rfl rfl ⟨by show _ ≤ 608781; omega, by show _ ≤ 7275125; omega⟩ dL_law_615 (fun r1 _ H locs hw hP hD hS => ?_)
          have hP : va_P D vwCl ((fW g hn ha adn ada cI hei dra rai (q_hour hei dra rai σ) cre gai see fou z) ++ (([(tq, .inl (cI, 9, .inl ft)), (cq, .inl (cI, 9, .inl fc))]) ++ ((sM h a r aw bw cI cJ hei dra rai (q_hour hei dra rai σ)) ++ ((wG q rr cI cJ G))))) H := hP
          have hD : va_D A ((fW g hn ha adn ada cI hei dra rai (q_hour hei dra rai σ) cre gai see fou z) ++ (([(tq, .inl (cI, 9, .inl ft)), (cq, .inl (cI, 9, .inl fc))]) ++ ((sM h a r aw bw cI cJ hei dra rai (q_hour hei dra rai σ)) ++ ((wG q rr cI cJ G))))) := hD
          have e1 : r1 = (hei k + m_wat (q_hour hei dra rai σ) k) := by rw [hw.2.2, at_k hk64]; rfl
          subst e1
          refine lv_aload hx hb dL_law_618 (lv_at hl 5 rfl) ?_
          refine lv_iload hx hb dL_law_620 (lv_at hl 15 rfl) ?_
          refine gr_aald hx hb hK hP 83 1 rfl rfl k rfl (by omega) (by decide) dL_law_622 ?_
          refine lv_iconst (v := 0) hx hb dL_law_623 (by decide) ?_
          refine wg_iald (v := (hei k)) hx hb hK hP 83 0 rfl rfl k 0 (by omega) (by decide) rfl (hG k 0 hk64 (by decide)) dL_law_624 ?_
          refine lv_iload hx hb dL_law_625 (lv_at hl 18 rfl) ?_
          refine lv_iadd hx hb dL_law_627 ?_
          refine lv_icmp_ne (tgt := 659) hx hb dL_law_628 (by decide) (fun hs => ?_) (fun hs => ?_)
          · exact absurd rfl hs
          refine lv_aload_n hx hb dL_law_631 rfl (lv_at hl 1 rfl) ?_
          refine lv_iload hx hb dL_law_632 (lv_at hl 16 rfl) ?_
          refine lv_iload hx hb dL_law_634 (lv_at hl 17 rfl) ?_
          refine lv_bipush (v := 7) hx hb dL_law_636 (by decide) ?_
          refine cpx_Vi (As := [.int (nI (k % 8)), .int (nI (k / 8)), .int 7]) (rest := []) (wr := ((([(tq, .inl (cI, 9, .inl ft)), (cq, .inl (cI, 9, .inl fc))]) ++ ((sM h a r aw bw cI cJ hei dra rai (q_hour hei dra rai σ)) ++ ((wG q rr cI cJ G)))))) (cells1 := (((((nC + 40 * k + 6) + 3) + 3) + 3) + 3)) (slots1 := (((((nS + 240 * k + 36) + 18) + 18) + 18) + 18)) ⟨hx, hb, hml, hown, hts⟩ (c_X1_cell l hst D cI κ.1 κ.2.1 g hn ha adn ada hei dra rai (q_hour hei dra rai σ) cre gai see fou z (nI (k % 8)) (nI (k / 8)) 7) (cwV 3 hts gL_law_X1_cell rfl rfl rfl (by decide +kernel) ⟨Nat.le_of_ble_eq_true rfl, Nat.le_of_ble_eq_true rfl⟩) hK hP hD hS hA hX.1 (fun E z9 => by exact z9.2 ⟨in_k hk64, by decide⟩) [0] rfl (va_recv hK hP (ci := 1) (q0 := 0) rfl rfl) rfl hl.1 rfl (Nat.le_of_ble_eq_true rfl) rfl rfl ⟨by show _ ≤ 608781; omega, by show _ ≤ 7275125; omega⟩ dL_law_638 (fun r1 _ H locs hw hP hD hS => ?_)
          have hP : va_P D vwCl ((fW g hn ha adn ada cI hei dra rai (q_hour hei dra rai σ) cre gai see fou z) ++ (([(tq, .inl (cI, 9, .inl ft)), (cq, .inl (cI, 9, .inl fc))]) ++ ((sM h a r aw bw cI cJ hei dra rai (q_hour hei dra rai σ)) ++ ((wG q rr cI cJ G))))) H := hP
          have hD : va_D A ((fW g hn ha adn ada cI hei dra rai (q_hour hei dra rai σ) cre gai see fou z) ++ (([(tq, .inl (cI, 9, .inl ft)), (cq, .inl (cI, 9, .inl fc))]) ++ ((sM h a r aw bw cI cJ hei dra rai (q_hour hei dra rai σ)) ++ ((wG q rr cI cJ G))))) := hD
          have e1 : r1 = (q_cre hei (m_dam (q_hour hei dra rai σ)) (m_wat (q_hour hei dra rai σ)) k) := by rw [hw.2.2, at_k hk64]; rfl
          subst e1
          refine lv_aload hx hb dL_law_641 (lv_at hl 5 rfl) ?_
          refine lv_iload hx hb dL_law_643 (lv_at hl 15 rfl) ?_
          refine gr_aald hx hb hK hP 83 1 rfl rfl k rfl (by omega) (by decide) dL_law_645 ?_
          refine lv_iconst (v := 0) hx hb dL_law_646 (by decide) ?_
          refine wg_iald (v := (hei k)) hx hb hK hP 83 0 rfl rfl k 0 (by omega) (by decide) rfl (hG k 0 hk64 (by decide)) dL_law_647 ?_
          refine lv_iload hx hb dL_law_648 (lv_at hl 18 rfl) ?_
          refine lv_iload hx hb dL_law_650 (lv_at hl 19 rfl) ?_
          refine ct_mmax (v := (i_max (m_wat (q_hour hei dra rai σ) k) (m_dam (q_hour hei dra rai σ) k))) hx hb (hml.trans hl.1.symm) hown (hts (Cond.methodLink RL 30 Lib.Math.max.name) (List.mem_of_getElem? (i := 6) rfl)) (hts (Cond.static Lib.Math.max.name) (List.mem_of_getElem? (i := 7) rfl)) (hts (Cond.initialized "java/lang/Math") (List.mem_of_getElem? (i := 8) rfl)) (hts (Cond.code Lib.Math.max.name Lib.Math.max.code 2 (some .int)) (List.mem_of_getElem? (i := 9) rfl)) (Nat.le_of_ble_eq_true rfl) (Nat.le_of_ble_eq_true rfl) (by show _ ≤ 608781; omega) (by show _ ≤ 7275125; omega) rfl dL_law_652 ?_
          refine lv_iadd hx hb dL_law_655 ?_
          refine lv_icmp_eq (tgt := 661) hx hb dL_law_656 (by decide) (fun hs => ?_) (fun hs => ?_)
          rotate_left
          · exact absurd cre_mx hs
          refine lv_iload hx hb dL_law_661 (lv_at hl 19 rfl) ?_
          refine lv_aload hx hb dL_law_663 (lv_at hl 5 rfl) ?_
          refine lv_iload hx hb dL_law_665 (lv_at hl 15 rfl) ?_
          refine gr_aald hx hb hK hP 83 1 rfl rfl k rfl (by omega) (by decide) dL_law_667 ?_
          refine lv_iconst (v := 2) hx hb dL_law_668 (by decide) ?_
          refine wg_iald (v := (m_dam σ k)) hx hb hK hP 83 0 rfl rfl k 2 (by omega) (by decide) rfl (hG k 2 hk64 (by decide)) dL_law_669 ?_
          refine lv_icmp_eq (tgt := 677) hx hb dL_law_670 (by decide) (fun hbr => ?_) (fun hbr => ?_)
          · skip
            have cw := ck_wea hk64 hI hbr
            refine lv_iconst (v := 0) hx hb dL_law_677 (by decide) ?_
            refine lv_istore (lv' := [(20, .int 0), (0, .ref κ.2.2.1), (1, .ref g), (2, .ref h), (3, .int (nI t)), (4, .int zv), (5, .ref q), (6, .ref cq), (7, .ref tq), (8, .int (nI xa)), (9, .int (nI ya)), (10, .int (q_floods hei dra rai σ (8 * ya + xa))), (11, .int (q_breaks hei dra rai σ (8 * ya + xa))), (12, .int (m_lef (q_hour hei dra rai σ) - m_lef σ)), (13, .int (rai (m_t σ % 12))), (14, .int wv2), (15, .int (nI k)), (16, .int (nI (k % 8))), (17, .int (nI (k / 8))), (18, .int (m_wat (q_hour hei dra rai σ) k)), (19, .int (m_dam (q_hour hei dra rai σ) k))]) hx hb dL_law_678 hl (by decide) rfl (fun ls hl => ?_)
            refine lv_iload hx hb dL_law_680 (lv_at hl 0 rfl) ?_
            refine lv_if_eq (tgt := 714) hx hb dL_law_682 (by decide) (fun hs => ?_) (fun hs => ?_)
            rotate_left
            · exact absurd rfl hs
            refine lv_iload hx hb dL_law_714 (lv_at hl 0 rfl) ?_
            refine lv_if_ne (tgt := 784) hx hb dL_law_716 (by decide) (fun hs => ?_) (fun hs => ?_)
            · exact absurd rfl hs
            refine lv_aload_n hx hb dL_law_719 rfl (lv_at hl 2 rfl) ?_
            refine lv_iload hx hb dL_law_720 (lv_at hl 17 rfl) ?_
            refine lv_iload hx hb dL_law_722 (lv_at hl 18 rfl) ?_
            refine lv_iconst (v := 3) hx hb dL_law_724 (by decide) ?_
            refine cpx_Vi (As := [.int (nI (k % 8)), .int (nI (k / 8)), .int 3]) (rest := []) (wr := ((([(tq, .inl (cI, 9, .inl ft)), (cq, .inl (cI, 9, .inl fc))]) ++ ((sM h a r aw bw cI cJ hei dra rai (q_hour hei dra rai σ)) ++ ((wG q rr cI cJ G)))))) (cells1 := ((((((nC + 40 * k + 6) + 3) + 3) + 3) + 3) + 3)) (slots1 := ((((((nS + 240 * k + 36) + 18) + 18) + 18) + 18) + 18)) ⟨hx, hb, hml, hown, hts⟩ (c_X1_cell l hst D cI κ.1 κ.2.1 g hn ha adn ada hei dra rai (q_hour hei dra rai σ) cre gai see fou z (nI (k % 8)) (nI (k / 8)) 3) (cwV 3 hts gL_law_X1_cell rfl rfl rfl (by decide +kernel) ⟨Nat.le_of_ble_eq_true rfl, Nat.le_of_ble_eq_true rfl⟩) hK hP hD hS hA hX.1 (fun E z9 => by exact z9.2 ⟨in_k hk64, by decide⟩) [0] rfl (va_recv hK hP (ci := 1) (q0 := 0) rfl rfl) rfl hl.1 rfl (Nat.le_of_ble_eq_true rfl) rfl rfl ⟨by show _ ≤ 608781; omega, by show _ ≤ 7275125; omega⟩ dL_law_725 (fun r1 _ H locs hw hP hD hS => ?_)
            have hP : va_P D vwCl ((fW g hn ha adn ada cI hei dra rai (q_hour hei dra rai σ) cre gai see fou z) ++ (([(tq, .inl (cI, 9, .inl ft)), (cq, .inl (cI, 9, .inl fc))]) ++ ((sM h a r aw bw cI cJ hei dra rai (q_hour hei dra rai σ)) ++ ((wG q rr cI cJ G))))) H := hP
            have hD : va_D A ((fW g hn ha adn ada cI hei dra rai (q_hour hei dra rai σ) cre gai see fou z) ++ (([(tq, .inl (cI, 9, .inl ft)), (cq, .inl (cI, 9, .inl fc))]) ++ ((sM h a r aw bw cI cJ hei dra rai (q_hour hei dra rai σ)) ++ ((wG q rr cI cJ G))))) := hD
            have e1 : r1 = (m_wea (q_hour hei dra rai σ) k) := by rw [hw.2.2, at_k hk64]; rfl
            subst e1
            refine lv_aload hx hb dL_law_728 (lv_at hl 6 rfl) ?_
            refine lv_iload hx hb dL_law_730 (lv_at hl 16 rfl) ?_
            refine gr_aald hx hb hK hP 83 1 rfl rfl k rfl (by omega) (by decide) dL_law_732 ?_
            refine lv_iconst (v := 3) hx hb dL_law_733 (by decide) ?_
            refine wg_iald (v := (m_wea σ k)) hx hb hK hP 83 0 rfl rfl k 3 (by omega) (by decide) rfl (hG k 3 hk64 (by decide)) dL_law_734 ?_
            refine lv_icmp_lt (tgt := 782) hx hb dL_law_735 (by decide) (fun hs => ?_) (fun hs => ?_)
            · exact absurd hs cw.1
            refine lv_aload_n hx hb dL_law_738 rfl (lv_at hl 2 rfl) ?_
            refine lv_iload hx hb dL_law_739 (lv_at hl 17 rfl) ?_
            refine lv_iload hx hb dL_law_741 (lv_at hl 18 rfl) ?_
            refine lv_iconst (v := 3) hx hb dL_law_743 (by decide) ?_
            refine cpx_Vi (As := [.int (nI (k % 8)), .int (nI (k / 8)), .int 3]) (rest := []) (wr := ((([(tq, .inl (cI, 9, .inl ft)), (cq, .inl (cI, 9, .inl fc))]) ++ ((sM h a r aw bw cI cJ hei dra rai (q_hour hei dra rai σ)) ++ ((wG q rr cI cJ G)))))) (cells1 := (((((((nC + 40 * k + 6) + 3) + 3) + 3) + 3) + 3) + 3)) (slots1 := (((((((nS + 240 * k + 36) + 18) + 18) + 18) + 18) + 18) + 18)) ⟨hx, hb, hml, hown, hts⟩ (c_X1_cell l hst D cI κ.1 κ.2.1 g hn ha adn ada hei dra rai (q_hour hei dra rai σ) cre gai see fou z (nI (k % 8)) (nI (k / 8)) 3) (cwV 3 hts gL_law_X1_cell rfl rfl rfl (by decide +kernel) ⟨Nat.le_of_ble_eq_true rfl, Nat.le_of_ble_eq_true rfl⟩) hK hP hD hS hA hX.1 (fun E z9 => by exact z9.2 ⟨in_k hk64, by decide⟩) [0] rfl (va_recv hK hP (ci := 1) (q0 := 0) rfl rfl) rfl hl.1 rfl (Nat.le_of_ble_eq_true rfl) rfl rfl ⟨by show _ ≤ 608781; omega, by show _ ≤ 7275125; omega⟩ dL_law_744 (fun r1 _ H locs hw hP hD hS => ?_)
            have hP : va_P D vwCl ((fW g hn ha adn ada cI hei dra rai (q_hour hei dra rai σ) cre gai see fou z) ++ (([(tq, .inl (cI, 9, .inl ft)), (cq, .inl (cI, 9, .inl fc))]) ++ ((sM h a r aw bw cI cJ hei dra rai (q_hour hei dra rai σ)) ++ ((wG q rr cI cJ G))))) H := hP
            have hD : va_D A ((fW g hn ha adn ada cI hei dra rai (q_hour hei dra rai σ) cre gai see fou z) ++ (([(tq, .inl (cI, 9, .inl ft)), (cq, .inl (cI, 9, .inl fc))]) ++ ((sM h a r aw bw cI cJ hei dra rai (q_hour hei dra rai σ)) ++ ((wG q rr cI cJ G))))) := hD
            have e1 : r1 = (m_wea (q_hour hei dra rai σ) k) := by rw [hw.2.2, at_k hk64]; rfl
            subst e1
            refine lv_aload hx hb dL_law_747 (lv_at hl 6 rfl) ?_
            refine lv_iload hx hb dL_law_749 (lv_at hl 16 rfl) ?_
            refine gr_aald hx hb hK hP 83 1 rfl rfl k rfl (by omega) (by decide) dL_law_751 ?_
            refine lv_iconst (v := 3) hx hb dL_law_752 (by decide) ?_
            refine wg_iald (v := (m_wea σ k)) hx hb hK hP 83 0 rfl rfl k 3 (by omega) (by decide) rfl (hG k 3 hk64 (by decide)) dL_law_753 ?_
            refine lv_iload hx hb dL_law_754 (lv_at hl 20 rfl) ?_
            refine lv_if_le (tgt := 763) hx hb dL_law_756 (by decide) (fun hd0 => ?_) (fun hd0 => ?_)
            · skip
              refine lv_iconst (v := 0) hx hb dL_law_763 (by decide) ?_
              refine lv_iadd hx hb dL_law_764 ?_
              refine lv_icmp_gt (tgt := 782) hx hb dL_law_765 (by decide) (fun hs => ?_) (fun hs => ?_)
              · exact absurd hs (cw.2.2.1 (Int32.not_lt.mpr hd0))
              refine lv_aload_n hx hb dL_law_768 rfl (lv_at hl 2 rfl) ?_
              refine lv_iload hx hb dL_law_769 (lv_at hl 17 rfl) ?_
              refine lv_iload hx hb dL_law_771 (lv_at hl 18 rfl) ?_
              refine lv_iconst (v := 3) hx hb dL_law_773 (by decide) ?_
              refine cpx_Vi (As := [.int (nI (k % 8)), .int (nI (k / 8)), .int 3]) (rest := []) (wr := ((([(tq, .inl (cI, 9, .inl ft)), (cq, .inl (cI, 9, .inl fc))]) ++ ((sM h a r aw bw cI cJ hei dra rai (q_hour hei dra rai σ)) ++ ((wG q rr cI cJ G)))))) (cells1 := ((((((((nC + 40 * k + 6) + 3) + 3) + 3) + 3) + 3) + 3) + 3)) (slots1 := ((((((((nS + 240 * k + 36) + 18) + 18) + 18) + 18) + 18) + 18) + 18)) ⟨hx, hb, hml, hown, hts⟩ (c_X1_cell l hst D cI κ.1 κ.2.1 g hn ha adn ada hei dra rai (q_hour hei dra rai σ) cre gai see fou z (nI (k % 8)) (nI (k / 8)) 3) (cwV 3 hts gL_law_X1_cell rfl rfl rfl (by decide +kernel) ⟨Nat.le_of_ble_eq_true rfl, Nat.le_of_ble_eq_true rfl⟩) hK hP hD hS hA hX.1 (fun E z9 => by exact z9.2 ⟨in_k hk64, by decide⟩) [0] rfl (va_recv hK hP (ci := 1) (q0 := 0) rfl rfl) rfl hl.1 rfl (Nat.le_of_ble_eq_true rfl) rfl rfl ⟨by show _ ≤ 608781; omega, by show _ ≤ 7275125; omega⟩ dL_law_774 (fun r1 _ H locs hw hP hD hS => ?_)
              have hP : va_P D vwCl ((fW g hn ha adn ada cI hei dra rai (q_hour hei dra rai σ) cre gai see fou z) ++ (([(tq, .inl (cI, 9, .inl ft)), (cq, .inl (cI, 9, .inl fc))]) ++ ((sM h a r aw bw cI cJ hei dra rai (q_hour hei dra rai σ)) ++ ((wG q rr cI cJ G))))) H := hP
              have hD : va_D A ((fW g hn ha adn ada cI hei dra rai (q_hour hei dra rai σ) cre gai see fou z) ++ (([(tq, .inl (cI, 9, .inl ft)), (cq, .inl (cI, 9, .inl fc))]) ++ ((sM h a r aw bw cI cJ hei dra rai (q_hour hei dra rai σ)) ++ ((wG q rr cI cJ G))))) := hD
              have e1 : r1 = (m_wea (q_hour hei dra rai σ) k) := by rw [hw.2.2, at_k hk64]; rfl
              subst e1
              refine lv_bipush (v := 9) hx hb dL_law_777 (by decide) ?_
              refine lv_icmp_le (tgt := 784) hx hb dL_law_779 (by decide) (fun hs => ?_) (fun hs => ?_)
              rotate_left
              · exact absurd cw.2.2.2 hs
              refine W.widen (k := (nC + 40 * k + 27)) (n := (nS + 240 * k + 162)) (by omega) (by omega) ?_
              exact k784 see fou wv2 H locs ls hw2 hP hD hS (lv_sub hl [1, 2, 3, 4, 5, 6, 7, 8, 9, 10, 11, 12, 13, 14, 15, 16, 17, 18, 19, 20] rfl)
            · skip
              refine lv_iconst (v := 1) hx hb dL_law_759 (by decide) ?_
              refine lv_goto (tgt := 764) hx hb dL_law_760 (by decide) ?_
              refine lv_iadd hx hb dL_law_764 ?_
              refine lv_icmp_gt (tgt := 782) hx hb dL_law_765 (by decide) (fun hs => ?_) (fun hs => ?_)
              · exact absurd hs (cw.2.1 (Int32.not_le.mp hd0))
              refine lv_aload_n hx hb dL_law_768 rfl (lv_at hl 2 rfl) ?_
              refine lv_iload hx hb dL_law_769 (lv_at hl 17 rfl) ?_
              refine lv_iload hx hb dL_law_771 (lv_at hl 18 rfl) ?_
              refine lv_iconst (v := 3) hx hb dL_law_773 (by decide) ?_
              refine cpx_Vi (As := [.int (nI (k % 8)), .int (nI (k / 8)), .int 3]) (rest := []) (wr := ((([(tq, .inl (cI, 9, .inl ft)), (cq, .inl (cI, 9, .inl fc))]) ++ ((sM h a r aw bw cI cJ hei dra rai (q_hour hei dra rai σ)) ++ ((wG q rr cI cJ G)))))) (cells1 := ((((((((nC + 40 * k + 6) + 3) + 3) + 3) + 3) + 3) + 3) + 3)) (slots1 := ((((((((nS + 240 * k + 36) + 18) + 18) + 18) + 18) + 18) + 18) + 18)) ⟨hx, hb, hml, hown, hts⟩ (c_X1_cell l hst D cI κ.1 κ.2.1 g hn ha adn ada hei dra rai (q_hour hei dra rai σ) cre gai see fou z (nI (k % 8)) (nI (k / 8)) 3) (cwV 3 hts gL_law_X1_cell rfl rfl rfl (by decide +kernel) ⟨Nat.le_of_ble_eq_true rfl, Nat.le_of_ble_eq_true rfl⟩) hK hP hD hS hA hX.1 (fun E z9 => by exact z9.2 ⟨in_k hk64, by decide⟩) [0] rfl (va_recv hK hP (ci := 1) (q0 := 0) rfl rfl) rfl hl.1 rfl (Nat.le_of_ble_eq_true rfl) rfl rfl ⟨by show _ ≤ 608781; omega, by show _ ≤ 7275125; omega⟩ dL_law_774 (fun r1 _ H locs hw hP hD hS => ?_)
              have hP : va_P D vwCl ((fW g hn ha adn ada cI hei dra rai (q_hour hei dra rai σ) cre gai see fou z) ++ (([(tq, .inl (cI, 9, .inl ft)), (cq, .inl (cI, 9, .inl fc))]) ++ ((sM h a r aw bw cI cJ hei dra rai (q_hour hei dra rai σ)) ++ ((wG q rr cI cJ G))))) H := hP
              have hD : va_D A ((fW g hn ha adn ada cI hei dra rai (q_hour hei dra rai σ) cre gai see fou z) ++ (([(tq, .inl (cI, 9, .inl ft)), (cq, .inl (cI, 9, .inl fc))]) ++ ((sM h a r aw bw cI cJ hei dra rai (q_hour hei dra rai σ)) ++ ((wG q rr cI cJ G))))) := hD
              have e1 : r1 = (m_wea (q_hour hei dra rai σ) k) := by rw [hw.2.2, at_k hk64]; rfl
              subst e1
              refine lv_bipush (v := 9) hx hb dL_law_777 (by decide) ?_
              refine lv_icmp_le (tgt := 784) hx hb dL_law_779 (by decide) (fun hs => ?_) (fun hs => ?_)
              rotate_left
              · exact absurd cw.2.2.2 hs
              refine W.widen (k := (nC + 40 * k + 27)) (n := (nS + 240 * k + 162)) (by omega) (by omega) ?_
              exact k784 see fou wv2 H locs ls hw2 hP hD hS (lv_sub hl [1, 2, 3, 4, 5, 6, 7, 8, 9, 10, 11, 12, 13, 14, 15, 16, 17, 18, 19, 20] rfl)
          · skip
            have cb := ck_brk hk64 hI hbr
            refine lv_iconst (v := 1) hx hb dL_law_673 (by decide) ?_
            refine lv_goto (tgt := 678) hx hb dL_law_674 (by decide) ?_
            refine lv_istore (lv' := [(20, .int 1), (0, .ref κ.2.2.1), (1, .ref g), (2, .ref h), (3, .int (nI t)), (4, .int zv), (5, .ref q), (6, .ref cq), (7, .ref tq), (8, .int (nI xa)), (9, .int (nI ya)), (10, .int (q_floods hei dra rai σ (8 * ya + xa))), (11, .int (q_breaks hei dra rai σ (8 * ya + xa))), (12, .int (m_lef (q_hour hei dra rai σ) - m_lef σ)), (13, .int (rai (m_t σ % 12))), (14, .int wv2), (15, .int (nI k)), (16, .int (nI (k % 8))), (17, .int (nI (k / 8))), (18, .int (m_wat (q_hour hei dra rai σ) k)), (19, .int (m_dam (q_hour hei dra rai σ) k))]) hx hb dL_law_678 hl (by decide) rfl (fun ls hl => ?_)
            refine lv_iload hx hb dL_law_680 (lv_at hl 0 rfl) ?_
            refine lv_if_eq (tgt := 714) hx hb dL_law_682 (by decide) (fun hs => ?_) (fun hs => ?_)
            · exact absurd hs (by decide)
            refine lv_iload hx hb dL_law_685 (lv_at hl 20 rfl) ?_
            refine lv_if_ne (tgt := 782) hx hb dL_law_687 (by decide) (fun hs => ?_) (fun hs => ?_)
            · exact absurd cb.1 hs
            refine lv_aload hx hb dL_law_690 (lv_at hl 6 rfl) ?_
            refine lv_iload hx hb dL_law_692 (lv_at hl 16 rfl) ?_
            refine gr_aald hx hb hK hP 83 1 rfl rfl k rfl (by omega) (by decide) dL_law_694 ?_
            refine lv_iconst (v := 3) hx hb dL_law_695 (by decide) ?_
            refine wg_iald (v := (m_wea σ k)) hx hb hK hP 83 0 rfl rfl k 3 (by omega) (by decide) rfl (hG k 3 hk64 (by decide)) dL_law_696 ?_
            refine lv_bipush (v := 9) hx hb dL_law_697 (by decide) ?_
            refine lv_icmp_ne (tgt := 782) hx hb dL_law_699 (by decide) (fun hs => ?_) (fun hs => ?_)
            · exact absurd cb.2.1 hs
            refine lv_aload_n hx hb dL_law_702 rfl (lv_at hl 2 rfl) ?_
            refine lv_iload hx hb dL_law_703 (lv_at hl 17 rfl) ?_
            refine lv_iload hx hb dL_law_705 (lv_at hl 18 rfl) ?_
            refine lv_iconst (v := 3) hx hb dL_law_707 (by decide) ?_
            refine cpx_Vi (As := [.int (nI (k % 8)), .int (nI (k / 8)), .int 3]) (rest := []) (wr := ((([(tq, .inl (cI, 9, .inl ft)), (cq, .inl (cI, 9, .inl fc))]) ++ ((sM h a r aw bw cI cJ hei dra rai (q_hour hei dra rai σ)) ++ ((wG q rr cI cJ G)))))) (cells1 := ((((((nC + 40 * k + 6) + 3) + 3) + 3) + 3) + 3)) (slots1 := ((((((nS + 240 * k + 36) + 18) + 18) + 18) + 18) + 18)) ⟨hx, hb, hml, hown, hts⟩ (c_X1_cell l hst D cI κ.1 κ.2.1 g hn ha adn ada hei dra rai (q_hour hei dra rai σ) cre gai see fou z (nI (k % 8)) (nI (k / 8)) 3) (cwV 3 hts gL_law_X1_cell rfl rfl rfl (by decide +kernel) ⟨Nat.le_of_ble_eq_true rfl, Nat.le_of_ble_eq_true rfl⟩) hK hP hD hS hA hX.1 (fun E z9 => by exact z9.2 ⟨in_k hk64, by decide⟩) [0] rfl (va_recv hK hP (ci := 1) (q0 := 0) rfl rfl) rfl hl.1 rfl (Nat.le_of_ble_eq_true rfl) rfl rfl ⟨by show _ ≤ 608781; omega, by show _ ≤ 7275125; omega⟩ dL_law_708 (fun r1 _ H locs hw hP hD hS => ?_)
            have hP : va_P D vwCl ((fW g hn ha adn ada cI hei dra rai (q_hour hei dra rai σ) cre gai see fou z) ++ (([(tq, .inl (cI, 9, .inl ft)), (cq, .inl (cI, 9, .inl fc))]) ++ ((sM h a r aw bw cI cJ hei dra rai (q_hour hei dra rai σ)) ++ ((wG q rr cI cJ G))))) H := hP
            have hD : va_D A ((fW g hn ha adn ada cI hei dra rai (q_hour hei dra rai σ) cre gai see fou z) ++ (([(tq, .inl (cI, 9, .inl ft)), (cq, .inl (cI, 9, .inl fc))]) ++ ((sM h a r aw bw cI cJ hei dra rai (q_hour hei dra rai σ)) ++ ((wG q rr cI cJ G))))) := hD
            have e1 : r1 = (m_wea (q_hour hei dra rai σ) k) := by rw [hw.2.2, at_k hk64]; rfl
            subst e1
            refine lv_if_ne (tgt := 782) hx hb dL_law_711 (by decide) (fun hs => ?_) (fun hs => ?_)
            · exact absurd cb.2.2 hs
            refine lv_iload hx hb dL_law_714 (lv_at hl 0 rfl) ?_
            refine lv_if_ne (tgt := 784) hx hb dL_law_716 (by decide) (fun hs => ?_) (fun hs => ?_)
            rotate_left
            · exact absurd hs (by decide)
            refine W.widen (k := (nC + 40 * k + 27)) (n := (nS + 240 * k + 162)) (by omega) (by omega) ?_
            exact k784 see fou wv2 H locs ls hw2 hP hD hS (lv_sub hl [1, 2, 3, 4, 5, 6, 7, 8, 9, 10, 11, 12, 13, 14, 15, 16, 17, 18, 19, 20] rfl)
        refine lv_iload hx hb dL_law_514 (lv_at hl 15 rfl) ?_
        refine lv_bipush (v := 8) hx hb dL_law_516 (by decide) ?_
        refine ct_irem hx hb k 8 rfl rfl (by omega) (by decide) (by decide) dL_law_518 ?_
        refine lv_istore (lv' := [(16, .int (nI (k % 8))), (0, .ref κ.2.2.1), (1, .ref g), (2, .ref h), (3, .int (nI t)), (4, .int zv), (5, .ref q), (6, .ref cq), (7, .ref tq), (8, .int (nI xa)), (9, .int (nI ya)), (10, .int (q_floods hei dra rai σ (8 * ya + xa))), (11, .int (q_breaks hei dra rai σ (8 * ya + xa))), (12, .int (m_lef (q_hour hei dra rai σ) - m_lef σ)), (13, .int (rai (m_t σ % 12))), (14, .int wv), (15, .int (nI k))]) hx hb dL_law_519 hl (by decide) rfl (fun ls hl => ?_)
        refine lv_iload hx hb dL_law_521 (lv_at hl 16 rfl) ?_
        refine lv_bipush (v := 8) hx hb dL_law_523 (by decide) ?_
        refine ct_idiv hx hb k 8 rfl rfl (by omega) (by decide) (by decide) dL_law_525 ?_
        refine lv_istore (lv' := [(17, .int (nI (k / 8))), (16, .int (nI (k % 8))), (0, .ref κ.2.2.1), (1, .ref g), (2, .ref h), (3, .int (nI t)), (4, .int zv), (5, .ref q), (6, .ref cq), (7, .ref tq), (8, .int (nI xa)), (9, .int (nI ya)), (10, .int (q_floods hei dra rai σ (8 * ya + xa))), (11, .int (q_breaks hei dra rai σ (8 * ya + xa))), (12, .int (m_lef (q_hour hei dra rai σ) - m_lef σ)), (13, .int (rai (m_t σ % 12))), (14, .int wv), (15, .int (nI k))]) hx hb dL_law_526 hl (by decide) rfl (fun ls hl => ?_)
        refine lv_aload_n hx hb dL_law_528 rfl (lv_at hl 3 rfl) ?_
        refine lv_iload hx hb dL_law_529 (lv_at hl 1 rfl) ?_
        refine lv_iload hx hb dL_law_531 (lv_at hl 0 rfl) ?_
        refine lv_iconst (v := 1) hx hb dL_law_533 (by decide) ?_
        refine cpx_Vi (As := [.int (nI (k % 8)), .int (nI (k / 8)), .int 1]) (rest := []) (wr := ((([(tq, .inl (cI, 9, .inl ft)), (cq, .inl (cI, 9, .inl fc))]) ++ ((sM h a r aw bw cI cJ hei dra rai (q_hour hei dra rai σ)) ++ ((wG q rr cI cJ G)))))) (cells1 := ((nC + 40 * k) + 3)) (slots1 := ((nS + 240 * k) + 18)) ⟨hx, hb, hml, hown, hts⟩ (c_X1_cell l hst D cI κ.1 κ.2.1 g hn ha adn ada hei dra rai (q_hour hei dra rai σ) cre gai see fou z (nI (k % 8)) (nI (k / 8)) 1) (cwV 3 hts gL_law_X1_cell rfl rfl rfl (by decide +kernel) ⟨Nat.le_of_ble_eq_true rfl, Nat.le_of_ble_eq_true rfl⟩) hK hP hD hS hA hX.1 (fun E z9 => by exact z9.2 ⟨in_k hk64, by decide⟩) [0] rfl (va_recv hK hP (ci := 1) (q0 := 0) rfl rfl) rfl hl.1 rfl (Nat.le_of_ble_eq_true rfl) rfl rfl ⟨by show _ ≤ 608781; omega, by show _ ≤ 7275125; omega⟩ dL_law_534 (fun r1 _ H locs hw hP hD hS => ?_)
        have hP : va_P D vwCl ((fW g hn ha adn ada cI hei dra rai (q_hour hei dra rai σ) cre gai see fou z) ++ (([(tq, .inl (cI, 9, .inl ft)), (cq, .inl (cI, 9, .inl fc))]) ++ ((sM h a r aw bw cI cJ hei dra rai (q_hour hei dra rai σ)) ++ ((wG q rr cI cJ G))))) H := hP
        have hD : va_D A ((fW g hn ha adn ada cI hei dra rai (q_hour hei dra rai σ) cre gai see fou z) ++ (([(tq, .inl (cI, 9, .inl ft)), (cq, .inl (cI, 9, .inl fc))]) ++ ((sM h a r aw bw cI cJ hei dra rai (q_hour hei dra rai σ)) ++ ((wG q rr cI cJ G))))) := hD
        have e1 : r1 = (m_wat (q_hour hei dra rai σ) k) := by rw [hw.2.2, at_k hk64]; rfl
        subst e1
        refine lv_istore (lv' := [(18, .int (m_wat (q_hour hei dra rai σ) k)), (17, .int (nI (k / 8))), (16, .int (nI (k % 8))), (0, .ref κ.2.2.1), (1, .ref g), (2, .ref h), (3, .int (nI t)), (4, .int zv), (5, .ref q), (6, .ref cq), (7, .ref tq), (8, .int (nI xa)), (9, .int (nI ya)), (10, .int (q_floods hei dra rai σ (8 * ya + xa))), (11, .int (q_breaks hei dra rai σ (8 * ya + xa))), (12, .int (m_lef (q_hour hei dra rai σ) - m_lef σ)), (13, .int (rai (m_t σ % 12))), (14, .int wv), (15, .int (nI k))]) hx hb dL_law_537 hl (by decide) rfl (fun ls hl => ?_)
        refine lv_aload_n hx hb dL_law_539 rfl (lv_at hl 4 rfl) ?_
        refine lv_iload hx hb dL_law_540 (lv_at hl 2 rfl) ?_
        refine lv_iload hx hb dL_law_542 (lv_at hl 1 rfl) ?_
        refine lv_iconst (v := 2) hx hb dL_law_544 (by decide) ?_
        refine cpx_Vi (As := [.int (nI (k % 8)), .int (nI (k / 8)), .int 2]) (rest := []) (wr := ((([(tq, .inl (cI, 9, .inl ft)), (cq, .inl (cI, 9, .inl fc))]) ++ ((sM h a r aw bw cI cJ hei dra rai (q_hour hei dra rai σ)) ++ ((wG q rr cI cJ G)))))) (cells1 := (((nC + 40 * k) + 3) + 3)) (slots1 := (((nS + 240 * k) + 18) + 18)) ⟨hx, hb, hml, hown, hts⟩ (c_X1_cell l hst D cI κ.1 κ.2.1 g hn ha adn ada hei dra rai (q_hour hei dra rai σ) cre gai see fou z (nI (k % 8)) (nI (k / 8)) 2) (cwV 3 hts gL_law_X1_cell rfl rfl rfl (by decide +kernel) ⟨Nat.le_of_ble_eq_true rfl, Nat.le_of_ble_eq_true rfl⟩) hK hP hD hS hA hX.1 (fun E z9 => by exact z9.2 ⟨in_k hk64, by decide⟩) [0] rfl (va_recv hK hP (ci := 1) (q0 := 0) rfl rfl) rfl hl.1 rfl (Nat.le_of_ble_eq_true rfl) rfl rfl ⟨by show _ ≤ 608781; omega, by show _ ≤ 7275125; omega⟩ dL_law_545 (fun r1 _ H locs hw hP hD hS => ?_)
        have hP : va_P D vwCl ((fW g hn ha adn ada cI hei dra rai (q_hour hei dra rai σ) cre gai see fou z) ++ (([(tq, .inl (cI, 9, .inl ft)), (cq, .inl (cI, 9, .inl fc))]) ++ ((sM h a r aw bw cI cJ hei dra rai (q_hour hei dra rai σ)) ++ ((wG q rr cI cJ G))))) H := hP
        have hD : va_D A ((fW g hn ha adn ada cI hei dra rai (q_hour hei dra rai σ) cre gai see fou z) ++ (([(tq, .inl (cI, 9, .inl ft)), (cq, .inl (cI, 9, .inl fc))]) ++ ((sM h a r aw bw cI cJ hei dra rai (q_hour hei dra rai σ)) ++ ((wG q rr cI cJ G))))) := hD
        have e1 : r1 = (m_dam (q_hour hei dra rai σ) k) := by rw [hw.2.2, at_k hk64]; rfl
        subst e1
        refine lv_istore (lv' := [(19, .int (m_dam (q_hour hei dra rai σ) k)), (18, .int (m_wat (q_hour hei dra rai σ) k)), (17, .int (nI (k / 8))), (16, .int (nI (k % 8))), (0, .ref κ.2.2.1), (1, .ref g), (2, .ref h), (3, .int (nI t)), (4, .int zv), (5, .ref q), (6, .ref cq), (7, .ref tq), (8, .int (nI xa)), (9, .int (nI ya)), (10, .int (q_floods hei dra rai σ (8 * ya + xa))), (11, .int (q_breaks hei dra rai σ (8 * ya + xa))), (12, .int (m_lef (q_hour hei dra rai σ) - m_lef σ)), (13, .int (rai (m_t σ % 12))), (14, .int wv), (15, .int (nI k))]) hx hb dL_law_548 hl (by decide) rfl (fun ls hl => ?_)
        refine lv_iload hx hb dL_law_550 (lv_at hl 18 rfl) ?_
        refine lv_iload hx hb dL_law_552 (lv_at hl 1 rfl) ?_
        refine lv_if_le (tgt := 561) hx hb dL_law_554 (by decide) (fun h1 => ?_) (fun h1 => ?_)
        · skip
          refine lv_iconst (v := 0) hx hb dL_law_561 (by decide) ?_
          refine lv_iadd hx hb dL_law_562 ?_
          refine lv_istore (lv' := [(14, .int (wv + 0)), (19, .int (m_dam (q_hour hei dra rai σ) k)), (18, .int (m_wat (q_hour hei dra rai σ) k)), (17, .int (nI (k / 8))), (16, .int (nI (k % 8))), (0, .ref κ.2.2.1), (1, .ref g), (2, .ref h), (3, .int (nI t)), (4, .int zv), (5, .ref q), (6, .ref cq), (7, .ref tq), (8, .int (nI xa)), (9, .int (nI ya)), (10, .int (q_floods hei dra rai σ (8 * ya + xa))), (11, .int (q_breaks hei dra rai σ (8 * ya + xa))), (12, .int (m_lef (q_hour hei dra rai σ) - m_lef σ)), (13, .int (rai (m_t σ % 12))), (15, .int (nI k))]) hx hb dL_law_563 hl (by decide) rfl (fun ls hl => ?_)
          refine W.widen (k := (nC + 40 * k + 6)) (n := (nS + 240 * k + 36)) (by omega) (by omega) ?_
          exact k565 see fou (wv + 0) H locs ls (wet_n (Int32.not_lt.mpr h1) hwv) hP hD hS (lv_sub hl [5, 6, 7, 8, 9, 10, 11, 12, 13, 14, 15, 16, 17, 18, 0, 19, 4, 3, 2, 1] rfl)
        · skip
          refine lv_iconst (v := 1) hx hb dL_law_557 (by decide) ?_
          refine lv_goto (tgt := 562) hx hb dL_law_558 (by decide) ?_
          refine lv_iadd hx hb dL_law_562 ?_
          refine lv_istore (lv' := [(14, .int (wv + 1)), (19, .int (m_dam (q_hour hei dra rai σ) k)), (18, .int (m_wat (q_hour hei dra rai σ) k)), (17, .int (nI (k / 8))), (16, .int (nI (k % 8))), (0, .ref κ.2.2.1), (1, .ref g), (2, .ref h), (3, .int (nI t)), (4, .int zv), (5, .ref q), (6, .ref cq), (7, .ref tq), (8, .int (nI xa)), (9, .int (nI ya)), (10, .int (q_floods hei dra rai σ (8 * ya + xa))), (11, .int (q_breaks hei dra rai σ (8 * ya + xa))), (12, .int (m_lef (q_hour hei dra rai σ) - m_lef σ)), (13, .int (rai (m_t σ % 12))), (15, .int (nI k))]) hx hb dL_law_563 hl (by decide) rfl (fun ls hl => ?_)
          refine W.widen (k := (nC + 40 * k + 6)) (n := (nS + 240 * k + 36)) (by omega) (by omega) ?_
          exact k565 see fou (wv + 1) H locs ls (wet_y (Int32.not_le.mp h1) hwv) hP hD hS (lv_sub hl [5, 6, 7, 8, 9, 10, 11, 12, 13, 14, 15, 16, 17, 18, 0, 19, 4, 3, 2, 1] rfl)
  exact lk 64 0 (by omega) see fou 0 H locs ls rfl hP hD hS (lv_sub hl [2, 3, 4, 5, 6, 7, 8, 9, 10, 11, 12, 13, 14, 15, 1, 0] rfl)
