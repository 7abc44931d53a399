set_option maxHeartbeats 4000000 in
set_option maxRecDepth 100000 in
theorem lw_acts {p : Program} {l : Launch} {e : Env} {s : State} {m : MethodId} {args : Array Value} {below : List Frame} {meth : Method} {c : Code} {A : Nat → Prop} {Q : State → Prop} {D : va_G} {cI cJ cZ cB : ClassId} {κ : Kx} {g hn ha : Nat} {adn ada : Nat → Nat} {cre gai see fou : Nat → Int32} {z : Nat → Nat → Int32} {h : Nat} {a : Nat → Nat} {r : Nat → Nat → Nat} {aw : Nat} {bw : Nat → Nat} {hei dra rai : Nat → Int32} {σ : Ms} {nC nS : Nat} {t : Nat} {B : Int} (C0 : cg_S p s m args c A D yL_law wsL_law cL_law 22 [(cI, .int), (cJ, .array .int), (cZ, .boolean), (cB, .array .boolean)] κ) (hC : nC ≤ 500000 ∧ nS ≤ 6000000) (hst : l.stackTraces = false) (hL : κ.2.2.2.1 ≤ 260) (ht14 : t < 14) (hB : B < 300000000) (hI : pv B hei dra rai σ) (kk : ∀ (hei : Nat → Int32) (dra : Nat → Int32) (rai : Nat → Int32) (σ1 : Ms) (zv : Int32) (H : Heap) (locs : List Loc) (ls : Array Slot), (pv (B + 198) hei dra rai σ1) → (m_t σ1 = m_t σ) → va_P D vwCl ((fW g hn ha adn ada cI hei dra rai σ1 cre gai see fou z) ++ (sM h a r aw bw cI cJ hei dra rai σ1)) H → va_D A ((fW g hn ha adn ada cI hei dra rai σ1 cre gai see fou z) ++ (sM h a r aw bw cI cJ hei dra rai σ1)) → va_S A s.heap H locs → lv_has ls 22 [(0, .ref κ.2.2.1), (1, .ref g), (2, .ref h), (3, .int (nI t)), (4, .int zv)] → W p l e room_1 s m args below meth c H locs (nC + 6) (nS + 36) Q (F0 m 79 ls [])) {H : Heap} {locs : List Loc} {ls : Array Slot} (hP : va_P D vwCl ((fW g hn ha adn ada cI hei dra rai σ cre gai see fou z) ++ (sM h a r aw bw cI cJ hei dra rai σ)) H) (hD : va_D A ((fW g hn ha adn ada cI hei dra rai σ cre gai see fou z) ++ (sM h a r aw bw cI cJ hei dra rai σ))) (hS : va_S A s.heap H locs) (hl : lv_has ls 22 [(0, .ref κ.2.2.1), (1, .ref g), (2, .ref h), (3, .int (nI t))]) : W p l e room_1 s m args below meth c H locs nC nS Q (F0 m 28 ls []) := by
  obtain ⟨hx, hb, hml, hown, hts, hA, hK, hX⟩ := C0
  have hown : s.vm.findClass RL = some m.cls := hown
  refine lv_aload_n hx hb dL_law_28 rfl (lv_at hl 0 rfl) ?_
  refine lv_iload_n hx hb dL_law_29 rfl (lv_at hl 3 rfl) ?_
  refine cpg_Si (As := [.ref κ.2.2.1, .int (nI t)]) (rest := []) (wr := (((fW g hn ha adn ada cI hei dra rai σ cre gai see fou z) ++ (sM h a r aw bw cI cJ hei dra rai σ)))) (cells1 := nC) (slots1 := nS) ⟨hx, hb, hml, hown, hts⟩ (c_L_cell l D cI cJ cZ cB κ t (by omega) hL) (va_cwS 2 hts gL_law_L_cell rfl rfl rfl (by decide +kernel) ⟨Nat.le_of_ble_eq_true rfl, Nat.le_of_ble_eq_true rfl⟩) hK hP hD hS hA hX [0, 1, 2, 3] rfl rfl hl.1 rfl (Nat.le_of_ble_eq_true rfl) rfl rfl ⟨by show _ ≤ 608781; omega, by show _ ≤ 7275125; omega⟩ dL_law_30 (fun r1 u H locs hw hP hD hS => ?_)
  have hP : va_P D vwCl ((fW g hn ha adn ada cI hei dra rai σ cre gai see fou z) ++ (sM h a r aw bw cI cJ hei dra rai σ)) H := hP
  have hD : va_D A ((fW g hn ha adn ada cI hei dra rai σ cre gai see fou z) ++ (sM h a r aw bw cI cJ hei dra rai σ)) := hD
  refine lv_sipush (v := 191) hx hb dL_law_33 (by decide) ?_
  refine lv_iload_n hx hb dL_law_36 rfl (lv_at hl 3 rfl) ?_
  refine lv_imul hx hb dL_law_37 ?_
  refine lv_iadd hx hb dL_law_38 ?_
  refine lv_topi (fun zv _ => ?_)
  refine lv_istore (lv' := [(4, .int zv), (0, .ref κ.2.2.1), (1, .ref g), (2, .ref h), (3, .int (nI t))]) hx hb dL_law_39 hl (by decide) rfl (fun ls hl => ?_)
  refine lv_iconst (v := 0) hx hb dL_law_41 (by decide) ?_
  refine lv_istore (lv' := [(5, .int 0), (4, .int zv), (0, .ref κ.2.2.1), (1, .ref g), (2, .ref h), (3, .int (nI t))]) hx hb dL_law_42 hl (by decide) rfl (fun ls hl => ?_)
  have lk : ∀ (fuk k : Nat), k + fuk = 2 → ∀ (hei : Nat → Int32) (dra : Nat → Int32) (rai : Nat → Int32) (σ1 : Ms) (H : Heap) (locs : List Loc) (ls : Array Slot), (pv (B + 99 * (k : Int)) hei dra rai σ1) → (m_t σ1 = m_t σ) → va_P D vwCl ((fW g hn ha adn ada cI hei dra rai σ1 cre gai see fou z) ++ (sM h a r aw bw cI cJ hei dra rai σ1)) H → va_D A ((fW g hn ha adn ada cI hei dra rai σ1 cre gai see fou z) ++ (sM h a r aw bw cI cJ hei dra rai σ1)) → va_S A s.heap H locs → lv_has ls 22 [(0, .ref κ.2.2.1), (1, .ref g), (2, .ref h), (3, .int (nI t)), (4, .int zv), (5, .int (nI k))] → W p l e room_1 s m args below meth c H locs (nC + 3 * k) (nS + 18 * k) Q (F0 m 44 ls []) := by
    intro fuk
    induction fuk with
    | zero =>
      intro k hik hei dra rai σ1 H locs ls hv htt hP hD hS hl
      obtain rfl : 2 = k := by omega
      refine lv_iload hx hb dL_law_44 (lv_at hl 5 rfl) ?_
      refine lv_iconst (v := 2) hx hb dL_law_46 (by decide) ?_
      refine lv_icmp_ge (tgt := 79) hx hb dL_law_47 (by decide) (fun hc => ?_) (fun hc => ?_)
      · skip
        exact kk hei dra rai σ1 zv H locs ls (pv_up hv (by omega)) htt hP hD hS (lv_sub hl [0, 1, 2, 3, 4] rfl)
      · skip
        exact absurd (show (2 : Int32) ≤ nI 2 by decide) hc
    | succ fuk ihk =>
      intro k hik hei dra rai σ1 H locs ls hv htt hP hD hS hl
      have hk2 : k < 2 := by omega
      refine lv_iload hx hb dL_law_44 (lv_at hl 5 rfl) ?_
      refine lv_iconst (v := 2) hx hb dL_law_46 (by decide) ?_
      refine lv_icmp_ge (tgt := 79) hx hb dL_law_47 (by decide) (fun hc => ?_) (fun hc => ?_)
      · skip
        exact absurd hc (nI_ge (b := 2) hk2 (by decide))
      · skip
        refine lv_aload_n hx hb dL_law_50 rfl (lv_at hl 1 rfl) ?_
        refine lv_aload_n hx hb dL_law_51 rfl (lv_at hl 2 rfl) ?_
        refine lv_iload hx hb dL_law_52 (lv_at hl 4 rfl) ?_
        refine lv_iconst (v := 2) hx hb dL_law_54 (by decide) ?_
        refine lv_iload hx hb dL_law_55 (lv_at hl 5 rfl) ?_
        refine lv_imul hx hb dL_law_57 ?_
        refine lv_ishr hx hb dL_law_58 ?_
        refine lv_topi (fun z1 _ => ?_)
        refine lv_bipush (v := 113) hx hb dL_law_59 (by decide) ?_
        refine lv_iload hx hb dL_law_61 (lv_at hl 5 rfl) ?_
        refine lv_imul hx hb dL_law_63 ?_
        refine lv_iadd hx hb dL_law_64 ?_
        refine cpg_Si (As := [.ref g, .ref h, .int (z1 + (113 * (nI k)))]) (rest := []) (wr := []) (cells1 := (nC + 3 * k + 3)) (slots1 := (nS + 18 * k + 18)) ⟨hx, hb, hml, hown, hts⟩ (c_L_act l D cI cJ cZ cB κ hst h a r aw bw g hn ha adn ada cre gai see fou z hei dra rai σ1 (z1 + (113 * (nI k))) (B := B + 99 * (k : Int)) (by omega) hv) (va_cwS 3 hts gL_law_L_act rfl rfl rfl (by decide +kernel) ⟨Nat.le_of_ble_eq_true rfl, Nat.le_of_ble_eq_true rfl⟩) hK hP hD hS hA hX [0, 1, 2, 3] rfl rfl hl.1 rfl (Nat.le_of_ble_eq_true rfl) rfl rfl ⟨by show _ ≤ 608781; omega, by show _ ≤ 7275125; omega⟩ dL_law_65 (fun r2 u H locs hw hP hD hS => ?_)
        have hP : va_P D vwCl ((fW g hn ha adn ada cI u.1 u.2.1 u.2.2.1 u.2.2.2 cre gai see fou z) ++ (sM h a r aw bw cI cJ u.1 u.2.1 u.2.2.1 u.2.2.2)) H := hP
        have hD : va_D A ((fW g hn ha adn ada cI u.1 u.2.1 u.2.2.1 u.2.2.2 cre gai see fou z) ++ (sM h a r aw bw cI cJ u.1 u.2.1 u.2.2.1 u.2.2.2)) := hD
        refine lv_if_ne (tgt := 73) hx hb dL_law_68 (by decide) (fun hs => ?_) (fun hs => ?_)
        · skip
          refine lv_iinc (v := (nI (k + 1))) (lv' := [(5, .int (nI (k + 1))), (0, .ref κ.2.2.1), (1, .ref g), (2, .ref h), (3, .int (nI t)), (4, .int zv)]) hx hb dL_law_73 hl (k := 5) rfl (nI_1 k) (by decide) rfl (fun ls hl => ?_)
          refine lv_goto (tgt := 44) hx hb dL_law_76 (by decide) ?_
          refine W.widen (k := (nC + 3 * (k + 1))) (n := (nS + 18 * (k + 1))) (by omega) (by omega) ?_
          exact ihk (k + 1) (by omega) u.1 u.2.1 u.2.2.1 u.2.2.2 H locs ls (pv_up hw.2.1 (by omega)) (hw.2.2.trans htt) hP hD hS (lv_sub hl [1, 2, 3, 4, 5, 0] rfl)
        · skip
          exact absurd (hs.symm.trans hw.1) (by decide)
  exact lk 2 0 (by omega) hei dra rai σ H locs ls (pv_up hI (by omega)) rfl hP hD hS (lv_sub hl [2, 3, 4, 5, 1, 0] rfl)
