set_option maxHeartbeats 4000000 in
set_option maxRecDepth 100000 in
theorem law_loop {p : Program} {l : Launch} {e : Env} {s : State} {m : MethodId} {below : List Frame} {meth : Method} {c : Code} {D : va_G} {cI cJ cZ cB : ClassId} {κ : Kx} (C9 : cg_S p s m #[Value.ref κ.2.2.1] c (lw_A s) D yL_law wsL_law cL_law 22 [(cI, .int), (cJ, .array .int), (cZ, .boolean), (cB, .array .boolean)] κ) (hst : l.stackTraces = false) (hL : κ.2.2.2.1 ≤ 260) (hr : meth.sig.returnType = ret) (hlocks : meth.locks = false) {h : Nat} {a : Nat → Nat} {r : Nat → Nat → Nat} {g hn ha : Nat} {adn ada : Nat → Nat} : ∀ (n t : Nat), t + n = 14 → ∀ {d0 : Drawn} (hd0 : s.drawn.sameBut d0 lw_cs) {hei dra rai : Nat → Int32} {σ : Ms} {cre gai see fou : Nat → Int32} {z : Nat → Nat → Int32} {aw : Nat} {bw : Nat → Nat} (hI : pv (4752 + 774 * (t : Int)) hei dra rai σ) (ht : m_t σ = t) {H : Heap} {locs : List Loc} {ls : Array Slot} (hP : va_P D vwCl ((fW g hn ha adn ada cI hei dra rai σ cre gai see fou z) ++ (sM h a r aw bw cI cJ hei dra rai σ)) H) (hD : va_D (lw_A s) ((fW g hn ha adn ada cI hei dra rai σ cre gai see fou z) ++ (sM h a r aw bw cI cJ hei dra rai σ))) (hS : va_S (lw_A s) s.heap H locs) (hl : lv_has ls 22 [(0, .ref κ.2.2.1), (1, .ref g), (2, .ref h), (3, .int (nI t))]), W p l e room_1 (s.setDrawn d0) m #[Value.ref κ.2.2.1] below meth c H locs (2000 + 4000 * t) (5000 + 24000 * t) (lw_Z below #[Value.ref κ.2.2.1] s) (F0 m 22 ls []) := by
  intro n
  induction n with
  | zero =>
    intro t hin d0 hd0 hei dra rai σ cre gai see fou z aw bw hI ht H locs ls hP hD hS hl
    obtain rfl : 14 = t := by omega
    obtain ⟨hx, hb, hml, hown, hts, hA, hK, hX⟩ := C9.drew d0
    have hown : (s.setDrawn d0).vm.findClass RL = some m.cls := hown
    refine lv_iload_n hx hb dL_law_22 rfl (lv_at hl 3 rfl) ?_
    refine lv_bipush (v := 14) hx hb dL_law_23 (by decide) ?_
    refine lv_icmp_ge (tgt := 1017) hx hb dL_law_25 (by decide) (fun hs => ?_) (fun hs => ?_)
    rotate_left
    · exact absurd (show (14 : Int32) ≤ nI 14 by decide) hs
    refine lv_aload_n hx hb dL_law_1017 rfl (lv_at hl 2 rfl) ?_
    refine lv_aload_n hx hb dL_law_1018 rfl (lv_at hl 1 rfl) ?_
    have hP := gp_comm hP
    have hD := gp_commD hD
    refine cpg_Vd (As := [.ref g]) (rest := []) (wr := []) (cells1 := (2000 + 4000 * 14 + 1800)) (slots1 := (5000 + 24000 * 14 + 11000)) hd0 ⟨hx, hb, hml, hown, hts⟩ (c_X2_isSame l D cI cJ cZ cB κ hst h a r aw bw g hn ha adn ada cre gai see fou z hei dra rai σ (inv_w hI.1)) (cwV 1 hts gL_law_X2_isSame rfl rfl rfl (by decide +kernel) ⟨Nat.le_of_ble_eq_true rfl, Nat.le_of_ble_eq_true rfl⟩) hK hP hD hS hA hX [0, 1, 2, 3] rfl (va_recv hK hP (ci := 2) (q0 := 0) rfl rfl) rfl hl.1 rfl (Nat.le_of_ble_eq_true rfl) rfl rfl ⟨by show _ ≤ 608781; omega, by show _ ≤ 7275125; omega⟩ dL_law_1019 (fun r9 u d1 H locs hd1 hw hP hD hS => ?_)
    subst hw
    refine va_forget (fun q hq => hS.2.2 q hq) ?_
    refine W.widen (k := 608781) (n := 7275125) (by omega) (by omega) ?_
    exact lw_ret hd1 hx hb hr hlocks dL_law_1022
  | succ n ih =>
    intro t hin d0 hd0 hei dra rai σ cre gai see fou z aw bw hI ht H locs ls hP hD hS hl
    obtain ⟨hx, hb, hml, hown, hts, hA, hK, hX⟩ := C9.drew d0
    have ht14 : t < 14 := by omega
    refine lv_iload_n hx hb dL_law_22 rfl (lv_at hl 3 rfl) ?_
    refine lv_bipush (v := 14) hx hb dL_law_23 (by decide) ?_
    refine lv_icmp_ge (tgt := 1017) hx hb dL_law_25 (by decide) (fun hs => ?_) (fun hs => ?_)
    · exact absurd hs (nI_ge (b := 14) ht14 (by decide))
    refine lw_acts (C9.drew d0) ⟨by omega, by omega⟩ hst hL ht14 (by omega) hI ?_ hP hD hS hl
    intro hei dra rai σ1 zv H locs ls hI1 ht1 hP hD hS hl
    refine lw_was (C9.drew d0) ⟨by omega, by omega⟩ hst hL ?_ hP hD hS hl
    intro q rr G H locs ls hG hP hD hS hl
    have hts1 : m_t σ1 = t := ht1.trans ht
    have htb : m_t σ1 < 2 ^ 29 := by rw [hts1]; omega
    refine lw_counts (C9.drew d0) ⟨by omega, by omega⟩ hst hL htb ?_ hP hD hS hl
    intro see fou z tq cq ft fc H locs ls hfc hft hP hD hS hl
    refine lw_hour (C9.drew d0) ⟨by omega, by omega⟩ hst hL htb (by omega) hI1 hfc ?_ hP hD hS hl
    intro xa ya cre gai z aw bw H locs ls hxa hya hP hD hS hl
    refine lw_chk1 (C9.drew d0) ⟨by omega, by omega⟩ hst hL hfc hft ?_ hP hD hS hl
    intro see fou H locs ls hP hD hS hl
    refine lw_chk2 (C9.drew d0) ⟨by omega, by omega⟩ hst hL (show m_t σ1 + 1 < 2 ^ 29 by rw [hts1]; omega) hxa hya ?_ hP hD hS hl
    intro z H locs ls hP hD hS hl
    refine lw_cells (C9.drew d0) ⟨by omega, by omega⟩ hst hL hI1 (pv_hour (by omega) hI1) hG ?_ hP hD hS hl
    intro see fou H locs ls hP hD hS hl
    refine lw_chk3 hd0 (C9.drew d0) ⟨by omega, by omega⟩ hst hL ?_ hP hD hS hl
    intro d1 see fou H locs ls hd1 hP hD hS hl
    have hP := gp_left (gp_csa (gp_right (gp_sw hP)))
    have hD := gp_leftD (gp_csaD (gp_rightD (gp_swD hD)))
    clear hown hts hA hK hX
    obtain ⟨-, -, -, hown, hts, hA, hK, hX⟩ := C9.drew d1
    refine lv_iinc (v := (nI (t + 1))) (lv' := [(3, .int (nI (t + 1))), (0, .ref κ.2.2.1), (1, .ref g), (2, .ref h), (4, .int zv), (5, .ref q), (6, .ref cq), (7, .ref tq), (8, .int (nI xa)), (9, .int (nI ya)), (10, .int (q_floods hei dra rai σ1 (8 * ya + xa))), (11, .int (q_breaks hei dra rai σ1 (8 * ya + xa))), (12, .int (m_lef (q_hour hei dra rai σ1) - m_lef σ1)), (13, .int (rai (m_t σ1 % 12)))]) hx hb dL_law_1011 hl (k := 3) rfl (nI_1 t) (by decide) rfl (fun ls hl => ?_)
    refine lv_goto (tgt := 22) hx hb dL_law_1014 (by decide) ?_
    refine W.widen (k := 2000 + 4000 * (t + 1)) (n := 5000 + 24000 * (t + 1)) (by omega) (by omega) ?_
    exact ih (t + 1) (by omega) hd1 (pv_up (pv_hour (by omega) hI1) (by omega)) (show m_t σ1 + 1 = t + 1 by rw [hts1]) hP hD hS (lv_sub hl [1, 2, 3, 0] rfl)
