abbrev rm_L_below : Room := { frames := 0, cells := 0, slots := 0, locals := 0 }
set_option maxHeartbeats 4000000 in
set_option maxRecDepth 100000 in
theorem c_L_below (l : Launch) (D : va_G) (cI cJ cZ cB : ClassId) (v : Int32) (N : Nat) (h0 : 0 < N) (hN : N < 1000) : ct_i (S := Unit) l D yL_below wsL_below rm_L_below [.int v, .int (nI N)] ([] : va_W) [(cI, .int), (cJ, .array .int), (cZ, .boolean), (cB, .array .boolean)] (fun r _ => ∃ b, b < N ∧ r = nI b) (fun _ => ([] : va_W)) := by
  refine ct_ofi (cc := cL_below) (maxL := 2) (by decide) rfl (Nat.le_of_ble_eq_true rfl) ?_
  intro p e s m args below meth c A Q hx hb hml hown hts hin hA hK H locs hP hD hS fin ls hl
  have hown : s.vm.findClass RL = some m.cls := hown
  have hl : lv_has ls 2 [(0, .int v), (1, .int (nI N))] := hl
  refine lv_iload_n hx hb dL_below_0 rfl (lv_at hl 0 rfl) ?_
  refine lv_ldc (v := 2147483647) hx hb hown (hts (Cond.constant RL 7 (2147483647)) (List.mem_of_getElem? (i := 1) rfl)) dL_below_1 ?_
  refine lv_iand hx hb dL_below_3 ?_
  rw [pk_and v (m := 2147483647) 31 (by decide)]
  refine lv_iload_n hx hb dL_below_4 rfl (lv_at hl 1 rfl) ?_
  refine ct_irem hx hb (v.toBitVec.toNat % 2 ^ 31) N rfl rfl (Nat.mod_lt _ (by decide)) h0 (by omega) dL_below_5 ?_
  exact fin (nI (v.toBitVec.toNat % 2 ^ 31 % N)) () H locs 0 0 6 ls dL_below_6 ⟨_, Nat.mod_lt _ h0, rfl⟩ hP hD hS (Nat.le_of_ble_eq_true rfl) (Nat.le_of_ble_eq_true rfl)
abbrev rm_L_cell : Room := { frames := 0, cells := 0, slots := 0, locals := 0 }
set_option maxHeartbeats 4000000 in
set_option maxRecDepth 100000 in
theorem c_L_cell (l : Launch) (D : va_G) (cI cJ cZ cB : ClassId) (κ : Kx) (k : Nat) (hk : k < 1000) (hL : κ.2.2.2.1 ≤ 260) : cg_i (S := Unit) l D yL_cell wsL_cell rm_L_cell [.ref κ.2.2.1, .int (nI k)] ([] : va_W) [(cI, .int), (cJ, .array .int), (cZ, .boolean), (cB, .array .boolean)] κ (fun _ _ => True) (fun _ => ([] : va_W)) := by
  refine cg_ofi (cc := cL_cell) (maxL := 2) (by decide) rfl (Nat.le_of_ble_eq_true rfl) ?_
  intro p e s m args below meth c A Q C0 H locs hP hD hS fin ls hl
  obtain ⟨hx, hb, hml, hown, hts, hA, hK, hX⟩ := C0
  have hown : s.vm.findClass RL = some m.cls := hown
  have hl : lv_has ls 2 [(0, .ref κ.2.2.1), (1, .int (nI k))] := hl
  refine lv_iload_n hx hb dL_cell_0 rfl (lv_at hl 1 rfl) ?_
  refine lv_aload_n hx hb dL_cell_1 rfl (lv_at hl 0 rfl) ?_
  refine va_slen hx hb hX.2.2.2.1 hX.2.2.2.2.1 hX.2.2.2.2.2 hS dL_cell_2 ?_
  refine ct_top (y := nI κ.2.2.2.1) rfl ?_
  refine lv_icmp_ge (tgt := 12) hx hb dL_cell_3 (by decide) (fun hc => ?_) (fun hc => ?_)
  · skip
    refine lv_ldc (v := 790386105) hx hb hown (hts (Cond.constant RL 8 (790386105)) (List.mem_of_getElem? (i := 1) rfl)) dL_cell_12 ?_
    refine lv_iload_n hx hb dL_cell_14 rfl (lv_at hl 1 rfl) ?_
    refine lv_iconst (v := 3) hx hb dL_cell_15 (by decide) ?_
    refine lv_iadd hx hb dL_cell_16 ?_
    refine lv_imul hx hb dL_cell_17 ?_
    exact fin (790386105 * ((nI k) + 3)) () H locs 0 0 18 ls dL_cell_18 trivial hP hD hS (Nat.le_of_ble_eq_true rfl) (Nat.le_of_ble_eq_true rfl)
  · skip
    refine lv_aload_n hx hb dL_cell_6 rfl (lv_at hl 0 rfl) ?_
    refine lv_iload_n hx hb dL_cell_7 rfl (lv_at hl 1 rfl) ?_
    have hkL : k < κ.2.2.2.1 := Nat.lt_of_not_le (fun z => hc ((nI_leI (by omega) (by omega)).mpr z))
    refine va_sld hx hb hX.2.2.2.1 hX.2.2.2.2.1 hX.2.2.2.2.2 hS (vp_in_nI hkL (by omega)) dL_cell_8 ?_
    refine lv_topi (fun z9 _ => ?_)
    refine lv_goto (tgt := 18) hx hb dL_cell_9 (by decide) ?_
    exact fin z9 () H locs 0 0 18 ls dL_cell_18 trivial hP hD hS (Nat.le_of_ble_eq_true rfl) (Nat.le_of_ble_eq_true rfl)
