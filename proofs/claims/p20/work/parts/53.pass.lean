/-- what an hour needs of its plain -/
def pv (B : Int) (hei dra rai : Nat → Int32) (σ : Ms) : Prop := inv B hei dra rai σ ∧ (∀ c, c < 64 → 0 ≤ (m_peo σ c).toInt ∧ (m_peo σ c).toInt ≤ 90)
theorem pv_hB {B : Int} {hei dra rai : Nat → Int32} {σ : Ms} (hB9 : B ≤ 80000) (h : pv B hei dra rai σ) : hB hei (m_dam σ) (q_w1 rai (m_t σ) (m_wat σ)) := by
  obtain ⟨h1, h2, h3, h4, h5, h6, h7⟩ := h.1
  have hr := h3 (m_t σ % 12) (Nat.mod_lt _ (by decide))
  refine ⟨h1, h4, fun c hc => ?_⟩
  have a := zs_one 64 h6 c hc
  have b := h6 c hc
  have e : (q_w1 rai (m_t σ) (m_wat σ) c).toInt = (m_wat σ c).toInt + (rai (m_t σ % 12)).toInt := add_ex (by omega) (by omega)
  omega
set_option maxHeartbeats 4000000 in
set_option maxRecDepth 100000 in
theorem c_X2_pass (l : Launch) (D : va_G) (cI cJ cZ cB : ClassId) (κ : Kx) (h : Nat) (a : Nat → Nat) (r : Nat → Nat → Nat) (aw : Nat) (bw : Nat → Nat) (hei dra rai : Nat → Int32) (σ : Ms) (ht : m_t σ < 2 ^ 29) {B : Int} (hB9 : B ≤ 80000) (hI : pv B hei dra rai σ) : cg_i (S := Nat × (Nat → Nat)) l D yX2_pass wsX2_pass rm_X2_pass [.ref h] (sM h a r aw bw cI cJ hei dra rai σ) [(cI, .int), (cJ, .array .int), (cZ, .boolean), (cB, .array .boolean)] κ (fun _ _ => True) (fun u => sM h a r u.1 u.2 cI cJ hei dra rai (q_hour hei dra rai σ)) := by
  refine cg_ofi (cc := cX2_pass) (maxL := 12) (by decide) rfl (Nat.le_of_ble_eq_true rfl) ?_
  intro p e s m args below meth c A Q C0 H locs hP hD hS fin ls hl
  obtain ⟨hx, hb, hml, hown, hts, hA, hK, hX⟩ := C0
  have hown : s.vm.findClass RX2 = some m.cls := hown
  have hl : lv_has ls 12 [(0, .ref h)] := hl
  have C9 : cg_S p s m args c A D yX2_pass wsX2_pass cX2_pass 12 [(cI, .int), (cJ, .array .int), (cZ, .boolean), (cB, .array .boolean)] κ := ⟨hx, hb, hml, hown, hts, hA, hK, hX⟩
  refine lv_aload_n hx hb dX2_pass_0 rfl (lv_at hl 0 rfl) ?_
  refine va_get (D := D) (ci := 2) (v := .int (m_lef σ)) (C := RX2) (T := TX2) (N := 11) hx hb hts (fun _ h9 => (List.mem_cons_of_mem _ (List.mem_append_right _ h9))) hown hK hP 0 rfl rfl 10 (by decide) (hts (Cond.fieldLink RX2 47 "FloodGridLaw$Sim" "left" "I") (List.mem_of_getElem? (i := 1) rfl)) (fun _ h9 => h9) rfl dX2_pass_1 ?_
  refine lv_istore_n (lv' := [(1, .int (m_lef σ)), (0, .ref h)]) hx hb dX2_pass_4 rfl hl (by decide) rfl (fun ls hl => ?_)
  refine lv_bipush (v := 8) hx hb dX2_pass_5 (by decide) ?_
  refine lv_bipush (v := 8) hx hb dX2_pass_7 (by decide) ?_
  refine gr_mna (cells1 := 9) (slots1 := 72) hx hb hown (hts (Cond.classLink RX2 7 "[[I") (List.mem_of_getElem? (i := 2) rfl)) hX.2.1 (hts (Cond.arrayClass .int) (List.mem_of_getElem? (i := 3) rfl)) 0 1 rfl rfl hK hP hD hS hA 8 8 rfl rfl (by decide) (by decide) rfl rfl (Nat.le_of_ble_eq_true rfl) (Nat.le_of_ble_eq_true rfl) dX2_pass_9 (fun q rr H hP hD hS => ?_)
  have hP : va_P D vwCl ((sM h a r aw bw cI cJ hei dra rai σ) ++ (gr q rr cI cJ (fun _ => 0))) H := hP
  have hD : va_D A ((sM h a r aw bw cI cJ hei dra rai σ) ++ (gr q rr cI cJ (fun _ => 0))) := hD
  refine lv_astore_n (lv' := [(2, .ref q), (1, .int (m_lef σ)), (0, .ref h)]) hx hb dX2_pass_13 rfl hl (by decide) rfl (fun ls hl => ?_)
  refine sp_rain C9 ht ?_ hP hD hS (lv_sub hl [2, 1, 0] rfl)
  intro H locs ls hP hD hS hl
  refine sp_run C9 (pv_hB hB9 hI) rfl ?_ hP hD hS hl
  intro H locs ls hP hD hS hl
  refine lv_aload_n hx hb dX2_pass_361 rfl (lv_at hl 0 rfl) ?_
  refine lv_aload_n hx hb dX2_pass_362 rfl (lv_at hl 2 rfl) ?_
  refine va_put (D := D) (ci := 2) (v := .ref q) (ty := .array (.array .int)) (C := RX2) (T := TX2) (N := 11) hx hb hts (fun _ h9 => (List.mem_cons_of_mem _ (List.mem_append_right _ h9))) tyX2 tyX2_ok nmX2 hown hK hP hD hS 0 rfl rfl 1 (by decide) (hts (Cond.fieldLink RX2 14 "FloodGridLaw$Sim" "water" "[[I") (List.mem_of_getElem? (i := 4) rfl)) (fun _ h9 => h9) rfl (by decide +kernel) rfl rfl (Nat.le_of_ble_eq_true rfl) dX2_pass_363 (fun H locs hP hD hS => ?_)
  have hP : va_P D vwCl (sW h a r q rr cI cJ hei (q_w2 hei (m_dam σ) (q_w1 rai (m_t σ) (m_wat σ))) (m_dam σ) (m_wea σ) dra (m_peo σ) rai (nI (m_t σ)) (m_bro σ) (m_drd σ) (m_lef σ)) H := hP.sub [0, 1, 2, 3, 4, 5, 6, 7, 8, 9, 56, 57, 58, 59, 60, 61, 62, 63, 64, 19, 20, 21, 22, 23, 24, 25, 26, 27, 28, 29, 30, 31, 32, 33, 34, 35, 36, 37, 38, 39, 40, 41, 42, 43, 44, 45, 46, 47, 48, 49, 50, 51, 52, 53, 54, 55] rfl
  have hD : va_D A (sW h a r q rr cI cJ hei (q_w2 hei (m_dam σ) (q_w1 rai (m_t σ) (m_wat σ))) (m_dam σ) (m_wea σ) dra (m_peo σ) rai (nI (m_t σ)) (m_bro σ) (m_drd σ) (m_lef σ)) := hD.sub [0, 1, 2, 3, 4, 5, 6, 7, 8, 9, 56, 57, 58, 59, 60, 61, 62, 63, 64, 19, 20, 21, 22, 23, 24, 25, 26, 27, 28, 29, 30, 31, 32, 33, 34, 35, 36, 37, 38, 39, 40, 41, 42, 43, 44, 45, 46, 47, 48, 49, 50, 51, 52, 53, 54, 55] (by decide) rfl
  refine sp_rest (aw := aw) (bw := bw) C9 hI.1.2.2.2.2.1 hI.2 ?_ hP hD hS hl
  intro v H locs ls hP hD hS hl
  exact fin v (q, rr) H locs 9 72 639 ls dX2_pass_639 trivial hP hD hS (Nat.le_of_ble_eq_true rfl) (Nat.le_of_ble_eq_true rfl)
