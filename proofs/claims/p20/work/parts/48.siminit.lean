abbrev rm_X2_init : Room := { frames := 1, cells := 55, slots := 444, locals := 12 }
set_option maxHeartbeats 4000000 in
set_option maxRecDepth 100000 in
theorem c_X2_init (l : Launch) (D : va_G) (cI cJ cZ cB : ClassId) (κ : Kx) (h : Nat) : cg_v (S := (Nat → Nat) × (Nat → Nat → Nat) × Nat × (Nat → Nat)) l D yX2_init wsX2_init rm_X2_init [.ref h] ([(h, .inr (2, [.null, .null, .null, .null, .null, .null, .null, .int 0, .int 0, .int 0, .int 0]))]) [(cI, .int), (cJ, .array .int), (cZ, .boolean), (cB, .array .boolean)] κ (fun _ => True) (fun u => sM h u.1 u.2.1 u.2.2.1 u.2.2.2 cI cJ (fun _ => 10) (fun _ => 0) (fun _ => 0) q_m0) := by
  refine cg_ofv (cc := cX2_init) (maxL := 6) (by decide) rfl (Nat.le_of_ble_eq_true rfl) ?_
  intro p e s m args below meth c A Q C0 H locs hP hD hS fin ls hl
  obtain ⟨hx, hb, hml, hown, hts, hA, hK, hX⟩ := C0
  have hown : s.vm.findClass RX2 = some m.cls := hown
  have hl : lv_has ls 6 [(0, .ref h)] := hl
  refine lv_aload_n hx hb dX2_init_0 rfl (lv_at hl 0 rfl) ?_
  refine W.objInit hx hb hown (hts (Cond.methodLink RX2 1 objectInit) (List.mem_of_getElem? (i := 1) rfl)) (hts (Cond.instanceMethod objectInit) (List.mem_of_getElem? (i := 2) rfl)) (hts (Cond.code objectInit ⟨#[0xb1]⟩ 1 none) (List.mem_of_getElem? (i := 3) rfl)) rfl (by rw [hml]; exact hl.1) rfl dX2_init_1 (Nat.le_of_ble_eq_true rfl) (Nat.le_of_ble_eq_true rfl) ?_
  refine W.eq (g2 := F0 m 4 ls []) rfl ?_
  refine lv_aload_n hx hb dX2_init_4 rfl (lv_at hl 0 rfl) ?_
  refine lv_bipush (v := 8) hx hb dX2_init_5 (by decide) ?_
  refine lv_bipush (v := 8) hx hb dX2_init_7 (by decide) ?_
  refine gr_mna (cells1 := 9) (slots1 := 72) hx hb hown (hts (Cond.classLink RX2 7 "[[I") (List.mem_of_getElem? (i := 4) rfl)) hX.2.1 (hts (Cond.arrayClass .int) (List.mem_of_getElem? (i := 5) rfl)) 0 1 rfl rfl hK hP hD hS hA 8 8 rfl rfl (by decide) (by decide) rfl rfl (Nat.le_of_ble_eq_true rfl) (Nat.le_of_ble_eq_true rfl) dX2_init_9 (fun q0 r0 H hP hD hS => ?_)
  have hP : va_P D vwCl (([(h, .inr (2, [.null, .null, .null, .null, .null, .null, .null, .int 0, .int 0, .int 0, .int 0]))]) ++ (gr q0 r0 cI cJ (fun _ => 0))) H := hP
  have hD : va_D A (([(h, .inr (2, [.null, .null, .null, .null, .null, .null, .null, .int 0, .int 0, .int 0, .int 0]))]) ++ (gr q0 r0 cI cJ (fun _ => 0))) := hD
  refine va_put (D := D) (ci := 2) (v := .ref q0) (ty := .array (.array .int)) (C := RX2) (T := TX2) (N := 11) hx hb hts (fun _ h9 => (List.mem_cons_of_mem _ (List.mem_append_right _ h9))) tyX2 tyX2_ok nmX2 hown hK hP hD hS 0 rfl rfl 0 (by decide) (hts (Cond.fieldLink RX2 9 "FloodGridLaw$Sim" "height" "[[I") (List.mem_of_getElem? (i := 6) rfl)) (fun _ h9 => h9) rfl (by decide +kernel) rfl rfl (Nat.le_of_ble_eq_true rfl) dX2_init_13 (fun H locs hP hD hS => ?_)
  have hP : va_P D vwCl (([(h, .inr (2, [.ref q0, .null, .null, .null, .null, .null, .null, .int 0, .int 0, .int 0, .int 0]))]) ++ (gr q0 r0 cI cJ (fun _ => 0))) H := hP
  have hD : va_D A (([(h, .inr (2, [.ref q0, .null, .null, .null, .null, .null, .null, .int 0, .int 0, .int 0, .int 0]))]) ++ (gr q0 r0 cI cJ (fun _ => 0))) := hD
  refine lv_aload_n hx hb dX2_init_16 rfl (lv_at hl 0 rfl) ?_
  refine lv_bipush (v := 8) hx hb dX2_init_17 (by decide) ?_
  refine lv_bipush (v := 8) hx hb dX2_init_19 (by decide) ?_
  refine gr_mna (cells1 := 18) (slots1 := 144) hx hb hown (hts (Cond.classLink RX2 7 "[[I") (List.mem_of_getElem? (i := 4) rfl)) hX.2.1 (hts (Cond.arrayClass .int) (List.mem_of_getElem? (i := 5) rfl)) 0 1 rfl rfl hK hP hD hS hA 8 8 rfl rfl (by decide) (by decide) rfl rfl (Nat.le_of_ble_eq_true rfl) (Nat.le_of_ble_eq_true rfl) dX2_init_21 (fun q1 r1 H hP hD hS => ?_)
  have hP : va_P D vwCl (([(h, .inr (2, [.ref q0, .null, .null, .null, .null, .null, .null, .int 0, .int 0, .int 0, .int 0]))]) ++ ((gr q0 r0 cI cJ (fun _ => 0)) ++ ((gr q1 r1 cI cJ (fun _ => 0))))) H := hP
  have hD : va_D A (([(h, .inr (2, [.ref q0, .null, .null, .null, .null, .null, .null, .int 0, .int 0, .int 0, .int 0]))]) ++ ((gr q0 r0 cI cJ (fun _ => 0)) ++ ((gr q1 r1 cI cJ (fun _ => 0))))) := hD
  refine va_put (D := D) (ci := 2) (v := .ref q1) (ty := .array (.array .int)) (C := RX2) (T := TX2) (N := 11) hx hb hts (fun _ h9 => (List.mem_cons_of_mem _ (List.mem_append_right _ h9))) tyX2 tyX2_ok nmX2 hown hK hP hD hS 0 rfl rfl 1 (by decide) (hts (Cond.fieldLink RX2 14 "FloodGridLaw$Sim" "water" "[[I") (List.mem_of_getElem? (i := 7) rfl)) (fun _ h9 => h9) rfl (by decide +kernel) rfl rfl (Nat.le_of_ble_eq_true rfl) dX2_init_25 (fun H locs hP hD hS => ?_)
  have hP : va_P D vwCl (([(h, .inr (2, [.ref q0, .ref q1, .null, .null, .null, .null, .null, .int 0, .int 0, .int 0, .int 0]))]) ++ ((gr q0 r0 cI cJ (fun _ => 0)) ++ ((gr q1 r1 cI cJ (fun _ => 0))))) H := hP
  have hD : va_D A (([(h, .inr (2, [.ref q0, .ref q1, .null, .null, .null, .null, .null, .int 0, .int 0, .int 0, .int 0]))]) ++ ((gr q0 r0 cI cJ (fun _ => 0)) ++ ((gr q1 r1 cI cJ (fun _ => 0))))) := hD
  refine lv_aload_n hx hb dX2_init_28 rfl (lv_at hl 0 rfl) ?_
  refine lv_bipush (v := 8) hx hb dX2_init_29 (by decide) ?_
  refine lv_bipush (v := 8) hx hb dX2_init_31 (by decide) ?_
  refine gr_mna (cells1 := 27) (slots1 := 216) hx hb hown (hts (Cond.classLink RX2 7 "[[I") (List.mem_of_getElem? (i := 4) rfl)) hX.2.1 (hts (Cond.arrayClass .int) (List.mem_of_getElem? (i := 5) rfl)) 0 1 rfl rfl hK hP hD hS hA 8 8 rfl rfl (by decide) (by decide) rfl rfl (Nat.le_of_ble_eq_true rfl) (Nat.le_of_ble_eq_true rfl) dX2_init_33 (fun q2 r2 H hP hD hS => ?_)
  have hP : va_P D vwCl (([(h, .inr (2, [.ref q0, .ref q1, .null, .null, .null, .null, .null, .int 0, .int 0, .int 0, .int 0]))]) ++ ((gr q0 r0 cI cJ (fun _ => 0)) ++ ((gr q1 r1 cI cJ (fun _ => 0)) ++ ((gr q2 r2 cI cJ (fun _ => 0)))))) H := hP
  have hD : va_D A (([(h, .inr (2, [.ref q0, .ref q1, .null, .null, .null, .null, .null, .int 0, .int 0, .int 0, .int 0]))]) ++ ((gr q0 r0 cI cJ (fun _ => 0)) ++ ((gr q1 r1 cI cJ (fun _ => 0)) ++ ((gr q2 r2 cI cJ (fun _ => 0)))))) := hD
  refine va_put (D := D) (ci := 2) (v := .ref q2) (ty := .array (.array .int)) (C := RX2) (T := TX2) (N := 11) hx hb hts (fun _ h9 => (List.mem_cons_of_mem _ (List.mem_append_right _ h9))) tyX2 tyX2_ok nmX2 hown hK hP hD hS 0 rfl rfl 2 (by decide) (hts (Cond.fieldLink RX2 17 "FloodGridLaw$Sim" "dam" "[[I") (List.mem_of_getElem? (i := 8) rfl)) (fun _ h9 => h9) rfl (by decide +kernel) rfl rfl (Nat.le_of_ble_eq_true rfl) dX2_init_37 (fun H locs hP hD hS => ?_)
  have hP : va_P D vwCl (([(h, .inr (2, [.ref q0, .ref q1, .ref q2, .null, .null, .null, .null, .int 0, .int 0, .int 0, .int 0]))]) ++ ((gr q0 r0 cI cJ (fun _ => 0)) ++ ((gr q1 r1 cI cJ (fun _ => 0)) ++ ((gr q2 r2 cI cJ (fun _ => 0)))))) H := hP
  have hD : va_D A (([(h, .inr (2, [.ref q0, .ref q1, .ref q2, .null, .null, .null, .null, .int 0, .int 0, .int 0, .int 0]))]) ++ ((gr q0 r0 cI cJ (fun _ => 0)) ++ ((gr q1 r1 cI cJ (fun _ => 0)) ++ ((gr q2 r2 cI cJ (fun _ => 0)))))) := hD
  refine lv_aload_n hx hb dX2_init_40 rfl (lv_at hl 0 rfl) ?_
  refine lv_bipush (v := 8) hx hb dX2_init_41 (by decide) ?_
  refine lv_bipush (v := 8) hx hb dX2_init_43 (by decide) ?_
  refine gr_mna (cells1 := 36) (slots1 := 288) hx hb hown (hts (Cond.classLink RX2 7 "[[I") (List.mem_of_getElem? (i := 4) rfl)) hX.2.1 (hts (Cond.arrayClass .int) (List.mem_of_getElem? (i := 5) rfl)) 0 1 rfl rfl hK hP hD hS hA 8 8 rfl rfl (by decide) (by decide) rfl rfl (Nat.le_of_ble_eq_true rfl) (Nat.le_of_ble_eq_true rfl) dX2_init_45 (fun q3 r3 H hP hD hS => ?_)
  have hP : va_P D vwCl (([(h, .inr (2, [.ref q0, .ref q1, .ref q2, .null, .null, .null, .null, .int 0, .int 0, .int 0, .int 0]))]) ++ ((gr q0 r0 cI cJ (fun _ => 0)) ++ ((gr q1 r1 cI cJ (fun _ => 0)) ++ ((gr q2 r2 cI cJ (fun _ => 0)) ++ ((gr q3 r3 cI cJ (fun _ => 0))))))) H := hP
  have hD : va_D A (([(h, .inr (2, [.ref q0, .ref q1, .ref q2, .null, .null, .null, .null, .int 0, .int 0, .int 0, .int 0]))]) ++ ((gr q0 r0 cI cJ (fun _ => 0)) ++ ((gr q1 r1 cI cJ (fun _ => 0)) ++ ((gr q2 r2 cI cJ (fun _ => 0)) ++ ((gr q3 r3 cI cJ (fun _ => 0))))))) := hD
  refine va_put (D := D) (ci := 2) (v := .ref q3) (ty := .array (.array .int)) (C := RX2) (T := TX2) (N := 11) hx hb hts (fun _ h9 => (List.mem_cons_of_mem _ (List.mem_append_right _ h9))) tyX2 tyX2_ok nmX2 hown hK hP hD hS 0 rfl rfl 3 (by decide) (hts (Cond.fieldLink RX2 20 "FloodGridLaw$Sim" "wear" "[[I") (List.mem_of_getElem? (i := 9) rfl)) (fun _ h9 => h9) rfl (by decide +kernel) rfl rfl (Nat.le_of_ble_eq_true rfl) dX2_init_49 (fun H locs hP hD hS => ?_)
  have hP : va_P D vwCl (([(h, .inr (2, [.ref q0, .ref q1, .ref q2, .ref q3, .null, .null, .null, .int 0, .int 0, .int 0, .int 0]))]) ++ ((gr q0 r0 cI cJ (fun _ => 0)) ++ ((gr q1 r1 cI cJ (fun _ => 0)) ++ ((gr q2 r2 cI cJ (fun _ => 0)) ++ ((gr q3 r3 cI cJ (fun _ => 0))))))) H := hP
  have hD : va_D A (([(h, .inr (2, [.ref q0, .ref q1, .ref q2, .ref q3, .null, .null, .null, .int 0, .int 0, .int 0, .int 0]))]) ++ ((gr q0 r0 cI cJ (fun _ => 0)) ++ ((gr q1 r1 cI cJ (fun _ => 0)) ++ ((gr q2 r2 cI cJ (fun _ => 0)) ++ ((gr q3 r3 cI cJ (fun _ => 0))))))) := hD
  refine lv_aload_n hx hb dX2_init_52 rfl (lv_at hl 0 rfl) ?_
  refine lv_bipush (v := 8) hx hb dX2_init_53 (by decide) ?_
  refine lv_bipush (v := 8) hx hb dX2_init_55 (by decide) ?_
  refine gr_mna (cells1 := 45) (slots1 := 360) hx hb hown (hts (Cond.classLink RX2 7 "[[I") (List.mem_of_getElem? (i := 4) rfl)) hX.2.1 (hts (Cond.arrayClass .int) (List.mem_of_getElem? (i := 5) rfl)) 0 1 rfl rfl hK hP hD hS hA 8 8 rfl rfl (by decide) (by decide) rfl rfl (Nat.le_of_ble_eq_true rfl) (Nat.le_of_ble_eq_true rfl) dX2_init_57 (fun q4 r4 H hP hD hS => ?_)
  have hP : va_P D vwCl (([(h, .inr (2, [.ref q0, .ref q1, .ref q2, .ref q3, .null, .null, .null, .int 0, .int 0, .int 0, .int 0]))]) ++ ((gr q0 r0 cI cJ (fun _ => 0)) ++ ((gr q1 r1 cI cJ (fun _ => 0)) ++ ((gr q2 r2 cI cJ (fun _ => 0)) ++ ((gr q3 r3 cI cJ (fun _ => 0)) ++ ((gr q4 r4 cI cJ (fun _ => 0)))))))) H := hP
  have hD : va_D A (([(h, .inr (2, [.ref q0, .ref q1, .ref q2, .ref q3, .null, .null, .null, .int 0, .int 0, .int 0, .int 0]))]) ++ ((gr q0 r0 cI cJ (fun _ => 0)) ++ ((gr q1 r1 cI cJ (fun _ => 0)) ++ ((gr q2 r2 cI cJ (fun _ => 0)) ++ ((gr q3 r3 cI cJ (fun _ => 0)) ++ ((gr q4 r4 cI cJ (fun _ => 0)))))))) := hD
  refine va_put (D := D) (ci := 2) (v := .ref q4) (ty := .array (.array .int)) (C := RX2) (T := TX2) (N := 11) hx hb hts (fun _ h9 => (List.mem_cons_of_mem _ (List.mem_append_right _ h9))) tyX2 tyX2_ok nmX2 hown hK hP hD hS 0 rfl rfl 4 (by decide) (hts (Cond.fieldLink RX2 23 "FloodGridLaw$Sim" "drain" "[[I") (List.mem_of_getElem? (i := 10) rfl)) (fun _ h9 => h9) rfl (by decide +kernel) rfl rfl (Nat.le_of_ble_eq_true rfl) dX2_init_61 (fun H locs hP hD hS => ?_)
  have hP : va_P D vwCl (([(h, .inr (2, [.ref q0, .ref q1, .ref q2, .ref q3, .ref q4, .null, .null, .int 0, .int 0, .int 0, .int 0]))]) ++ ((gr q0 r0 cI cJ (fun _ => 0)) ++ ((gr q1 r1 cI cJ (fun _ => 0)) ++ ((gr q2 r2 cI cJ (fun _ => 0)) ++ ((gr q3 r3 cI cJ (fun _ => 0)) ++ ((gr q4 r4 cI cJ (fun _ => 0)))))))) H := hP
  have hD : va_D A (([(h, .inr (2, [.ref q0, .ref q1, .ref q2, .ref q3, .ref q4, .null, .null, .int 0, .int 0, .int 0, .int 0]))]) ++ ((gr q0 r0 cI cJ (fun _ => 0)) ++ ((gr q1 r1 cI cJ (fun _ => 0)) ++ ((gr q2 r2 cI cJ (fun _ => 0)) ++ ((gr q3 r3 cI cJ (fun _ => 0)) ++ ((gr q4 r4 cI cJ (fun _ => 0)))))))) := hD
  refine lv_aload_n hx hb dX2_init_64 rfl (lv_at hl 0 rfl) ?_
  refine lv_bipush (v := 8) hx hb dX2_init_65 (by decide) ?_
  refine lv_bipush (v := 8) hx hb dX2_init_67 (by decide) ?_
  refine gr_mna (cells1 := 54) (slots1 := 432) hx hb hown (hts (Cond.classLink RX2 7 "[[I") (List.mem_of_getElem? (i := 4) rfl)) hX.2.1 (hts (Cond.arrayClass .int) (List.mem_of_getElem? (i := 5) rfl)) 0 1 rfl rfl hK hP hD hS hA 8 8 rfl rfl (by decide) (by decide) rfl rfl (Nat.le_of_ble_eq_true rfl) (Nat.le_of_ble_eq_true rfl) dX2_init_69 (fun q5 r5 H hP hD hS => ?_)
  have hP : va_P D vwCl (([(h, .inr (2, [.ref q0, .ref q1, .ref q2, .ref q3, .ref q4, .null, .null, .int 0, .int 0, .int 0, .int 0]))]) ++ ((gr q0 r0 cI cJ (fun _ => 0)) ++ ((gr q1 r1 cI cJ (fun _ => 0)) ++ ((gr q2 r2 cI cJ (fun _ => 0)) ++ ((gr q3 r3 cI cJ (fun _ => 0)) ++ ((gr q4 r4 cI cJ (fun _ => 0)) ++ ((gr q5 r5 cI cJ (fun _ => 0))))))))) H := hP
  have hD : va_D A (([(h, .inr (2, [.ref q0, .ref q1, .ref q2, .ref q3, .ref q4, .null, .null, .int 0, .int 0, .int 0, .int 0]))]) ++ ((gr q0 r0 cI cJ (fun _ => 0)) ++ ((gr q1 r1 cI cJ (fun _ => 0)) ++ ((gr q2 r2 cI cJ (fun _ => 0)) ++ ((gr q3 r3 cI cJ (fun _ => 0)) ++ ((gr q4 r4 cI cJ (fun _ => 0)) ++ ((gr q5 r5 cI cJ (fun _ => 0))))))))) := hD
  refine va_put (D := D) (ci := 2) (v := .ref q5) (ty := .array (.array .int)) (C := RX2) (T := TX2) (N := 11) hx hb hts (fun _ h9 => (List.mem_cons_of_mem _ (List.mem_append_right _ h9))) tyX2 tyX2_ok nmX2 hown hK hP hD hS 0 rfl rfl 5 (by decide) (hts (Cond.fieldLink RX2 26 "FloodGridLaw$Sim" "town" "[[I") (List.mem_of_getElem? (i := 11) rfl)) (fun _ h9 => h9) rfl (by decide +kernel) rfl rfl (Nat.le_of_ble_eq_true rfl) dX2_init_73 (fun H locs hP hD hS => ?_)
  have hP : va_P D vwCl (([(h, .inr (2, [.ref q0, .ref q1, .ref q2, .ref q3, .ref q4, .ref q5, .null, .int 0, .int 0, .int 0, .int 0]))]) ++ ((gr q0 r0 cI cJ (fun _ => 0)) ++ ((gr q1 r1 cI cJ (fun _ => 0)) ++ ((gr q2 r2 cI cJ (fun _ => 0)) ++ ((gr q3 r3 cI cJ (fun _ => 0)) ++ ((gr q4 r4 cI cJ (fun _ => 0)) ++ ((gr q5 r5 cI cJ (fun _ => 0))))))))) H := hP
  have hD : va_D A (([(h, .inr (2, [.ref q0, .ref q1, .ref q2, .ref q3, .ref q4, .ref q5, .null, .int 0, .int 0, .int 0, .int 0]))]) ++ ((gr q0 r0 cI cJ (fun _ => 0)) ++ ((gr q1 r1 cI cJ (fun _ => 0)) ++ ((gr q2 r2 cI cJ (fun _ => 0)) ++ ((gr q3 r3 cI cJ (fun _ => 0)) ++ ((gr q4 r4 cI cJ (fun _ => 0)) ++ ((gr q5 r5 cI cJ (fun _ => 0))))))))) := hD
  refine lv_aload_n hx hb dX2_init_76 rfl (lv_at hl 0 rfl) ?_
  refine lv_bipush (v := 12) hx hb dX2_init_77 (by decide) ?_
  refine ct_newa (cells1 := 55) (slots1 := 444) hx hb (hts (Cond.arrayClass .int) (List.mem_of_getElem? (i := 5) rfl)) 0 rfl hK hP hD hS hA 12 rfl (by decide) rfl rfl (Nat.le_of_ble_eq_true rfl) (Nat.le_of_ble_eq_true rfl) dX2_init_79 (fun q6 H hP hD hS => ?_)
  have hP : va_P D vwCl (([(h, .inr (2, [.ref q0, .ref q1, .ref q2, .ref q3, .ref q4, .ref q5, .null, .int 0, .int 0, .int 0, .int 0]))]) ++ ((gr q0 r0 cI cJ (fun _ => 0)) ++ ((gr q1 r1 cI cJ (fun _ => 0)) ++ ((gr q2 r2 cI cJ (fun _ => 0)) ++ ((gr q3 r3 cI cJ (fun _ => 0)) ++ ((gr q4 r4 cI cJ (fun _ => 0)) ++ ((gr q5 r5 cI cJ (fun _ => 0)) ++ (([(q6, .inl (cI, 12, .inl (fun _ => 0)))]))))))))) H := hP
  have hD : va_D A (([(h, .inr (2, [.ref q0, .ref q1, .ref q2, .ref q3, .ref q4, .ref q5, .null, .int 0, .int 0, .int 0, .int 0]))]) ++ ((gr q0 r0 cI cJ (fun _ => 0)) ++ ((gr q1 r1 cI cJ (fun _ => 0)) ++ ((gr q2 r2 cI cJ (fun _ => 0)) ++ ((gr q3 r3 cI cJ (fun _ => 0)) ++ ((gr q4 r4 cI cJ (fun _ => 0)) ++ ((gr q5 r5 cI cJ (fun _ => 0)) ++ (([(q6, .inl (cI, 12, .inl (fun _ => 0)))]))))))))) := hD
  refine va_put (D := D) (ci := 2) (v := .ref q6) (ty := .array .int) (C := RX2) (T := TX2) (N := 11) hx hb hts (fun _ h9 => (List.mem_cons_of_mem _ (List.mem_append_right _ h9))) tyX2 tyX2_ok nmX2 hown hK hP hD hS 0 rfl rfl 6 (by decide) (hts (Cond.fieldLink RX2 29 "FloodGridLaw$Sim" "rain" "[I") (List.mem_of_getElem? (i := 12) rfl)) (fun _ h9 => h9) rfl (by decide +kernel) rfl rfl (Nat.le_of_ble_eq_true rfl) dX2_init_81 (fun H locs hP hD hS => ?_)
  have hP : va_P D vwCl (([(h, .inr (2, [.ref q0, .ref q1, .ref q2, .ref q3, .ref q4, .ref q5, .ref q6, .int 0, .int 0, .int 0, .int 0]))]) ++ ((gr q0 r0 cI cJ (fun _ => 0)) ++ ((gr q1 r1 cI cJ (fun _ => 0)) ++ ((gr q2 r2 cI cJ (fun _ => 0)) ++ ((gr q3 r3 cI cJ (fun _ => 0)) ++ ((gr q4 r4 cI cJ (fun _ => 0)) ++ ((gr q5 r5 cI cJ (fun _ => 0)) ++ (([(q6, .inl (cI, 12, .inl (fun _ => 0)))]))))))))) H := hP
  have hD : va_D A (([(h, .inr (2, [.ref q0, .ref q1, .ref q2, .ref q3, .ref q4, .ref q5, .ref q6, .int 0, .int 0, .int 0, .int 0]))]) ++ ((gr q0 r0 cI cJ (fun _ => 0)) ++ ((gr q1 r1 cI cJ (fun _ => 0)) ++ ((gr q2 r2 cI cJ (fun _ => 0)) ++ ((gr q3 r3 cI cJ (fun _ => 0)) ++ ((gr q4 r4 cI cJ (fun _ => 0)) ++ ((gr q5 r5 cI cJ (fun _ => 0)) ++ (([(q6, .inl (cI, 12, .inl (fun _ => 0)))]))))))))) := hD
  refine lv_aload_n hx hb dX2_init_84 rfl (lv_at hl 0 rfl) ?_
  refine va_get (D := D) (ci := 2) (v := .ref q0) (C := RX2) (T := TX2) (N := 11) hx hb hts (fun _ h9 => (List.mem_cons_of_mem _ (List.mem_append_right _ h9))) hown hK hP 0 rfl rfl 0 (by decide) (hts (Cond.fieldLink RX2 9 "FloodGridLaw$Sim" "height" "[[I") (List.mem_of_getElem? (i := 6) rfl)) (fun _ h9 => h9) rfl dX2_init_85 ?_
  refine lv_astore_n (lv' := [(1, .ref q0), (0, .ref h)]) hx hb dX2_init_88 rfl hl (by decide) rfl (fun ls hl => ?_)
  refine lv_aload_n hx hb dX2_init_89 rfl (lv_at hl 0 rfl) ?_
  refine va_alen (v := (nI 8)) hx hb hK hP 1 rfl (t0 := 1) rfl rfl dX2_init_90 ?_
  refine lv_istore_n (lv' := [(2, .int (nI 8)), (1, .ref q0), (0, .ref h)]) hx hb dX2_init_91 rfl hl (by decide) rfl (fun ls hl => ?_)
  refine lv_iconst (v := 0) hx hb dX2_init_92 (by decide) ?_
  refine lv_istore_n (lv' := [(3, .int 0), (2, .int (nI 8)), (1, .ref q0), (0, .ref h)]) hx hb dX2_init_93 rfl hl (by decide) rfl (fun ls hl => ?_)
  have lx : ∀ (fux x : Nat), x + fux = 8 → ∀ (g : Nat → Int32) (H : Heap) (locs : List Loc) (ls : Array Slot), (g = q_mx (8 * x) (fun _ => 10) (fun _ => 0)) → va_P D vwCl (([(h, .inr (2, [.ref q0, .ref q1, .ref q2, .ref q3, .ref q4, .ref q5, .ref q6, .int 0, .int 0, .int 0, .int 0]))]) ++ ((gr q0 r0 cI cJ g) ++ ((gr q1 r1 cI cJ (fun _ => 0)) ++ ((gr q2 r2 cI cJ (fun _ => 0)) ++ ((gr q3 r3 cI cJ (fun _ => 0)) ++ ((gr q4 r4 cI cJ (fun _ => 0)) ++ ((gr q5 r5 cI cJ (fun _ => 0)) ++ (([(q6, .inl (cI, 12, .inl (fun _ => 0)))]))))))))) H → va_D A (([(h, .inr (2, [.ref q0, .ref q1, .ref q2, .ref q3, .ref q4, .ref q5, .ref q6, .int 0, .int 0, .int 0, .int 0]))]) ++ ((gr q0 r0 cI cJ g) ++ ((gr q1 r1 cI cJ (fun _ => 0)) ++ ((gr q2 r2 cI cJ (fun _ => 0)) ++ ((gr q3 r3 cI cJ (fun _ => 0)) ++ ((gr q4 r4 cI cJ (fun _ => 0)) ++ ((gr q5 r5 cI cJ (fun _ => 0)) ++ (([(q6, .inl (cI, 12, .inl (fun _ => 0)))]))))))))) → va_S A s.heap H locs → lv_has ls 6 [(0, .ref h), (1, .ref q0), (2, .int (nI 8)), (3, .int (nI x))] → W p l e rm_X2_init s m args below meth c H locs 55 444 Q (F0 m 94 ls []) := by
    intro fux
    induction fux with
    | zero =>
      intro x hix g H locs ls hg hP hD hS hl
      obtain rfl : 8 = x := by omega
      refine lv_iload_n hx hb dX2_init_94 rfl (lv_at hl 3 rfl) ?_
      refine lv_iload_n hx hb dX2_init_95 rfl (lv_at hl 2 rfl) ?_
      refine lv_icmp_ge (tgt := 133) hx hb dX2_init_96 (by decide) (fun hc => ?_) (fun hc => ?_)
      · skip
        obtain ⟨hP, hD⟩ := gr_ext hP hD (q := 2) (f := g) (g := (fun _ => 10)) (ws1 := (([(h, .inr (2, [.ref q0, .ref q1, .ref q2, .ref q3, .ref q4, .ref q5, .ref q6, .int 0, .int 0, .int 0, .int 0]))]) ++ ((gr q0 r0 cI cJ (fun _ => 10)) ++ ((gr q1 r1 cI cJ (fun _ => 0)) ++ ((gr q2 r2 cI cJ (fun _ => 0)) ++ ((gr q3 r3 cI cJ (fun _ => 0)) ++ ((gr q4 r4 cI cJ (fun _ => 0)) ++ ((gr q5 r5 cI cJ (fun _ => 0)) ++ (([(q6, .inl (cI, 12, .inl (fun _ => 0)))])))))))))) rfl rfl (fun c hc => by rw [hg]; exact mx_64 hc)
        exact fin ((fun k => match k with | 0 => q0 | 2 => q2 | 3 => q3 | 4 => q4 | 5 => q5 | _ => q6), (fun k => match k with | 0 => r0 | 2 => r2 | 3 => r3 | 4 => r4 | _ => r5), q1, r1) H locs 55 444 133 ls dX2_init_133 trivial hP hD hS (Nat.le_of_ble_eq_true rfl) (Nat.le_of_ble_eq_true rfl)
      · skip
        exact absurd (Int32.le_refl _) hc
    | succ fux ihx =>
      intro x hix g H locs ls hg hP hD hS hl
      have hx8 : x < 8 := by omega
      refine lv_iload_n hx hb dX2_init_94 rfl (lv_at hl 3 rfl) ?_
      refine lv_iload_n hx hb dX2_init_95 rfl (lv_at hl 2 rfl) ?_
      refine lv_icmp_ge (tgt := 133) hx hb dX2_init_96 (by decide) (fun hc => ?_) (fun hc => ?_)
      · skip
        exact absurd hc (nI_ge hx8 (by decide))
      · skip
        refine lv_aload_n hx hb dX2_init_99 rfl (lv_at hl 1 rfl) ?_
        refine lv_iload_n hx hb dX2_init_100 rfl (lv_at hl 3 rfl) ?_
        refine gr_aald hx hb hK hP 1 1 rfl rfl x rfl (by omega) (by decide) dX2_init_101 ?_
        refine lv_astore (lv' := [(4, .ref (r0 x)), (0, .ref h), (1, .ref q0), (2, .int (nI 8)), (3, .int (nI x))]) hx hb dX2_init_102 hl (by decide) rfl (fun ls hl => ?_)
        refine lv_iconst (v := 0) hx hb dX2_init_104 (by decide) ?_
        refine lv_istore (lv' := [(5, .int 0), (4, .ref (r0 x)), (0, .ref h), (1, .ref q0), (2, .int (nI 8)), (3, .int (nI x))]) hx hb dX2_init_105 hl (by decide) rfl (fun ls hl => ?_)
        have ly : ∀ (fuy y : Nat), y + fuy = 8 → ∀ (g : Nat → Int32) (H : Heap) (locs : List Loc) (ls : Array Slot), (g = q_mx (8 * x + y) (fun _ => 10) (fun _ => 0)) → va_P D vwCl (([(h, .inr (2, [.ref q0, .ref q1, .ref q2, .ref q3, .ref q4, .ref q5, .ref q6, .int 0, .int 0, .int 0, .int 0]))]) ++ ((gr q0 r0 cI cJ g) ++ ((gr q1 r1 cI cJ (fun _ => 0)) ++ ((gr q2 r2 cI cJ (fun _ => 0)) ++ ((gr q3 r3 cI cJ (fun _ => 0)) ++ ((gr q4 r4 cI cJ (fun _ => 0)) ++ ((gr q5 r5 cI cJ (fun _ => 0)) ++ (([(q6, .inl (cI, 12, .inl (fun _ => 0)))]))))))))) H → va_D A (([(h, .inr (2, [.ref q0, .ref q1, .ref q2, .ref q3, .ref q4, .ref q5, .ref q6, .int 0, .int 0, .int 0, .int 0]))]) ++ ((gr q0 r0 cI cJ g) ++ ((gr q1 r1 cI cJ (fun _ => 0)) ++ ((gr q2 r2 cI cJ (fun _ => 0)) ++ ((gr q3 r3 cI cJ (fun _ => 0)) ++ ((gr q4 r4 cI cJ (fun _ => 0)) ++ ((gr q5 r5 cI cJ (fun _ => 0)) ++ (([(q6, .inl (cI, 12, .inl (fun _ => 0)))]))))))))) → va_S A s.heap H locs → lv_has ls 6 [(0, .ref h), (1, .ref q0), (2, .int (nI 8)), (3, .int (nI x)), (4, .ref (r0 x)), (5, .int (nI y))] → W p l e rm_X2_init s m args below meth c H locs 55 444 Q (F0 m 107 ls []) := by
          intro fuy
          induction fuy with
          | zero =>
            intro y hiy g H locs ls hg hP hD hS hl
            obtain rfl : 8 = y := by omega
            refine lv_iload hx hb dX2_init_107 (lv_at hl 5 rfl) ?_
            refine lv_bipush (v := 8) hx hb dX2_init_109 (by decide) ?_
            refine lv_icmp_ge (tgt := 127) hx hb dX2_init_111 (by decide) (fun hc2 => ?_) (fun hc2 => ?_)
            · skip
              refine lv_iinc (v := (nI (x + 1))) (lv' := [(3, .int (nI (x + 1))), (0, .ref h), (1, .ref q0), (2, .int (nI 8)), (4, .ref (r0 x)), (5, .int (nI 8))]) hx hb dX2_init_127 hl (k := 3) rfl (nI_1 x) (by decide) rfl (fun ls hl => ?_)
              refine lv_goto (tgt := 94) hx hb dX2_init_130 (by decide) ?_
              exact ihx (x + 1) (by omega) g H locs ls hg hP hD hS (lv_sub hl [1, 2, 3, 0] rfl)
            · skip
              exact absurd (show (8 : Int32) ≤ nI 8 by decide) hc2
          | succ fuy ihy =>
            intro y hiy g H locs ls hg hP hD hS hl
            have hy8 : y < 8 := by omega
            refine lv_iload hx hb dX2_init_107 (lv_at hl 5 rfl) ?_
            refine lv_bipush (v := 8) hx hb dX2_init_109 (by decide) ?_
            refine lv_icmp_ge (tgt := 127) hx hb dX2_init_111 (by decide) (fun hc2 => ?_) (fun hc2 => ?_)
            · skip
              exact absurd hc2 (nI_ge (b := 8) hy8 (by decide))
            · skip
              refine lv_aload hx hb dX2_init_114 (lv_at hl 4 rfl) ?_
              refine lv_iload hx hb dX2_init_116 (lv_at hl 5 rfl) ?_
              refine lv_bipush (v := 10) hx hb dX2_init_118 (by decide) ?_
              refine gr_iast (g := upd g (od (8 * x + y)) 10) (ws1 := (([(h, .inr (2, [.ref q0, .ref q1, .ref q2, .ref q3, .ref q4, .ref q5, .ref q6, .int 0, .int 0, .int 0, .int 0]))]) ++ ((gr q0 r0 cI cJ (upd g (od (8 * x + y)) 10)) ++ ((gr q1 r1 cI cJ (fun _ => 0)) ++ ((gr q2 r2 cI cJ (fun _ => 0)) ++ ((gr q3 r3 cI cJ (fun _ => 0)) ++ ((gr q4 r4 cI cJ (fun _ => 0)) ++ ((gr q5 r5 cI cJ (fun _ => 0)) ++ (([(q6, .inl (cI, 12, .inl (fun _ => 0)))])))))))))) hx hb hK hP hD hS 2 0 rfl rfl x y (od (8 * x + y)) (by omega) (by omega) (od_at hx8 hy8).symm rfl rfl rfl dX2_init_120 (fun H locs hP hD hS => ?_)
              refine lv_iinc (v := (nI (y + 1))) (lv' := [(5, .int (nI (y + 1))), (0, .ref h), (1, .ref q0), (2, .int (nI 8)), (3, .int (nI x)), (4, .ref (r0 x))]) hx hb dX2_init_121 hl (k := 5) rfl (nI_1 y) (by decide) rfl (fun ls hl => ?_)
              refine lv_goto (tgt := 107) hx hb dX2_init_124 (by decide) ?_
              exact ihy (y + 1) (by omega) (upd g (od (8 * x + y)) 10) H locs ls (by rw [hg]; exact mx_up (by omega) rfl) hP hD hS (lv_sub hl [1, 2, 3, 4, 5, 0] rfl)
        exact ly 8 0 (by omega) g H locs ls hg hP hD hS (lv_sub hl [2, 3, 4, 5, 1, 0] rfl)
  exact lx 8 0 (by omega) (fun _ => 0) H locs ls (mx_0 _ _).symm hP hD hS (lv_sub hl [3, 2, 1, 0] rfl)
