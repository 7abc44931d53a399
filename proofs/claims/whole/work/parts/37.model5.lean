/-- the five rows that are kept -/
def kR (u : Nat → Nat) : Nat → Option Nat := va_up (va_up (va_up (va_up (va_up (fun _ => none) 0 (some (u 0))) 1 (some (u 1))) 2 (some (u 2))) 3 (some (u 3))) 4 (some (u 4))
abbrev kW (a : Nat) (u : Nat → Nat) (cJ cI : ClassId) (wat dam wea peo num : Nat → Int32) : va_W := [(a, .inl (cJ, 5, rf5 (kR u))), (u 0, .inl (cI, 64, .inl wat)), (u 1, .inl (cI, 64, .inl dam)), (u 2, .inl (cI, 64, .inl wea)), (u 3, .inl (cI, 64, .inl peo)), (u 4, .inl (cI, 4, .inl num))]
abbrev rm_X2_kept : Room := { frames := 1, cells := 6, slots := 265, locals := 60 }
set_option maxHeartbeats 4000000 in
set_option maxRecDepth 100000 in
theorem c_X2_kept (l : Launch) (D : va_G) (cI cJ : ClassId) (h : Nat) (ad : Nat → Nat) (thr : Int32) (hei wat dam wea dra peo rai num flo lak row : Nat → Int32) : cy_r (S := Nat → Nat) l D yX2_kept wsX2_kept rm_X2_kept [.ref h] (mW h ad cI thr hei wat dam wea dra peo rai num flo lak row) [(cI, .int), (cJ, .array .int)] (fun _ => True) (fun u a => (mW h ad cI thr hei wat dam wea dra peo rai num flo lak row) ++ kW a u cJ cI wat dam wea peo num) := by
  refine cy_ofr (cc := cX2_kept) (maxL := 1) (by decide) rfl (Nat.le_of_ble_eq_true rfl) ?_
  intro p e s m args below meth c A Q hx hb hml hown hts hA hK hY H locs hP hD hS fin ls hl
  have hown : s.vm.findClass RX2 = some m.cls := hown
  have hl : lv_has ls 1 [(0, .ref h)] := hl
  refine lv_iconst (v := 5) hx hb dX2_kept_0 (by decide) ?_
  refine ct_anewA (cells1 := 1) (slots1 := 5) hx hb hown (hts (Cond.classLink RX2 111 "[I") (List.mem_of_getElem? (i := 1) rfl)) hY 0 1 rfl rfl hK hP hD hS hA 5 rfl (by decide) rfl rfl (Nat.le_of_ble_eq_true rfl) (Nat.le_of_ble_eq_true rfl) dX2_kept_1 (fun qa H hJ hP hD hS => ?_)
  have hP : va_P D vwCl ((mW h ad cI thr hei wat dam wea dra peo rai num flo lak row) ++ ([(qa, .inl (cJ, 5, rf5 (fun _ => none)))])) H := hP
  have hD : va_D A ((mW h ad cI thr hei wat dam wea dra peo rai num flo lak row) ++ ([(qa, .inl (cJ, 5, rf5 (fun _ => none)))])) := hD
  refine lv_dup hx hb dX2_kept_4 rfl ?_
  refine lv_iconst (v := 0) hx hb dX2_kept_5 (by decide) ?_
  refine lv_aload_n hx hb dX2_kept_6 rfl (lv_at hl 0 rfl) ?_
  refine va_get (D := D) (ci := 2) (v := .ref (ad 2)) (C := RX2) (T := TX2) (N := 12) hx hb hts (fun _ h9 => (List.mem_cons_of_mem _ (List.mem_append_right _ h9))) hown hK hP 0 rfl rfl 2 (by decide) (hts (Cond.fieldLink RX2 13 "FloodGridModel" "water" "[I") (List.mem_of_getElem? (i := 2) rfl)) (fun _ h9 => h9) rfl dX2_kept_7 ?_
  refine va_clone (ad := "[I") hx hb (hml.trans hl.1.symm) hown (hts (Cond.methodLink RX2 112 ⟨"[I", "clone", "()Ljava/lang/Object;"⟩) (List.mem_of_getElem? (i := 3) rfl)) (hts (Cond.sameMethod "[I" "java/lang/Object" "clone" "()Ljava/lang/Object;") (List.mem_of_getElem? (i := 4) rfl)) (hts (Cond.native ⟨"java/lang/Object", "clone", "()Ljava/lang/Object;"⟩) (List.mem_of_getElem? (i := 5) rfl)) (hts (Cond.instanceMethod ⟨"java/lang/Object", "clone", "()Ljava/lang/Object;"⟩) (List.mem_of_getElem? (i := 6) rfl)) (hts (Cond.selects "[I" ⟨"[I", "clone", "()Ljava/lang/Object;"⟩ ⟨"java/lang/Object", "clone", "()Ljava/lang/Object;"⟩) (List.mem_of_getElem? (i := 7) rfl)) hY.2 hK hP hD hS hA 2 0 rfl rfl (va_nm_int (hK.2 0 _ rfl).2) (fun i v hv => va_fit (n := 64) (F := fun j => .int (wat j)) (fun _ _ => rfl) i v hv) (Nat.le_of_ble_eq_true rfl) (Nat.le_of_ble_eq_true rfl) (Nat.le_of_ble_eq_true rfl) (Nat.le_of_ble_eq_true rfl) dX2_kept_10 (fun k0 H _ hP hD hS => ?_)
  have hP : va_P D vwCl ((mW h ad cI thr hei wat dam wea dra peo rai num flo lak row) ++ (([(qa, .inl (cJ, 5, rf5 (fun _ => none)))]) ++ (([(k0, .inl (cI, 64, .inl wat))])))) H := hP
  have hD : va_D A ((mW h ad cI thr hei wat dam wea dra peo rai num flo lak row) ++ (([(qa, .inl (cJ, 5, rf5 (fun _ => none)))]) ++ (([(k0, .inl (cI, 64, .inl wat))])))) := hD
  refine va_castA hx hb hown (hts (Cond.classLink RX2 111 "[I") (List.mem_of_getElem? (i := 1) rfl)) hP 13 rfl (va_nm_int (hK.2 0 _ rfl).2) dX2_kept_13 ?_
  refine ct_aasta (ws1 := ((mW h ad cI thr hei wat dam wea dra peo rai num flo lak row) ++ (([(qa, .inl (cJ, 5, rf5 (va_up (fun _ => none) 0 (some k0))))]) ++ (([(k0, .inl (cI, 64, .inl wat))]))))) hx hb hJ 0 rfl hK hP hD hS 12 13 rfl rfl 0 rfl (by decide) (by decide) rfl dX2_kept_16 (fun H locs hP hD hS => ?_)
  refine lv_dup hx hb dX2_kept_17 rfl ?_
  refine lv_iconst (v := 1) hx hb dX2_kept_18 (by decide) ?_
  refine lv_aload_n hx hb dX2_kept_19 rfl (lv_at hl 0 rfl) ?_
  refine va_get (D := D) (ci := 2) (v := .ref (ad 3)) (C := RX2) (T := TX2) (N := 12) hx hb hts (fun _ h9 => (List.mem_cons_of_mem _ (List.mem_append_right _ h9))) hown hK hP 0 rfl rfl 3 (by decide) (hts (Cond.fieldLink RX2 16 "FloodGridModel" "dams" "[I") (List.mem_of_getElem? (i := 8) rfl)) (fun _ h9 => h9) rfl dX2_kept_20 ?_
  refine va_clone (ad := "[I") hx hb (hml.trans hl.1.symm) hown (hts (Cond.methodLink RX2 112 ⟨"[I", "clone", "()Ljava/lang/Object;"⟩) (List.mem_of_getElem? (i := 3) rfl)) (hts (Cond.sameMethod "[I" "java/lang/Object" "clone" "()Ljava/lang/Object;") (List.mem_of_getElem? (i := 4) rfl)) (hts (Cond.native ⟨"java/lang/Object", "clone", "()Ljava/lang/Object;"⟩) (List.mem_of_getElem? (i := 5) rfl)) (hts (Cond.instanceMethod ⟨"java/lang/Object", "clone", "()Ljava/lang/Object;"⟩) (List.mem_of_getElem? (i := 6) rfl)) (hts (Cond.selects "[I" ⟨"[I", "clone", "()Ljava/lang/Object;"⟩ ⟨"java/lang/Object", "clone", "()Ljava/lang/Object;"⟩) (List.mem_of_getElem? (i := 7) rfl)) hY.2 hK hP hD hS hA 3 0 rfl rfl (va_nm_int (hK.2 0 _ rfl).2) (fun i v hv => va_fit (n := 64) (F := fun j => .int (dam j)) (fun _ _ => rfl) i v hv) (Nat.le_of_ble_eq_true rfl) (Nat.le_of_ble_eq_true rfl) (Nat.le_of_ble_eq_true rfl) (Nat.le_of_ble_eq_true rfl) dX2_kept_23 (fun k1 H _ hP hD hS => ?_)
  have hP : va_P D vwCl ((mW h ad cI thr hei wat dam wea dra peo rai num flo lak row) ++ (([(qa, .inl (cJ, 5, rf5 (va_up (fun _ => none) 0 (some k0))))]) ++ (([(k0, .inl (cI, 64, .inl wat))]) ++ (([(k1, .inl (cI, 64, .inl dam))]))))) H := hP
  have hD : va_D A ((mW h ad cI thr hei wat dam wea dra peo rai num flo lak row) ++ (([(qa, .inl (cJ, 5, rf5 (va_up (fun _ => none) 0 (some k0))))]) ++ (([(k0, .inl (cI, 64, .inl wat))]) ++ (([(k1, .inl (cI, 64, .inl dam))]))))) := hD
  refine va_castA hx hb hown (hts (Cond.classLink RX2 111 "[I") (List.mem_of_getElem? (i := 1) rfl)) hP 14 rfl (va_nm_int (hK.2 0 _ rfl).2) dX2_kept_26 ?_
  refine ct_aasta (ws1 := ((mW h ad cI thr hei wat dam wea dra peo rai num flo lak row) ++ (([(qa, .inl (cJ, 5, rf5 (va_up (va_up (fun _ => none) 0 (some k0)) 1 (some k1))))]) ++ (([(k0, .inl (cI, 64, .inl wat))]) ++ (([(k1, .inl (cI, 64, .inl dam))])))))) hx hb hJ 0 rfl hK hP hD hS 12 14 rfl rfl 1 rfl (by decide) (by decide) rfl dX2_kept_29 (fun H locs hP hD hS => ?_)
  refine lv_dup hx hb dX2_kept_30 rfl ?_
  refine lv_iconst (v := 2) hx hb dX2_kept_31 (by decide) ?_
  refine lv_aload_n hx hb dX2_kept_32 rfl (lv_at hl 0 rfl) ?_
  refine va_get (D := D) (ci := 2) (v := .ref (ad 4)) (C := RX2) (T := TX2) (N := 12) hx hb hts (fun _ h9 => (List.mem_cons_of_mem _ (List.mem_append_right _ h9))) hown hK hP 0 rfl rfl 4 (by decide) (hts (Cond.fieldLink RX2 19 "FloodGridModel" "wear" "[I") (List.mem_of_getElem? (i := 9) rfl)) (fun _ h9 => h9) rfl dX2_kept_33 ?_
  refine va_clone (ad := "[I") hx hb (hml.trans hl.1.symm) hown (hts (Cond.methodLink RX2 112 ⟨"[I", "clone", "()Ljava/lang/Object;"⟩) (List.mem_of_getElem? (i := 3) rfl)) (hts (Cond.sameMethod "[I" "java/lang/Object" "clone" "()Ljava/lang/Object;") (List.mem_of_getElem? (i := 4) rfl)) (hts (Cond.native ⟨"java/lang/Object", "clone", "()Ljava/lang/Object;"⟩) (List.mem_of_getElem? (i := 5) rfl)) (hts (Cond.instanceMethod ⟨"java/lang/Object", "clone", "()Ljava/lang/Object;"⟩) (List.mem_of_getElem? (i := 6) rfl)) (hts (Cond.selects "[I" ⟨"[I", "clone", "()Ljava/lang/Object;"⟩ ⟨"java/lang/Object", "clone", "()Ljava/lang/Object;"⟩) (List.mem_of_getElem? (i := 7) rfl)) hY.2 hK hP hD hS hA 4 0 rfl rfl (va_nm_int (hK.2 0 _ rfl).2) (fun i v hv => va_fit (n := 64) (F := fun j => .int (wea j)) (fun _ _ => rfl) i v hv) (Nat.le_of_ble_eq_true rfl) (Nat.le_of_ble_eq_true rfl) (Nat.le_of_ble_eq_true rfl) (Nat.le_of_ble_eq_true rfl) dX2_kept_36 (fun k2 H _ hP hD hS => ?_)
  have hP : va_P D vwCl ((mW h ad cI thr hei wat dam wea dra peo rai num flo lak row) ++ (([(qa, .inl (cJ, 5, rf5 (va_up (va_up (fun _ => none) 0 (some k0)) 1 (some k1))))]) ++ (([(k0, .inl (cI, 64, .inl wat))]) ++ (([(k1, .inl (cI, 64, .inl dam))]) ++ (([(k2, .inl (cI, 64, .inl wea))])))))) H := hP
  have hD : va_D A ((mW h ad cI thr hei wat dam wea dra peo rai num flo lak row) ++ (([(qa, .inl (cJ, 5, rf5 (va_up (va_up (fun _ => none) 0 (some k0)) 1 (some k1))))]) ++ (([(k0, .inl (cI, 64, .inl wat))]) ++ (([(k1, .inl (cI, 64, .inl dam))]) ++ (([(k2, .inl (cI, 64, .inl wea))])))))) := hD
  refine va_castA hx hb hown (hts (Cond.classLink RX2 111 "[I") (List.mem_of_getElem? (i := 1) rfl)) hP 15 rfl (va_nm_int (hK.2 0 _ rfl).2) dX2_kept_39 ?_
  refine ct_aasta (ws1 := ((mW h ad cI thr hei wat dam wea dra peo rai num flo lak row) ++ (([(qa, .inl (cJ, 5, rf5 (va_up (va_up (va_up (fun _ => none) 0 (some k0)) 1 (some k1)) 2 (some k2))))]) ++ (([(k0, .inl (cI, 64, .inl wat))]) ++ (([(k1, .inl (cI, 64, .inl dam))]) ++ (([(k2, .inl (cI, 64, .inl wea))]))))))) hx hb hJ 0 rfl hK hP hD hS 12 15 rfl rfl 2 rfl (by decide) (by decide) rfl dX2_kept_42 (fun H locs hP hD hS => ?_)
  refine lv_dup hx hb dX2_kept_43 rfl ?_
  refine lv_iconst (v := 3) hx hb dX2_kept_44 (by decide) ?_
  refine lv_aload_n hx hb dX2_kept_45 rfl (lv_at hl 0 rfl) ?_
  refine va_get (D := D) (ci := 2) (v := .ref (ad 6)) (C := RX2) (T := TX2) (N := 12) hx hb hts (fun _ h9 => (List.mem_cons_of_mem _ (List.mem_append_right _ h9))) hown hK hP 0 rfl rfl 6 (by decide) (hts (Cond.fieldLink RX2 25 "FloodGridModel" "towns" "[I") (List.mem_of_getElem? (i := 10) rfl)) (fun _ h9 => h9) rfl dX2_kept_46 ?_
  refine va_clone (ad := "[I") hx hb (hml.trans hl.1.symm) hown (hts (Cond.methodLink RX2 112 ⟨"[I", "clone", "()Ljava/lang/Object;"⟩) (List.mem_of_getElem? (i := 3) rfl)) (hts (Cond.sameMethod "[I" "java/lang/Object" "clone" "()Ljava/lang/Object;") (List.mem_of_getElem? (i := 4) rfl)) (hts (Cond.native ⟨"java/lang/Object", "clone", "()Ljava/lang/Object;"⟩) (List.mem_of_getElem? (i := 5) rfl)) (hts (Cond.instanceMethod ⟨"java/lang/Object", "clone", "()Ljava/lang/Object;"⟩) (List.mem_of_getElem? (i := 6) rfl)) (hts (Cond.selects "[I" ⟨"[I", "clone", "()Ljava/lang/Object;"⟩ ⟨"java/lang/Object", "clone", "()Ljava/lang/Object;"⟩) (List.mem_of_getElem? (i := 7) rfl)) hY.2 hK hP hD hS hA 6 0 rfl rfl (va_nm_int (hK.2 0 _ rfl).2) (fun i v hv => va_fit (n := 64) (F := fun j => .int (peo j)) (fun _ _ => rfl) i v hv) (Nat.le_of_ble_eq_true rfl) (Nat.le_of_ble_eq_true rfl) (Nat.le_of_ble_eq_true rfl) (Nat.le_of_ble_eq_true rfl) dX2_kept_49 (fun k3 H _ hP hD hS => ?_)
  have hP : va_P D vwCl ((mW h ad cI thr hei wat dam wea dra peo rai num flo lak row) ++ (([(qa, .inl (cJ, 5, rf5 (va_up (va_up (va_up (fun _ => none) 0 (some k0)) 1 (some k1)) 2 (some k2))))]) ++ (([(k0, .inl (cI, 64, .inl wat))]) ++ (([(k1, .inl (cI, 64, .inl dam))]) ++ (([(k2, .inl (cI, 64, .inl wea))]) ++ (([(k3, .inl (cI, 64, .inl peo))]))))))) H := hP
  have hD : va_D A ((mW h ad cI thr hei wat dam wea dra peo rai num flo lak row) ++ (([(qa, .inl (cJ, 5, rf5 (va_up (va_up (va_up (fun _ => none) 0 (some k0)) 1 (some k1)) 2 (some k2))))]) ++ (([(k0, .inl (cI, 64, .inl wat))]) ++ (([(k1, .inl (cI, 64, .inl dam))]) ++ (([(k2, .inl (cI, 64, .inl wea))]) ++ (([(k3, .inl (cI, 64, .inl peo))]))))))) := hD
  refine va_castA hx hb hown (hts (Cond.classLink RX2 111 "[I") (List.mem_of_getElem? (i := 1) rfl)) hP 16 rfl (va_nm_int (hK.2 0 _ rfl).2) dX2_kept_52 ?_
  refine ct_aasta (ws1 := ((mW h ad cI thr hei wat dam wea dra peo rai num flo lak row) ++ (([(qa, .inl (cJ, 5, rf5 (va_up (va_up (va_up (va_up (fun _ => none) 0 (some k0)) 1 (some k1)) 2 (some k2)) 3 (some k3))))]) ++ (([(k0, .inl (cI, 64, .inl wat))]) ++ (([(k1, .inl (cI, 64, .inl dam))]) ++ (([(k2, .inl (cI, 64, .inl wea))]) ++ (([(k3, .inl (cI, 64, .inl peo))])))))))) hx hb hJ 0 rfl hK hP hD hS 12 16 rfl rfl 3 rfl (by decide) (by decide) rfl dX2_kept_55 (fun H locs hP hD hS => ?_)
  refine lv_dup hx hb dX2_kept_56 rfl ?_
  refine lv_iconst (v := 4) hx hb dX2_kept_57 (by decide) ?_
  refine lv_aload_n hx hb dX2_kept_58 rfl (lv_at hl 0 rfl) ?_
  refine va_get (D := D) (ci := 2) (v := .ref (ad 8)) (C := RX2) (T := TX2) (N := 12) hx hb hts (fun _ h9 => (List.mem_cons_of_mem _ (List.mem_append_right _ h9))) hown hK hP 0 rfl rfl 8 (by decide) (hts (Cond.fieldLink RX2 31 "FloodGridModel" "numbers" "[I") (List.mem_of_getElem? (i := 11) rfl)) (fun _ h9 => h9) rfl dX2_kept_59 ?_
  refine va_clone (ad := "[I") hx hb (hml.trans hl.1.symm) hown (hts (Cond.methodLink RX2 112 ⟨"[I", "clone", "()Ljava/lang/Object;"⟩) (List.mem_of_getElem? (i := 3) rfl)) (hts (Cond.sameMethod "[I" "java/lang/Object" "clone" "()Ljava/lang/Object;") (List.mem_of_getElem? (i := 4) rfl)) (hts (Cond.native ⟨"java/lang/Object", "clone", "()Ljava/lang/Object;"⟩) (List.mem_of_getElem? (i := 5) rfl)) (hts (Cond.instanceMethod ⟨"java/lang/Object", "clone", "()Ljava/lang/Object;"⟩) (List.mem_of_getElem? (i := 6) rfl)) (hts (Cond.selects "[I" ⟨"[I", "clone", "()Ljava/lang/Object;"⟩ ⟨"java/lang/Object", "clone", "()Ljava/lang/Object;"⟩) (List.mem_of_getElem? (i := 7) rfl)) hY.2 hK hP hD hS hA 8 0 rfl rfl (va_nm_int (hK.2 0 _ rfl).2) (fun i v hv => va_fit (n := 4) (F := fun j => .int (num j)) (fun _ _ => rfl) i v hv) (Nat.le_of_ble_eq_true rfl) (Nat.le_of_ble_eq_true rfl) (Nat.le_of_ble_eq_true rfl) (Nat.le_of_ble_eq_true rfl) dX2_kept_62 (fun k4 H _ hP hD hS => ?_)
  have hP : va_P D vwCl ((mW h ad cI thr hei wat dam wea dra peo rai num flo lak row) ++ (([(qa, .inl (cJ, 5, rf5 (va_up (va_up (va_up (va_up (fun _ => none) 0 (some k0)) 1 (some k1)) 2 (some k2)) 3 (some k3))))]) ++ (([(k0, .inl (cI, 64, .inl wat))]) ++ (([(k1, .inl (cI, 64, .inl dam))]) ++ (([(k2, .inl (cI, 64, .inl wea))]) ++ (([(k3, .inl (cI, 64, .inl peo))]) ++ (([(k4, .inl (cI, 4, .inl num))])))))))) H := hP
  have hD : va_D A ((mW h ad cI thr hei wat dam wea dra peo rai num flo lak row) ++ (([(qa, .inl (cJ, 5, rf5 (va_up (va_up (va_up (va_up (fun _ => none) 0 (some k0)) 1 (some k1)) 2 (some k2)) 3 (some k3))))]) ++ (([(k0, .inl (cI, 64, .inl wat))]) ++ (([(k1, .inl (cI, 64, .inl dam))]) ++ (([(k2, .inl (cI, 64, .inl wea))]) ++ (([(k3, .inl (cI, 64, .inl peo))]) ++ (([(k4, .inl (cI, 4, .inl num))])))))))) := hD
  refine va_castA hx hb hown (hts (Cond.classLink RX2 111 "[I") (List.mem_of_getElem? (i := 1) rfl)) hP 17 rfl (va_nm_int (hK.2 0 _ rfl).2) dX2_kept_65 ?_
  refine ct_aasta (ws1 := ((mW h ad cI thr hei wat dam wea dra peo rai num flo lak row) ++ (([(qa, .inl (cJ, 5, rf5 (va_up (va_up (va_up (va_up (va_up (fun _ => none) 0 (some k0)) 1 (some k1)) 2 (some k2)) 3 (some k3)) 4 (some k4))))]) ++ (([(k0, .inl (cI, 64, .inl wat))]) ++ (([(k1, .inl (cI, 64, .inl dam))]) ++ (([(k2, .inl (cI, 64, .inl wea))]) ++ (([(k3, .inl (cI, 64, .inl peo))]) ++ (([(k4, .inl (cI, 4, .inl num))]))))))))) hx hb hJ 0 rfl hK hP hD hS 12 17 rfl rfl 4 rfl (by decide) (by decide) rfl dX2_kept_68 (fun H locs hP hD hS => ?_)
  exact fin qa (fun k => match k with | 0 => k0 | 1 => k1 | 2 => k2 | 3 => k3 | _ => k4) H locs 6 265 69 ls dX2_kept_69 trivial hP hD hS (Nat.le_of_ble_eq_true rfl) (Nat.le_of_ble_eq_true rfl)
abbrev rm_X2_bringBack : Room := { frames := 1, cells := 1, slots := 5, locals := 60 }
set_option maxHeartbeats 4000000 in
set_option maxRecDepth 100000 in
theorem c_X2_bring (l : Launch) (D : va_G) (cI cJ : ClassId) (h : Nat) (ad : Nat → Nat) (thr : Int32) (hei wat dam wea dra peo rai num flo lak row : Nat → Int32) (ka : Nat) (ku : Nat → Nat) (wat0 dam0 wea0 peo0 num0 : Nat → Int32) : cy_v (S := Unit) l D yX2_bringBack wsX2_bringBack rm_X2_bringBack [.ref h, .ref ka] ((mW h ad cI thr hei wat dam wea dra peo rai num flo lak row) ++ (kW ka ku cJ cI wat0 dam0 wea0 peo0 num0)) [(cI, .int), (cJ, .array .int)] (fun _ => True) (fun _ => ((mW h ad cI thr hei wat0 dam0 wea0 dra peo0 rai num0 flo lak row) ++ (kW ka ku cJ cI wat0 dam0 wea0 peo0 num0))) := by
  refine cy_ofv (cc := cX2_bringBack) (maxL := 4) (by decide) rfl (Nat.le_of_ble_eq_true rfl) ?_
  intro p e s m args below meth c A Q hx hb hml hown hts hA hK hY H locs hP hD hS fin ls hl
  have hown : s.vm.findClass RX2 = some m.cls := hown
  have hl : lv_has ls 4 [(0, .ref h), (1, .ref ka)] := hl
  refine lv_iconst (v := 5) hx hb dX2_bringBack_0 (by decide) ?_
  refine ct_anewA (cells1 := 1) (slots1 := 5) hx hb hown (hts (Cond.classLink RX2 111 "[I") (List.mem_of_getElem? (i := 1) rfl)) hY 0 1 rfl rfl hK hP hD hS hA 5 rfl (by decide) rfl rfl (Nat.le_of_ble_eq_true rfl) (Nat.le_of_ble_eq_true rfl) dX2_bringBack_1 (fun qb H hJ hP hD hS => ?_)
  have hP : va_P D vwCl ((mW h ad cI thr hei wat dam wea dra peo rai num flo lak row) ++ ((kW ka ku cJ cI wat0 dam0 wea0 peo0 num0) ++ (([(qb, .inl (cJ, 5, rf5 (fun _ => none)))])))) H := hP
  have hD : va_D A ((mW h ad cI thr hei wat dam wea dra peo rai num flo lak row) ++ ((kW ka ku cJ cI wat0 dam0 wea0 peo0 num0) ++ (([(qb, .inl (cJ, 5, rf5 (fun _ => none)))])))) := hD
  refine lv_dup hx hb dX2_bringBack_4 rfl ?_
  refine lv_iconst (v := 0) hx hb dX2_bringBack_5 (by decide) ?_
  refine lv_aload_n hx hb dX2_bringBack_6 rfl (lv_at hl 0 rfl) ?_
  refine va_get (D := D) (ci := 2) (v := .ref (ad 2)) (C := RX2) (T := TX2) (N := 12) hx hb hts (fun _ h9 => (List.mem_cons_of_mem _ (List.mem_append_right _ h9))) hown hK hP 0 rfl rfl 2 (by decide) (hts (Cond.fieldLink RX2 13 "FloodGridModel" "water" "[I") (List.mem_of_getElem? (i := 2) rfl)) (fun _ h9 => h9) rfl dX2_bringBack_7 ?_
  refine ct_aasta (ws1 := ((mW h ad cI thr hei wat dam wea dra peo rai num flo lak row) ++ ((kW ka ku cJ cI wat0 dam0 wea0 peo0 num0) ++ (([(qb, .inl (cJ, 5, rf5 (va_up (fun _ => none) 0 (some (ad 2)))))]))))) hx hb hJ 0 rfl hK hP hD hS 18 2 rfl rfl 0 rfl (by decide) (by decide) rfl dX2_bringBack_10 (fun H locs hP hD hS => ?_)
  refine lv_dup hx hb dX2_bringBack_11 rfl ?_
  refine lv_iconst (v := 1) hx hb dX2_bringBack_12 (by decide) ?_
  refine lv_aload_n hx hb dX2_bringBack_13 rfl (lv_at hl 0 rfl) ?_
  refine va_get (D := D) (ci := 2) (v := .ref (ad 3)) (C := RX2) (T := TX2) (N := 12) hx hb hts (fun _ h9 => (List.mem_cons_of_mem _ (List.mem_append_right _ h9))) hown hK hP 0 rfl rfl 3 (by decide) (hts (Cond.fieldLink RX2 16 "FloodGridModel" "dams" "[I") (List.mem_of_getElem? (i := 3) rfl)) (fun _ h9 => h9) rfl dX2_bringBack_14 ?_
  refine ct_aasta (ws1 := ((mW h ad cI thr hei wat dam wea dra peo rai num flo lak row) ++ ((kW ka ku cJ cI wat0 dam0 wea0 peo0 num0) ++ (([(qb, .inl (cJ, 5, rf5 (va_up (va_up (fun _ => none) 0 (some (ad 2))) 1 (some (ad 3)))))]))))) hx hb hJ 0 rfl hK hP hD hS 18 3 rfl rfl 1 rfl (by decide) (by decide) rfl dX2_bringBack_17 (fun H locs hP hD hS => ?_)
  refine lv_dup hx hb dX2_bringBack_18 rfl ?_
  refine lv_iconst (v := 2) hx hb dX2_bringBack_19 (by decide) ?_
  refine lv_aload_n hx hb dX2_bringBack_20 rfl (lv_at hl 0 rfl) ?_
  refine va_get (D := D) (ci := 2) (v := .ref (ad 4)) (C := RX2) (T := TX2) (N := 12) hx hb hts (fun _ h9 => (List.mem_cons_of_mem _ (List.mem_append_right _ h9))) hown hK hP 0 rfl rfl 4 (by decide) (hts (Cond.fieldLink RX2 19 "FloodGridModel" "wear" "[I") (List.mem_of_getElem? (i := 4) rfl)) (fun _ h9 => h9) rfl dX2_bringBack_21 ?_
  refine ct_aasta (ws1 := ((mW h ad cI thr hei wat dam wea dra peo rai num flo lak row) ++ ((kW ka ku cJ cI wat0 dam0 wea0 peo0 num0) ++ (([(qb, .inl (cJ, 5, rf5 (va_up (va_up (va_up (fun _ => none) 0 (some (ad 2))) 1 (some (ad 3))) 2 (some (ad 4)))))]))))) hx hb hJ 0 rfl hK hP hD hS 18 4 rfl rfl 2 rfl (by decide) (by decide) rfl dX2_bringBack_24 (fun H locs hP hD hS => ?_)
  refine lv_dup hx hb dX2_bringBack_25 rfl ?_
  refine lv_iconst (v := 3) hx hb dX2_bringBack_26 (by decide) ?_
  refine lv_aload_n hx hb dX2_bringBack_27 rfl (lv_at hl 0 rfl) ?_
  refine va_get (D := D) (ci := 2) (v := .ref (ad 6)) (C := RX2) (T := TX2) (N := 12) hx hb hts (fun _ h9 => (List.mem_cons_of_mem _ (List.mem_append_right _ h9))) hown hK hP 0 rfl rfl 6 (by decide) (hts (Cond.fieldLink RX2 25 "FloodGridModel" "towns" "[I") (List.mem_of_getElem? (i := 5) rfl)) (fun _ h9 => h9) rfl dX2_bringBack_28 ?_
  refine ct_aasta (ws1 := ((mW h ad cI thr hei wat dam wea dra peo rai num flo lak row) ++ ((kW ka ku cJ cI wat0 dam0 wea0 peo0 num0) ++ (([(qb, .inl (cJ, 5, rf5 (va_up (va_up (va_up (va_up (fun _ => none) 0 (some (ad 2))) 1 (some (ad 3))) 2 (some (ad 4))) 3 (some (ad 6)))))]))))) hx hb hJ 0 rfl hK hP hD hS 18 6 rfl rfl 3 rfl (by decide) (by decide) rfl dX2_bringBack_31 (fun H locs hP hD hS => ?_)
  refine lv_dup hx hb dX2_bringBack_32 rfl ?_
  refine lv_iconst (v := 4) hx hb dX2_bringBack_33 (by decide) ?_
  refine lv_aload_n hx hb dX2_bringBack_34 rfl (lv_at hl 0 rfl) ?_
  refine va_get (D := D) (ci := 2) (v := .ref (ad 8)) (C := RX2) (T := TX2) (N := 12) hx hb hts (fun _ h9 => (List.mem_cons_of_mem _ (List.mem_append_right _ h9))) hown hK hP 0 rfl rfl 8 (by decide) (hts (Cond.fieldLink RX2 31 "FloodGridModel" "numbers" "[I") (List.mem_of_getElem? (i := 6) rfl)) (fun _ h9 => h9) rfl dX2_bringBack_35 ?_
  refine ct_aasta (ws1 := ((mW h ad cI thr hei wat dam wea dra peo rai num flo lak row) ++ ((kW ka ku cJ cI wat0 dam0 wea0 peo0 num0) ++ (([(qb, .inl (cJ, 5, rf5 (va_up (va_up (va_up (va_up (va_up (fun _ => none) 0 (some (ad 2))) 1 (some (ad 3))) 2 (some (ad 4))) 3 (some (ad 6))) 4 (some (ad 8)))))]))))) hx hb hJ 0 rfl hK hP hD hS 18 8 rfl rfl 4 rfl (by decide) (by decide) rfl dX2_bringBack_38 (fun H locs hP hD hS => ?_)
  refine lv_astore_n (lv' := [(2, .ref qb), (0, .ref h), (1, .ref ka)]) hx hb dX2_bringBack_39 rfl hl (by decide) rfl (fun ls hl => ?_)
  refine lv_iconst (v := 0) hx hb dX2_bringBack_40 (by decide) ?_
  refine lv_istore_n (lv' := [(3, .int 0), (2, .ref qb), (0, .ref h), (1, .ref ka)]) hx hb dX2_bringBack_41 rfl hl (by decide) rfl (fun ls hl => ?_)
  refine lv_iload_n hx hb dX2_bringBack_42 rfl (lv_at hl 0 rfl) ?_
  refine lv_aload_n hx hb dX2_bringBack_43 rfl (lv_at hl 1 rfl) ?_
  refine va_alen (v := (nI 5)) hx hb hK hP 18 rfl (t0 := 1) rfl rfl dX2_bringBack_44 ?_
  refine lv_icmp_ge (tgt := 69) hx hb dX2_bringBack_45 (by decide) (fun hc => ?_) (fun hc => ?_)
  · skip
    exact absurd hc (by decide)
  · skip
    refine lv_aload_n hx hb dX2_bringBack_48 rfl (lv_at hl 3 rfl) ?_
    refine lv_iload_n hx hb dX2_bringBack_49 rfl (lv_at hl 0 rfl) ?_
    refine ct_aalda hx hb hK hP 12 1 rfl rfl 0 rfl (by decide) (by decide) (x := (ku 0)) rfl dX2_bringBack_50 ?_
    refine lv_iconst (v := 0) hx hb dX2_bringBack_51 (by decide) ?_
    refine lv_aload_n hx hb dX2_bringBack_52 rfl (lv_at hl 1 rfl) ?_
    refine lv_iload_n hx hb dX2_bringBack_53 rfl (lv_at hl 0 rfl) ?_
    refine ct_aalda hx hb hK hP 18 1 rfl rfl 0 rfl (by decide) (by decide) (x := (ad 2)) rfl dX2_bringBack_54 ?_
    refine lv_iconst (v := 0) hx hb dX2_bringBack_55 (by decide) ?_
    refine lv_aload_n hx hb dX2_bringBack_56 rfl (lv_at hl 1 rfl) ?_
    refine lv_iload_n hx hb dX2_bringBack_57 rfl (lv_at hl 0 rfl) ?_
    refine ct_aalda hx hb hK hP 18 1 rfl rfl 0 rfl (by decide) (by decide) (x := (ad 2)) rfl dX2_bringBack_58 ?_
    refine va_alen (v := (nI 64)) hx hb hK hP 2 rfl (t0 := 0) rfl rfl dX2_bringBack_59 ?_
    refine ct_copy (ws1 := ((mW h ad cI thr hei wat0 dam wea dra peo rai num flo lak row) ++ ((kW ka ku cJ cI wat0 dam0 wea0 peo0 num0) ++ (([(qb, .inl (cJ, 5, rf5 (va_up (va_up (va_up (va_up (va_up (fun _ => none) 0 (some (ad 2))) 1 (some (ad 3))) 2 (some (ad 4))) 3 (some (ad 6))) 4 (some (ad 8)))))]))))) hx hb (hml.trans hl.1.symm) hown (hts (Cond.methodLink RX2 116 arraycopyName) (List.mem_of_getElem? (i := 7) rfl)) (hts (Cond.native arraycopyName) (List.mem_of_getElem? (i := 8) rfl)) (hts (Cond.static arraycopyName) (List.mem_of_getElem? (i := 9) rfl)) (hts (Cond.initialized "java/lang/System") (List.mem_of_getElem? (i := 10) rfl)) hK hP hD hS 13 2 0 rfl rfl rfl (n := 64) rfl (by decide) (Nat.le_of_ble_eq_true rfl) (Nat.le_of_ble_eq_true (by decide +kernel)) rfl dX2_bringBack_60 (fun H locs hP hD hS => ?_)
    refine lv_iinc (v := 1) (lv' := [(3, .int 1), (2, .ref qb), (0, .ref h), (1, .ref ka)]) hx hb dX2_bringBack_63 hl (k := 0) rfl (by decide) (by decide) rfl (fun ls hl => ?_)
    refine lv_goto (tgt := 42) hx hb dX2_bringBack_66 (by decide) ?_
    refine lv_iload_n hx hb dX2_bringBack_42 rfl (lv_at hl 0 rfl) ?_
    refine lv_aload_n hx hb dX2_bringBack_43 rfl (lv_at hl 1 rfl) ?_
    refine va_alen (v := (nI 5)) hx hb hK hP 18 rfl (t0 := 1) rfl rfl dX2_bringBack_44 ?_
    refine lv_icmp_ge (tgt := 69) hx hb dX2_bringBack_45 (by decide) (fun hc => ?_) (fun hc => ?_)
    · skip
      exact absurd hc (by decide)
    · skip
      refine lv_aload_n hx hb dX2_bringBack_48 rfl (lv_at hl 3 rfl) ?_
      refine lv_iload_n hx hb dX2_bringBack_49 rfl (lv_at hl 0 rfl) ?_
      refine ct_aalda hx hb hK hP 12 1 rfl rfl 1 rfl (by decide) (by decide) (x := (ku 1)) rfl dX2_bringBack_50 ?_
      refine lv_iconst (v := 0) hx hb dX2_bringBack_51 (by decide) ?_
      refine lv_aload_n hx hb dX2_bringBack_52 rfl (lv_at hl 1 rfl) ?_
      refine lv_iload_n hx hb dX2_bringBack_53 rfl (lv_at hl 0 rfl) ?_
      refine ct_aalda hx hb hK hP 18 1 rfl rfl 1 rfl (by decide) (by decide) (x := (ad 3)) rfl dX2_bringBack_54 ?_
      refine lv_iconst (v := 0) hx hb dX2_bringBack_55 (by decide) ?_
      refine lv_aload_n hx hb dX2_bringBack_56 rfl (lv_at hl 1 rfl) ?_
      refine lv_iload_n hx hb dX2_bringBack_57 rfl (lv_at hl 0 rfl) ?_
      refine ct_aalda hx hb hK hP 18 1 rfl rfl 1 rfl (by decide) (by decide) (x := (ad 3)) rfl dX2_bringBack_58 ?_
      refine va_alen (v := (nI 64)) hx hb hK hP 3 rfl (t0 := 0) rfl rfl dX2_bringBack_59 ?_
      refine ct_copy (ws1 := ((mW h ad cI thr hei wat0 dam0 wea dra peo rai num flo lak row) ++ ((kW ka ku cJ cI wat0 dam0 wea0 peo0 num0) ++ (([(qb, .inl (cJ, 5, rf5 (va_up (va_up (va_up (va_up (va_up (fun _ => none) 0 (some (ad 2))) 1 (some (ad 3))) 2 (some (ad 4))) 3 (some (ad 6))) 4 (some (ad 8)))))]))))) hx hb (hml.trans hl.1.symm) hown (hts (Cond.methodLink RX2 116 arraycopyName) (List.mem_of_getElem? (i := 7) rfl)) (hts (Cond.native arraycopyName) (List.mem_of_getElem? (i := 8) rfl)) (hts (Cond.static arraycopyName) (List.mem_of_getElem? (i := 9) rfl)) (hts (Cond.initialized "java/lang/System") (List.mem_of_getElem? (i := 10) rfl)) hK hP hD hS 14 3 0 rfl rfl rfl (n := 64) rfl (by decide) (Nat.le_of_ble_eq_true rfl) (Nat.le_of_ble_eq_true (by decide +kernel)) rfl dX2_bringBack_60 (fun H locs hP hD hS => ?_)
      refine lv_iinc (v := 2) (lv' := [(3, .int 2), (2, .ref qb), (0, .ref h), (1, .ref ka)]) hx hb dX2_bringBack_63 hl (k := 0) rfl (by decide) (by decide) rfl (fun ls hl => ?_)
      refine lv_goto (tgt := 42) hx hb dX2_bringBack_66 (by decide) ?_
      refine lv_iload_n hx hb dX2_bringBack_42 rfl (lv_at hl 0 rfl) ?_
      refine lv_aload_n hx hb dX2_bringBack_43 rfl (lv_at hl 1 rfl) ?_
      refine va_alen (v := (nI 5)) hx hb hK hP 18 rfl (t0 := 1) rfl rfl dX2_bringBack_44 ?_
      refine lv_icmp_ge (tgt := 69) hx hb dX2_bringBack_45 (by decide) (fun hc => ?_) (fun hc => ?_)
      · skip
        exact absurd hc (by decide)
      · skip
        refine lv_aload_n hx hb dX2_bringBack_48 rfl (lv_at hl 3 rfl) ?_
        refine lv_iload_n hx hb dX2_bringBack_49 rfl (lv_at hl 0 rfl) ?_
        refine ct_aalda hx hb hK hP 12 1 rfl rfl 2 rfl (by decide) (by decide) (x := (ku 2)) rfl dX2_bringBack_50 ?_
        refine lv_iconst (v := 0) hx hb dX2_bringBack_51 (by decide) ?_
        refine lv_aload_n hx hb dX2_bringBack_52 rfl (lv_at hl 1 rfl) ?_
        refine lv_iload_n hx hb dX2_bringBack_53 rfl (lv_at hl 0 rfl) ?_
        refine ct_aalda hx hb hK hP 18 1 rfl rfl 2 rfl (by decide) (by decide) (x := (ad 4)) rfl dX2_bringBack_54 ?_
        refine lv_iconst (v := 0) hx hb dX2_bringBack_55 (by decide) ?_
        refine lv_aload_n hx hb dX2_bringBack_56 rfl (lv_at hl 1 rfl) ?_
        refine lv_iload_n hx hb dX2_bringBack_57 rfl (lv_at hl 0 rfl) ?_
        refine ct_aalda hx hb hK hP 18 1 rfl rfl 2 rfl (by decide) (by decide) (x := (ad 4)) rfl dX2_bringBack_58 ?_
        refine va_alen (v := (nI 64)) hx hb hK hP 4 rfl (t0 := 0) rfl rfl dX2_bringBack_59 ?_
        refine ct_copy (ws1 := ((mW h ad cI thr hei wat0 dam0 wea0 dra peo rai num flo lak row) ++ ((kW ka ku cJ cI wat0 dam0 wea0 peo0 num0) ++ (([(qb, .inl (cJ, 5, rf5 (va_up (va_up (va_up (va_up (va_up (fun _ => none) 0 (some (ad 2))) 1 (some (ad 3))) 2 (some (ad 4))) 3 (some (ad 6))) 4 (some (ad 8)))))]))))) hx hb (hml.trans hl.1.symm) hown (hts (Cond.methodLink RX2 116 arraycopyName) (List.mem_of_getElem? (i := 7) rfl)) (hts (Cond.native arraycopyName) (List.mem_of_getElem? (i := 8) rfl)) (hts (Cond.static arraycopyName) (List.mem_of_getElem? (i := 9) rfl)) (hts (Cond.initialized "java/lang/System") (List.mem_of_getElem? (i := 10) rfl)) hK hP hD hS 15 4 0 rfl rfl rfl (n := 64) rfl (by decide) (Nat.le_of_ble_eq_true rfl) (Nat.le_of_ble_eq_true (by decide +kernel)) rfl dX2_bringBack_60 (fun H locs hP hD hS => ?_)
        refine lv_iinc (v := 3) (lv' := [(3, .int 3), (2, .ref qb), (0, .ref h), (1, .ref ka)]) hx hb dX2_bringBack_63 hl (k := 0) rfl (by decide) (by decide) rfl (fun ls hl => ?_)
        refine lv_goto (tgt := 42) hx hb dX2_bringBack_66 (by decide) ?_
        refine lv_iload_n hx hb dX2_bringBack_42 rfl (lv_at hl 0 rfl) ?_
        refine lv_aload_n hx hb dX2_bringBack_43 rfl (lv_at hl 1 rfl) ?_
        refine va_alen (v := (nI 5)) hx hb hK hP 18 rfl (t0 := 1) rfl rfl dX2_bringBack_44 ?_
        refine lv_icmp_ge (tgt := 69) hx hb dX2_bringBack_45 (by decide) (fun hc => ?_) (fun hc => ?_)
        · skip
          exact absurd hc (by decide)
        · skip
          refine lv_aload_n hx hb dX2_bringBack_48 rfl (lv_at hl 3 rfl) ?_
          refine lv_iload_n hx hb dX2_bringBack_49 rfl (lv_at hl 0 rfl) ?_
          refine ct_aalda hx hb hK hP 12 1 rfl rfl 3 rfl (by decide) (by decide) (x := (ku 3)) rfl dX2_bringBack_50 ?_
          refine lv_iconst (v := 0) hx hb dX2_bringBack_51 (by decide) ?_
          refine lv_aload_n hx hb dX2_bringBack_52 rfl (lv_at hl 1 rfl) ?_
          refine lv_iload_n hx hb dX2_bringBack_53 rfl (lv_at hl 0 rfl) ?_
          refine ct_aalda hx hb hK hP 18 1 rfl rfl 3 rfl (by decide) (by decide) (x := (ad 6)) rfl dX2_bringBack_54 ?_
          refine lv_iconst (v := 0) hx hb dX2_bringBack_55 (by decide) ?_
          refine lv_aload_n hx hb dX2_bringBack_56 rfl (lv_at hl 1 rfl) ?_
          refine lv_iload_n hx hb dX2_bringBack_57 rfl (lv_at hl 0 rfl) ?_
          refine ct_aalda hx hb hK hP 18 1 rfl rfl 3 rfl (by decide) (by decide) (x := (ad 6)) rfl dX2_bringBack_58 ?_
          refine va_alen (v := (nI 64)) hx hb hK hP 6 rfl (t0 := 0) rfl rfl dX2_bringBack_59 ?_
          refine ct_copy (ws1 := ((mW h ad cI thr hei wat0 dam0 wea0 dra peo0 rai num flo lak row) ++ ((kW ka ku cJ cI wat0 dam0 wea0 peo0 num0) ++ (([(qb, .inl (cJ, 5, rf5 (va_up (va_up (va_up (va_up (va_up (fun _ => none) 0 (some (ad 2))) 1 (some (ad 3))) 2 (some (ad 4))) 3 (some (ad 6))) 4 (some (ad 8)))))]))))) hx hb (hml.trans hl.1.symm) hown (hts (Cond.methodLink RX2 116 arraycopyName) (List.mem_of_getElem? (i := 7) rfl)) (hts (Cond.native arraycopyName) (List.mem_of_getElem? (i := 8) rfl)) (hts (Cond.static arraycopyName) (List.mem_of_getElem? (i := 9) rfl)) (hts (Cond.initialized "java/lang/System") (List.mem_of_getElem? (i := 10) rfl)) hK hP hD hS 16 6 0 rfl rfl rfl (n := 64) rfl (by decide) (Nat.le_of_ble_eq_true rfl) (Nat.le_of_ble_eq_true (by decide +kernel)) rfl dX2_bringBack_60 (fun H locs hP hD hS => ?_)
          refine lv_iinc (v := 4) (lv' := [(3, .int 4), (2, .ref qb), (0, .ref h), (1, .ref ka)]) hx hb dX2_bringBack_63 hl (k := 0) rfl (by decide) (by decide) rfl (fun ls hl => ?_)
          refine lv_goto (tgt := 42) hx hb dX2_bringBack_66 (by decide) ?_
          refine lv_iload_n hx hb dX2_bringBack_42 rfl (lv_at hl 0 rfl) ?_
          refine lv_aload_n hx hb dX2_bringBack_43 rfl (lv_at hl 1 rfl) ?_
          refine va_alen (v := (nI 5)) hx hb hK hP 18 rfl (t0 := 1) rfl rfl dX2_bringBack_44 ?_
          refine lv_icmp_ge (tgt := 69) hx hb dX2_bringBack_45 (by decide) (fun hc => ?_) (fun hc => ?_)
          · skip
            exact absurd hc (by decide)
          · skip
            refine lv_aload_n hx hb dX2_bringBack_48 rfl (lv_at hl 3 rfl) ?_
            refine lv_iload_n hx hb dX2_bringBack_49 rfl (lv_at hl 0 rfl) ?_
            refine ct_aalda hx hb hK hP 12 1 rfl rfl 4 rfl (by decide) (by decide) (x := (ku 4)) rfl dX2_bringBack_50 ?_
            refine lv_iconst (v := 0) hx hb dX2_bringBack_51 (by decide) ?_
            refine lv_aload_n hx hb dX2_bringBack_52 rfl (lv_at hl 1 rfl) ?_
            refine lv_iload_n hx hb dX2_bringBack_53 rfl (lv_at hl 0 rfl) ?_
            refine ct_aalda hx hb hK hP 18 1 rfl rfl 4 rfl (by decide) (by decide) (x := (ad 8)) rfl dX2_bringBack_54 ?_
            refine lv_iconst (v := 0) hx hb dX2_bringBack_55 (by decide) ?_
            refine lv_aload_n hx hb dX2_bringBack_56 rfl (lv_at hl 1 rfl) ?_
            refine lv_iload_n hx hb dX2_bringBack_57 rfl (lv_at hl 0 rfl) ?_
            refine ct_aalda hx hb hK hP 18 1 rfl rfl 4 rfl (by decide) (by decide) (x := (ad 8)) rfl dX2_bringBack_58 ?_
            refine va_alen (v := (nI 4)) hx hb hK hP 8 rfl (t0 := 0) rfl rfl dX2_bringBack_59 ?_
            refine ct_copy (ws1 := ((mW h ad cI thr hei wat0 dam0 wea0 dra peo0 rai num0 flo lak row) ++ ((kW ka ku cJ cI wat0 dam0 wea0 peo0 num0) ++ (([(qb, .inl (cJ, 5, rf5 (va_up (va_up (va_up (va_up (va_up (fun _ => none) 0 (some (ad 2))) 1 (some (ad 3))) 2 (some (ad 4))) 3 (some (ad 6))) 4 (some (ad 8)))))]))))) hx hb (hml.trans hl.1.symm) hown (hts (Cond.methodLink RX2 116 arraycopyName) (List.mem_of_getElem? (i := 7) rfl)) (hts (Cond.native arraycopyName) (List.mem_of_getElem? (i := 8) rfl)) (hts (Cond.static arraycopyName) (List.mem_of_getElem? (i := 9) rfl)) (hts (Cond.initialized "java/lang/System") (List.mem_of_getElem? (i := 10) rfl)) hK hP hD hS 17 8 0 rfl rfl rfl (n := 4) rfl (by decide) (Nat.le_of_ble_eq_true rfl) (Nat.le_of_ble_eq_true (by decide +kernel)) rfl dX2_bringBack_60 (fun H locs hP hD hS => ?_)
            refine lv_iinc (v := 5) (lv' := [(3, .int 5), (2, .ref qb), (0, .ref h), (1, .ref ka)]) hx hb dX2_bringBack_63 hl (k := 0) rfl (by decide) (by decide) rfl (fun ls hl => ?_)
            refine lv_goto (tgt := 42) hx hb dX2_bringBack_66 (by decide) ?_
            refine lv_iload_n hx hb dX2_bringBack_42 rfl (lv_at hl 0 rfl) ?_
            refine lv_aload_n hx hb dX2_bringBack_43 rfl (lv_at hl 1 rfl) ?_
            refine va_alen (v := (nI 5)) hx hb hK hP 18 rfl (t0 := 1) rfl rfl dX2_bringBack_44 ?_
            refine lv_icmp_ge (tgt := 69) hx hb dX2_bringBack_45 (by decide) (fun hc => ?_) (fun hc => ?_)
            · skip
              have hP := hP.sub (ws' := ((mW h ad cI thr hei wat0 dam0 wea0 dra peo0 rai num0 flo lak row) ++ (kW ka ku cJ cI wat0 dam0 wea0 peo0 num0))) [0, 1, 2, 3, 4, 5, 6, 7, 8, 9, 10, 11, 12, 13, 14, 15, 16, 17] rfl
              have hD := hD.sub (ws' := ((mW h ad cI thr hei wat0 dam0 wea0 dra peo0 rai num0 flo lak row) ++ (kW ka ku cJ cI wat0 dam0 wea0 peo0 num0))) [0, 1, 2, 3, 4, 5, 6, 7, 8, 9, 10, 11, 12, 13, 14, 15, 16, 17] (by decide) rfl
              exact fin () H locs 1 5 69 ls dX2_bringBack_69 trivial hP hD hS (Nat.le_of_ble_eq_true rfl) (Nat.le_of_ble_eq_true rfl)
            · skip
              exact absurd (by decide) hc
