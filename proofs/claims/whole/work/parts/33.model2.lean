theorem ct_ofz {S : Type} {l : Launch} {D : va_G} {y : MethodName} {ws ws' : List Cond} {rm : Room} {cc : ByteArray} {maxL : Nat} {As : List Value} {wc : va_W} {tys : List (ClassId × FieldType)} {post : Int32 → S → Prop} {wo : S → va_W}
    (hz : ∀ (v : Int32) (u : S), post v u → v = 0 ∨ v = 1) (hy : plainName y.cls = true) (hw : ws = Cond.code y cc maxL (some .boolean) :: ws') (hln : (lg_sl As).length ≤ maxL) (body : ct_Bi l D y ws rm cc maxL As wc tys post wo) : ct_i l D y ws rm As wc tys post wo := by
  intro sz
  refine Met.ofW (cc := cc) (maxL := maxL) (ret := (some .boolean)) hy hw ?_
  intro p e s m args below meth c s₁ B hml hv
  obtain ⟨rfl, hsz, hP, hK, hD0⟩ := hv
  subst hsz
  have hD := hD0.self (sz := s.heap.size)
  have hl := lv_entry As (n := maxL) hln
  rw [lg_entry_eq]
  have hx := B.exec
  have hb := B.bytes
  have hr := B.returns
  have hlocks := B.notSynchronized
  exact body p e s m As.toArray below meth c (va_A wc s.heap.size) _ hx hb hml (findClass_of_methodNamed B.named) (atoms_spec (ws := ws) B.pre) (name_of_methodNamed B.named B.method).1 (fun q h => Or.inr h) hK s.heap [] hP hD va_S.rf
    (fun v u H locs cells slots pc ls hdg hq hP hD hS hc hs => W.widen hc hs (W.zret (v := v) (ty := .boolean) hx hb hr (by rcases hz v u hq with rfl | rfl <;> rfl) (fun t ht hW => ⟨⟨v, u, rfl, hq, by rw [ht]; exact hP, va_K.moved hW.alike hK, hD⟩, hS.F ht⟩) hS.2.2 hdg hlocks)) _ hl
/-- 1 if so, else 0 -/
noncomputable def b_v (P : Prop) : Int32 := @ite _ P (Classical.propDecidable P) 1 0
theorem b_v_yes {P : Prop} (h : P) : b_v P = 1 := by unfold b_v; exact if_pos h
theorem b_v_no {P : Prop} (h : ¬ P) : b_v P = 0 := by unfold b_v; exact if_neg h
theorem b_v_1 {P : Prop} (h : ¬ b_v P = 0) : P := Classical.byContradiction (fun n => h (b_v_no n))
theorem b_v_0 {P : Prop} (h : b_v P = 0) : ¬ P := fun hp => absurd h (by rw [b_v_yes hp]; decide)
theorem b_v_z {P : Prop} (v : Int32) (h : v = b_v P) : v = 0 ∨ v = 1 := by
  by_cases hp : P
  · rw [b_v_yes hp] at h; exact Or.inr h
  · rw [b_v_no hp] at h; exact Or.inl h
abbrev rm_X2_isIn : Room := { frames := 0, cells := 0, slots := 0, locals := 0 }
set_option maxHeartbeats 4000000 in
set_option maxRecDepth 100000 in
theorem c_isIn (l : Launch) (D : va_G) (cI : ClassId) (v lo hi : Int32) : ct_i (S := Unit) l D yX2_isIn wsX2_isIn rm_X2_isIn [.int v, .int lo, .int hi] ([] : va_W) [(cI, .int)] (fun r _ => r = b_v (lo ≤ v ∧ v ≤ hi)) (fun _ => ([] : va_W)) := by
  refine ct_ofz (fun v _ h => b_v_z v h) (cc := cX2_isIn) (maxL := 3) (by decide) rfl (Nat.le_of_ble_eq_true rfl) ?_
  intro p e s m args below meth c A Q hx hb hml hown hts hin hA hK H locs hP hD hS fin ls hl
  have hown : s.vm.findClass RX2 = some m.cls := hown
  have hl : lv_has ls 3 [(0, .int v), (1, .int lo), (2, .int hi)] := hl
  refine lv_iload_n hx hb dX2_isIn_0 rfl (lv_at hl 0 rfl) ?_
  refine lv_iload_n hx hb dX2_isIn_1 rfl (lv_at hl 1 rfl) ?_
  refine lv_icmp_lt (tgt := 14) hx hb dX2_isIn_2 (by decide) (fun hc => ?_) (fun hc => ?_)
  · skip
    refine lv_iconst (v := 0) hx hb dX2_isIn_14 (by decide) ?_
    exact fin 0 () H locs 0 0 15 ls dX2_isIn_15 (b_v_no (fun z => absurd z.1 (Int32.not_le.mpr hc))).symm hP hD hS (Nat.le_of_ble_eq_true rfl) (Nat.le_of_ble_eq_true rfl)
  · skip
    refine lv_iload_n hx hb dX2_isIn_5 rfl (lv_at hl 0 rfl) ?_
    refine lv_iload_n hx hb dX2_isIn_6 rfl (lv_at hl 2 rfl) ?_
    refine lv_icmp_gt (tgt := 14) hx hb dX2_isIn_7 (by decide) (fun hc2 => ?_) (fun hc2 => ?_)
    · skip
      refine lv_iconst (v := 0) hx hb dX2_isIn_14 (by decide) ?_
      exact fin 0 () H locs 0 0 15 ls dX2_isIn_15 (b_v_no (fun z => absurd z.2 (Int32.not_le.mpr hc2))).symm hP hD hS (Nat.le_of_ble_eq_true rfl) (Nat.le_of_ble_eq_true rfl)
    · skip
      refine lv_iconst (v := 1) hx hb dX2_isIn_10 (by decide) ?_
      refine lv_goto (tgt := 15) hx hb dX2_isIn_11 (by decide) ?_
      exact fin 1 () H locs 0 0 15 ls dX2_isIn_15 (b_v_yes ⟨Int32.not_lt.mp hc, Int32.not_lt.mp hc2⟩).symm hP hD hS (Nat.le_of_ble_eq_true rfl) (Nat.le_of_ble_eq_true rfl)
abbrev rm_X2_isCell : Room := { frames := 1, cells := 0, slots := 0, locals := 22 }
set_option maxHeartbeats 4000000 in
set_option maxRecDepth 100000 in
theorem c_isCell (l : Launch) (D : va_G) (cI : ClassId) (x y : Int32) : ct_i (S := Unit) l D yX2_isCell wsX2_isCell rm_X2_isCell [.int x, .int y] ([] : va_W) [(cI, .int)] (fun r _ => r = b_v (inC x y)) (fun _ => ([] : va_W)) := by
  refine ct_ofz (fun v _ h => b_v_z v h) (cc := cX2_isCell) (maxL := 2) (by decide) rfl (Nat.le_of_ble_eq_true rfl) ?_
  intro p e s m args below meth c A Q hx hb hml hown hts hin hA hK H locs hP hD hS fin ls hl
  have hown : s.vm.findClass RX2 = some m.cls := hown
  have hl : lv_has ls 2 [(0, .int x), (1, .int y)] := hl
  refine lv_iload_n hx hb dX2_isCell_0 rfl (lv_at hl 0 rfl) ?_
  refine lv_iconst (v := 0) hx hb dX2_isCell_1 (by decide) ?_
  refine lv_bipush (v := 7) hx hb dX2_isCell_2 (by decide) ?_
  refine ct_Si (As := [.int x, .int 0, .int 7]) (rest := []) (wr := []) (W1 := fun u => ([] : va_W)) (cells1 := 0) (slots1 := 0) ⟨hx, hb, hml, hown, hts⟩ (c_isIn l D cI x 0 7) (va_cwS 3 hts gX2_isCell_X2_isIn rfl rfl rfl (by decide +kernel) ⟨Nat.le_of_ble_eq_true rfl, Nat.le_of_ble_eq_true rfl⟩) hK hP hD hS hA [] [] ⟨rfl, rfl, rfl, rfl, rfl⟩ [] rfl (fun _ => rfl) [0] rfl rfl hl.1 rfl (Nat.le_of_ble_eq_true rfl) rfl rfl ⟨(Nat.le_of_ble_eq_true rfl), (Nat.le_of_ble_eq_true rfl)⟩ dX2_isCell_4 (fun r u H locs hw hP hD hS => ?_)
  subst hw
  refine lv_if_eq (tgt := 24) hx hb dX2_isCell_7 (by decide) (fun hc => ?_) (fun hc => ?_)
  · skip
    refine lv_iconst (v := 0) hx hb dX2_isCell_24 (by decide) ?_
    exact fin 0 () H locs 0 0 25 ls dX2_isCell_25 (b_v_no (fun z => b_v_0 hc z.1)).symm hP hD hS (Nat.le_of_ble_eq_true rfl) (Nat.le_of_ble_eq_true rfl)
  · skip
    refine lv_iload_n hx hb dX2_isCell_10 rfl (lv_at hl 1 rfl) ?_
    refine lv_iconst (v := 0) hx hb dX2_isCell_11 (by decide) ?_
    refine lv_bipush (v := 7) hx hb dX2_isCell_12 (by decide) ?_
    refine ct_Si (As := [.int y, .int 0, .int 7]) (rest := []) (wr := []) (W1 := fun u => ([] : va_W)) (cells1 := 0) (slots1 := 0) ⟨hx, hb, hml, hown, hts⟩ (c_isIn l D cI y 0 7) (va_cwS 3 hts gX2_isCell_X2_isIn rfl rfl rfl (by decide +kernel) ⟨Nat.le_of_ble_eq_true rfl, Nat.le_of_ble_eq_true rfl⟩) hK hP hD hS hA [] [] ⟨rfl, rfl, rfl, rfl, rfl⟩ [] rfl (fun _ => rfl) [0] rfl rfl hl.1 rfl (Nat.le_of_ble_eq_true rfl) rfl rfl ⟨(Nat.le_of_ble_eq_true rfl), (Nat.le_of_ble_eq_true rfl)⟩ dX2_isCell_14 (fun r u H locs hw hP hD hS => ?_)
    subst hw
    refine lv_if_eq (tgt := 24) hx hb dX2_isCell_17 (by decide) (fun hc2 => ?_) (fun hc2 => ?_)
    · skip
      refine lv_iconst (v := 0) hx hb dX2_isCell_24 (by decide) ?_
      exact fin 0 () H locs 0 0 25 ls dX2_isCell_25 (b_v_no (fun z => b_v_0 hc2 z.2)).symm hP hD hS (Nat.le_of_ble_eq_true rfl) (Nat.le_of_ble_eq_true rfl)
    · skip
      refine lv_iconst (v := 1) hx hb dX2_isCell_20 (by decide) ?_
      refine lv_goto (tgt := 25) hx hb dX2_isCell_21 (by decide) ?_
      exact fin 1 () H locs 0 0 25 ls dX2_isCell_25 (b_v_yes ⟨b_v_1 hc, b_v_1 hc2⟩).symm hP hD hS (Nat.le_of_ble_eq_true rfl) (Nat.le_of_ble_eq_true rfl)
abbrev rm_X2_set : Room := { frames := 2, cells := 0, slots := 0, locals := 43 }
set_option maxHeartbeats 4000000 in
set_option maxRecDepth 100000 in
theorem c_X2_set (l : Launch) (D : va_G) (cI : ClassId) (h : Nat) (ad : Nat → Nat) (thr : Int32) (a : Nat) (f : Nat → Int32) (x y v lo hi : Int32) : ct_i (S := Int32 × (Nat → Int32)) l D yX2_set wsX2_set rm_X2_set [.ref h, .ref a, .int x, .int y, .int v, .int lo, .int hi] ([(h, .inr (2, [.int thr, .ref (ad 1), .ref (ad 2), .ref (ad 3), .ref (ad 4), .ref (ad 5), .ref (ad 6), .ref (ad 7), .ref (ad 8), .ref (ad 9), .ref (ad 10), .ref (ad 11)])), (a, .inl (cI, 64, .inl f))]) [(cI, .int)] (fun r u => (¬ inC x y ∧ u.1 = 1 ∧ u.2 = f) ∨ (inC x y ∧ ¬ (lo ≤ v ∧ v ≤ hi) ∧ u.1 = 2 ∧ u.2 = f) ∨ (inC x y ∧ (lo ≤ v ∧ v ≤ hi) ∧ u.1 = 0 ∧ r = f (q_at x y) ∧ u.2 = upd f (q_at x y) v)) (fun u => ([(h, .inr (2, [.int u.1, .ref (ad 1), .ref (ad 2), .ref (ad 3), .ref (ad 4), .ref (ad 5), .ref (ad 6), .ref (ad 7), .ref (ad 8), .ref (ad 9), .ref (ad 10), .ref (ad 11)])), (a, .inl (cI, 64, .inl u.2))])) := by
  refine ct_ofi (cc := cX2_set) (maxL := 8) (by decide) rfl (Nat.le_of_ble_eq_true rfl) ?_
  intro p e s m args below meth c A Q hx hb hml hown hts hin hA hK H locs hP hD hS fin ls hl
  have hown : s.vm.findClass RX2 = some m.cls := hown
  have hl : lv_has ls 8 [(0, .ref h), (1, .ref a), (2, .int x), (3, .int y), (4, .int v), (5, .int lo), (6, .int hi)] := hl
  refine lv_aload_n hx hb dX2_set_0 rfl (lv_at hl 0 rfl) ?_
  refine lv_iload_n hx hb dX2_set_1 rfl (lv_at hl 2 rfl) ?_
  refine lv_iload_n hx hb dX2_set_2 rfl (lv_at hl 3 rfl) ?_
  refine ct_Si (As := [.int x, .int y]) (rest := [.ref h]) (wr := [(h, .inr (2, [.int thr, .ref (ad 1), .ref (ad 2), .ref (ad 3), .ref (ad 4), .ref (ad 5), .ref (ad 6), .ref (ad 7), .ref (ad 8), .ref (ad 9), .ref (ad 10), .ref (ad 11)])), (a, .inl (cI, 64, .inl f))]) (W1 := fun u => ([(h, .inr (2, [.int thr, .ref (ad 1), .ref (ad 2), .ref (ad 3), .ref (ad 4), .ref (ad 5), .ref (ad 6), .ref (ad 7), .ref (ad 8), .ref (ad 9), .ref (ad 10), .ref (ad 11)])), (a, .inl (cI, 64, .inl f))])) (cells1 := 0) (slots1 := 0) ⟨hx, hb, hml, hown, hts⟩ (c_isCell l D cI x y) (va_cwS 2 hts gX2_set_X2_isCell rfl rfl rfl (by decide +kernel) ⟨Nat.le_of_ble_eq_true rfl, Nat.le_of_ble_eq_true rfl⟩) hK hP hD hS hA [] [0, 1] ⟨rfl, rfl, rfl, rfl, rfl⟩ [0, 1] rfl (fun _ => rfl) [0] rfl rfl hl.1 rfl (Nat.le_of_ble_eq_true rfl) rfl rfl ⟨(Nat.le_of_ble_eq_true rfl), (Nat.le_of_ble_eq_true rfl)⟩ dX2_set_3 (fun r u H locs hw hP hD hS => ?_)
  subst hw
  refine lv_if_ne (tgt := 13) hx hb dX2_set_6 (by decide) (fun hc => ?_) (fun hc => ?_)
  · skip
    have hin : inC x y := b_v_1 hc
    have hat := q_at_lt hin
    refine lv_iload hx hb dX2_set_13 (lv_at hl 4 rfl) ?_
    refine lv_iload hx hb dX2_set_15 (lv_at hl 5 rfl) ?_
    refine lv_iload hx hb dX2_set_17 (lv_at hl 6 rfl) ?_
    refine ct_Si (As := [.int v, .int lo, .int hi]) (rest := [.ref h]) (wr := [(h, .inr (2, [.int thr, .ref (ad 1), .ref (ad 2), .ref (ad 3), .ref (ad 4), .ref (ad 5), .ref (ad 6), .ref (ad 7), .ref (ad 8), .ref (ad 9), .ref (ad 10), .ref (ad 11)])), (a, .inl (cI, 64, .inl f))]) (W1 := fun u => ([(h, .inr (2, [.int thr, .ref (ad 1), .ref (ad 2), .ref (ad 3), .ref (ad 4), .ref (ad 5), .ref (ad 6), .ref (ad 7), .ref (ad 8), .ref (ad 9), .ref (ad 10), .ref (ad 11)])), (a, .inl (cI, 64, .inl f))])) (cells1 := 0) (slots1 := 0) ⟨hx, hb, hml, hown, hts⟩ (c_isIn l D cI v lo hi) (va_cwS 3 hts gX2_set_X2_isIn rfl rfl rfl (by decide +kernel) ⟨Nat.le_of_ble_eq_true rfl, Nat.le_of_ble_eq_true rfl⟩) hK hP hD hS hA [] [0, 1] ⟨rfl, rfl, rfl, rfl, rfl⟩ [0, 1] rfl (fun _ => rfl) [0] rfl rfl hl.1 rfl (Nat.le_of_ble_eq_true rfl) rfl rfl ⟨(Nat.le_of_ble_eq_true rfl), (Nat.le_of_ble_eq_true rfl)⟩ dX2_set_19 (fun r u H locs hw hP hD hS => ?_)
    subst hw
    refine lv_if_ne (tgt := 29) hx hb dX2_set_22 (by decide) (fun hc2 => ?_) (fun hc2 => ?_)
    · skip
      refine lv_iconst (v := 0) hx hb dX2_set_29 (by decide) ?_
      refine va_put (D := D) (ci := 2) (v := .int 0) (ty := .int) (C := RX2) (T := TX2) (N := 12) hx hb hts (fun _ h9 => (List.mem_cons_of_mem _ (List.mem_append_right _ h9))) tyX2 tyX2_ok nmX2 hown hK hP hD hS 0 rfl rfl 0 (by decide) (hts (Cond.fieldLink RX2 43 "FloodGridModel" "thrown" "I") (List.mem_of_getElem? (i := 1) rfl)) (fun _ h9 => h9) rfl (by decide +kernel) rfl rfl (Nat.le_of_ble_eq_true rfl) dX2_set_30 (fun H locs hP hD hS => ?_)
      have hP : va_P D vwCl ([(h, .inr (2, [.int 0, .ref (ad 1), .ref (ad 2), .ref (ad 3), .ref (ad 4), .ref (ad 5), .ref (ad 6), .ref (ad 7), .ref (ad 8), .ref (ad 9), .ref (ad 10), .ref (ad 11)])), (a, .inl (cI, 64, .inl f))]) H := hP
      have hD : va_D A ([(h, .inr (2, [.int 0, .ref (ad 1), .ref (ad 2), .ref (ad 3), .ref (ad 4), .ref (ad 5), .ref (ad 6), .ref (ad 7), .ref (ad 8), .ref (ad 9), .ref (ad 10), .ref (ad 11)])), (a, .inl (cI, 64, .inl f))]) := hD
      refine lv_aload_n hx hb dX2_set_33 rfl (lv_at hl 0 rfl) ?_
      refine va_get (D := D) (ci := 2) (v := .int 0) (C := RX2) (T := TX2) (N := 12) hx hb hts (fun _ h9 => (List.mem_cons_of_mem _ (List.mem_append_right _ h9))) hown hK hP 0 rfl rfl 0 (by decide) (hts (Cond.fieldLink RX2 43 "FloodGridModel" "thrown" "I") (List.mem_of_getElem? (i := 1) rfl)) (fun _ h9 => h9) rfl dX2_set_34 ?_
      refine lv_if_eq (tgt := 42) hx hb dX2_set_37 (by decide) (fun ht => ?_) (fun ht => ?_)
      · skip
        refine lv_aload_n hx hb dX2_set_42 rfl (lv_at hl 1 rfl) ?_
        refine lv_bipush (v := 8) hx hb dX2_set_43 (by decide) ?_
        refine lv_iload_n hx hb dX2_set_45 rfl (lv_at hl 3 rfl) ?_
        refine lv_imul hx hb dX2_set_46 ?_
        refine lv_iload_n hx hb dX2_set_47 rfl (lv_at hl 2 rfl) ?_
        refine lv_iadd hx hb dX2_set_48 ?_
        refine ct_iald (v := f (q_at x y)) hx hb hK hP 1 0 rfl rfl (q_at x y) (q_at_eq hin) hat (by decide) rfl dX2_set_49 ?_
        refine lv_istore (lv' := [(7, .int (f (q_at x y))), (0, .ref h), (1, .ref a), (2, .int x), (3, .int y), (4, .int v), (5, .int lo), (6, .int hi)]) hx hb dX2_set_50 hl (by decide) rfl (fun ls hl => ?_)
        refine lv_aload_n hx hb dX2_set_52 rfl (lv_at hl 2 rfl) ?_
        refine lv_bipush (v := 8) hx hb dX2_set_53 (by decide) ?_
        refine lv_iload_n hx hb dX2_set_55 rfl (lv_at hl 4 rfl) ?_
        refine lv_imul hx hb dX2_set_56 ?_
        refine lv_iload_n hx hb dX2_set_57 rfl (lv_at hl 3 rfl) ?_
        refine lv_iadd hx hb dX2_set_58 ?_
        refine lv_iload hx hb dX2_set_59 (lv_at hl 5 rfl) ?_
        refine ct_iast (g := upd f (q_at x y) v) (ws1 := ([(h, .inr (2, [.int 0, .ref (ad 1), .ref (ad 2), .ref (ad 3), .ref (ad 4), .ref (ad 5), .ref (ad 6), .ref (ad 7), .ref (ad 8), .ref (ad 9), .ref (ad 10), .ref (ad 11)])), (a, .inl (cI, 64, .inl (upd f (q_at x y) v)))])) hx hb hK hP hD hS 1 0 rfl rfl (q_at x y) (q_at_eq hin) hat (by decide) rfl rfl dX2_set_61 (fun H locs hP hD hS => ?_)
        refine lv_iload hx hb dX2_set_62 (lv_at hl 0 rfl) ?_
        exact fin (f (q_at x y)) (0, upd f (q_at x y) v) H locs 0 0 64 ls dX2_set_64 (Or.inr (Or.inr ⟨hin, b_v_1 hc2, rfl, rfl, rfl⟩)) hP hD hS (Nat.le_of_ble_eq_true rfl) (Nat.le_of_ble_eq_true rfl)
      · skip
        exact absurd rfl ht
    · skip
      refine lv_iconst (v := 2) hx hb dX2_set_25 (by decide) ?_
      refine lv_goto (tgt := 30) hx hb dX2_set_26 (by decide) ?_
      refine va_put (D := D) (ci := 2) (v := .int 2) (ty := .int) (C := RX2) (T := TX2) (N := 12) hx hb hts (fun _ h9 => (List.mem_cons_of_mem _ (List.mem_append_right _ h9))) tyX2 tyX2_ok nmX2 hown hK hP hD hS 0 rfl rfl 0 (by decide) (hts (Cond.fieldLink RX2 43 "FloodGridModel" "thrown" "I") (List.mem_of_getElem? (i := 1) rfl)) (fun _ h9 => h9) rfl (by decide +kernel) rfl rfl (Nat.le_of_ble_eq_true rfl) dX2_set_30 (fun H locs hP hD hS => ?_)
      have hP : va_P D vwCl ([(h, .inr (2, [.int 2, .ref (ad 1), .ref (ad 2), .ref (ad 3), .ref (ad 4), .ref (ad 5), .ref (ad 6), .ref (ad 7), .ref (ad 8), .ref (ad 9), .ref (ad 10), .ref (ad 11)])), (a, .inl (cI, 64, .inl f))]) H := hP
      have hD : va_D A ([(h, .inr (2, [.int 2, .ref (ad 1), .ref (ad 2), .ref (ad 3), .ref (ad 4), .ref (ad 5), .ref (ad 6), .ref (ad 7), .ref (ad 8), .ref (ad 9), .ref (ad 10), .ref (ad 11)])), (a, .inl (cI, 64, .inl f))]) := hD
      refine lv_aload_n hx hb dX2_set_33 rfl (lv_at hl 0 rfl) ?_
      refine va_get (D := D) (ci := 2) (v := .int 2) (C := RX2) (T := TX2) (N := 12) hx hb hts (fun _ h9 => (List.mem_cons_of_mem _ (List.mem_append_right _ h9))) hown hK hP 0 rfl rfl 0 (by decide) (hts (Cond.fieldLink RX2 43 "FloodGridModel" "thrown" "I") (List.mem_of_getElem? (i := 1) rfl)) (fun _ h9 => h9) rfl dX2_set_34 ?_
      refine lv_if_eq (tgt := 42) hx hb dX2_set_37 (by decide) (fun ht => ?_) (fun ht => ?_)
      · skip
        exact absurd ht (by decide)
      · skip
        refine lv_iconst (v := 0) hx hb dX2_set_40 (by decide) ?_
        exact fin 0 (2, f) H locs 0 0 41 ls dX2_set_41 (Or.inr (Or.inl ⟨hin, b_v_0 hc2, rfl, rfl⟩)) hP hD hS (Nat.le_of_ble_eq_true rfl) (Nat.le_of_ble_eq_true rfl)
  · skip
    refine lv_iconst (v := 1) hx hb dX2_set_9 (by decide) ?_
    refine lv_goto (tgt := 30) hx hb dX2_set_10 (by decide) ?_
    refine va_put (D := D) (ci := 2) (v := .int 1) (ty := .int) (C := RX2) (T := TX2) (N := 12) hx hb hts (fun _ h9 => (List.mem_cons_of_mem _ (List.mem_append_right _ h9))) tyX2 tyX2_ok nmX2 hown hK hP hD hS 0 rfl rfl 0 (by decide) (hts (Cond.fieldLink RX2 43 "FloodGridModel" "thrown" "I") (List.mem_of_getElem? (i := 1) rfl)) (fun _ h9 => h9) rfl (by decide +kernel) rfl rfl (Nat.le_of_ble_eq_true rfl) dX2_set_30 (fun H locs hP hD hS => ?_)
    have hP : va_P D vwCl ([(h, .inr (2, [.int 1, .ref (ad 1), .ref (ad 2), .ref (ad 3), .ref (ad 4), .ref (ad 5), .ref (ad 6), .ref (ad 7), .ref (ad 8), .ref (ad 9), .ref (ad 10), .ref (ad 11)])), (a, .inl (cI, 64, .inl f))]) H := hP
    have hD : va_D A ([(h, .inr (2, [.int 1, .ref (ad 1), .ref (ad 2), .ref (ad 3), .ref (ad 4), .ref (ad 5), .ref (ad 6), .ref (ad 7), .ref (ad 8), .ref (ad 9), .ref (ad 10), .ref (ad 11)])), (a, .inl (cI, 64, .inl f))]) := hD
    refine lv_aload_n hx hb dX2_set_33 rfl (lv_at hl 0 rfl) ?_
    refine va_get (D := D) (ci := 2) (v := .int 1) (C := RX2) (T := TX2) (N := 12) hx hb hts (fun _ h9 => (List.mem_cons_of_mem _ (List.mem_append_right _ h9))) hown hK hP 0 rfl rfl 0 (by decide) (hts (Cond.fieldLink RX2 43 "FloodGridModel" "thrown" "I") (List.mem_of_getElem? (i := 1) rfl)) (fun _ h9 => h9) rfl dX2_set_34 ?_
    refine lv_if_eq (tgt := 42) hx hb dX2_set_37 (by decide) (fun ht => ?_) (fun ht => ?_)
    · skip
      exact absurd ht (by decide)
    · skip
      refine lv_iconst (v := 0) hx hb dX2_set_40 (by decide) ?_
      exact fin 0 (1, f) H locs 0 0 41 ls dX2_set_41 (Or.inl ⟨b_v_0 hc, rfl, rfl⟩) hP hD hS (Nat.le_of_ble_eq_true rfl) (Nat.le_of_ble_eq_true rfl)
abbrev rm_X2_raise : Room := { frames := 3, cells := 0, slots := 0, locals := 70 }
set_option maxHeartbeats 4000000 in
set_option maxRecDepth 100000 in
theorem c_X2_raise (l : Launch) (D : va_G) (cI : ClassId) (h : Nat) (ad : Nat → Nat) (thr : Int32) (hei wat dam wea dra peo rai num flo lak row : Nat → Int32) (x y v : Int32) : ct_i (S := Int32 × (Nat → Int32)) l D yX2_raise wsX2_raise rm_X2_raise [.ref h, .int x, .int y, .int v] (mW h ad cI thr hei wat dam wea dra peo rai num flo lak row) [(cI, .int)] (fun r u => (¬ inC x y ∧ u.1 = 1 ∧ u.2 = hei) ∨ (inC x y ∧ ¬ (0 ≤ v ∧ v ≤ 50) ∧ u.1 = 2 ∧ u.2 = hei) ∨ (inC x y ∧ (0 ≤ v ∧ v ≤ 50) ∧ u.1 = 0 ∧ r = hei (q_at x y) ∧ u.2 = upd hei (q_at x y) v)) (fun u => (mW h ad cI u.1 u.2 wat dam wea dra peo rai num flo lak row)) := by
  refine ct_ofi (cc := cX2_raise) (maxL := 4) (by decide) rfl (Nat.le_of_ble_eq_true rfl) ?_
  intro p e s m args below meth c A Q hx hb hml hown hts hin hA hK H locs hP hD hS fin ls hl
  have hown : s.vm.findClass RX2 = some m.cls := hown
  have hl : lv_has ls 4 [(0, .ref h), (1, .int x), (2, .int y), (3, .int v)] := hl
  refine lv_aload_n hx hb dX2_raise_0 rfl (lv_at hl 0 rfl) ?_
  refine lv_aload_n hx hb dX2_raise_1 rfl (lv_at hl 0 rfl) ?_
  refine va_get (D := D) (ci := 2) (v := .ref (ad 1)) (C := RX2) (T := TX2) (N := 12) hx hb hts (fun _ h9 => (List.mem_cons_of_mem _ (List.mem_append_right _ h9))) hown hK hP 0 rfl rfl 1 (by decide) (hts (Cond.fieldLink RX2 9 "FloodGridModel" "heights" "[I") (List.mem_of_getElem? (i := 1) rfl)) (fun _ h9 => h9) rfl dX2_raise_2 ?_
  refine lv_iload_n hx hb dX2_raise_5 rfl (lv_at hl 1 rfl) ?_
  refine lv_iload_n hx hb dX2_raise_6 rfl (lv_at hl 2 rfl) ?_
  refine lv_iload_n hx hb dX2_raise_7 rfl (lv_at hl 3 rfl) ?_
  refine lv_iconst (v := 0) hx hb dX2_raise_8 (by decide) ?_
  refine lv_bipush (v := 50) hx hb dX2_raise_9 (by decide) ?_
  refine ct_Vi (As := [.ref (ad 1), .int x, .int y, .int v, .int 0, .int 50]) (rest := []) (wr := [((ad 2), .inl (cI, 64, .inl wat)), ((ad 3), .inl (cI, 64, .inl dam)), ((ad 4), .inl (cI, 64, .inl wea)), ((ad 5), .inl (cI, 64, .inl dra)), ((ad 6), .inl (cI, 64, .inl peo)), ((ad 7), .inl (cI, 12, .inl rai)), ((ad 8), .inl (cI, 4, .inl num)), ((ad 9), .inl (cI, 64, .inl flo)), ((ad 10), .inl (cI, 64, .inl lak)), ((ad 11), .inl (cI, 64, .inl row))]) (W1 := fun u => (mW h ad cI u.1 u.2 wat dam wea dra peo rai num flo lak row)) (cells1 := 0) (slots1 := 0) ⟨hx, hb, hml, hown, hts⟩ (c_X2_set l D cI h ad thr (ad 1) hei x y v 0 50) (cwV 6 hts gX2_raise_X2_set rfl rfl rfl (by decide +kernel) ⟨Nat.le_of_ble_eq_true rfl, Nat.le_of_ble_eq_true rfl⟩) hK hP hD hS hA [0, 1] [2, 3, 4, 5, 6, 7, 8, 9, 10, 11] ⟨rfl, rfl, rfl, rfl, rfl⟩ [10, 11, 0, 1, 2, 3, 4, 5, 6, 7, 8, 9] rfl (fun _ => rfl) [0] rfl (va_recv hK hP (ci := 2) (q0 := 0) rfl rfl) rfl hl.1 rfl (Nat.le_of_ble_eq_true rfl) rfl rfl ⟨(Nat.le_of_ble_eq_true rfl), (Nat.le_of_ble_eq_true rfl)⟩ dX2_raise_11 (fun r u H locs hw hP hD hS => ?_)
  exact fin r u H locs 0 0 14 ls dX2_raise_14 hw hP hD hS (Nat.le_of_ble_eq_true rfl) (Nat.le_of_ble_eq_true rfl)
abbrev rm_X2_drain : Room := { frames := 3, cells := 0, slots := 0, locals := 70 }
set_option maxHeartbeats 4000000 in
set_option maxRecDepth 100000 in
theorem c_X2_drain (l : Launch) (D : va_G) (cI : ClassId) (h : Nat) (ad : Nat → Nat) (thr : Int32) (hei wat dam wea dra peo rai num flo lak row : Nat → Int32) (x y v : Int32) : ct_i (S := Int32 × (Nat → Int32)) l D yX2_drain wsX2_drain rm_X2_drain [.ref h, .int x, .int y, .int v] (mW h ad cI thr hei wat dam wea dra peo rai num flo lak row) [(cI, .int)] (fun r u => (¬ inC x y ∧ u.1 = 1 ∧ u.2 = dra) ∨ (inC x y ∧ ¬ (0 ≤ v ∧ v ≤ 9) ∧ u.1 = 2 ∧ u.2 = dra) ∨ (inC x y ∧ (0 ≤ v ∧ v ≤ 9) ∧ u.1 = 0 ∧ r = dra (q_at x y) ∧ u.2 = upd dra (q_at x y) v)) (fun u => (mW h ad cI u.1 hei wat dam wea u.2 peo rai num flo lak row)) := by
  refine ct_ofi (cc := cX2_drain) (maxL := 4) (by decide) rfl (Nat.le_of_ble_eq_true rfl) ?_
  intro p e s m args below meth c A Q hx hb hml hown hts hin hA hK H locs hP hD hS fin ls hl
  have hown : s.vm.findClass RX2 = some m.cls := hown
  have hl : lv_has ls 4 [(0, .ref h), (1, .int x), (2, .int y), (3, .int v)] := hl
  refine lv_aload_n hx hb dX2_drain_0 rfl (lv_at hl 0 rfl) ?_
  refine lv_aload_n hx hb dX2_drain_1 rfl (lv_at hl 0 rfl) ?_
  refine va_get (D := D) (ci := 2) (v := .ref (ad 5)) (C := RX2) (T := TX2) (N := 12) hx hb hts (fun _ h9 => (List.mem_cons_of_mem _ (List.mem_append_right _ h9))) hown hK hP 0 rfl rfl 5 (by decide) (hts (Cond.fieldLink RX2 22 "FloodGridModel" "drains" "[I") (List.mem_of_getElem? (i := 1) rfl)) (fun _ h9 => h9) rfl dX2_drain_2 ?_
  refine lv_iload_n hx hb dX2_drain_5 rfl (lv_at hl 1 rfl) ?_
  refine lv_iload_n hx hb dX2_drain_6 rfl (lv_at hl 2 rfl) ?_
  refine lv_iload_n hx hb dX2_drain_7 rfl (lv_at hl 3 rfl) ?_
  refine lv_iconst (v := 0) hx hb dX2_drain_8 (by decide) ?_
  refine lv_bipush (v := 9) hx hb dX2_drain_9 (by decide) ?_
  refine ct_Vi (As := [.ref (ad 5), .int x, .int y, .int v, .int 0, .int 9]) (rest := []) (wr := [((ad 1), .inl (cI, 64, .inl hei)), ((ad 2), .inl (cI, 64, .inl wat)), ((ad 3), .inl (cI, 64, .inl dam)), ((ad 4), .inl (cI, 64, .inl wea)), ((ad 6), .inl (cI, 64, .inl peo)), ((ad 7), .inl (cI, 12, .inl rai)), ((ad 8), .inl (cI, 4, .inl num)), ((ad 9), .inl (cI, 64, .inl flo)), ((ad 10), .inl (cI, 64, .inl lak)), ((ad 11), .inl (cI, 64, .inl row))]) (W1 := fun u => (mW h ad cI u.1 hei wat dam wea u.2 peo rai num flo lak row)) (cells1 := 0) (slots1 := 0) ⟨hx, hb, hml, hown, hts⟩ (c_X2_set l D cI h ad thr (ad 5) dra x y v 0 9) (cwV 6 hts gX2_drain_X2_set rfl rfl rfl (by decide +kernel) ⟨Nat.le_of_ble_eq_true rfl, Nat.le_of_ble_eq_true rfl⟩) hK hP hD hS hA [0, 5] [1, 2, 3, 4, 6, 7, 8, 9, 10, 11] ⟨rfl, rfl, rfl, rfl, rfl⟩ [10, 0, 1, 2, 3, 11, 4, 5, 6, 7, 8, 9] rfl (fun _ => rfl) [0] rfl (va_recv hK hP (ci := 2) (q0 := 0) rfl rfl) rfl hl.1 rfl (Nat.le_of_ble_eq_true rfl) rfl rfl ⟨(Nat.le_of_ble_eq_true rfl), (Nat.le_of_ble_eq_true rfl)⟩ dX2_drain_11 (fun r u H locs hw hP hD hS => ?_)
  exact fin r u H locs 0 0 14 ls dX2_drain_14 hw hP hD hS (Nat.le_of_ble_eq_true rfl) (Nat.le_of_ble_eq_true rfl)
abbrev rm_X2_settle : Room := { frames := 3, cells := 0, slots := 0, locals := 70 }
set_option maxHeartbeats 4000000 in
set_option maxRecDepth 100000 in
theorem c_X2_settle (l : Launch) (D : va_G) (cI : ClassId) (h : Nat) (ad : Nat → Nat) (thr : Int32) (hei wat dam wea dra peo rai num flo lak row : Nat → Int32) (x y v : Int32) : ct_i (S := Int32 × (Nat → Int32)) l D yX2_settle wsX2_settle rm_X2_settle [.ref h, .int x, .int y, .int v] (mW h ad cI thr hei wat dam wea dra peo rai num flo lak row) [(cI, .int)] (fun r u => (¬ inC x y ∧ u.1 = 1 ∧ u.2 = peo) ∨ (inC x y ∧ ¬ (0 ≤ v ∧ v ≤ 90) ∧ u.1 = 2 ∧ u.2 = peo) ∨ (inC x y ∧ (0 ≤ v ∧ v ≤ 90) ∧ u.1 = 0 ∧ r = peo (q_at x y) ∧ u.2 = upd peo (q_at x y) v)) (fun u => (mW h ad cI u.1 hei wat dam wea dra u.2 rai num flo lak row)) := by
  refine ct_ofi (cc := cX2_settle) (maxL := 4) (by decide) rfl (Nat.le_of_ble_eq_true rfl) ?_
  intro p e s m args below meth c A Q hx hb hml hown hts hin hA hK H locs hP hD hS fin ls hl
  have hown : s.vm.findClass RX2 = some m.cls := hown
  have hl : lv_has ls 4 [(0, .ref h), (1, .int x), (2, .int y), (3, .int v)] := hl
  refine lv_aload_n hx hb dX2_settle_0 rfl (lv_at hl 0 rfl) ?_
  refine lv_aload_n hx hb dX2_settle_1 rfl (lv_at hl 0 rfl) ?_
  refine va_get (D := D) (ci := 2) (v := .ref (ad 6)) (C := RX2) (T := TX2) (N := 12) hx hb hts (fun _ h9 => (List.mem_cons_of_mem _ (List.mem_append_right _ h9))) hown hK hP 0 rfl rfl 6 (by decide) (hts (Cond.fieldLink RX2 25 "FloodGridModel" "towns" "[I") (List.mem_of_getElem? (i := 1) rfl)) (fun _ h9 => h9) rfl dX2_settle_2 ?_
  refine lv_iload_n hx hb dX2_settle_5 rfl (lv_at hl 1 rfl) ?_
  refine lv_iload_n hx hb dX2_settle_6 rfl (lv_at hl 2 rfl) ?_
  refine lv_iload_n hx hb dX2_settle_7 rfl (lv_at hl 3 rfl) ?_
  refine lv_iconst (v := 0) hx hb dX2_settle_8 (by decide) ?_
  refine lv_bipush (v := 90) hx hb dX2_settle_9 (by decide) ?_
  refine ct_Vi (As := [.ref (ad 6), .int x, .int y, .int v, .int 0, .int 90]) (rest := []) (wr := [((ad 1), .inl (cI, 64, .inl hei)), ((ad 2), .inl (cI, 64, .inl wat)), ((ad 3), .inl (cI, 64, .inl dam)), ((ad 4), .inl (cI, 64, .inl wea)), ((ad 5), .inl (cI, 64, .inl dra)), ((ad 7), .inl (cI, 12, .inl rai)), ((ad 8), .inl (cI, 4, .inl num)), ((ad 9), .inl (cI, 64, .inl flo)), ((ad 10), .inl (cI, 64, .inl lak)), ((ad 11), .inl (cI, 64, .inl row))]) (W1 := fun u => (mW h ad cI u.1 hei wat dam wea dra u.2 rai num flo lak row)) (cells1 := 0) (slots1 := 0) ⟨hx, hb, hml, hown, hts⟩ (c_X2_set l D cI h ad thr (ad 6) peo x y v 0 90) (cwV 6 hts gX2_settle_X2_set rfl rfl rfl (by decide +kernel) ⟨Nat.le_of_ble_eq_true rfl, Nat.le_of_ble_eq_true rfl⟩) hK hP hD hS hA [0, 6] [1, 2, 3, 4, 5, 7, 8, 9, 10, 11] ⟨rfl, rfl, rfl, rfl, rfl⟩ [10, 0, 1, 2, 3, 4, 11, 5, 6, 7, 8, 9] rfl (fun _ => rfl) [0] rfl (va_recv hK hP (ci := 2) (q0 := 0) rfl rfl) rfl hl.1 rfl (Nat.le_of_ble_eq_true rfl) rfl rfl ⟨(Nat.le_of_ble_eq_true rfl), (Nat.le_of_ble_eq_true rfl)⟩ dX2_settle_11 (fun r u H locs hw hP hD hS => ?_)
  exact fin r u H locs 0 0 14 ls dX2_settle_14 hw hP hD hS (Nat.le_of_ble_eq_true rfl) (Nat.le_of_ble_eq_true rfl)
abbrev rm_X2_dam : Room := { frames := 3, cells := 0, slots := 0, locals := 70 }
set_option maxHeartbeats 4000000 in
set_option maxRecDepth 100000 in
theorem c_X2_dam (l : Launch) (D : va_G) (cI : ClassId) (h : Nat) (ad : Nat → Nat) (thr : Int32) (hei wat dam wea dra peo rai num flo lak row : Nat → Int32) (x y v : Int32) : ct_i (S := Int32 × (Nat → Int32) × (Nat → Int32)) l D yX2_dam wsX2_dam rm_X2_dam [.ref h, .int x, .int y, .int v] (mW h ad cI thr hei wat dam wea dra peo rai num flo lak row) [(cI, .int)] (fun r u => (¬ inC x y ∧ u.1 = 1 ∧ u.2.1 = dam ∧ u.2.2 = wea) ∨ (inC x y ∧ ¬ (0 ≤ v ∧ v ≤ 20) ∧ u.1 = 2 ∧ u.2.1 = dam ∧ u.2.2 = wea) ∨ (inC x y ∧ (0 ≤ v ∧ v ≤ 20) ∧ u.1 = 0 ∧ r = dam (q_at x y) ∧ u.2.1 = upd dam (q_at x y) v ∧ u.2.2 = upd wea (q_at x y) 0)) (fun u => (mW h ad cI u.1 hei wat u.2.1 u.2.2 dra peo rai num flo lak row)) := by
  refine ct_ofi (cc := cX2_dam) (maxL := 5) (by decide) rfl (Nat.le_of_ble_eq_true rfl) ?_
  intro p e s m args below meth c A Q hx hb hml hown hts hin hA hK H locs hP hD hS fin ls hl
  have hown : s.vm.findClass RX2 = some m.cls := hown
  have hl : lv_has ls 5 [(0, .ref h), (1, .int x), (2, .int y), (3, .int v)] := hl
  refine lv_aload_n hx hb dX2_dam_0 rfl (lv_at hl 0 rfl) ?_
  refine lv_aload_n hx hb dX2_dam_1 rfl (lv_at hl 0 rfl) ?_
  refine va_get (D := D) (ci := 2) (v := .ref (ad 3)) (C := RX2) (T := TX2) (N := 12) hx hb hts (fun _ h9 => (List.mem_cons_of_mem _ (List.mem_append_right _ h9))) hown hK hP 0 rfl rfl 3 (by decide) (hts (Cond.fieldLink RX2 16 "FloodGridModel" "dams" "[I") (List.mem_of_getElem? (i := 1) rfl)) (fun _ h9 => h9) rfl dX2_dam_2 ?_
  refine lv_iload_n hx hb dX2_dam_5 rfl (lv_at hl 1 rfl) ?_
  refine lv_iload_n hx hb dX2_dam_6 rfl (lv_at hl 2 rfl) ?_
  refine lv_iload_n hx hb dX2_dam_7 rfl (lv_at hl 3 rfl) ?_
  refine lv_iconst (v := 0) hx hb dX2_dam_8 (by decide) ?_
  refine lv_bipush (v := 20) hx hb dX2_dam_9 (by decide) ?_
  refine ct_Vi (As := [.ref (ad 3), .int x, .int y, .int v, .int 0, .int 20]) (rest := []) (wr := [((ad 1), .inl (cI, 64, .inl hei)), ((ad 2), .inl (cI, 64, .inl wat)), ((ad 4), .inl (cI, 64, .inl wea)), ((ad 5), .inl (cI, 64, .inl dra)), ((ad 6), .inl (cI, 64, .inl peo)), ((ad 7), .inl (cI, 12, .inl rai)), ((ad 8), .inl (cI, 4, .inl num)), ((ad 9), .inl (cI, 64, .inl flo)), ((ad 10), .inl (cI, 64, .inl lak)), ((ad 11), .inl (cI, 64, .inl row))]) (W1 := fun u => (mW h ad cI u.1 hei wat u.2 wea dra peo rai num flo lak row)) (cells1 := 0) (slots1 := 0) ⟨hx, hb, hml, hown, hts⟩ (c_X2_set l D cI h ad thr (ad 3) dam x y v 0 20) (cwV 6 hts gX2_dam_X2_set rfl rfl rfl (by decide +kernel) ⟨Nat.le_of_ble_eq_true rfl, Nat.le_of_ble_eq_true rfl⟩) hK hP hD hS hA [0, 3] [1, 2, 4, 5, 6, 7, 8, 9, 10, 11] ⟨rfl, rfl, rfl, rfl, rfl⟩ [10, 0, 1, 11, 2, 3, 4, 5, 6, 7, 8, 9] rfl (fun _ => rfl) [0] rfl (va_recv hK hP (ci := 2) (q0 := 0) rfl rfl) rfl hl.1 rfl (Nat.le_of_ble_eq_true rfl) rfl rfl ⟨(Nat.le_of_ble_eq_true rfl), (Nat.le_of_ble_eq_true rfl)⟩ dX2_dam_11 (fun r u H locs hw hP hD hS => ?_)
  refine lv_istore (lv' := [(4, .int r), (0, .ref h), (1, .int x), (2, .int y), (3, .int v)]) hx hb dX2_dam_14 hl (by decide) rfl (fun ls hl => ?_)
  refine lv_aload_n hx hb dX2_dam_16 rfl (lv_at hl 1 rfl) ?_
  refine va_get (D := D) (ci := 2) (v := .int u.1) (C := RX2) (T := TX2) (N := 12) hx hb hts (fun _ h9 => (List.mem_cons_of_mem _ (List.mem_append_right _ h9))) hown hK hP 0 rfl rfl 0 (by decide) (hts (Cond.fieldLink RX2 43 "FloodGridModel" "thrown" "I") (List.mem_of_getElem? (i := 2) rfl)) (fun _ h9 => h9) rfl dX2_dam_17 ?_
  refine lv_if_ne (tgt := 35) hx hb dX2_dam_20 (by decide) (fun hc => ?_) (fun hc => ?_)
  · skip
    refine lv_iload hx hb dX2_dam_35 (lv_at hl 0 rfl) ?_
    exact fin r (u.1, u.2, wea) H locs 0 0 37 ls dX2_dam_37 (by rcases hw with ⟨a1, a2, a3⟩ | ⟨a1, a2, a3, a4⟩ | ⟨a1, a2, a3, a4, a5⟩; exact Or.inl ⟨a1, a2, a3, rfl⟩; exact Or.inr (Or.inl ⟨a1, a2, a3, a4, rfl⟩); exact absurd a3 hc) hP hD hS (Nat.le_of_ble_eq_true rfl) (Nat.le_of_ble_eq_true rfl)
  · skip
    have h3 : inC x y ∧ (0 ≤ v ∧ v ≤ 20) ∧ u.1 = 0 ∧ r = dam (q_at x y) ∧ u.2 = upd dam (q_at x y) v := by
      rcases hw with ⟨a1, a2, a3⟩ | ⟨a1, a2, a3, a4⟩ | a
      · rw [a2] at hc; exact absurd hc (by decide)
      · rw [a3] at hc; exact absurd hc (by decide)
      · exact a
    have hin : inC x y := h3.1
    have hat := q_at_lt hin
    refine lv_aload_n hx hb dX2_dam_23 rfl (lv_at hl 1 rfl) ?_
    refine va_get (D := D) (ci := 2) (v := .ref (ad 4)) (C := RX2) (T := TX2) (N := 12) hx hb hts (fun _ h9 => (List.mem_cons_of_mem _ (List.mem_append_right _ h9))) hown hK hP 0 rfl rfl 4 (by decide) (hts (Cond.fieldLink RX2 19 "FloodGridModel" "wear" "[I") (List.mem_of_getElem? (i := 3) rfl)) (fun _ h9 => h9) rfl dX2_dam_24 ?_
    refine lv_bipush (v := 8) hx hb dX2_dam_27 (by decide) ?_
    refine lv_iload_n hx hb dX2_dam_29 rfl (lv_at hl 3 rfl) ?_
    refine lv_imul hx hb dX2_dam_30 ?_
    refine lv_iload_n hx hb dX2_dam_31 rfl (lv_at hl 2 rfl) ?_
    refine lv_iadd hx hb dX2_dam_32 ?_
    refine lv_iconst (v := 0) hx hb dX2_dam_33 (by decide) ?_
    refine ct_iast (g := upd wea (q_at x y) 0) (ws1 := (mW h ad cI u.1 hei wat u.2 (upd wea (q_at x y) 0) dra peo rai num flo lak row)) hx hb hK hP hD hS 4 0 rfl rfl (q_at x y) (q_at_eq hin) hat (by decide) rfl rfl dX2_dam_34 (fun H locs hP hD hS => ?_)
    refine lv_iload hx hb dX2_dam_35 (lv_at hl 0 rfl) ?_
    exact fin r (u.1, u.2, upd wea (q_at x y) 0) H locs 0 0 37 ls dX2_dam_37 (Or.inr (Or.inr ⟨h3.1, h3.2.1, h3.2.2.1, h3.2.2.2.1, h3.2.2.2.2, rfl⟩)) hP hD hS (Nat.le_of_ble_eq_true rfl) (Nat.le_of_ble_eq_true rfl)
abbrev rm_X2_pour : Room := { frames := 2, cells := 0, slots := 0, locals := 43 }
set_option maxHeartbeats 4000000 in
set_option maxRecDepth 100000 in
theorem c_X2_pour (l : Launch) (D : va_G) (cI : ClassId) (h : Nat) (ad : Nat → Nat) (thr : Int32) (hei wat dam wea dra peo rai num flo lak row : Nat → Int32) (x y v : Int32) : ct_i (S := Int32 × (Nat → Int32)) l D yX2_pour wsX2_pour rm_X2_pour [.ref h, .int x, .int y, .int v] (mW h ad cI thr hei wat dam wea dra peo rai num flo lak row) [(cI, .int)] (fun r u => (¬ inC x y ∧ u.1 = 1 ∧ u.2 = wat) ∨ (inC x y ∧ ¬ ((-99) ≤ v ∧ v ≤ 99) ∧ u.1 = 2 ∧ u.2 = wat) ∨ (inC x y ∧ ((-99) ≤ v ∧ v ≤ 99) ∧ u.1 = 0 ∧ r = (i_max 0 (wat (q_at x y) + v)) ∧ u.2 = upd wat (q_at x y) (i_max 0 (wat (q_at x y) + v)))) (fun u => (mW h ad cI u.1 hei u.2 dam wea dra peo rai num flo lak row)) := by
  refine ct_ofi (cc := cX2_pour) (maxL := 4) (by decide) rfl (Nat.le_of_ble_eq_true rfl) ?_
  intro p e s m args below meth c A Q hx hb hml hown hts hin hA hK H locs hP hD hS fin ls hl
  have hown : s.vm.findClass RX2 = some m.cls := hown
  have hl : lv_has ls 4 [(0, .ref h), (1, .int x), (2, .int y), (3, .int v)] := hl
  refine lv_aload_n hx hb dX2_pour_0 rfl (lv_at hl 0 rfl) ?_
  refine lv_iload_n hx hb dX2_pour_1 rfl (lv_at hl 1 rfl) ?_
  refine lv_iload_n hx hb dX2_pour_2 rfl (lv_at hl 2 rfl) ?_
  refine ct_Si (As := [.int x, .int y]) (rest := [.ref h]) (wr := [(h, .inr (2, [.int thr, .ref (ad 1), .ref (ad 2), .ref (ad 3), .ref (ad 4), .ref (ad 5), .ref (ad 6), .ref (ad 7), .ref (ad 8), .ref (ad 9), .ref (ad 10), .ref (ad 11)])), ((ad 1), .inl (cI, 64, .inl hei)), ((ad 2), .inl (cI, 64, .inl wat)), ((ad 3), .inl (cI, 64, .inl dam)), ((ad 4), .inl (cI, 64, .inl wea)), ((ad 5), .inl (cI, 64, .inl dra)), ((ad 6), .inl (cI, 64, .inl peo)), ((ad 7), .inl (cI, 12, .inl rai)), ((ad 8), .inl (cI, 4, .inl num)), ((ad 9), .inl (cI, 64, .inl flo)), ((ad 10), .inl (cI, 64, .inl lak)), ((ad 11), .inl (cI, 64, .inl row))]) (W1 := fun u => (mW h ad cI thr hei wat dam wea dra peo rai num flo lak row)) (cells1 := 0) (slots1 := 0) ⟨hx, hb, hml, hown, hts⟩ (c_isCell l D cI x y) (va_cwS 2 hts gX2_pour_X2_isCell rfl rfl rfl (by decide +kernel) ⟨Nat.le_of_ble_eq_true rfl, Nat.le_of_ble_eq_true rfl⟩) hK hP hD hS hA [] [0, 1, 2, 3, 4, 5, 6, 7, 8, 9, 10, 11] ⟨rfl, rfl, rfl, rfl, rfl⟩ [0, 1, 2, 3, 4, 5, 6, 7, 8, 9, 10, 11] rfl (fun _ => rfl) [0] rfl rfl hl.1 rfl (Nat.le_of_ble_eq_true rfl) rfl rfl ⟨(Nat.le_of_ble_eq_true rfl), (Nat.le_of_ble_eq_true rfl)⟩ dX2_pour_3 (fun r u H locs hw hP hD hS => ?_)
  subst hw
  refine lv_if_ne (tgt := 13) hx hb dX2_pour_6 (by decide) (fun hc => ?_) (fun hc => ?_)
  · skip
    have hin : inC x y := b_v_1 hc
    have hat := q_at_lt hin
    refine lv_iload_n hx hb dX2_pour_13 rfl (lv_at hl 3 rfl) ?_
    refine lv_bipush (v := (-99)) hx hb dX2_pour_14 (by decide) ?_
    refine lv_bipush (v := 99) hx hb dX2_pour_16 (by decide) ?_
    refine ct_Si (As := [.int v, .int (-99), .int 99]) (rest := [.ref h]) (wr := [(h, .inr (2, [.int thr, .ref (ad 1), .ref (ad 2), .ref (ad 3), .ref (ad 4), .ref (ad 5), .ref (ad 6), .ref (ad 7), .ref (ad 8), .ref (ad 9), .ref (ad 10), .ref (ad 11)])), ((ad 1), .inl (cI, 64, .inl hei)), ((ad 2), .inl (cI, 64, .inl wat)), ((ad 3), .inl (cI, 64, .inl dam)), ((ad 4), .inl (cI, 64, .inl wea)), ((ad 5), .inl (cI, 64, .inl dra)), ((ad 6), .inl (cI, 64, .inl peo)), ((ad 7), .inl (cI, 12, .inl rai)), ((ad 8), .inl (cI, 4, .inl num)), ((ad 9), .inl (cI, 64, .inl flo)), ((ad 10), .inl (cI, 64, .inl lak)), ((ad 11), .inl (cI, 64, .inl row))]) (W1 := fun u => (mW h ad cI thr hei wat dam wea dra peo rai num flo lak row)) (cells1 := 0) (slots1 := 0) ⟨hx, hb, hml, hown, hts⟩ (c_isIn l D cI v (-99) 99) (va_cwS 3 hts gX2_pour_X2_isIn rfl rfl rfl (by decide +kernel) ⟨Nat.le_of_ble_eq_true rfl, Nat.le_of_ble_eq_true rfl⟩) hK hP hD hS hA [] [0, 1, 2, 3, 4, 5, 6, 7, 8, 9, 10, 11] ⟨rfl, rfl, rfl, rfl, rfl⟩ [0, 1, 2, 3, 4, 5, 6, 7, 8, 9, 10, 11] rfl (fun _ => rfl) [0] rfl rfl hl.1 rfl (Nat.le_of_ble_eq_true rfl) rfl rfl ⟨(Nat.le_of_ble_eq_true rfl), (Nat.le_of_ble_eq_true rfl)⟩ dX2_pour_18 (fun r u H locs hw hP hD hS => ?_)
    subst hw
    refine lv_if_ne (tgt := 28) hx hb dX2_pour_21 (by decide) (fun hc2 => ?_) (fun hc2 => ?_)
    · skip
      refine lv_iconst (v := 0) hx hb dX2_pour_28 (by decide) ?_
      refine va_put (D := D) (ci := 2) (v := .int 0) (ty := .int) (C := RX2) (T := TX2) (N := 12) hx hb hts (fun _ h9 => (List.mem_cons_of_mem _ (List.mem_append_right _ h9))) tyX2 tyX2_ok nmX2 hown hK hP hD hS 0 rfl rfl 0 (by decide) (hts (Cond.fieldLink RX2 43 "FloodGridModel" "thrown" "I") (List.mem_of_getElem? (i := 1) rfl)) (fun _ h9 => h9) rfl (by decide +kernel) rfl rfl (Nat.le_of_ble_eq_true rfl) dX2_pour_29 (fun H locs hP hD hS => ?_)
      have hP : va_P D vwCl (mW h ad cI 0 hei wat dam wea dra peo rai num flo lak row) H := hP
      have hD : va_D A (mW h ad cI 0 hei wat dam wea dra peo rai num flo lak row) := hD
      refine lv_aload_n hx hb dX2_pour_32 rfl (lv_at hl 0 rfl) ?_
      refine va_get (D := D) (ci := 2) (v := .int 0) (C := RX2) (T := TX2) (N := 12) hx hb hts (fun _ h9 => (List.mem_cons_of_mem _ (List.mem_append_right _ h9))) hown hK hP 0 rfl rfl 0 (by decide) (hts (Cond.fieldLink RX2 43 "FloodGridModel" "thrown" "I") (List.mem_of_getElem? (i := 1) rfl)) (fun _ h9 => h9) rfl dX2_pour_33 ?_
      refine lv_if_eq (tgt := 41) hx hb dX2_pour_36 (by decide) (fun ht => ?_) (fun ht => ?_)
      · skip
        refine lv_aload_n hx hb dX2_pour_41 rfl (lv_at hl 0 rfl) ?_
        refine va_get (D := D) (ci := 2) (v := .ref (ad 2)) (C := RX2) (T := TX2) (N := 12) hx hb hts (fun _ h9 => (List.mem_cons_of_mem _ (List.mem_append_right _ h9))) hown hK hP 0 rfl rfl 2 (by decide) (hts (Cond.fieldLink RX2 13 "FloodGridModel" "water" "[I") (List.mem_of_getElem? (i := 2) rfl)) (fun _ h9 => h9) rfl dX2_pour_42 ?_
        refine lv_bipush (v := 8) hx hb dX2_pour_45 (by decide) ?_
        refine lv_iload_n hx hb dX2_pour_47 rfl (lv_at hl 2 rfl) ?_
        refine lv_imul hx hb dX2_pour_48 ?_
        refine lv_iload_n hx hb dX2_pour_49 rfl (lv_at hl 1 rfl) ?_
        refine lv_iadd hx hb dX2_pour_50 ?_
        refine lv_iconst (v := 0) hx hb dX2_pour_51 (by decide) ?_
        refine lv_aload_n hx hb dX2_pour_52 rfl (lv_at hl 0 rfl) ?_
        refine va_get (D := D) (ci := 2) (v := .ref (ad 2)) (C := RX2) (T := TX2) (N := 12) hx hb hts (fun _ h9 => (List.mem_cons_of_mem _ (List.mem_append_right _ h9))) hown hK hP 0 rfl rfl 2 (by decide) (hts (Cond.fieldLink RX2 13 "FloodGridModel" "water" "[I") (List.mem_of_getElem? (i := 2) rfl)) (fun _ h9 => h9) rfl dX2_pour_53 ?_
        refine lv_bipush (v := 8) hx hb dX2_pour_56 (by decide) ?_
        refine lv_iload_n hx hb dX2_pour_58 rfl (lv_at hl 2 rfl) ?_
        refine lv_imul hx hb dX2_pour_59 ?_
        refine lv_iload_n hx hb dX2_pour_60 rfl (lv_at hl 1 rfl) ?_
        refine lv_iadd hx hb dX2_pour_61 ?_
        refine ct_iald (v := wat (q_at x y)) hx hb hK hP 2 0 rfl rfl (q_at x y) (q_at_eq hin) hat (by decide) rfl dX2_pour_62 ?_
        refine lv_iload_n hx hb dX2_pour_63 rfl (lv_at hl 3 rfl) ?_
        refine lv_iadd hx hb dX2_pour_64 ?_
        refine ct_mmax (v := (i_max 0 (wat (q_at x y) + v))) hx hb (hml.trans hl.1.symm) hown (hts (Cond.methodLink RX2 59 Lib.Math.max.name) (List.mem_of_getElem? (i := 3) rfl)) (hts (Cond.static Lib.Math.max.name) (List.mem_of_getElem? (i := 4) rfl)) (hts (Cond.initialized "java/lang/Math") (List.mem_of_getElem? (i := 5) rfl)) (hts (Cond.code Lib.Math.max.name Lib.Math.max.code 2 (some .int)) (List.mem_of_getElem? (i := 6) rfl)) (Nat.le_of_ble_eq_true rfl) (Nat.le_of_ble_eq_true rfl) (Nat.le_of_ble_eq_true rfl) (Nat.le_of_ble_eq_true rfl) rfl dX2_pour_65 ?_
        refine ct_iast (g := upd wat (q_at x y) (i_max 0 (wat (q_at x y) + v))) (ws1 := (mW h ad cI 0 hei (upd wat (q_at x y) (i_max 0 (wat (q_at x y) + v))) dam wea dra peo rai num flo lak row)) hx hb hK hP hD hS 2 0 rfl rfl (q_at x y) (q_at_eq hin) hat (by decide) rfl rfl dX2_pour_68 (fun H locs hP hD hS => ?_)
        refine lv_aload_n hx hb dX2_pour_69 rfl (lv_at hl 0 rfl) ?_
        refine va_get (D := D) (ci := 2) (v := .ref (ad 2)) (C := RX2) (T := TX2) (N := 12) hx hb hts (fun _ h9 => (List.mem_cons_of_mem _ (List.mem_append_right _ h9))) hown hK hP 0 rfl rfl 2 (by decide) (hts (Cond.fieldLink RX2 13 "FloodGridModel" "water" "[I") (List.mem_of_getElem? (i := 2) rfl)) (fun _ h9 => h9) rfl dX2_pour_70 ?_
        refine lv_bipush (v := 8) hx hb dX2_pour_73 (by decide) ?_
        refine lv_iload_n hx hb dX2_pour_75 rfl (lv_at hl 2 rfl) ?_
        refine lv_imul hx hb dX2_pour_76 ?_
        refine lv_iload_n hx hb dX2_pour_77 rfl (lv_at hl 1 rfl) ?_
        refine lv_iadd hx hb dX2_pour_78 ?_
        refine ct_iald (v := (upd wat (q_at x y) (i_max 0 (wat (q_at x y) + v))) (q_at x y)) hx hb hK hP 2 0 rfl rfl (q_at x y) (q_at_eq hin) hat (by decide) rfl dX2_pour_79 ?_
        exact fin ((upd wat (q_at x y) (i_max 0 (wat (q_at x y) + v))) (q_at x y)) (0, upd wat (q_at x y) (i_max 0 (wat (q_at x y) + v))) H locs 0 0 80 ls dX2_pour_80 (Or.inr (Or.inr ⟨hin, b_v_1 hc2, rfl, pk_us, rfl⟩)) hP hD hS (Nat.le_of_ble_eq_true rfl) (Nat.le_of_ble_eq_true rfl)
      · skip
        exact absurd rfl ht
    · skip
      refine lv_iconst (v := 2) hx hb dX2_pour_24 (by decide) ?_
      refine lv_goto (tgt := 29) hx hb dX2_pour_25 (by decide) ?_
      refine va_put (D := D) (ci := 2) (v := .int 2) (ty := .int) (C := RX2) (T := TX2) (N := 12) hx hb hts (fun _ h9 => (List.mem_cons_of_mem _ (List.mem_append_right _ h9))) tyX2 tyX2_ok nmX2 hown hK hP hD hS 0 rfl rfl 0 (by decide) (hts (Cond.fieldLink RX2 43 "FloodGridModel" "thrown" "I") (List.mem_of_getElem? (i := 1) rfl)) (fun _ h9 => h9) rfl (by decide +kernel) rfl rfl (Nat.le_of_ble_eq_true rfl) dX2_pour_29 (fun H locs hP hD hS => ?_)
      have hP : va_P D vwCl (mW h ad cI 2 hei wat dam wea dra peo rai num flo lak row) H := hP
      have hD : va_D A (mW h ad cI 2 hei wat dam wea dra peo rai num flo lak row) := hD
      refine lv_aload_n hx hb dX2_pour_32 rfl (lv_at hl 0 rfl) ?_
      refine va_get (D := D) (ci := 2) (v := .int 2) (C := RX2) (T := TX2) (N := 12) hx hb hts (fun _ h9 => (List.mem_cons_of_mem _ (List.mem_append_right _ h9))) hown hK hP 0 rfl rfl 0 (by decide) (hts (Cond.fieldLink RX2 43 "FloodGridModel" "thrown" "I") (List.mem_of_getElem? (i := 1) rfl)) (fun _ h9 => h9) rfl dX2_pour_33 ?_
      refine lv_if_eq (tgt := 41) hx hb dX2_pour_36 (by decide) (fun ht => ?_) (fun ht => ?_)
      · skip
        exact absurd ht (by decide)
      · skip
        refine lv_iconst (v := 0) hx hb dX2_pour_39 (by decide) ?_
        exact fin 0 (2, wat) H locs 0 0 40 ls dX2_pour_40 (Or.inr (Or.inl ⟨hin, b_v_0 hc2, rfl, rfl⟩)) hP hD hS (Nat.le_of_ble_eq_true rfl) (Nat.le_of_ble_eq_true rfl)
  · skip
    refine lv_iconst (v := 1) hx hb dX2_pour_9 (by decide) ?_
    refine lv_goto (tgt := 29) hx hb dX2_pour_10 (by decide) ?_
    refine va_put (D := D) (ci := 2) (v := .int 1) (ty := .int) (C := RX2) (T := TX2) (N := 12) hx hb hts (fun _ h9 => (List.mem_cons_of_mem _ (List.mem_append_right _ h9))) tyX2 tyX2_ok nmX2 hown hK hP hD hS 0 rfl rfl 0 (by decide) (hts (Cond.fieldLink RX2 43 "FloodGridModel" "thrown" "I") (List.mem_of_getElem? (i := 1) rfl)) (fun _ h9 => h9) rfl (by decide +kernel) rfl rfl (Nat.le_of_ble_eq_true rfl) dX2_pour_29 (fun H locs hP hD hS => ?_)
    have hP : va_P D vwCl (mW h ad cI 1 hei wat dam wea dra peo rai num flo lak row) H := hP
    have hD : va_D A (mW h ad cI 1 hei wat dam wea dra peo rai num flo lak row) := hD
    refine lv_aload_n hx hb dX2_pour_32 rfl (lv_at hl 0 rfl) ?_
    refine va_get (D := D) (ci := 2) (v := .int 1) (C := RX2) (T := TX2) (N := 12) hx hb hts (fun _ h9 => (List.mem_cons_of_mem _ (List.mem_append_right _ h9))) hown hK hP 0 rfl rfl 0 (by decide) (hts (Cond.fieldLink RX2 43 "FloodGridModel" "thrown" "I") (List.mem_of_getElem? (i := 1) rfl)) (fun _ h9 => h9) rfl dX2_pour_33 ?_
    refine lv_if_eq (tgt := 41) hx hb dX2_pour_36 (by decide) (fun ht => ?_) (fun ht => ?_)
    · skip
      exact absurd ht (by decide)
    · skip
      refine lv_iconst (v := 0) hx hb dX2_pour_39 (by decide) ?_
      exact fin 0 (1, wat) H locs 0 0 40 ls dX2_pour_40 (Or.inl ⟨b_v_0 hc, rfl, rfl⟩) hP hD hS (Nat.le_of_ble_eq_true rfl) (Nat.le_of_ble_eq_true rfl)
abbrev rm_X2_setRain : Room := { frames := 1, cells := 0, slots := 0, locals := 22 }
set_option maxHeartbeats 4000000 in
set_option maxRecDepth 100000 in
theorem c_X2_setRain (l : Launch) (D : va_G) (cI : ClassId) (h : Nat) (ad : Nat → Nat) (thr : Int32) (hei wat dam wea dra peo rai num flo lak row : Nat → Int32) (x v : Int32) : ct_i (S := Int32 × (Nat → Int32)) l D yX2_setRain wsX2_setRain rm_X2_setRain [.ref h, .int x, .int v] (mW h ad cI thr hei wat dam wea dra peo rai num flo lak row) [(cI, .int)] (fun r u => (¬ (0 ≤ x ∧ x ≤ 11) ∧ u.1 = 1 ∧ u.2 = rai) ∨ ((0 ≤ x ∧ x ≤ 11) ∧ ¬ (0 ≤ v ∧ v ≤ 9) ∧ u.1 = 2 ∧ u.2 = rai) ∨ ((0 ≤ x ∧ x ≤ 11) ∧ (0 ≤ v ∧ v ≤ 9) ∧ u.1 = 0 ∧ r = rai x.toNatClampNeg ∧ u.2 = upd rai x.toNatClampNeg v)) (fun u => (mW h ad cI u.1 hei wat dam wea dra peo u.2 num flo lak row)) := by
  refine ct_ofi (cc := cX2_setRain) (maxL := 4) (by decide) rfl (Nat.le_of_ble_eq_true rfl) ?_
  intro p e s m args below meth c A Q hx hb hml hown hts hin hA hK H locs hP hD hS fin ls hl
  have hown : s.vm.findClass RX2 = some m.cls := hown
  have hl : lv_has ls 4 [(0, .ref h), (1, .int x), (2, .int v)] := hl
  refine lv_aload_n hx hb dX2_setRain_0 rfl (lv_at hl 0 rfl) ?_
  refine lv_iconst (v := 0) hx hb dX2_setRain_1 (by decide) ?_
  refine va_put (D := D) (ci := 2) (v := .int 0) (ty := .int) (C := RX2) (T := TX2) (N := 12) hx hb hts (fun _ h9 => (List.mem_cons_of_mem _ (List.mem_append_right _ h9))) tyX2 tyX2_ok nmX2 hown hK hP hD hS 0 rfl rfl 0 (by decide) (hts (Cond.fieldLink RX2 43 "FloodGridModel" "thrown" "I") (List.mem_of_getElem? (i := 1) rfl)) (fun _ h9 => h9) rfl (by decide +kernel) rfl rfl (Nat.le_of_ble_eq_true rfl) dX2_setRain_2 (fun H locs hP hD hS => ?_)
  have hP : va_P D vwCl (mW h ad cI 0 hei wat dam wea dra peo rai num flo lak row) H := hP
  have hD : va_D A (mW h ad cI 0 hei wat dam wea dra peo rai num flo lak row) := hD
  refine lv_iload_n hx hb dX2_setRain_5 rfl (lv_at hl 1 rfl) ?_
  refine lv_iconst (v := 0) hx hb dX2_setRain_6 (by decide) ?_
  refine lv_bipush (v := 11) hx hb dX2_setRain_7 (by decide) ?_
  refine ct_Si (As := [.int x, .int 0, .int 11]) (rest := []) (wr := [(h, .inr (2, [.int 0, .ref (ad 1), .ref (ad 2), .ref (ad 3), .ref (ad 4), .ref (ad 5), .ref (ad 6), .ref (ad 7), .ref (ad 8), .ref (ad 9), .ref (ad 10), .ref (ad 11)])), ((ad 1), .inl (cI, 64, .inl hei)), ((ad 2), .inl (cI, 64, .inl wat)), ((ad 3), .inl (cI, 64, .inl dam)), ((ad 4), .inl (cI, 64, .inl wea)), ((ad 5), .inl (cI, 64, .inl dra)), ((ad 6), .inl (cI, 64, .inl peo)), ((ad 7), .inl (cI, 12, .inl rai)), ((ad 8), .inl (cI, 4, .inl num)), ((ad 9), .inl (cI, 64, .inl flo)), ((ad 10), .inl (cI, 64, .inl lak)), ((ad 11), .inl (cI, 64, .inl row))]) (W1 := fun u => (mW h ad cI 0 hei wat dam wea dra peo rai num flo lak row)) (cells1 := 0) (slots1 := 0) ⟨hx, hb, hml, hown, hts⟩ (c_isIn l D cI x 0 11) (va_cwS 3 hts gX2_setRain_X2_isIn rfl rfl rfl (by decide +kernel) ⟨Nat.le_of_ble_eq_true rfl, Nat.le_of_ble_eq_true rfl⟩) hK hP hD hS hA [] [0, 1, 2, 3, 4, 5, 6, 7, 8, 9, 10, 11] ⟨rfl, rfl, rfl, rfl, rfl⟩ [0, 1, 2, 3, 4, 5, 6, 7, 8, 9, 10, 11] rfl (fun _ => rfl) [0] rfl rfl hl.1 rfl (Nat.le_of_ble_eq_true rfl) rfl rfl ⟨(Nat.le_of_ble_eq_true rfl), (Nat.le_of_ble_eq_true rfl)⟩ dX2_setRain_9 (fun r u H locs hw hP hD hS => ?_)
  subst hw
  refine lv_if_ne (tgt := 21) hx hb dX2_setRain_12 (by decide) (fun hc => ?_) (fun hc => ?_)
  · skip
    refine lv_iload_n hx hb dX2_setRain_21 rfl (lv_at hl 2 rfl) ?_
    refine lv_iconst (v := 0) hx hb dX2_setRain_22 (by decide) ?_
    refine lv_bipush (v := 9) hx hb dX2_setRain_23 (by decide) ?_
    refine ct_Si (As := [.int v, .int 0, .int 9]) (rest := []) (wr := [(h, .inr (2, [.int 0, .ref (ad 1), .ref (ad 2), .ref (ad 3), .ref (ad 4), .ref (ad 5), .ref (ad 6), .ref (ad 7), .ref (ad 8), .ref (ad 9), .ref (ad 10), .ref (ad 11)])), ((ad 1), .inl (cI, 64, .inl hei)), ((ad 2), .inl (cI, 64, .inl wat)), ((ad 3), .inl (cI, 64, .inl dam)), ((ad 4), .inl (cI, 64, .inl wea)), ((ad 5), .inl (cI, 64, .inl dra)), ((ad 6), .inl (cI, 64, .inl peo)), ((ad 7), .inl (cI, 12, .inl rai)), ((ad 8), .inl (cI, 4, .inl num)), ((ad 9), .inl (cI, 64, .inl flo)), ((ad 10), .inl (cI, 64, .inl lak)), ((ad 11), .inl (cI, 64, .inl row))]) (W1 := fun u => (mW h ad cI 0 hei wat dam wea dra peo rai num flo lak row)) (cells1 := 0) (slots1 := 0) ⟨hx, hb, hml, hown, hts⟩ (c_isIn l D cI v 0 9) (va_cwS 3 hts gX2_setRain_X2_isIn rfl rfl rfl (by decide +kernel) ⟨Nat.le_of_ble_eq_true rfl, Nat.le_of_ble_eq_true rfl⟩) hK hP hD hS hA [] [0, 1, 2, 3, 4, 5, 6, 7, 8, 9, 10, 11] ⟨rfl, rfl, rfl, rfl, rfl⟩ [0, 1, 2, 3, 4, 5, 6, 7, 8, 9, 10, 11] rfl (fun _ => rfl) [0] rfl rfl hl.1 rfl (Nat.le_of_ble_eq_true rfl) rfl rfl ⟨(Nat.le_of_ble_eq_true rfl), (Nat.le_of_ble_eq_true rfl)⟩ dX2_setRain_25 (fun r u H locs hw hP hD hS => ?_)
    subst hw
    refine lv_if_ne (tgt := 37) hx hb dX2_setRain_28 (by decide) (fun hc2 => ?_) (fun hc2 => ?_)
    · skip
      have h11 := q_n7 (b_v_1 hc).1 (n := 11) rfl (by decide) (b_v_1 hc).2
      refine lv_aload_n hx hb dX2_setRain_37 rfl (lv_at hl 0 rfl) ?_
      refine va_get (D := D) (ci := 2) (v := .ref (ad 7)) (C := RX2) (T := TX2) (N := 12) hx hb hts (fun _ h9 => (List.mem_cons_of_mem _ (List.mem_append_right _ h9))) hown hK hP 0 rfl rfl 7 (by decide) (hts (Cond.fieldLink RX2 28 "FloodGridModel" "table" "[I") (List.mem_of_getElem? (i := 2) rfl)) (fun _ h9 => h9) rfl dX2_setRain_38 ?_
      refine lv_iload_n hx hb dX2_setRain_41 rfl (lv_at hl 1 rfl) ?_
      refine ct_iald (v := rai x.toNatClampNeg) hx hb hK hP 7 0 rfl rfl x.toNatClampNeg h11.1 (Nat.lt_succ_of_le h11.2) (by decide) rfl dX2_setRain_42 ?_
      refine lv_istore_n (lv' := [(3, .int (rai x.toNatClampNeg)), (0, .ref h), (1, .int x), (2, .int v)]) hx hb dX2_setRain_43 rfl hl (by decide) rfl (fun ls hl => ?_)
      refine lv_aload_n hx hb dX2_setRain_44 rfl (lv_at hl 1 rfl) ?_
      refine va_get (D := D) (ci := 2) (v := .ref (ad 7)) (C := RX2) (T := TX2) (N := 12) hx hb hts (fun _ h9 => (List.mem_cons_of_mem _ (List.mem_append_right _ h9))) hown hK hP 0 rfl rfl 7 (by decide) (hts (Cond.fieldLink RX2 28 "FloodGridModel" "table" "[I") (List.mem_of_getElem? (i := 2) rfl)) (fun _ h9 => h9) rfl dX2_setRain_45 ?_
      refine lv_iload_n hx hb dX2_setRain_48 rfl (lv_at hl 2 rfl) ?_
      refine lv_iload_n hx hb dX2_setRain_49 rfl (lv_at hl 3 rfl) ?_
      refine ct_iast (g := upd rai x.toNatClampNeg v) (ws1 := (mW h ad cI 0 hei wat dam wea dra peo (upd rai x.toNatClampNeg v) num flo lak row)) hx hb hK hP hD hS 7 0 rfl rfl x.toNatClampNeg h11.1 (Nat.lt_succ_of_le h11.2) (by decide) rfl rfl dX2_setRain_50 (fun H locs hP hD hS => ?_)
      refine lv_iload_n hx hb dX2_setRain_51 rfl (lv_at hl 0 rfl) ?_
      exact fin (rai x.toNatClampNeg) (0, upd rai x.toNatClampNeg v) H locs 0 0 52 ls dX2_setRain_52 (Or.inr (Or.inr ⟨b_v_1 hc, b_v_1 hc2, rfl, rfl, rfl⟩)) hP hD hS (Nat.le_of_ble_eq_true rfl) (Nat.le_of_ble_eq_true rfl)
    · skip
      refine lv_aload_n hx hb dX2_setRain_31 rfl (lv_at hl 0 rfl) ?_
      refine lv_iconst (v := 2) hx hb dX2_setRain_32 (by decide) ?_
      refine ct_Vi (As := [.int 2]) (rest := []) (wr := []) (W1 := fun u => (mW h ad cI 2 hei wat dam wea dra peo rai num flo lak row)) (cells1 := 0) (slots1 := 0) ⟨hx, hb, hml, hown, hts⟩ (c_X2_fail l D cI h ad 0 hei wat dam wea dra peo rai num flo lak row 2) (cwV 1 hts gX2_setRain_X2_fail rfl rfl rfl (by decide +kernel) ⟨Nat.le_of_ble_eq_true rfl, Nat.le_of_ble_eq_true rfl⟩) hK hP hD hS hA [0, 1, 2, 3, 4, 5, 6, 7, 8, 9, 10, 11] [] ⟨rfl, rfl, rfl, rfl, rfl⟩ [0, 1, 2, 3, 4, 5, 6, 7, 8, 9, 10, 11] rfl (fun _ => rfl) [0] rfl (va_recv hK hP (ci := 2) (q0 := 0) rfl rfl) rfl hl.1 rfl (Nat.le_of_ble_eq_true rfl) rfl rfl ⟨(Nat.le_of_ble_eq_true rfl), (Nat.le_of_ble_eq_true rfl)⟩ dX2_setRain_33 (fun r u H locs hw hP hD hS => ?_)
      exact fin r (2, rai) H locs 0 0 36 ls dX2_setRain_36 (Or.inr (Or.inl ⟨b_v_1 hc, b_v_0 hc2, rfl, rfl⟩)) hP hD hS (Nat.le_of_ble_eq_true rfl) (Nat.le_of_ble_eq_true rfl)
  · skip
    refine lv_aload_n hx hb dX2_setRain_15 rfl (lv_at hl 0 rfl) ?_
    refine lv_iconst (v := 1) hx hb dX2_setRain_16 (by decide) ?_
    refine ct_Vi (As := [.int 1]) (rest := []) (wr := []) (W1 := fun u => (mW h ad cI 1 hei wat dam wea dra peo rai num flo lak row)) (cells1 := 0) (slots1 := 0) ⟨hx, hb, hml, hown, hts⟩ (c_X2_fail l D cI h ad 0 hei wat dam wea dra peo rai num flo lak row 1) (cwV 1 hts gX2_setRain_X2_fail rfl rfl rfl (by decide +kernel) ⟨Nat.le_of_ble_eq_true rfl, Nat.le_of_ble_eq_true rfl⟩) hK hP hD hS hA [0, 1, 2, 3, 4, 5, 6, 7, 8, 9, 10, 11] [] ⟨rfl, rfl, rfl, rfl, rfl⟩ [0, 1, 2, 3, 4, 5, 6, 7, 8, 9, 10, 11] rfl (fun _ => rfl) [0] rfl (va_recv hK hP (ci := 2) (q0 := 0) rfl rfl) rfl hl.1 rfl (Nat.le_of_ble_eq_true rfl) rfl rfl ⟨(Nat.le_of_ble_eq_true rfl), (Nat.le_of_ble_eq_true rfl)⟩ dX2_setRain_17 (fun r u H locs hw hP hD hS => ?_)
    exact fin r (1, rai) H locs 0 0 20 ls dX2_setRain_20 (Or.inl ⟨b_v_0 hc, rfl, rfl⟩) hP hD hS (Nat.le_of_ble_eq_true rfl) (Nat.le_of_ble_eq_true rfl)
abbrev rm_X2_cell : Room := { frames := 3, cells := 0, slots := 0, locals := 64 }
set_option maxHeartbeats 4000000 in
set_option maxRecDepth 100000 in
theorem c_X2_cell (l : Launch) (D : va_G) (cI : ClassId) (h : Nat) (ad : Nat → Nat) (thr : Int32) (hei wat dam wea dra peo rai num flo lak row : Nat → Int32) (x y v : Int32) : ct_i (S := Int32) l D yX2_cell wsX2_cell rm_X2_cell [.ref h, .int x, .int y, .int v] (mW h ad cI thr hei wat dam wea dra peo rai num flo lak row) [(cI, .int)] (fun r u => (¬ (inC x y ∧ (0 ≤ v ∧ v ≤ 7)) ∧ u = 1) ∨ ((inC x y ∧ (0 ≤ v ∧ v ≤ 7)) ∧ u = 0 ∧ r = q_cell hei wat dam wea dra peo (q_at x y) v.toNatClampNeg)) (fun u => (mW h ad cI u hei wat dam wea dra peo rai num flo lak row)) := by
  refine ct_ofi (cc := cX2_cell) (maxL := 4) (by decide) rfl (Nat.le_of_ble_eq_true rfl) ?_
  intro p e s m args below meth c A Q hx hb hml hown hts hin hA hK H locs hP hD hS fin ls hl
  have hown : s.vm.findClass RX2 = some m.cls := hown
  have hl : lv_has ls 4 [(0, .ref h), (1, .int x), (2, .int y), (3, .int v)] := hl
  refine lv_aload_n hx hb dX2_cell_0 rfl (lv_at hl 0 rfl) ?_
  refine lv_iconst (v := 0) hx hb dX2_cell_1 (by decide) ?_
  refine va_put (D := D) (ci := 2) (v := .int 0) (ty := .int) (C := RX2) (T := TX2) (N := 12) hx hb hts (fun _ h9 => (List.mem_cons_of_mem _ (List.mem_append_right _ h9))) tyX2 tyX2_ok nmX2 hown hK hP hD hS 0 rfl rfl 0 (by decide) (hts (Cond.fieldLink RX2 43 "FloodGridModel" "thrown" "I") (List.mem_of_getElem? (i := 1) rfl)) (fun _ h9 => h9) rfl (by decide +kernel) rfl rfl (Nat.le_of_ble_eq_true rfl) dX2_cell_2 (fun H locs hP hD hS => ?_)
  have hP : va_P D vwCl (mW h ad cI 0 hei wat dam wea dra peo rai num flo lak row) H := hP
  have hD : va_D A (mW h ad cI 0 hei wat dam wea dra peo rai num flo lak row) := hD
  refine lv_iload_n hx hb dX2_cell_5 rfl (lv_at hl 1 rfl) ?_
  refine lv_iload_n hx hb dX2_cell_6 rfl (lv_at hl 2 rfl) ?_
  refine ct_Si (As := [.int x, .int y]) (rest := []) (wr := [(h, .inr (2, [.int 0, .ref (ad 1), .ref (ad 2), .ref (ad 3), .ref (ad 4), .ref (ad 5), .ref (ad 6), .ref (ad 7), .ref (ad 8), .ref (ad 9), .ref (ad 10), .ref (ad 11)])), ((ad 1), .inl (cI, 64, .inl hei)), ((ad 2), .inl (cI, 64, .inl wat)), ((ad 3), .inl (cI, 64, .inl dam)), ((ad 4), .inl (cI, 64, .inl wea)), ((ad 5), .inl (cI, 64, .inl dra)), ((ad 6), .inl (cI, 64, .inl peo)), ((ad 7), .inl (cI, 12, .inl rai)), ((ad 8), .inl (cI, 4, .inl num)), ((ad 9), .inl (cI, 64, .inl flo)), ((ad 10), .inl (cI, 64, .inl lak)), ((ad 11), .inl (cI, 64, .inl row))]) (W1 := fun u => (mW h ad cI 0 hei wat dam wea dra peo rai num flo lak row)) (cells1 := 0) (slots1 := 0) ⟨hx, hb, hml, hown, hts⟩ (c_isCell l D cI x y) (va_cwS 2 hts gX2_cell_X2_isCell rfl rfl rfl (by decide +kernel) ⟨Nat.le_of_ble_eq_true rfl, Nat.le_of_ble_eq_true rfl⟩) hK hP hD hS hA [] [0, 1, 2, 3, 4, 5, 6, 7, 8, 9, 10, 11] ⟨rfl, rfl, rfl, rfl, rfl⟩ [0, 1, 2, 3, 4, 5, 6, 7, 8, 9, 10, 11] rfl (fun _ => rfl) [0] rfl rfl hl.1 rfl (Nat.le_of_ble_eq_true rfl) rfl rfl ⟨(Nat.le_of_ble_eq_true rfl), (Nat.le_of_ble_eq_true rfl)⟩ dX2_cell_7 (fun r u H locs hw hP hD hS => ?_)
  subst hw
  refine lv_if_eq (tgt := 37) hx hb dX2_cell_10 (by decide) (fun hc => ?_) (fun hc => ?_)
  · skip
    refine lv_aload_n hx hb dX2_cell_37 rfl (lv_at hl 0 rfl) ?_
    refine lv_iconst (v := 1) hx hb dX2_cell_38 (by decide) ?_
    refine ct_Vi (As := [.int 1]) (rest := []) (wr := []) (W1 := fun u => (mW h ad cI 1 hei wat dam wea dra peo rai num flo lak row)) (cells1 := 0) (slots1 := 0) ⟨hx, hb, hml, hown, hts⟩ (c_X2_fail l D cI h ad 0 hei wat dam wea dra peo rai num flo lak row 1) (cwV 1 hts gX2_cell_X2_fail rfl rfl rfl (by decide +kernel) ⟨Nat.le_of_ble_eq_true rfl, Nat.le_of_ble_eq_true rfl⟩) hK hP hD hS hA [0, 1, 2, 3, 4, 5, 6, 7, 8, 9, 10, 11] [] ⟨rfl, rfl, rfl, rfl, rfl⟩ [0, 1, 2, 3, 4, 5, 6, 7, 8, 9, 10, 11] rfl (fun _ => rfl) [0] rfl (va_recv hK hP (ci := 2) (q0 := 0) rfl rfl) rfl hl.1 rfl (Nat.le_of_ble_eq_true rfl) rfl rfl ⟨(Nat.le_of_ble_eq_true rfl), (Nat.le_of_ble_eq_true rfl)⟩ dX2_cell_39 (fun r u H locs hw hP hD hS => ?_)
    exact fin r 1 H locs 0 0 42 ls dX2_cell_42 (Or.inl ⟨fun z => b_v_0 hc z.1, rfl⟩) hP hD hS (Nat.le_of_ble_eq_true rfl) (Nat.le_of_ble_eq_true rfl)
  · skip
    refine lv_iload_n hx hb dX2_cell_13 rfl (lv_at hl 3 rfl) ?_
    refine lv_iconst (v := 0) hx hb dX2_cell_14 (by decide) ?_
    refine lv_bipush (v := 7) hx hb dX2_cell_15 (by decide) ?_
    refine ct_Si (As := [.int v, .int 0, .int 7]) (rest := []) (wr := [(h, .inr (2, [.int 0, .ref (ad 1), .ref (ad 2), .ref (ad 3), .ref (ad 4), .ref (ad 5), .ref (ad 6), .ref (ad 7), .ref (ad 8), .ref (ad 9), .ref (ad 10), .ref (ad 11)])), ((ad 1), .inl (cI, 64, .inl hei)), ((ad 2), .inl (cI, 64, .inl wat)), ((ad 3), .inl (cI, 64, .inl dam)), ((ad 4), .inl (cI, 64, .inl wea)), ((ad 5), .inl (cI, 64, .inl dra)), ((ad 6), .inl (cI, 64, .inl peo)), ((ad 7), .inl (cI, 12, .inl rai)), ((ad 8), .inl (cI, 4, .inl num)), ((ad 9), .inl (cI, 64, .inl flo)), ((ad 10), .inl (cI, 64, .inl lak)), ((ad 11), .inl (cI, 64, .inl row))]) (W1 := fun u => (mW h ad cI 0 hei wat dam wea dra peo rai num flo lak row)) (cells1 := 0) (slots1 := 0) ⟨hx, hb, hml, hown, hts⟩ (c_isIn l D cI v 0 7) (va_cwS 3 hts gX2_cell_X2_isIn rfl rfl rfl (by decide +kernel) ⟨Nat.le_of_ble_eq_true rfl, Nat.le_of_ble_eq_true rfl⟩) hK hP hD hS hA [] [0, 1, 2, 3, 4, 5, 6, 7, 8, 9, 10, 11] ⟨rfl, rfl, rfl, rfl, rfl⟩ [0, 1, 2, 3, 4, 5, 6, 7, 8, 9, 10, 11] rfl (fun _ => rfl) [0] rfl rfl hl.1 rfl (Nat.le_of_ble_eq_true rfl) rfl rfl ⟨(Nat.le_of_ble_eq_true rfl), (Nat.le_of_ble_eq_true rfl)⟩ dX2_cell_17 (fun r u H locs hw hP hD hS => ?_)
    subst hw
    refine lv_if_eq (tgt := 37) hx hb dX2_cell_20 (by decide) (fun hc2 => ?_) (fun hc2 => ?_)
    · skip
      refine lv_aload_n hx hb dX2_cell_37 rfl (lv_at hl 0 rfl) ?_
      refine lv_iconst (v := 1) hx hb dX2_cell_38 (by decide) ?_
      refine ct_Vi (As := [.int 1]) (rest := []) (wr := []) (W1 := fun u => (mW h ad cI 1 hei wat dam wea dra peo rai num flo lak row)) (cells1 := 0) (slots1 := 0) ⟨hx, hb, hml, hown, hts⟩ (c_X2_fail l D cI h ad 0 hei wat dam wea dra peo rai num flo lak row 1) (cwV 1 hts gX2_cell_X2_fail rfl rfl rfl (by decide +kernel) ⟨Nat.le_of_ble_eq_true rfl, Nat.le_of_ble_eq_true rfl⟩) hK hP hD hS hA [0, 1, 2, 3, 4, 5, 6, 7, 8, 9, 10, 11] [] ⟨rfl, rfl, rfl, rfl, rfl⟩ [0, 1, 2, 3, 4, 5, 6, 7, 8, 9, 10, 11] rfl (fun _ => rfl) [0] rfl (va_recv hK hP (ci := 2) (q0 := 0) rfl rfl) rfl hl.1 rfl (Nat.le_of_ble_eq_true rfl) rfl rfl ⟨(Nat.le_of_ble_eq_true rfl), (Nat.le_of_ble_eq_true rfl)⟩ dX2_cell_39 (fun r u H locs hw hP hD hS => ?_)
      exact fin r 1 H locs 0 0 42 ls dX2_cell_42 (Or.inl ⟨fun z => b_v_0 hc2 z.2, rfl⟩) hP hD hS (Nat.le_of_ble_eq_true rfl) (Nat.le_of_ble_eq_true rfl)
    · skip
      have hin : inC x y := b_v_1 hc
      have hat := q_at_lt hin
      have hv := b_v_1 hc2
      obtain ⟨e7, h7⟩ := q_n7 hv.1 (n := 7) rfl (by decide) hv.2
      refine lv_aload_n hx hb dX2_cell_23 rfl (lv_at hl 0 rfl) ?_
      refine lv_bipush (v := 8) hx hb dX2_cell_24 (by decide) ?_
      refine lv_iload_n hx hb dX2_cell_26 rfl (lv_at hl 2 rfl) ?_
      refine lv_imul hx hb dX2_cell_27 ?_
      refine lv_iload_n hx hb dX2_cell_28 rfl (lv_at hl 1 rfl) ?_
      refine lv_iadd hx hb dX2_cell_29 ?_
      refine lv_iload_n hx hb dX2_cell_30 rfl (lv_at hl 3 rfl) ?_
      rw [q_at_eq hin]
      generalize v.toNatClampNeg = k7 at e7 h7 fin
      subst e7
      refine ct_Vi (As := [.int (nI (q_at x y)), .int (nI k7)]) (rest := []) (wr := []) (W1 := fun u => (mW h ad cI 0 hei wat dam wea dra peo rai num flo lak row)) (cells1 := 0) (slots1 := 0) ⟨hx, hb, hml, hown, hts⟩ (c_X2_cellTold l D cI h ad 0 hei wat dam wea dra peo rai num flo lak row (q_at x y) hat k7 (by omega)) (cwV 2 hts gX2_cell_X2_cellTold rfl rfl rfl (by decide +kernel) ⟨Nat.le_of_ble_eq_true rfl, Nat.le_of_ble_eq_true rfl⟩) hK hP hD hS hA [0, 1, 2, 3, 4, 5, 6, 7, 8, 9, 10, 11] [] ⟨rfl, rfl, rfl, rfl, rfl⟩ [0, 1, 2, 3, 4, 5, 6, 7, 8, 9, 10, 11] rfl (fun _ => rfl) [0] rfl (va_recv hK hP (ci := 2) (q0 := 0) rfl rfl) rfl hl.1 rfl (Nat.le_of_ble_eq_true rfl) rfl rfl ⟨(Nat.le_of_ble_eq_true rfl), (Nat.le_of_ble_eq_true rfl)⟩ dX2_cell_31 (fun r u H locs hw hP hD hS => ?_)
      refine lv_goto (tgt := 42) hx hb dX2_cell_34 (by decide) ?_
      exact fin r 0 H locs 0 0 42 ls dX2_cell_42 (Or.inr ⟨⟨hin, hv⟩, rfl, hw⟩) hP hD hS (Nat.le_of_ble_eq_true rfl) (Nat.le_of_ble_eq_true rfl)
