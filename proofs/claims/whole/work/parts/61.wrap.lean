abbrev rm_L_raise : Room := { frames := 9, cells := 3, slots := 18, locals := 158 }
set_option maxHeartbeats 4000000 in
set_option maxRecDepth 100000 in
theorem c_L_raise (l : Launch) (hst : l.stackTraces = false) (D : va_G) (cI cL : ClassId) (sa1 sa2 : Nat) (g hn ha : Nat) (adn ada : Nat → Nat) (hei dra rai : Nat → Int32) (σ : Ms) (cre gai see fou : Nat → Int32) (z : Nat → Nat → Int32) (x y v : Int32) (o : Nat) (f : Nat → Int64) : cz_i (S := Option ((Unit) × (Nat → Int64))) l D yL_raise wsL_raise rm_L_raise [.ref g, .int x, .int y, .int v, .ref o] (fW g hn ha adn ada cI hei dra rai σ cre gai see fou z ++ oW o cL f) [(cI, .int), (cL, .long)] sa1 sa2 (z_post 1 2 (fun E => (E = "java/lang/IndexOutOfBoundsException" ∧ ¬ inC x y) ∨ (E = "java/lang/IllegalArgumentException" ∧ inC x y ∧ ¬ (0 ≤ v ∧ v ≤ 50))) (fun r (_ : Unit) => inC x y ∧ (0 ≤ v ∧ v ≤ 50) ∧ r = hei (q_at x y))) (z_wo (fW g hn ha adn ada cI hei dra rai σ cre gai see fou z) (fun _ => (fW g hn ha adn ada cI (upd hei (q_at x y) v) dra rai σ cre gai see fou z)) o cL f) := by
  refine cz_ofi (cc := cL_raise) (maxL := 6) (hh := [(0, 12, 15, 13), (0, 12, 19, 15)]) (by decide) rfl (Nat.le_of_ble_eq_true rfl) ?_
  intro p e s m args below meth c A Q hx hb hml hown hts htab hA hK hT H locs hP hD hS fin ls hl
  have hown : s.vm.findClass RL = some m.cls := hown
  have hl : lv_has ls 6 [(0, .ref g), (1, .int x), (2, .int y), (3, .int v), (4, .ref o)] := hl
  refine lv_aload hx hb dL_raise_0 (lv_at hl 4 rfl) ?_
  refine lv_iconst (v := 0) hx hb dL_raise_2 (by decide) ?_
  refine lv_aload_n hx hb dL_raise_3 rfl (lv_at hl 0 rfl) ?_
  refine lv_iload_n hx hb dL_raise_4 rfl (lv_at hl 1 rfl) ?_
  refine lv_iload_n hx hb dL_raise_5 rfl (lv_at hl 2 rfl) ?_
  refine lv_iload_n hx hb dL_raise_6 rfl (lv_at hl 3 rfl) ?_
  refine cx_Vi (As := [.int x, .int y, .int v]) (rest := [.int 0, .ref o]) (wr := oW o cL f) (W0 := fW g hn ha adn ada cI hei dra rai σ cre gai see fou z ++ oW o cL f) (W1 := fun u => (fun _ => (fW g hn ha adn ada cI (upd hei (q_at x y) v) dra rai σ cre gai see fou z)) u ++ oW o cL f) (cells1 := 3) (slots1 := 18) ⟨hx, hb, hml, hown, hts⟩ (c_X1_raise l hst D cI sa1 sa2 g hn ha adn ada hei dra rai σ cre gai see fou z x y v) (cwV 3 hts gL_raise_X1_raise rfl rfl rfl (by decide +kernel) ⟨Nat.le_of_ble_eq_true rfl, Nat.le_of_ble_eq_true rfl⟩) hK hP hD hS hA hT [0, 1, 2, 3, 4, 5, 6, 7, 8, 9, 10, 11, 12, 13, 14, 15, 16, 17, 18, 19, 20, 21, 22, 23, 24] [25] ⟨rfl, rfl, rfl, rfl, rfl⟩ [1, 2, 3, 4, 5, 6, 7, 8, 9, 10, 11, 12, 13, 14, 15, 16, 17, 18, 19, 20, 21, 22, 23, 24, 25, 0] rfl (fun _ => rfl) [1, 2, 3, 4, 5, 6, 7, 8, 9, 10, 11, 12, 13, 14, 15, 16, 17, 18, 19, 20, 21, 22, 23, 24, 25, 0] rfl rfl [0] rfl (va_recv hK hP (ci := 1) (q0 := 0) rfl rfl) rfl hl.1 rfl (Nat.le_of_ble_eq_true rfl) rfl rfl ⟨Nat.le_of_ble_eq_true rfl, Nat.le_of_ble_eq_true rfl⟩ dL_raise_7 (fun E ce q9 H locs hex hP hD hS hce hcv hcl => ?_) (fun r u H locs hw hP hD hS => ?_)
  · skip
    rcases hex with ⟨rfl, h1⟩ | ⟨rfl, h1⟩
    · skip
      refine vx_catch (own := RL) (name := "java/lang/IndexOutOfBoundsException") hown [] ⟨0, 12, 15, 13⟩ [⟨0, 12, 19, 15⟩] htab (fun z hz => nomatch hz) rfl (by decide) (hts (Cond.classLink RL 13 "java/lang/IndexOutOfBoundsException") (List.mem_of_getElem? (i := 1) rfl)) (va_any rfl hT.1.2.2.1) hce hcv hcl ?_
      refine lv_astore (lv' := [(5, .ref q9), (0, .ref g), (1, .int x), (2, .int y), (3, .int v), (4, .ref o)]) hx hb dL_raise_15 hl (by decide) rfl (fun ls hl => ?_)
      refine lv_iconst (v := 1) hx hb dL_raise_17 (by decide) ?_
      exact fin 1 none H locs 3 18 18 ls dL_raise_18 (Or.inl ⟨rfl, Or.inl ⟨rfl, h1⟩⟩) hP hD hS (Nat.le_of_ble_eq_true rfl) (Nat.le_of_ble_eq_true rfl)
    · skip
      refine vx_catch (own := RL) (name := "java/lang/IllegalArgumentException") hown [⟨0, 12, 15, 13⟩] ⟨0, 12, 19, 15⟩ [] htab (fun z hz => by cases List.mem_singleton.mp hz; exact Or.inr ⟨by decide, _, (hts (Cond.classLink RL 13 "java/lang/IndexOutOfBoundsException") (List.mem_of_getElem? (i := 1) rfl)), hT.1.2.2.2.2.2.2.2.1⟩) rfl (by decide) (hts (Cond.classLink RL 15 "java/lang/IllegalArgumentException") (List.mem_of_getElem? (i := 2) rfl)) (va_any rfl hT.1.2.2.2.1) hce hcv hcl ?_
      refine lv_astore (lv' := [(5, .ref q9), (0, .ref g), (1, .int x), (2, .int y), (3, .int v), (4, .ref o)]) hx hb dL_raise_19 hl (by decide) rfl (fun ls hl => ?_)
      refine lv_iconst (v := 2) hx hb dL_raise_21 (by decide) ?_
      exact fin 2 none H locs 3 18 22 ls dL_raise_22 (Or.inr ⟨rfl, Or.inr ⟨rfl, h1⟩⟩) hP hD hS (Nat.le_of_ble_eq_true rfl) (Nat.le_of_ble_eq_true rfl)
  · skip
    refine lv_i2l (v := Int32.toInt64 r) hx hb dL_raise_10 rfl ?_
    refine va_last (cl := vwCl) hx hb hK hP hD hS 25 1 rfl rfl z_in0 dL_raise_11 (fun H locs hP hD hS => ?_)
    refine lv_goto (tgt := 23) hx hb dL_raise_12 (by decide) ?_
    refine lv_iconst (v := 0) hx hb dL_raise_23 (by decide) ?_
    exact fin 0 (some (u, vp_updL f (Int32.toNatClampNeg 0) r.toInt64)) H locs 3 18 24 ls dL_raise_24 ⟨rfl, r, hw, z_f0⟩ hP hD hS (Nat.le_of_ble_eq_true rfl) (Nat.le_of_ble_eq_true rfl)
abbrev rm_L_pour : Room := { frames := 9, cells := 3, slots := 18, locals := 157 }
set_option maxHeartbeats 4000000 in
set_option maxRecDepth 100000 in
theorem c_L_pour (l : Launch) (hst : l.stackTraces = false) (D : va_G) (cI cL : ClassId) (sa1 sa2 : Nat) (g hn ha : Nat) (adn ada : Nat → Nat) (hei dra rai : Nat → Int32) (σ : Ms) (cre gai see fou : Nat → Int32) (z : Nat → Nat → Int32) (x y v : Int32) (o : Nat) (f : Nat → Int64) : cz_i (S := Option ((Unit) × (Nat → Int64))) l D yL_pour wsL_pour rm_L_pour [.ref g, .int x, .int y, .int v, .ref o] (fW g hn ha adn ada cI hei dra rai σ cre gai see fou z ++ oW o cL f) [(cI, .int), (cL, .long)] sa1 sa2 (z_post 1 2 (fun E => (E = "java/lang/IndexOutOfBoundsException" ∧ ¬ inC x y) ∨ (E = "java/lang/IllegalArgumentException" ∧ inC x y ∧ ¬ ((-99) ≤ v ∧ v ≤ 99))) (fun r (_ : Unit) => inC x y ∧ ((-99) ≤ v ∧ v ≤ 99) ∧ r = (i_max 0 (m_wat σ (q_at x y) + v)))) (z_wo (fW g hn ha adn ada cI hei dra rai σ cre gai see fou z) (fun _ => (fW g hn ha adn ada cI hei dra rai (upd (m_wat σ) (q_at x y) (i_max 0 (m_wat σ (q_at x y) + v)), m_dam σ, m_wea σ, m_peo σ, m_t σ, m_bro σ, m_drd σ, m_lef σ) cre gai see fou z)) o cL f) := by
  refine cz_ofi (cc := cL_pour) (maxL := 6) (hh := [(0, 12, 15, 13), (0, 12, 19, 15)]) (by decide) rfl (Nat.le_of_ble_eq_true rfl) ?_
  intro p e s m args below meth c A Q hx hb hml hown hts htab hA hK hT H locs hP hD hS fin ls hl
  have hown : s.vm.findClass RL = some m.cls := hown
  have hl : lv_has ls 6 [(0, .ref g), (1, .int x), (2, .int y), (3, .int v), (4, .ref o)] := hl
  refine lv_aload hx hb dL_pour_0 (lv_at hl 4 rfl) ?_
  refine lv_iconst (v := 0) hx hb dL_pour_2 (by decide) ?_
  refine lv_aload_n hx hb dL_pour_3 rfl (lv_at hl 0 rfl) ?_
  refine lv_iload_n hx hb dL_pour_4 rfl (lv_at hl 1 rfl) ?_
  refine lv_iload_n hx hb dL_pour_5 rfl (lv_at hl 2 rfl) ?_
  refine lv_iload_n hx hb dL_pour_6 rfl (lv_at hl 3 rfl) ?_
  refine cx_Vi (As := [.int x, .int y, .int v]) (rest := [.int 0, .ref o]) (wr := oW o cL f) (W0 := fW g hn ha adn ada cI hei dra rai σ cre gai see fou z ++ oW o cL f) (W1 := fun u => (fun _ => (fW g hn ha adn ada cI hei dra rai (upd (m_wat σ) (q_at x y) (i_max 0 (m_wat σ (q_at x y) + v)), m_dam σ, m_wea σ, m_peo σ, m_t σ, m_bro σ, m_drd σ, m_lef σ) cre gai see fou z)) u ++ oW o cL f) (cells1 := 3) (slots1 := 18) ⟨hx, hb, hml, hown, hts⟩ (c_X1_pour l hst D cI sa1 sa2 g hn ha adn ada hei dra rai σ cre gai see fou z x y v) (cwV 3 hts gL_pour_X1_pour rfl rfl rfl (by decide +kernel) ⟨Nat.le_of_ble_eq_true rfl, Nat.le_of_ble_eq_true rfl⟩) hK hP hD hS hA hT [0, 1, 2, 3, 4, 5, 6, 7, 8, 9, 10, 11, 12, 13, 14, 15, 16, 17, 18, 19, 20, 21, 22, 23, 24] [25] ⟨rfl, rfl, rfl, rfl, rfl⟩ [1, 2, 3, 4, 5, 6, 7, 8, 9, 10, 11, 12, 13, 14, 15, 16, 17, 18, 19, 20, 21, 22, 23, 24, 25, 0] rfl (fun _ => rfl) [1, 2, 3, 4, 5, 6, 7, 8, 9, 10, 11, 12, 13, 14, 15, 16, 17, 18, 19, 20, 21, 22, 23, 24, 25, 0] rfl rfl [0] rfl (va_recv hK hP (ci := 1) (q0 := 0) rfl rfl) rfl hl.1 rfl (Nat.le_of_ble_eq_true rfl) rfl rfl ⟨Nat.le_of_ble_eq_true rfl, Nat.le_of_ble_eq_true rfl⟩ dL_pour_7 (fun E ce q9 H locs hex hP hD hS hce hcv hcl => ?_) (fun r u H locs hw hP hD hS => ?_)
  · skip
    rcases hex with ⟨rfl, h1⟩ | ⟨rfl, h1⟩
    · skip
      refine vx_catch (own := RL) (name := "java/lang/IndexOutOfBoundsException") hown [] ⟨0, 12, 15, 13⟩ [⟨0, 12, 19, 15⟩] htab (fun z hz => nomatch hz) rfl (by decide) (hts (Cond.classLink RL 13 "java/lang/IndexOutOfBoundsException") (List.mem_of_getElem? (i := 1) rfl)) (va_any rfl hT.1.2.2.1) hce hcv hcl ?_
      refine lv_astore (lv' := [(5, .ref q9), (0, .ref g), (1, .int x), (2, .int y), (3, .int v), (4, .ref o)]) hx hb dL_pour_15 hl (by decide) rfl (fun ls hl => ?_)
      refine lv_iconst (v := 1) hx hb dL_pour_17 (by decide) ?_
      exact fin 1 none H locs 3 18 18 ls dL_pour_18 (Or.inl ⟨rfl, Or.inl ⟨rfl, h1⟩⟩) hP hD hS (Nat.le_of_ble_eq_true rfl) (Nat.le_of_ble_eq_true rfl)
    · skip
      refine vx_catch (own := RL) (name := "java/lang/IllegalArgumentException") hown [⟨0, 12, 15, 13⟩] ⟨0, 12, 19, 15⟩ [] htab (fun z hz => by cases List.mem_singleton.mp hz; exact Or.inr ⟨by decide, _, (hts (Cond.classLink RL 13 "java/lang/IndexOutOfBoundsException") (List.mem_of_getElem? (i := 1) rfl)), hT.1.2.2.2.2.2.2.2.1⟩) rfl (by decide) (hts (Cond.classLink RL 15 "java/lang/IllegalArgumentException") (List.mem_of_getElem? (i := 2) rfl)) (va_any rfl hT.1.2.2.2.1) hce hcv hcl ?_
      refine lv_astore (lv' := [(5, .ref q9), (0, .ref g), (1, .int x), (2, .int y), (3, .int v), (4, .ref o)]) hx hb dL_pour_19 hl (by decide) rfl (fun ls hl => ?_)
      refine lv_iconst (v := 2) hx hb dL_pour_21 (by decide) ?_
      exact fin 2 none H locs 3 18 22 ls dL_pour_22 (Or.inr ⟨rfl, Or.inr ⟨rfl, h1⟩⟩) hP hD hS (Nat.le_of_ble_eq_true rfl) (Nat.le_of_ble_eq_true rfl)
  · skip
    refine lv_i2l (v := Int32.toInt64 r) hx hb dL_pour_10 rfl ?_
    refine va_last (cl := vwCl) hx hb hK hP hD hS 25 1 rfl rfl z_in0 dL_pour_11 (fun H locs hP hD hS => ?_)
    refine lv_goto (tgt := 23) hx hb dL_pour_12 (by decide) ?_
    refine lv_iconst (v := 0) hx hb dL_pour_23 (by decide) ?_
    exact fin 0 (some (u, vp_updL f (Int32.toNatClampNeg 0) r.toInt64)) H locs 3 18 24 ls dL_pour_24 ⟨rfl, r, hw, z_f0⟩ hP hD hS (Nat.le_of_ble_eq_true rfl) (Nat.le_of_ble_eq_true rfl)
abbrev rm_L_dam : Room := { frames := 9, cells := 3, slots := 18, locals := 158 }
set_option maxHeartbeats 4000000 in
set_option maxRecDepth 100000 in
theorem c_L_dam (l : Launch) (hst : l.stackTraces = false) (D : va_G) (cI cL : ClassId) (sa1 sa2 : Nat) (g hn ha : Nat) (adn ada : Nat → Nat) (hei dra rai : Nat → Int32) (σ : Ms) (cre gai see fou : Nat → Int32) (z : Nat → Nat → Int32) (x y v : Int32) (o : Nat) (f : Nat → Int64) : cz_i (S := Option ((Unit) × (Nat → Int64))) l D yL_dam wsL_dam rm_L_dam [.ref g, .int x, .int y, .int v, .ref o] (fW g hn ha adn ada cI hei dra rai σ cre gai see fou z ++ oW o cL f) [(cI, .int), (cL, .long)] sa1 sa2 (z_post 1 2 (fun E => (E = "java/lang/IndexOutOfBoundsException" ∧ ¬ inC x y) ∨ (E = "java/lang/IllegalArgumentException" ∧ inC x y ∧ ¬ (0 ≤ v ∧ v ≤ 20))) (fun r (_ : Unit) => inC x y ∧ (0 ≤ v ∧ v ≤ 20) ∧ r = (m_dam σ) (q_at x y))) (z_wo (fW g hn ha adn ada cI hei dra rai σ cre gai see fou z) (fun _ => (fW g hn ha adn ada cI hei dra rai (q_with σ (q_at x y) v) cre gai see fou z)) o cL f) := by
  refine cz_ofi (cc := cL_dam) (maxL := 6) (hh := [(0, 12, 15, 13), (0, 12, 19, 15)]) (by decide) rfl (Nat.le_of_ble_eq_true rfl) ?_
  intro p e s m args below meth c A Q hx hb hml hown hts htab hA hK hT H locs hP hD hS fin ls hl
  have hown : s.vm.findClass RL = some m.cls := hown
  have hl : lv_has ls 6 [(0, .ref g), (1, .int x), (2, .int y), (3, .int v), (4, .ref o)] := hl
  refine lv_aload hx hb dL_dam_0 (lv_at hl 4 rfl) ?_
  refine lv_iconst (v := 0) hx hb dL_dam_2 (by decide) ?_
  refine lv_aload_n hx hb dL_dam_3 rfl (lv_at hl 0 rfl) ?_
  refine lv_iload_n hx hb dL_dam_4 rfl (lv_at hl 1 rfl) ?_
  refine lv_iload_n hx hb dL_dam_5 rfl (lv_at hl 2 rfl) ?_
  refine lv_iload_n hx hb dL_dam_6 rfl (lv_at hl 3 rfl) ?_
  refine cx_Vi (As := [.int x, .int y, .int v]) (rest := [.int 0, .ref o]) (wr := oW o cL f) (W0 := fW g hn ha adn ada cI hei dra rai σ cre gai see fou z ++ oW o cL f) (W1 := fun u => (fun _ => (fW g hn ha adn ada cI hei dra rai (q_with σ (q_at x y) v) cre gai see fou z)) u ++ oW o cL f) (cells1 := 3) (slots1 := 18) ⟨hx, hb, hml, hown, hts⟩ (c_X1_dam l hst D cI sa1 sa2 g hn ha adn ada hei dra rai σ cre gai see fou z x y v) (cwV 3 hts gL_dam_X1_dam rfl rfl rfl (by decide +kernel) ⟨Nat.le_of_ble_eq_true rfl, Nat.le_of_ble_eq_true rfl⟩) hK hP hD hS hA hT [0, 1, 2, 3, 4, 5, 6, 7, 8, 9, 10, 11, 12, 13, 14, 15, 16, 17, 18, 19, 20, 21, 22, 23, 24] [25] ⟨rfl, rfl, rfl, rfl, rfl⟩ [1, 2, 3, 4, 5, 6, 7, 8, 9, 10, 11, 12, 13, 14, 15, 16, 17, 18, 19, 20, 21, 22, 23, 24, 25, 0] rfl (fun _ => rfl) [1, 2, 3, 4, 5, 6, 7, 8, 9, 10, 11, 12, 13, 14, 15, 16, 17, 18, 19, 20, 21, 22, 23, 24, 25, 0] rfl rfl [0] rfl (va_recv hK hP (ci := 1) (q0 := 0) rfl rfl) rfl hl.1 rfl (Nat.le_of_ble_eq_true rfl) rfl rfl ⟨Nat.le_of_ble_eq_true rfl, Nat.le_of_ble_eq_true rfl⟩ dL_dam_7 (fun E ce q9 H locs hex hP hD hS hce hcv hcl => ?_) (fun r u H locs hw hP hD hS => ?_)
  · skip
    rcases hex with ⟨rfl, h1⟩ | ⟨rfl, h1⟩
    · skip
      refine vx_catch (own := RL) (name := "java/lang/IndexOutOfBoundsException") hown [] ⟨0, 12, 15, 13⟩ [⟨0, 12, 19, 15⟩] htab (fun z hz => nomatch hz) rfl (by decide) (hts (Cond.classLink RL 13 "java/lang/IndexOutOfBoundsException") (List.mem_of_getElem? (i := 1) rfl)) (va_any rfl hT.1.2.2.1) hce hcv hcl ?_
      refine lv_astore (lv' := [(5, .ref q9), (0, .ref g), (1, .int x), (2, .int y), (3, .int v), (4, .ref o)]) hx hb dL_dam_15 hl (by decide) rfl (fun ls hl => ?_)
      refine lv_iconst (v := 1) hx hb dL_dam_17 (by decide) ?_
      exact fin 1 none H locs 3 18 18 ls dL_dam_18 (Or.inl ⟨rfl, Or.inl ⟨rfl, h1⟩⟩) hP hD hS (Nat.le_of_ble_eq_true rfl) (Nat.le_of_ble_eq_true rfl)
    · skip
      refine vx_catch (own := RL) (name := "java/lang/IllegalArgumentException") hown [⟨0, 12, 15, 13⟩] ⟨0, 12, 19, 15⟩ [] htab (fun z hz => by cases List.mem_singleton.mp hz; exact Or.inr ⟨by decide, _, (hts (Cond.classLink RL 13 "java/lang/IndexOutOfBoundsException") (List.mem_of_getElem? (i := 1) rfl)), hT.1.2.2.2.2.2.2.2.1⟩) rfl (by decide) (hts (Cond.classLink RL 15 "java/lang/IllegalArgumentException") (List.mem_of_getElem? (i := 2) rfl)) (va_any rfl hT.1.2.2.2.1) hce hcv hcl ?_
      refine lv_astore (lv' := [(5, .ref q9), (0, .ref g), (1, .int x), (2, .int y), (3, .int v), (4, .ref o)]) hx hb dL_dam_19 hl (by decide) rfl (fun ls hl => ?_)
      refine lv_iconst (v := 2) hx hb dL_dam_21 (by decide) ?_
      exact fin 2 none H locs 3 18 22 ls dL_dam_22 (Or.inr ⟨rfl, Or.inr ⟨rfl, h1⟩⟩) hP hD hS (Nat.le_of_ble_eq_true rfl) (Nat.le_of_ble_eq_true rfl)
  · skip
    refine lv_i2l (v := Int32.toInt64 r) hx hb dL_dam_10 rfl ?_
    refine va_last (cl := vwCl) hx hb hK hP hD hS 25 1 rfl rfl z_in0 dL_dam_11 (fun H locs hP hD hS => ?_)
    refine lv_goto (tgt := 23) hx hb dL_dam_12 (by decide) ?_
    refine lv_iconst (v := 0) hx hb dL_dam_23 (by decide) ?_
    exact fin 0 (some (u, vp_updL f (Int32.toNatClampNeg 0) r.toInt64)) H locs 3 18 24 ls dL_dam_24 ⟨rfl, r, hw, z_f0⟩ hP hD hS (Nat.le_of_ble_eq_true rfl) (Nat.le_of_ble_eq_true rfl)
abbrev rm_L_drain : Room := { frames := 9, cells := 3, slots := 18, locals := 158 }
set_option maxHeartbeats 4000000 in
set_option maxRecDepth 100000 in
theorem c_L_drain (l : Launch) (hst : l.stackTraces = false) (D : va_G) (cI cL : ClassId) (sa1 sa2 : Nat) (g hn ha : Nat) (adn ada : Nat → Nat) (hei dra rai : Nat → Int32) (σ : Ms) (cre gai see fou : Nat → Int32) (z : Nat → Nat → Int32) (x y v : Int32) (o : Nat) (f : Nat → Int64) : cz_i (S := Option ((Unit) × (Nat → Int64))) l D yL_drain wsL_drain rm_L_drain [.ref g, .int x, .int y, .int v, .ref o] (fW g hn ha adn ada cI hei dra rai σ cre gai see fou z ++ oW o cL f) [(cI, .int), (cL, .long)] sa1 sa2 (z_post 1 2 (fun E => (E = "java/lang/IndexOutOfBoundsException" ∧ ¬ inC x y) ∨ (E = "java/lang/IllegalArgumentException" ∧ inC x y ∧ ¬ (0 ≤ v ∧ v ≤ 9))) (fun r (_ : Unit) => inC x y ∧ (0 ≤ v ∧ v ≤ 9) ∧ r = dra (q_at x y))) (z_wo (fW g hn ha adn ada cI hei dra rai σ cre gai see fou z) (fun _ => (fW g hn ha adn ada cI hei (upd dra (q_at x y) v) rai σ cre gai see fou z)) o cL f) := by
  refine cz_ofi (cc := cL_drain) (maxL := 6) (hh := [(0, 12, 15, 13), (0, 12, 19, 15)]) (by decide) rfl (Nat.le_of_ble_eq_true rfl) ?_
  intro p e s m args below meth c A Q hx hb hml hown hts htab hA hK hT H locs hP hD hS fin ls hl
  have hown : s.vm.findClass RL = some m.cls := hown
  have hl : lv_has ls 6 [(0, .ref g), (1, .int x), (2, .int y), (3, .int v), (4, .ref o)] := hl
  refine lv_aload hx hb dL_drain_0 (lv_at hl 4 rfl) ?_
  refine lv_iconst (v := 0) hx hb dL_drain_2 (by decide) ?_
  refine lv_aload_n hx hb dL_drain_3 rfl (lv_at hl 0 rfl) ?_
  refine lv_iload_n hx hb dL_drain_4 rfl (lv_at hl 1 rfl) ?_
  refine lv_iload_n hx hb dL_drain_5 rfl (lv_at hl 2 rfl) ?_
  refine lv_iload_n hx hb dL_drain_6 rfl (lv_at hl 3 rfl) ?_
  refine cx_Vi (As := [.int x, .int y, .int v]) (rest := [.int 0, .ref o]) (wr := oW o cL f) (W0 := fW g hn ha adn ada cI hei dra rai σ cre gai see fou z ++ oW o cL f) (W1 := fun u => (fun _ => (fW g hn ha adn ada cI hei (upd dra (q_at x y) v) rai σ cre gai see fou z)) u ++ oW o cL f) (cells1 := 3) (slots1 := 18) ⟨hx, hb, hml, hown, hts⟩ (c_X1_drain l hst D cI sa1 sa2 g hn ha adn ada hei dra rai σ cre gai see fou z x y v) (cwV 3 hts gL_drain_X1_drain rfl rfl rfl (by decide +kernel) ⟨Nat.le_of_ble_eq_true rfl, Nat.le_of_ble_eq_true rfl⟩) hK hP hD hS hA hT [0, 1, 2, 3, 4, 5, 6, 7, 8, 9, 10, 11, 12, 13, 14, 15, 16, 17, 18, 19, 20, 21, 22, 23, 24] [25] ⟨rfl, rfl, rfl, rfl, rfl⟩ [1, 2, 3, 4, 5, 6, 7, 8, 9, 10, 11, 12, 13, 14, 15, 16, 17, 18, 19, 20, 21, 22, 23, 24, 25, 0] rfl (fun _ => rfl) [1, 2, 3, 4, 5, 6, 7, 8, 9, 10, 11, 12, 13, 14, 15, 16, 17, 18, 19, 20, 21, 22, 23, 24, 25, 0] rfl rfl [0] rfl (va_recv hK hP (ci := 1) (q0 := 0) rfl rfl) rfl hl.1 rfl (Nat.le_of_ble_eq_true rfl) rfl rfl ⟨Nat.le_of_ble_eq_true rfl, Nat.le_of_ble_eq_true rfl⟩ dL_drain_7 (fun E ce q9 H locs hex hP hD hS hce hcv hcl => ?_) (fun r u H locs hw hP hD hS => ?_)
  · skip
    rcases hex with ⟨rfl, h1⟩ | ⟨rfl, h1⟩
    · skip
      refine vx_catch (own := RL) (name := "java/lang/IndexOutOfBoundsException") hown [] ⟨0, 12, 15, 13⟩ [⟨0, 12, 19, 15⟩] htab (fun z hz => nomatch hz) rfl (by decide) (hts (Cond.classLink RL 13 "java/lang/IndexOutOfBoundsException") (List.mem_of_getElem? (i := 1) rfl)) (va_any rfl hT.1.2.2.1) hce hcv hcl ?_
      refine lv_astore (lv' := [(5, .ref q9), (0, .ref g), (1, .int x), (2, .int y), (3, .int v), (4, .ref o)]) hx hb dL_drain_15 hl (by decide) rfl (fun ls hl => ?_)
      refine lv_iconst (v := 1) hx hb dL_drain_17 (by decide) ?_
      exact fin 1 none H locs 3 18 18 ls dL_drain_18 (Or.inl ⟨rfl, Or.inl ⟨rfl, h1⟩⟩) hP hD hS (Nat.le_of_ble_eq_true rfl) (Nat.le_of_ble_eq_true rfl)
    · skip
      refine vx_catch (own := RL) (name := "java/lang/IllegalArgumentException") hown [⟨0, 12, 15, 13⟩] ⟨0, 12, 19, 15⟩ [] htab (fun z hz => by cases List.mem_singleton.mp hz; exact Or.inr ⟨by decide, _, (hts (Cond.classLink RL 13 "java/lang/IndexOutOfBoundsException") (List.mem_of_getElem? (i := 1) rfl)), hT.1.2.2.2.2.2.2.2.1⟩) rfl (by decide) (hts (Cond.classLink RL 15 "java/lang/IllegalArgumentException") (List.mem_of_getElem? (i := 2) rfl)) (va_any rfl hT.1.2.2.2.1) hce hcv hcl ?_
      refine lv_astore (lv' := [(5, .ref q9), (0, .ref g), (1, .int x), (2, .int y), (3, .int v), (4, .ref o)]) hx hb dL_drain_19 hl (by decide) rfl (fun ls hl => ?_)
      refine lv_iconst (v := 2) hx hb dL_drain_21 (by decide) ?_
      exact fin 2 none H locs 3 18 22 ls dL_drain_22 (Or.inr ⟨rfl, Or.inr ⟨rfl, h1⟩⟩) hP hD hS (Nat.le_of_ble_eq_true rfl) (Nat.le_of_ble_eq_true rfl)
  · skip
    refine lv_i2l (v := Int32.toInt64 r) hx hb dL_drain_10 rfl ?_
    refine va_last (cl := vwCl) hx hb hK hP hD hS 25 1 rfl rfl z_in0 dL_drain_11 (fun H locs hP hD hS => ?_)
    refine lv_goto (tgt := 23) hx hb dL_drain_12 (by decide) ?_
    refine lv_iconst (v := 0) hx hb dL_drain_23 (by decide) ?_
    exact fin 0 (some (u, vp_updL f (Int32.toNatClampNeg 0) r.toInt64)) H locs 3 18 24 ls dL_drain_24 ⟨rfl, r, hw, z_f0⟩ hP hD hS (Nat.le_of_ble_eq_true rfl) (Nat.le_of_ble_eq_true rfl)
abbrev rm_L_settle : Room := { frames := 9, cells := 3, slots := 18, locals := 158 }
set_option maxHeartbeats 4000000 in
set_option maxRecDepth 100000 in
theorem c_L_settle (l : Launch) (hst : l.stackTraces = false) (D : va_G) (cI cL : ClassId) (sa1 sa2 : Nat) (g hn ha : Nat) (adn ada : Nat → Nat) (hei dra rai : Nat → Int32) (σ : Ms) (cre gai see fou : Nat → Int32) (z : Nat → Nat → Int32) (x y v : Int32) (o : Nat) (f : Nat → Int64) : cz_i (S := Option ((Unit) × (Nat → Int64))) l D yL_settle wsL_settle rm_L_settle [.ref g, .int x, .int y, .int v, .ref o] (fW g hn ha adn ada cI hei dra rai σ cre gai see fou z ++ oW o cL f) [(cI, .int), (cL, .long)] sa1 sa2 (z_post 1 2 (fun E => (E = "java/lang/IndexOutOfBoundsException" ∧ ¬ inC x y) ∨ (E = "java/lang/IllegalArgumentException" ∧ inC x y ∧ ¬ (0 ≤ v ∧ v ≤ 90))) (fun r (_ : Unit) => inC x y ∧ (0 ≤ v ∧ v ≤ 90) ∧ r = (m_peo σ) (q_at x y))) (z_wo (fW g hn ha adn ada cI hei dra rai σ cre gai see fou z) (fun _ => (fW g hn ha adn ada cI hei dra rai (m_wat σ, m_dam σ, m_wea σ, upd (m_peo σ) (q_at x y) v, m_t σ, m_bro σ, m_drd σ, m_lef σ) cre gai see fou z)) o cL f) := by
  refine cz_ofi (cc := cL_settle) (maxL := 6) (hh := [(0, 12, 15, 13), (0, 12, 19, 15)]) (by decide) rfl (Nat.le_of_ble_eq_true rfl) ?_
  intro p e s m args below meth c A Q hx hb hml hown hts htab hA hK hT H locs hP hD hS fin ls hl
  have hown : s.vm.findClass RL = some m.cls := hown
  have hl : lv_has ls 6 [(0, .ref g), (1, .int x), (2, .int y), (3, .int v), (4, .ref o)] := hl
  refine lv_aload hx hb dL_settle_0 (lv_at hl 4 rfl) ?_
  refine lv_iconst (v := 0) hx hb dL_settle_2 (by decide) ?_
  refine lv_aload_n hx hb dL_settle_3 rfl (lv_at hl 0 rfl) ?_
  refine lv_iload_n hx hb dL_settle_4 rfl (lv_at hl 1 rfl) ?_
  refine lv_iload_n hx hb dL_settle_5 rfl (lv_at hl 2 rfl) ?_
  refine lv_iload_n hx hb dL_settle_6 rfl (lv_at hl 3 rfl) ?_
  refine cx_Vi (As := [.int x, .int y, .int v]) (rest := [.int 0, .ref o]) (wr := oW o cL f) (W0 := fW g hn ha adn ada cI hei dra rai σ cre gai see fou z ++ oW o cL f) (W1 := fun u => (fun _ => (fW g hn ha adn ada cI hei dra rai (m_wat σ, m_dam σ, m_wea σ, upd (m_peo σ) (q_at x y) v, m_t σ, m_bro σ, m_drd σ, m_lef σ) cre gai see fou z)) u ++ oW o cL f) (cells1 := 3) (slots1 := 18) ⟨hx, hb, hml, hown, hts⟩ (c_X1_settle l hst D cI sa1 sa2 g hn ha adn ada hei dra rai σ cre gai see fou z x y v) (cwV 3 hts gL_settle_X1_settle rfl rfl rfl (by decide +kernel) ⟨Nat.le_of_ble_eq_true rfl, Nat.le_of_ble_eq_true rfl⟩) hK hP hD hS hA hT [0, 1, 2, 3, 4, 5, 6, 7, 8, 9, 10, 11, 12, 13, 14, 15, 16, 17, 18, 19, 20, 21, 22, 23, 24] [25] ⟨rfl, rfl, rfl, rfl, rfl⟩ [1, 2, 3, 4, 5, 6, 7, 8, 9, 10, 11, 12, 13, 14, 15, 16, 17, 18, 19, 20, 21, 22, 23, 24, 25, 0] rfl (fun _ => rfl) [1, 2, 3, 4, 5, 6, 7, 8, 9, 10, 11, 12, 13, 14, 15, 16, 17, 18, 19, 20, 21, 22, 23, 24, 25, 0] rfl rfl [0] rfl (va_recv hK hP (ci := 1) (q0 := 0) rfl rfl) rfl hl.1 rfl (Nat.le_of_ble_eq_true rfl) rfl rfl ⟨Nat.le_of_ble_eq_true rfl, Nat.le_of_ble_eq_true rfl⟩ dL_settle_7 (fun E ce q9 H locs hex hP hD hS hce hcv hcl => ?_) (fun r u H locs hw hP hD hS => ?_)
  · skip
    rcases hex with ⟨rfl, h1⟩ | ⟨rfl, h1⟩
    · skip
      refine vx_catch (own := RL) (name := "java/lang/IndexOutOfBoundsException") hown [] ⟨0, 12, 15, 13⟩ [⟨0, 12, 19, 15⟩] htab (fun z hz => nomatch hz) rfl (by decide) (hts (Cond.classLink RL 13 "java/lang/IndexOutOfBoundsException") (List.mem_of_getElem? (i := 1) rfl)) (va_any rfl hT.1.2.2.1) hce hcv hcl ?_
      refine lv_astore (lv' := [(5, .ref q9), (0, .ref g), (1, .int x), (2, .int y), (3, .int v), (4, .ref o)]) hx hb dL_settle_15 hl (by decide) rfl (fun ls hl => ?_)
      refine lv_iconst (v := 1) hx hb dL_settle_17 (by decide) ?_
      exact fin 1 none H locs 3 18 18 ls dL_settle_18 (Or.inl ⟨rfl, Or.inl ⟨rfl, h1⟩⟩) hP hD hS (Nat.le_of_ble_eq_true rfl) (Nat.le_of_ble_eq_true rfl)
    · skip
      refine vx_catch (own := RL) (name := "java/lang/IllegalArgumentException") hown [⟨0, 12, 15, 13⟩] ⟨0, 12, 19, 15⟩ [] htab (fun z hz => by cases List.mem_singleton.mp hz; exact Or.inr ⟨by decide, _, (hts (Cond.classLink RL 13 "java/lang/IndexOutOfBoundsException") (List.mem_of_getElem? (i := 1) rfl)), hT.1.2.2.2.2.2.2.2.1⟩) rfl (by decide) (hts (Cond.classLink RL 15 "java/lang/IllegalArgumentException") (List.mem_of_getElem? (i := 2) rfl)) (va_any rfl hT.1.2.2.2.1) hce hcv hcl ?_
      refine lv_astore (lv' := [(5, .ref q9), (0, .ref g), (1, .int x), (2, .int y), (3, .int v), (4, .ref o)]) hx hb dL_settle_19 hl (by decide) rfl (fun ls hl => ?_)
      refine lv_iconst (v := 2) hx hb dL_settle_21 (by decide) ?_
      exact fin 2 none H locs 3 18 22 ls dL_settle_22 (Or.inr ⟨rfl, Or.inr ⟨rfl, h1⟩⟩) hP hD hS (Nat.le_of_ble_eq_true rfl) (Nat.le_of_ble_eq_true rfl)
  · skip
    refine lv_i2l (v := Int32.toInt64 r) hx hb dL_settle_10 rfl ?_
    refine va_last (cl := vwCl) hx hb hK hP hD hS 25 1 rfl rfl z_in0 dL_settle_11 (fun H locs hP hD hS => ?_)
    refine lv_goto (tgt := 23) hx hb dL_settle_12 (by decide) ?_
    refine lv_iconst (v := 0) hx hb dL_settle_23 (by decide) ?_
    exact fin 0 (some (u, vp_updL f (Int32.toNatClampNeg 0) r.toInt64)) H locs 3 18 24 ls dL_settle_24 ⟨rfl, r, hw, z_f0⟩ hP hD hS (Nat.le_of_ble_eq_true rfl) (Nat.le_of_ble_eq_true rfl)
abbrev rm_L_setRain : Room := { frames := 8, cells := 2, slots := 12, locals := 135 }
set_option maxHeartbeats 4000000 in
set_option maxRecDepth 100000 in
theorem c_L_setRain (l : Launch) (hst : l.stackTraces = false) (D : va_G) (cI cL : ClassId) (sa1 sa2 : Nat) (g hn ha : Nat) (adn ada : Nat → Nat) (hei dra rai : Nat → Int32) (σ : Ms) (cre gai see fou : Nat → Int32) (z : Nat → Nat → Int32) (x v : Int32) (o : Nat) (f : Nat → Int64) : cz_i (S := Option ((Unit) × (Nat → Int64))) l D yL_setRain wsL_setRain rm_L_setRain [.ref g, .int x, .int v, .ref o] (fW g hn ha adn ada cI hei dra rai σ cre gai see fou z ++ oW o cL f) [(cI, .int), (cL, .long)] sa1 sa2 (z_post 1 2 (fun E => (E = "java/lang/IndexOutOfBoundsException" ∧ ¬ (0 ≤ x ∧ x ≤ 11)) ∨ (E = "java/lang/IllegalArgumentException" ∧ (0 ≤ x ∧ x ≤ 11) ∧ ¬ (0 ≤ v ∧ v ≤ 9))) (fun r (_ : Unit) => (0 ≤ x ∧ x ≤ 11) ∧ (0 ≤ v ∧ v ≤ 9) ∧ r = rai x.toNatClampNeg)) (z_wo (fW g hn ha adn ada cI hei dra rai σ cre gai see fou z) (fun _ => (fW g hn ha adn ada cI hei dra (upd rai x.toNatClampNeg v) σ cre gai see fou z)) o cL f) := by
  refine cz_ofi (cc := cL_setRain) (maxL := 5) (hh := [(0, 10, 13, 13), (0, 10, 17, 15)]) (by decide) rfl (Nat.le_of_ble_eq_true rfl) ?_
  intro p e s m args below meth c A Q hx hb hml hown hts htab hA hK hT H locs hP hD hS fin ls hl
  have hown : s.vm.findClass RL = some m.cls := hown
  have hl : lv_has ls 5 [(0, .ref g), (1, .int x), (2, .int v), (3, .ref o)] := hl
  refine lv_aload_n hx hb dL_setRain_0 rfl (lv_at hl 3 rfl) ?_
  refine lv_iconst (v := 0) hx hb dL_setRain_1 (by decide) ?_
  refine lv_aload_n hx hb dL_setRain_2 rfl (lv_at hl 0 rfl) ?_
  refine lv_iload_n hx hb dL_setRain_3 rfl (lv_at hl 1 rfl) ?_
  refine lv_iload_n hx hb dL_setRain_4 rfl (lv_at hl 2 rfl) ?_
  refine cx_Vi (As := [.int x, .int v]) (rest := [.int 0, .ref o]) (wr := oW o cL f) (W0 := fW g hn ha adn ada cI hei dra rai σ cre gai see fou z ++ oW o cL f) (W1 := fun u => (fun _ => (fW g hn ha adn ada cI hei dra (upd rai x.toNatClampNeg v) σ cre gai see fou z)) u ++ oW o cL f) (cells1 := 2) (slots1 := 12) ⟨hx, hb, hml, hown, hts⟩ (c_X1_setRain l hst D cI sa1 sa2 g hn ha adn ada hei dra rai σ cre gai see fou z x v) (cwV 2 hts gL_setRain_X1_setRain rfl rfl rfl (by decide +kernel) ⟨Nat.le_of_ble_eq_true rfl, Nat.le_of_ble_eq_true rfl⟩) hK hP hD hS hA hT [0, 1, 2, 3, 4, 5, 6, 7, 8, 9, 10, 11, 12, 13, 14, 15, 16, 17, 18, 19, 20, 21, 22, 23, 24] [25] ⟨rfl, rfl, rfl, rfl, rfl⟩ [1, 2, 3, 4, 5, 6, 7, 8, 9, 10, 11, 12, 13, 14, 15, 16, 17, 18, 19, 20, 21, 22, 23, 24, 25, 0] rfl (fun _ => rfl) [1, 2, 3, 4, 5, 6, 7, 8, 9, 10, 11, 12, 13, 14, 15, 16, 17, 18, 19, 20, 21, 22, 23, 24, 25, 0] rfl rfl [0] rfl (va_recv hK hP (ci := 1) (q0 := 0) rfl rfl) rfl hl.1 rfl (Nat.le_of_ble_eq_true rfl) rfl rfl ⟨Nat.le_of_ble_eq_true rfl, Nat.le_of_ble_eq_true rfl⟩ dL_setRain_5 (fun E ce q9 H locs hex hP hD hS hce hcv hcl => ?_) (fun r u H locs hw hP hD hS => ?_)
  · skip
    rcases hex with ⟨rfl, h1⟩ | ⟨rfl, h1⟩
    · skip
      refine vx_catch (own := RL) (name := "java/lang/IndexOutOfBoundsException") hown [] ⟨0, 10, 13, 13⟩ [⟨0, 10, 17, 15⟩] htab (fun z hz => nomatch hz) rfl (by decide) (hts (Cond.classLink RL 13 "java/lang/IndexOutOfBoundsException") (List.mem_of_getElem? (i := 1) rfl)) (va_any rfl hT.1.2.2.1) hce hcv hcl ?_
      refine lv_astore (lv' := [(4, .ref q9), (0, .ref g), (1, .int x), (2, .int v), (3, .ref o)]) hx hb dL_setRain_13 hl (by decide) rfl (fun ls hl => ?_)
      refine lv_iconst (v := 1) hx hb dL_setRain_15 (by decide) ?_
      exact fin 1 none H locs 2 12 16 ls dL_setRain_16 (Or.inl ⟨rfl, Or.inl ⟨rfl, h1⟩⟩) hP hD hS (Nat.le_of_ble_eq_true rfl) (Nat.le_of_ble_eq_true rfl)
    · skip
      refine vx_catch (own := RL) (name := "java/lang/IllegalArgumentException") hown [⟨0, 10, 13, 13⟩] ⟨0, 10, 17, 15⟩ [] htab (fun z hz => by cases List.mem_singleton.mp hz; exact Or.inr ⟨by decide, _, (hts (Cond.classLink RL 13 "java/lang/IndexOutOfBoundsException") (List.mem_of_getElem? (i := 1) rfl)), hT.1.2.2.2.2.2.2.2.1⟩) rfl (by decide) (hts (Cond.classLink RL 15 "java/lang/IllegalArgumentException") (List.mem_of_getElem? (i := 2) rfl)) (va_any rfl hT.1.2.2.2.1) hce hcv hcl ?_
      refine lv_astore (lv' := [(4, .ref q9), (0, .ref g), (1, .int x), (2, .int v), (3, .ref o)]) hx hb dL_setRain_17 hl (by decide) rfl (fun ls hl => ?_)
      refine lv_iconst (v := 2) hx hb dL_setRain_19 (by decide) ?_
      exact fin 2 none H locs 2 12 20 ls dL_setRain_20 (Or.inr ⟨rfl, Or.inr ⟨rfl, h1⟩⟩) hP hD hS (Nat.le_of_ble_eq_true rfl) (Nat.le_of_ble_eq_true rfl)
  · skip
    refine lv_i2l (v := Int32.toInt64 r) hx hb dL_setRain_8 rfl ?_
    refine va_last (cl := vwCl) hx hb hK hP hD hS 25 1 rfl rfl z_in0 dL_setRain_9 (fun H locs hP hD hS => ?_)
    refine lv_goto (tgt := 21) hx hb dL_setRain_10 (by decide) ?_
    refine lv_iconst (v := 0) hx hb dL_setRain_21 (by decide) ?_
    exact fin 0 (some (u, vp_updL f (Int32.toNatClampNeg 0) r.toInt64)) H locs 2 12 22 ls dL_setRain_22 ⟨rfl, r, hw, z_f0⟩ hP hD hS (Nat.le_of_ble_eq_true rfl) (Nat.le_of_ble_eq_true rfl)
abbrev rm_L_cell : Room := { frames := 9, cells := 3, slots := 18, locals := 157 }
set_option maxHeartbeats 4000000 in
set_option maxRecDepth 100000 in
theorem c_L_cell (l : Launch) (hst : l.stackTraces = false) (D : va_G) (cI cL : ClassId) (sa1 sa2 : Nat) (g hn ha : Nat) (adn ada : Nat → Nat) (hei dra rai : Nat → Int32) (σ : Ms) (cre gai see fou : Nat → Int32) (z : Nat → Nat → Int32) (x y v : Int32) (o : Nat) (f : Nat → Int64) : cz_i (S := Option ((Unit) × (Nat → Int64))) l D yL_cell wsL_cell rm_L_cell [.ref g, .int x, .int y, .int v, .ref o] (fW g hn ha adn ada cI hei dra rai σ cre gai see fou z ++ oW o cL f) [(cI, .int), (cL, .long)] sa1 sa2 (z_post 1 2 (fun E => E = "java/lang/IndexOutOfBoundsException" ∧ ¬ (inC x y ∧ (0 ≤ v ∧ v ≤ 7))) (fun r (_ : Unit) => inC x y ∧ (0 ≤ v ∧ v ≤ 7) ∧ r = q_cell hei (m_wat σ) (m_dam σ) (m_wea σ) dra (m_peo σ) (q_at x y) v.toNatClampNeg)) (z_wo (fW g hn ha adn ada cI hei dra rai σ cre gai see fou z) (fun _ => (fW g hn ha adn ada cI hei dra rai σ cre gai see fou z)) o cL f) := by
  refine cz_ofi (cc := cL_cell) (maxL := 6) (hh := [(0, 12, 15, 13)]) (by decide) rfl (Nat.le_of_ble_eq_true rfl) ?_
  intro p e s m args below meth c A Q hx hb hml hown hts htab hA hK hT H locs hP hD hS fin ls hl
  have hown : s.vm.findClass RL = some m.cls := hown
  have hl : lv_has ls 6 [(0, .ref g), (1, .int x), (2, .int y), (3, .int v), (4, .ref o)] := hl
  refine lv_aload hx hb dL_cell_0 (lv_at hl 4 rfl) ?_
  refine lv_iconst (v := 0) hx hb dL_cell_2 (by decide) ?_
  refine lv_aload_n hx hb dL_cell_3 rfl (lv_at hl 0 rfl) ?_
  refine lv_iload_n hx hb dL_cell_4 rfl (lv_at hl 1 rfl) ?_
  refine lv_iload_n hx hb dL_cell_5 rfl (lv_at hl 2 rfl) ?_
  refine lv_iload_n hx hb dL_cell_6 rfl (lv_at hl 3 rfl) ?_
  refine cx_Vi (As := [.int x, .int y, .int v]) (rest := [.int 0, .ref o]) (wr := oW o cL f) (W0 := fW g hn ha adn ada cI hei dra rai σ cre gai see fou z ++ oW o cL f) (W1 := fun u => (fun _ => (fW g hn ha adn ada cI hei dra rai σ cre gai see fou z)) u ++ oW o cL f) (cells1 := 3) (slots1 := 18) ⟨hx, hb, hml, hown, hts⟩ (c_X1_cell l hst D cI sa1 sa2 g hn ha adn ada hei dra rai σ cre gai see fou z x y v) (cwV 3 hts gL_cell_X1_cell rfl rfl rfl (by decide +kernel) ⟨Nat.le_of_ble_eq_true rfl, Nat.le_of_ble_eq_true rfl⟩) hK hP hD hS hA hT [0, 1, 2, 3, 4, 5, 6, 7, 8, 9, 10, 11, 12, 13, 14, 15, 16, 17, 18, 19, 20, 21, 22, 23, 24] [25] ⟨rfl, rfl, rfl, rfl, rfl⟩ [1, 2, 3, 4, 5, 6, 7, 8, 9, 10, 11, 12, 13, 14, 15, 16, 17, 18, 19, 20, 21, 22, 23, 24, 25, 0] rfl (fun _ => rfl) [1, 2, 3, 4, 5, 6, 7, 8, 9, 10, 11, 12, 13, 14, 15, 16, 17, 18, 19, 20, 21, 22, 23, 24, 25, 0] rfl rfl [0] rfl (va_recv hK hP (ci := 1) (q0 := 0) rfl rfl) rfl hl.1 rfl (Nat.le_of_ble_eq_true rfl) rfl rfl ⟨Nat.le_of_ble_eq_true rfl, Nat.le_of_ble_eq_true rfl⟩ dL_cell_7 (fun E ce q9 H locs hex hP hD hS hce hcv hcl => ?_) (fun r u H locs hw hP hD hS => ?_)
  · skip
    obtain ⟨rfl, h1⟩ := hex
    refine vx_catch (own := RL) (name := "java/lang/IndexOutOfBoundsException") hown [] ⟨0, 12, 15, 13⟩ [] htab (fun z hz => nomatch hz) rfl (by decide) (hts (Cond.classLink RL 13 "java/lang/IndexOutOfBoundsException") (List.mem_of_getElem? (i := 1) rfl)) (va_any rfl hT.1.2.2.1) hce hcv hcl ?_
    refine lv_astore (lv' := [(5, .ref q9), (0, .ref g), (1, .int x), (2, .int y), (3, .int v), (4, .ref o)]) hx hb dL_cell_15 hl (by decide) rfl (fun ls hl => ?_)
    refine lv_iconst (v := 1) hx hb dL_cell_17 (by decide) ?_
    exact fin 1 none H locs 3 18 18 ls dL_cell_18 (Or.inl ⟨rfl, ⟨rfl, h1⟩⟩) hP hD hS (Nat.le_of_ble_eq_true rfl) (Nat.le_of_ble_eq_true rfl)
  · skip
    refine lv_i2l (v := Int32.toInt64 r) hx hb dL_cell_10 rfl ?_
    refine va_last (cl := vwCl) hx hb hK hP hD hS 25 1 rfl rfl z_in0 dL_cell_11 (fun H locs hP hD hS => ?_)
    refine lv_goto (tgt := 19) hx hb dL_cell_12 (by decide) ?_
    refine lv_iconst (v := 0) hx hb dL_cell_19 (by decide) ?_
    exact fin 0 (some (u, vp_updL f (Int32.toNatClampNeg 0) r.toInt64)) H locs 3 18 20 ls dL_cell_20 ⟨rfl, r, hw, z_f0⟩ hP hD hS (Nat.le_of_ble_eq_true rfl) (Nat.le_of_ble_eq_true rfl)
abbrev rm_L_lake : Room := { frames := 9, cells := 2, slots := 12, locals := 155 }
set_option maxHeartbeats 4000000 in
set_option maxRecDepth 100000 in
theorem c_L_lake (l : Launch) (hst : l.stackTraces = false) (D : va_G) (cI cL : ClassId) (sa1 sa2 : Nat) (g hn ha : Nat) (adn ada : Nat → Nat) (hei dra rai : Nat → Int32) (σ : Ms) (cre gai see fou : Nat → Int32) (z : Nat → Nat → Int32) (x y : Int32) (o : Nat) (f : Nat → Int64) : cz_i (S := Option (((Nat → Int32) × (Nat → Int32)) × (Nat → Int64))) l D yL_lake wsL_lake rm_L_lake [.ref g, .int x, .int y, .ref o] (fW g hn ha adn ada cI hei dra rai σ cre gai see fou z ++ oW o cL f) [(cI, .int), (cL, .long)] sa1 sa2 (z_post 1 2 (fun E => E = "java/lang/IndexOutOfBoundsException" ∧ ¬ inC x y) (fun r _ => inC x y ∧ r = q_lakeSize (m_wat σ) (q_at x y))) (z_wo (fW g hn ha adn ada cI hei dra rai σ cre gai see fou z) (fun u => (fW g hn ha adn ada cI hei dra rai σ cre gai u.1 u.2 z)) o cL f) := by
  refine cz_ofi (cc := cL_lake) (maxL := 5) (hh := [(0, 10, 13, 13)]) (by decide) rfl (Nat.le_of_ble_eq_true rfl) ?_
  intro p e s m args below meth c A Q hx hb hml hown hts htab hA hK hT H locs hP hD hS fin ls hl
  have hown : s.vm.findClass RL = some m.cls := hown
  have hl : lv_has ls 5 [(0, .ref g), (1, .int x), (2, .int y), (3, .ref o)] := hl
  refine lv_aload_n hx hb dL_lake_0 rfl (lv_at hl 3 rfl) ?_
  refine lv_iconst (v := 0) hx hb dL_lake_1 (by decide) ?_
  refine lv_aload_n hx hb dL_lake_2 rfl (lv_at hl 0 rfl) ?_
  refine lv_iload_n hx hb dL_lake_3 rfl (lv_at hl 1 rfl) ?_
  refine lv_iload_n hx hb dL_lake_4 rfl (lv_at hl 2 rfl) ?_
  refine cx_Vi (As := [.int x, .int y]) (rest := [.int 0, .ref o]) (wr := oW o cL f) (W0 := fW g hn ha adn ada cI hei dra rai σ cre gai see fou z ++ oW o cL f) (W1 := fun u => (fun u => (fW g hn ha adn ada cI hei dra rai σ cre gai u.1 u.2 z)) u ++ oW o cL f) (cells1 := 2) (slots1 := 12) ⟨hx, hb, hml, hown, hts⟩ (c_X1_lake l hst D cI sa1 sa2 g hn ha adn ada hei dra rai σ cre gai see fou z x y) (cwV 2 hts gL_lake_X1_lake rfl rfl rfl (by decide +kernel) ⟨Nat.le_of_ble_eq_true rfl, Nat.le_of_ble_eq_true rfl⟩) hK hP hD hS hA hT [0, 1, 2, 3, 4, 5, 6, 7, 8, 9, 10, 11, 12, 13, 14, 15, 16, 17, 18, 19, 20, 21, 22, 23, 24] [25] ⟨rfl, rfl, rfl, rfl, rfl⟩ [1, 2, 3, 4, 5, 6, 7, 8, 9, 10, 11, 12, 13, 14, 15, 16, 17, 18, 19, 20, 21, 22, 23, 24, 25, 0] rfl (fun _ => rfl) [1, 2, 3, 4, 5, 6, 7, 8, 9, 10, 11, 12, 13, 14, 15, 16, 17, 18, 19, 20, 21, 22, 23, 24, 25, 0] rfl rfl [0] rfl (va_recv hK hP (ci := 1) (q0 := 0) rfl rfl) rfl hl.1 rfl (Nat.le_of_ble_eq_true rfl) rfl rfl ⟨Nat.le_of_ble_eq_true rfl, Nat.le_of_ble_eq_true rfl⟩ dL_lake_5 (fun E ce q9 H locs hex hP hD hS hce hcv hcl => ?_) (fun r u H locs hw hP hD hS => ?_)
  · skip
    obtain ⟨rfl, h1⟩ := hex
    refine vx_catch (own := RL) (name := "java/lang/IndexOutOfBoundsException") hown [] ⟨0, 10, 13, 13⟩ [] htab (fun z hz => nomatch hz) rfl (by decide) (hts (Cond.classLink RL 13 "java/lang/IndexOutOfBoundsException") (List.mem_of_getElem? (i := 1) rfl)) (va_any rfl hT.1.2.2.1) hce hcv hcl ?_
    refine lv_astore (lv' := [(4, .ref q9), (0, .ref g), (1, .int x), (2, .int y), (3, .ref o)]) hx hb dL_lake_13 hl (by decide) rfl (fun ls hl => ?_)
    refine lv_iconst (v := 1) hx hb dL_lake_15 (by decide) ?_
    exact fin 1 none H locs 2 12 16 ls dL_lake_16 (Or.inl ⟨rfl, ⟨rfl, h1⟩⟩) hP hD hS (Nat.le_of_ble_eq_true rfl) (Nat.le_of_ble_eq_true rfl)
  · skip
    refine lv_i2l (v := Int32.toInt64 r) hx hb dL_lake_8 rfl ?_
    refine va_last (cl := vwCl) hx hb hK hP hD hS 25 1 rfl rfl z_in0 dL_lake_9 (fun H locs hP hD hS => ?_)
    refine lv_goto (tgt := 17) hx hb dL_lake_10 (by decide) ?_
    refine lv_iconst (v := 0) hx hb dL_lake_17 (by decide) ?_
    exact fin 0 (some (u, vp_updL f (Int32.toNatClampNeg 0) r.toInt64)) H locs 2 12 18 ls dL_lake_18 ⟨rfl, r, hw, z_f0⟩ hP hD hS (Nat.le_of_ble_eq_true rfl) (Nat.le_of_ble_eq_true rfl)
abbrev rm_L_count : Room := { frames := 8, cells := 1, slots := 6, locals := 133 }
set_option maxHeartbeats 4000000 in
set_option maxRecDepth 100000 in
theorem c_L_count (l : Launch) (hst : l.stackTraces = false) (D : va_G) (cI cL : ClassId) (sa1 sa2 : Nat) (g hn ha : Nat) (adn ada : Nat → Nat) (hei dra rai : Nat → Int32) (σ : Ms) (cre gai see fou : Nat → Int32) (z : Nat → Nat → Int32) (v : Int32) (o : Nat) (f : Nat → Int64) : cz_i (S := Option (((Nat → Int32) × (Nat → Int32)) × (Nat → Int64))) l D yL_count wsL_count rm_L_count [.ref g, .int v, .ref o] (fW g hn ha adn ada cI hei dra rai σ cre gai see fou z ++ oW o cL f) [(cI, .int), (cL, .long)] sa1 sa2 (z_post 1 2 (fun E => E = "java/lang/IndexOutOfBoundsException" ∧ ¬ (0 ≤ v ∧ v ≤ 8)) (fun r _ => (0 ≤ v ∧ v ≤ 8) ∧ r = q_tally σ v.toNatClampNeg)) (z_wo (fW g hn ha adn ada cI hei dra rai σ cre gai see fou z) (fun u => (fW g hn ha adn ada cI hei dra rai σ cre gai u.1 u.2 z)) o cL f) := by
  refine cz_ofi (cc := cL_count) (maxL := 4) (hh := [(0, 9, 12, 13)]) (by decide) rfl (Nat.le_of_ble_eq_true rfl) ?_
  intro p e s m args below meth c A Q hx hb hml hown hts htab hA hK hT H locs hP hD hS fin ls hl
  have hown : s.vm.findClass RL = some m.cls := hown
  have hl : lv_has ls 4 [(0, .ref g), (1, .int v), (2, .ref o)] := hl
  refine lv_aload_n hx hb dL_count_0 rfl (lv_at hl 2 rfl) ?_
  refine lv_iconst (v := 0) hx hb dL_count_1 (by decide) ?_
  refine lv_aload_n hx hb dL_count_2 rfl (lv_at hl 0 rfl) ?_
  refine lv_iload_n hx hb dL_count_3 rfl (lv_at hl 1 rfl) ?_
  refine cx_Vi (As := [.int v]) (rest := [.int 0, .ref o]) (wr := oW o cL f) (W0 := fW g hn ha adn ada cI hei dra rai σ cre gai see fou z ++ oW o cL f) (W1 := fun u => (fun u => (fW g hn ha adn ada cI hei dra rai σ cre gai u.1 u.2 z)) u ++ oW o cL f) (cells1 := 1) (slots1 := 6) ⟨hx, hb, hml, hown, hts⟩ (c_X1_count l hst D cI sa1 sa2 g hn ha adn ada hei dra rai σ cre gai see fou z v) (cwV 1 hts gL_count_X1_count rfl rfl rfl (by decide +kernel) ⟨Nat.le_of_ble_eq_true rfl, Nat.le_of_ble_eq_true rfl⟩) hK hP hD hS hA hT [0, 1, 2, 3, 4, 5, 6, 7, 8, 9, 10, 11, 12, 13, 14, 15, 16, 17, 18, 19, 20, 21, 22, 23, 24] [25] ⟨rfl, rfl, rfl, rfl, rfl⟩ [1, 2, 3, 4, 5, 6, 7, 8, 9, 10, 11, 12, 13, 14, 15, 16, 17, 18, 19, 20, 21, 22, 23, 24, 25, 0] rfl (fun _ => rfl) [1, 2, 3, 4, 5, 6, 7, 8, 9, 10, 11, 12, 13, 14, 15, 16, 17, 18, 19, 20, 21, 22, 23, 24, 25, 0] rfl rfl [0] rfl (va_recv hK hP (ci := 1) (q0 := 0) rfl rfl) rfl hl.1 rfl (Nat.le_of_ble_eq_true rfl) rfl rfl ⟨Nat.le_of_ble_eq_true rfl, Nat.le_of_ble_eq_true rfl⟩ dL_count_4 (fun E ce q9 H locs hex hP hD hS hce hcv hcl => ?_) (fun r u H locs hw hP hD hS => ?_)
  · skip
    obtain ⟨rfl, h1⟩ := hex
    refine vx_catch (own := RL) (name := "java/lang/IndexOutOfBoundsException") hown [] ⟨0, 9, 12, 13⟩ [] htab (fun z hz => nomatch hz) rfl (by decide) (hts (Cond.classLink RL 13 "java/lang/IndexOutOfBoundsException") (List.mem_of_getElem? (i := 1) rfl)) (va_any rfl hT.1.2.2.1) hce hcv hcl ?_
    refine lv_astore_n (lv' := [(3, .ref q9), (0, .ref g), (1, .int v), (2, .ref o)]) hx hb dL_count_12 rfl hl (by decide) rfl (fun ls hl => ?_)
    refine lv_iconst (v := 1) hx hb dL_count_13 (by decide) ?_
    exact fin 1 none H locs 1 6 14 ls dL_count_14 (Or.inl ⟨rfl, ⟨rfl, h1⟩⟩) hP hD hS (Nat.le_of_ble_eq_true rfl) (Nat.le_of_ble_eq_true rfl)
  · skip
    refine lv_i2l (v := Int32.toInt64 r) hx hb dL_count_7 rfl ?_
    refine va_last (cl := vwCl) hx hb hK hP hD hS 25 1 rfl rfl z_in0 dL_count_8 (fun H locs hP hD hS => ?_)
    refine lv_goto (tgt := 15) hx hb dL_count_9 (by decide) ?_
    refine lv_iconst (v := 0) hx hb dL_count_15 (by decide) ?_
    exact fin 0 (some (u, vp_updL f (Int32.toNatClampNeg 0) r.toInt64)) H locs 1 6 16 ls dL_count_16 ⟨rfl, r, hw, z_f0⟩ hP hD hS (Nat.le_of_ble_eq_true rfl) (Nat.le_of_ble_eq_true rfl)
abbrev rm_L_pass : Room := { frames := 8, cells := 1, slots := 6, locals := 133 }
set_option maxHeartbeats 4000000 in
set_option maxRecDepth 100000 in
theorem c_L_pass (l : Launch) (hst : l.stackTraces = false) (D : va_G) (cI cL : ClassId) (sa1 sa2 : Nat) (g hn ha : Nat) (adn ada : Nat → Nat) (hei dra rai : Nat → Int32) (σ : Ms) (cre gai see fou : Nat → Int32) (z : Nat → Nat → Int32) (ht : m_t σ < 2 ^ 29) (v : Int32) (o : Nat) (f : Nat → Int64) : cz_i (S := Option (((Nat → Int32) × (Nat → Int32)) × (Nat → Int64))) l D yL_pass wsL_pass rm_L_pass [.ref g, .int v, .ref o] (fW g hn ha adn ada cI hei dra rai σ cre gai see fou z ++ oW o cL f) [(cI, .int), (cL, .long)] sa1 sa2 (z_post 2 1 (fun E => E = "java/lang/IllegalArgumentException" ∧ ¬ (1 ≤ v ∧ v ≤ 48)) (fun r _ => (1 ≤ v ∧ v ≤ 48) ∧ r = q_leave hei dra rai v.toNatClampNeg σ)) (z_wo (fW g hn ha adn ada cI hei dra rai σ cre gai see fou z) (fun u => (fW g hn ha adn ada cI hei dra rai (q_hours hei dra rai v.toNatClampNeg σ) u.1 u.2 see fou z)) o cL f) := by
  refine cz_ofi (cc := cL_pass) (maxL := 4) (hh := [(0, 9, 12, 15)]) (by decide) rfl (Nat.le_of_ble_eq_true rfl) ?_
  intro p e s m args below meth c A Q hx hb hml hown hts htab hA hK hT H locs hP hD hS fin ls hl
  have hown : s.vm.findClass RL = some m.cls := hown
  have hl : lv_has ls 4 [(0, .ref g), (1, .int v), (2, .ref o)] := hl
  refine lv_aload_n hx hb dL_pass_0 rfl (lv_at hl 2 rfl) ?_
  refine lv_iconst (v := 0) hx hb dL_pass_1 (by decide) ?_
  refine lv_aload_n hx hb dL_pass_2 rfl (lv_at hl 0 rfl) ?_
  refine lv_iload_n hx hb dL_pass_3 rfl (lv_at hl 1 rfl) ?_
  refine cx_Vi (As := [.int v]) (rest := [.int 0, .ref o]) (wr := oW o cL f) (W0 := fW g hn ha adn ada cI hei dra rai σ cre gai see fou z ++ oW o cL f) (W1 := fun u => (fun u => (fW g hn ha adn ada cI hei dra rai (q_hours hei dra rai v.toNatClampNeg σ) u.1 u.2 see fou z)) u ++ oW o cL f) (cells1 := 1) (slots1 := 6) ⟨hx, hb, hml, hown, hts⟩ (c_X1_pass l hst D cI sa1 sa2 g hn ha adn ada hei dra rai σ cre gai see fou z ht v) (cwV 1 hts gL_pass_X1_pass rfl rfl rfl (by decide +kernel) ⟨Nat.le_of_ble_eq_true rfl, Nat.le_of_ble_eq_true rfl⟩) hK hP hD hS hA hT [0, 1, 2, 3, 4, 5, 6, 7, 8, 9, 10, 11, 12, 13, 14, 15, 16, 17, 18, 19, 20, 21, 22, 23, 24] [25] ⟨rfl, rfl, rfl, rfl, rfl⟩ [1, 2, 3, 4, 5, 6, 7, 8, 9, 10, 11, 12, 13, 14, 15, 16, 17, 18, 19, 20, 21, 22, 23, 24, 25, 0] rfl (fun _ => rfl) [1, 2, 3, 4, 5, 6, 7, 8, 9, 10, 11, 12, 13, 14, 15, 16, 17, 18, 19, 20, 21, 22, 23, 24, 25, 0] rfl rfl [0] rfl (va_recv hK hP (ci := 1) (q0 := 0) rfl rfl) rfl hl.1 rfl (Nat.le_of_ble_eq_true rfl) rfl rfl ⟨Nat.le_of_ble_eq_true rfl, Nat.le_of_ble_eq_true rfl⟩ dL_pass_4 (fun E ce q9 H locs hex hP hD hS hce hcv hcl => ?_) (fun r u H locs hw hP hD hS => ?_)
  · skip
    obtain ⟨rfl, h1⟩ := hex
    refine vx_catch (own := RL) (name := "java/lang/IllegalArgumentException") hown [] ⟨0, 9, 12, 15⟩ [] htab (fun z hz => nomatch hz) rfl (by decide) (hts (Cond.classLink RL 15 "java/lang/IllegalArgumentException") (List.mem_of_getElem? (i := 1) rfl)) (va_any rfl hT.1.2.2.2.1) hce hcv hcl ?_
    refine lv_astore_n (lv' := [(3, .ref q9), (0, .ref g), (1, .int v), (2, .ref o)]) hx hb dL_pass_12 rfl hl (by decide) rfl (fun ls hl => ?_)
    refine lv_iconst (v := 1) hx hb dL_pass_13 (by decide) ?_
    exact fin 1 none H locs 1 6 14 ls dL_pass_14 (Or.inr ⟨rfl, ⟨rfl, h1⟩⟩) hP hD hS (Nat.le_of_ble_eq_true rfl) (Nat.le_of_ble_eq_true rfl)
  · skip
    refine lv_i2l (v := Int32.toInt64 r) hx hb dL_pass_7 rfl ?_
    refine va_last (cl := vwCl) hx hb hK hP hD hS 25 1 rfl rfl z_in0 dL_pass_8 (fun H locs hP hD hS => ?_)
    refine lv_goto (tgt := 15) hx hb dL_pass_9 (by decide) ?_
    refine lv_iconst (v := 0) hx hb dL_pass_15 (by decide) ?_
    exact fin 0 (some (u, vp_updL f (Int32.toNatClampNeg 0) r.toInt64)) H locs 1 6 16 ls dL_pass_16 ⟨rfl, r, hw, z_f0⟩ hP hD hS (Nat.le_of_ble_eq_true rfl) (Nat.le_of_ble_eq_true rfl)
abbrev rm_L_floods : Room := { frames := 9, cells := 2, slots := 12, locals := 157 }
set_option maxHeartbeats 4000000 in
set_option maxRecDepth 100000 in
theorem c_L_floods (l : Launch) (hst : l.stackTraces = false) (D : va_G) (cI cL : ClassId) (sa1 sa2 : Nat) (g hn ha : Nat) (adn ada : Nat → Nat) (hei dra rai : Nat → Int32) (σ : Ms) (cre gai see fou : Nat → Int32) (z : Nat → Nat → Int32) (ht : m_t σ < 2 ^ 29) (x y : Int32) (o : Nat) (f : Nat → Int64) : cz_i (S := Option ((Nat → Nat → Int32) × (Nat → Int64))) l D yL_floods wsL_floods rm_L_floods [.ref g, .int x, .int y, .ref o] (fW g hn ha adn ada cI hei dra rai σ cre gai see fou z ++ oW o cL f) [(cI, .int), (cL, .long)] sa1 sa2 (z_post 1 2 (fun E => E = "java/lang/IndexOutOfBoundsException" ∧ ¬ inC x y) (fun r _ => inC x y ∧ r = q_floods hei dra rai σ (q_at x y))) (z_wo (fW g hn ha adn ada cI hei dra rai σ cre gai see fou z) (fun u => (fW g hn ha adn ada cI hei dra rai σ cre gai see fou u)) o cL f) := by
  refine cz_ofi (cc := cL_floods) (maxL := 5) (hh := [(0, 10, 13, 13)]) (by decide) rfl (Nat.le_of_ble_eq_true rfl) ?_
  intro p e s m args below meth c A Q hx hb hml hown hts htab hA hK hT H locs hP hD hS fin ls hl
  have hown : s.vm.findClass RL = some m.cls := hown
  have hl : lv_has ls 5 [(0, .ref g), (1, .int x), (2, .int y), (3, .ref o)] := hl
  refine lv_aload_n hx hb dL_floods_0 rfl (lv_at hl 3 rfl) ?_
  refine lv_iconst (v := 0) hx hb dL_floods_1 (by decide) ?_
  refine lv_aload_n hx hb dL_floods_2 rfl (lv_at hl 0 rfl) ?_
  refine lv_iload_n hx hb dL_floods_3 rfl (lv_at hl 1 rfl) ?_
  refine lv_iload_n hx hb dL_floods_4 rfl (lv_at hl 2 rfl) ?_
  refine cx_Vi (As := [.int x, .int y]) (rest := [.int 0, .ref o]) (wr := oW o cL f) (W0 := fW g hn ha adn ada cI hei dra rai σ cre gai see fou z ++ oW o cL f) (W1 := fun u => (fun u => (fW g hn ha adn ada cI hei dra rai σ cre gai see fou u)) u ++ oW o cL f) (cells1 := 2) (slots1 := 12) ⟨hx, hb, hml, hown, hts⟩ (c_X1_floods l hst D cI sa1 sa2 g hn ha adn ada hei dra rai σ cre gai see fou z ht x y) (cwV 2 hts gL_floods_X1_floods rfl rfl rfl (by decide +kernel) ⟨Nat.le_of_ble_eq_true rfl, Nat.le_of_ble_eq_true rfl⟩) hK hP hD hS hA hT [0, 1, 2, 3, 4, 5, 6, 7, 8, 9, 10, 11, 12, 13, 14, 15, 16, 17, 18, 19, 20, 21, 22, 23, 24] [25] ⟨rfl, rfl, rfl, rfl, rfl⟩ [1, 2, 3, 4, 5, 6, 7, 8, 9, 10, 11, 12, 13, 14, 15, 16, 17, 18, 19, 20, 21, 22, 23, 24, 25, 0] rfl (fun _ => rfl) [1, 2, 3, 4, 5, 6, 7, 8, 9, 10, 11, 12, 13, 14, 15, 16, 17, 18, 19, 20, 21, 22, 23, 24, 25, 0] rfl rfl [0] rfl (va_recv hK hP (ci := 1) (q0 := 0) rfl rfl) rfl hl.1 rfl (Nat.le_of_ble_eq_true rfl) rfl rfl ⟨Nat.le_of_ble_eq_true rfl, Nat.le_of_ble_eq_true rfl⟩ dL_floods_5 (fun E ce q9 H locs hex hP hD hS hce hcv hcl => ?_) (fun r u H locs hw hP hD hS => ?_)
  · skip
    obtain ⟨rfl, h1⟩ := hex
    refine vx_catch (own := RL) (name := "java/lang/IndexOutOfBoundsException") hown [] ⟨0, 10, 13, 13⟩ [] htab (fun z hz => nomatch hz) rfl (by decide) (hts (Cond.classLink RL 13 "java/lang/IndexOutOfBoundsException") (List.mem_of_getElem? (i := 1) rfl)) (va_any rfl hT.1.2.2.1) hce hcv hcl ?_
    refine lv_astore (lv' := [(4, .ref q9), (0, .ref g), (1, .int x), (2, .int y), (3, .ref o)]) hx hb dL_floods_13 hl (by decide) rfl (fun ls hl => ?_)
    refine lv_iconst (v := 1) hx hb dL_floods_15 (by decide) ?_
    exact fin 1 none H locs 2 12 16 ls dL_floods_16 (Or.inl ⟨rfl, ⟨rfl, h1⟩⟩) hP hD hS (Nat.le_of_ble_eq_true rfl) (Nat.le_of_ble_eq_true rfl)
  · skip
    refine lv_i2l (v := Int32.toInt64 r) hx hb dL_floods_8 rfl ?_
    refine va_last (cl := vwCl) hx hb hK hP hD hS 25 1 rfl rfl z_in0 dL_floods_9 (fun H locs hP hD hS => ?_)
    refine lv_goto (tgt := 17) hx hb dL_floods_10 (by decide) ?_
    refine lv_iconst (v := 0) hx hb dL_floods_17 (by decide) ?_
    exact fin 0 (some (u, vp_updL f (Int32.toNatClampNeg 0) r.toInt64)) H locs 2 12 18 ls dL_floods_18 ⟨rfl, r, hw, z_f0⟩ hP hD hS (Nat.le_of_ble_eq_true rfl) (Nat.le_of_ble_eq_true rfl)
abbrev rm_L_breaks : Room := { frames := 9, cells := 2, slots := 12, locals := 157 }
set_option maxHeartbeats 4000000 in
set_option maxRecDepth 100000 in
theorem c_L_breaks (l : Launch) (hst : l.stackTraces = false) (D : va_G) (cI cL : ClassId) (sa1 sa2 : Nat) (g hn ha : Nat) (adn ada : Nat → Nat) (hei dra rai : Nat → Int32) (σ : Ms) (cre gai see fou : Nat → Int32) (z : Nat → Nat → Int32) (ht : m_t σ < 2 ^ 29) (x y : Int32) (o : Nat) (f : Nat → Int64) : cz_i (S := Option ((Nat → Nat → Int32) × (Nat → Int64))) l D yL_breaks wsL_breaks rm_L_breaks [.ref g, .int x, .int y, .ref o] (fW g hn ha adn ada cI hei dra rai σ cre gai see fou z ++ oW o cL f) [(cI, .int), (cL, .long)] sa1 sa2 (z_post 1 2 (fun E => E = "java/lang/IndexOutOfBoundsException" ∧ ¬ inC x y) (fun r _ => inC x y ∧ r = q_breaks hei dra rai σ (q_at x y))) (z_wo (fW g hn ha adn ada cI hei dra rai σ cre gai see fou z) (fun u => (fW g hn ha adn ada cI hei dra rai σ cre gai see fou u)) o cL f) := by
  refine cz_ofi (cc := cL_breaks) (maxL := 5) (hh := [(0, 10, 13, 13)]) (by decide) rfl (Nat.le_of_ble_eq_true rfl) ?_
  intro p e s m args below meth c A Q hx hb hml hown hts htab hA hK hT H locs hP hD hS fin ls hl
  have hown : s.vm.findClass RL = some m.cls := hown
  have hl : lv_has ls 5 [(0, .ref g), (1, .int x), (2, .int y), (3, .ref o)] := hl
  refine lv_aload_n hx hb dL_breaks_0 rfl (lv_at hl 3 rfl) ?_
  refine lv_iconst (v := 0) hx hb dL_breaks_1 (by decide) ?_
  refine lv_aload_n hx hb dL_breaks_2 rfl (lv_at hl 0 rfl) ?_
  refine lv_iload_n hx hb dL_breaks_3 rfl (lv_at hl 1 rfl) ?_
  refine lv_iload_n hx hb dL_breaks_4 rfl (lv_at hl 2 rfl) ?_
  refine cx_Vi (As := [.int x, .int y]) (rest := [.int 0, .ref o]) (wr := oW o cL f) (W0 := fW g hn ha adn ada cI hei dra rai σ cre gai see fou z ++ oW o cL f) (W1 := fun u => (fun u => (fW g hn ha adn ada cI hei dra rai σ cre gai see fou u)) u ++ oW o cL f) (cells1 := 2) (slots1 := 12) ⟨hx, hb, hml, hown, hts⟩ (c_X1_breaks l hst D cI sa1 sa2 g hn ha adn ada hei dra rai σ cre gai see fou z ht x y) (cwV 2 hts gL_breaks_X1_breaks rfl rfl rfl (by decide +kernel) ⟨Nat.le_of_ble_eq_true rfl, Nat.le_of_ble_eq_true rfl⟩) hK hP hD hS hA hT [0, 1, 2, 3, 4, 5, 6, 7, 8, 9, 10, 11, 12, 13, 14, 15, 16, 17, 18, 19, 20, 21, 22, 23, 24] [25] ⟨rfl, rfl, rfl, rfl, rfl⟩ [1, 2, 3, 4, 5, 6, 7, 8, 9, 10, 11, 12, 13, 14, 15, 16, 17, 18, 19, 20, 21, 22, 23, 24, 25, 0] rfl (fun _ => rfl) [1, 2, 3, 4, 5, 6, 7, 8, 9, 10, 11, 12, 13, 14, 15, 16, 17, 18, 19, 20, 21, 22, 23, 24, 25, 0] rfl rfl [0] rfl (va_recv hK hP (ci := 1) (q0 := 0) rfl rfl) rfl hl.1 rfl (Nat.le_of_ble_eq_true rfl) rfl rfl ⟨Nat.le_of_ble_eq_true rfl, Nat.le_of_ble_eq_true rfl⟩ dL_breaks_5 (fun E ce q9 H locs hex hP hD hS hce hcv hcl => ?_) (fun r u H locs hw hP hD hS => ?_)
  · skip
    obtain ⟨rfl, h1⟩ := hex
    refine vx_catch (own := RL) (name := "java/lang/IndexOutOfBoundsException") hown [] ⟨0, 10, 13, 13⟩ [] htab (fun z hz => nomatch hz) rfl (by decide) (hts (Cond.classLink RL 13 "java/lang/IndexOutOfBoundsException") (List.mem_of_getElem? (i := 1) rfl)) (va_any rfl hT.1.2.2.1) hce hcv hcl ?_
    refine lv_astore (lv' := [(4, .ref q9), (0, .ref g), (1, .int x), (2, .int y), (3, .ref o)]) hx hb dL_breaks_13 hl (by decide) rfl (fun ls hl => ?_)
    refine lv_iconst (v := 1) hx hb dL_breaks_15 (by decide) ?_
    exact fin 1 none H locs 2 12 16 ls dL_breaks_16 (Or.inl ⟨rfl, ⟨rfl, h1⟩⟩) hP hD hS (Nat.le_of_ble_eq_true rfl) (Nat.le_of_ble_eq_true rfl)
  · skip
    refine lv_i2l (v := Int32.toInt64 r) hx hb dL_breaks_8 rfl ?_
    refine va_last (cl := vwCl) hx hb hK hP hD hS 25 1 rfl rfl z_in0 dL_breaks_9 (fun H locs hP hD hS => ?_)
    refine lv_goto (tgt := 17) hx hb dL_breaks_10 (by decide) ?_
    refine lv_iconst (v := 0) hx hb dL_breaks_17 (by decide) ?_
    exact fin 0 (some (u, vp_updL f (Int32.toNatClampNeg 0) r.toInt64)) H locs 2 12 18 ls dL_breaks_18 ⟨rfl, r, hw, z_f0⟩ hP hD hS (Nat.le_of_ble_eq_true rfl) (Nat.le_of_ble_eq_true rfl)
abbrev rm_L_foresee : Room := { frames := 8, cells := 2, slots := 12, locals := 134 }
set_option maxHeartbeats 4000000 in
set_option maxRecDepth 100000 in
theorem c_L_foresee (l : Launch) (hst : l.stackTraces = false) (D : va_G) (cI cL : ClassId) (sa1 sa2 : Nat) (g hn ha : Nat) (adn ada : Nat → Nat) (hei dra rai : Nat → Int32) (σ : Ms) (cre gai see fou : Nat → Int32) (z : Nat → Nat → Int32) (ht : m_t σ < 2 ^ 29) (v q : Int32) (o : Nat) (f : Nat → Int64) : cz_i (S := Option ((Nat → Nat → Int32) × (Nat → Int64))) l D yL_foresee wsL_foresee rm_L_foresee [.ref g, .int v, .int q, .ref o] (fW g hn ha adn ada cI hei dra rai σ cre gai see fou z ++ oW o cL f) [(cI, .int), (cL, .long)] sa1 sa2 (z_post 2 1 (fun E => (E = "java/lang/IllegalArgumentException" ∧ ¬ (1 ≤ v ∧ v ≤ 48)) ∨ (E = "java/lang/IndexOutOfBoundsException" ∧ (1 ≤ v ∧ v ≤ 48) ∧ ¬ (1 ≤ q ∧ q ≤ 8))) (fun r _ => (1 ≤ v ∧ v ≤ 48) ∧ (1 ≤ q ∧ q ≤ 8) ∧ r = q_tally (q_hours hei dra rai v.toNatClampNeg σ) q.toNatClampNeg)) (z_wo (fW g hn ha adn ada cI hei dra rai σ cre gai see fou z) (fun u => (fW g hn ha adn ada cI hei dra rai σ cre gai see fou u)) o cL f) := by
  refine cz_ofi (cc := cL_foresee) (maxL := 5) (hh := [(0, 10, 13, 15), (0, 10, 17, 13)]) (by decide) rfl (Nat.le_of_ble_eq_true rfl) ?_
  intro p e s m args below meth c A Q hx hb hml hown hts htab hA hK hT H locs hP hD hS fin ls hl
  have hown : s.vm.findClass RL = some m.cls := hown
  have hl : lv_has ls 5 [(0, .ref g), (1, .int v), (2, .int q), (3, .ref o)] := hl
  refine lv_aload_n hx hb dL_foresee_0 rfl (lv_at hl 3 rfl) ?_
  refine lv_iconst (v := 0) hx hb dL_foresee_1 (by decide) ?_
  refine lv_aload_n hx hb dL_foresee_2 rfl (lv_at hl 0 rfl) ?_
  refine lv_iload_n hx hb dL_foresee_3 rfl (lv_at hl 1 rfl) ?_
  refine lv_iload_n hx hb dL_foresee_4 rfl (lv_at hl 2 rfl) ?_
  refine cx_Vi (As := [.int v, .int q]) (rest := [.int 0, .ref o]) (wr := oW o cL f) (W0 := fW g hn ha adn ada cI hei dra rai σ cre gai see fou z ++ oW o cL f) (W1 := fun u => (fun u => (fW g hn ha adn ada cI hei dra rai σ cre gai see fou u)) u ++ oW o cL f) (cells1 := 2) (slots1 := 12) ⟨hx, hb, hml, hown, hts⟩ (c_X1_foresee l hst D cI sa1 sa2 g hn ha adn ada hei dra rai σ cre gai see fou z ht v q) (cwV 2 hts gL_foresee_X1_foresee rfl rfl rfl (by decide +kernel) ⟨Nat.le_of_ble_eq_true rfl, Nat.le_of_ble_eq_true rfl⟩) hK hP hD hS hA hT [0, 1, 2, 3, 4, 5, 6, 7, 8, 9, 10, 11, 12, 13, 14, 15, 16, 17, 18, 19, 20, 21, 22, 23, 24] [25] ⟨rfl, rfl, rfl, rfl, rfl⟩ [1, 2, 3, 4, 5, 6, 7, 8, 9, 10, 11, 12, 13, 14, 15, 16, 17, 18, 19, 20, 21, 22, 23, 24, 25, 0] rfl (fun _ => rfl) [1, 2, 3, 4, 5, 6, 7, 8, 9, 10, 11, 12, 13, 14, 15, 16, 17, 18, 19, 20, 21, 22, 23, 24, 25, 0] rfl rfl [0] rfl (va_recv hK hP (ci := 1) (q0 := 0) rfl rfl) rfl hl.1 rfl (Nat.le_of_ble_eq_true rfl) rfl rfl ⟨Nat.le_of_ble_eq_true rfl, Nat.le_of_ble_eq_true rfl⟩ dL_foresee_5 (fun E ce q9 H locs hex hP hD hS hce hcv hcl => ?_) (fun r u H locs hw hP hD hS => ?_)
  · skip
    rcases hex with ⟨rfl, h1⟩ | ⟨rfl, h1⟩
    · skip
      refine vx_catch (own := RL) (name := "java/lang/IllegalArgumentException") hown [] ⟨0, 10, 13, 15⟩ [⟨0, 10, 17, 13⟩] htab (fun z hz => nomatch hz) rfl (by decide) (hts (Cond.classLink RL 15 "java/lang/IllegalArgumentException") (List.mem_of_getElem? (i := 1) rfl)) (va_any rfl hT.1.2.2.2.1) hce hcv hcl ?_
      refine lv_astore (lv' := [(4, .ref q9), (0, .ref g), (1, .int v), (2, .int q), (3, .ref o)]) hx hb dL_foresee_13 hl (by decide) rfl (fun ls hl => ?_)
      refine lv_iconst (v := 1) hx hb dL_foresee_15 (by decide) ?_
      exact fin 1 none H locs 2 12 16 ls dL_foresee_16 (Or.inr ⟨rfl, Or.inl ⟨rfl, h1⟩⟩) hP hD hS (Nat.le_of_ble_eq_true rfl) (Nat.le_of_ble_eq_true rfl)
    · skip
      refine vx_catch (own := RL) (name := "java/lang/IndexOutOfBoundsException") hown [⟨0, 10, 13, 15⟩] ⟨0, 10, 17, 13⟩ [] htab (fun z hz => by cases List.mem_singleton.mp hz; exact Or.inr ⟨by decide, _, (hts (Cond.classLink RL 15 "java/lang/IllegalArgumentException") (List.mem_of_getElem? (i := 1) rfl)), hT.1.2.2.2.2.2.2.2.2⟩) rfl (by decide) (hts (Cond.classLink RL 13 "java/lang/IndexOutOfBoundsException") (List.mem_of_getElem? (i := 2) rfl)) (va_any rfl hT.1.2.2.1) hce hcv hcl ?_
      refine lv_astore (lv' := [(4, .ref q9), (0, .ref g), (1, .int v), (2, .int q), (3, .ref o)]) hx hb dL_foresee_17 hl (by decide) rfl (fun ls hl => ?_)
      refine lv_iconst (v := 2) hx hb dL_foresee_19 (by decide) ?_
      exact fin 2 none H locs 2 12 20 ls dL_foresee_20 (Or.inl ⟨rfl, Or.inr ⟨rfl, h1⟩⟩) hP hD hS (Nat.le_of_ble_eq_true rfl) (Nat.le_of_ble_eq_true rfl)
  · skip
    refine lv_i2l (v := Int32.toInt64 r) hx hb dL_foresee_8 rfl ?_
    refine va_last (cl := vwCl) hx hb hK hP hD hS 25 1 rfl rfl z_in0 dL_foresee_9 (fun H locs hP hD hS => ?_)
    refine lv_goto (tgt := 21) hx hb dL_foresee_10 (by decide) ?_
    refine lv_iconst (v := 0) hx hb dL_foresee_21 (by decide) ?_
    exact fin 0 (some (u, vp_updL f (Int32.toNatClampNeg 0) r.toInt64)) H locs 2 12 22 ls dL_foresee_22 ⟨rfl, r, hw, z_f0⟩ hP hD hS (Nat.le_of_ble_eq_true rfl) (Nat.le_of_ble_eq_true rfl)
abbrev rm_L_holds : Room := { frames := 8, cells := 1, slots := 6, locals := 159 }
set_option maxHeartbeats 4000000 in
set_option maxRecDepth 100000 in
theorem c_L_holds (l : Launch) (hst : l.stackTraces = false) (D : va_G) (cI cL : ClassId) (sa1 sa2 : Nat) (g hn ha : Nat) (adn ada : Nat → Nat) (hei dra rai : Nat → Int32) (σ : Ms) (cre gai see fou : Nat → Int32) (z : Nat → Nat → Int32) (ht : m_t σ < 2 ^ 29) (v : Int32) (o : Nat) (f : Nat → Int64) : cz_i (S := Option ((Nat → Nat → Int32) × (Nat → Int64))) l D yL_holds wsL_holds rm_L_holds [.ref g, .int v, .ref o] (fW g hn ha adn ada cI hei dra rai σ cre gai see fou z ++ oW o cL f) [(cI, .int), (cL, .long)] sa1 sa2 (z_post 2 1 (fun E => E = "java/lang/IllegalArgumentException" ∧ ¬ (1 ≤ v ∧ v ≤ 12)) (fun r _ => (1 ≤ v ∧ v ≤ 12) ∧ r = q_holds hei dra rai v.toNatClampNeg σ)) (z_wo (fW g hn ha adn ada cI hei dra rai σ cre gai see fou z) (fun u => (fW g hn ha adn ada cI hei dra rai σ cre gai see fou u)) o cL f) := by
  refine cz_ofi (cc := cL_holds) (maxL := 4) (hh := [(0, 9, 12, 15)]) (by decide) rfl (Nat.le_of_ble_eq_true rfl) ?_
  intro p e s m args below meth c A Q hx hb hml hown hts htab hA hK hT H locs hP hD hS fin ls hl
  have hown : s.vm.findClass RL = some m.cls := hown
  have hl : lv_has ls 4 [(0, .ref g), (1, .int v), (2, .ref o)] := hl
  refine lv_aload_n hx hb dL_holds_0 rfl (lv_at hl 2 rfl) ?_
  refine lv_iconst (v := 0) hx hb dL_holds_1 (by decide) ?_
  refine lv_aload_n hx hb dL_holds_2 rfl (lv_at hl 0 rfl) ?_
  refine lv_iload_n hx hb dL_holds_3 rfl (lv_at hl 1 rfl) ?_
  refine cx_Vi (As := [.int v]) (rest := [.int 0, .ref o]) (wr := oW o cL f) (W0 := fW g hn ha adn ada cI hei dra rai σ cre gai see fou z ++ oW o cL f) (W1 := fun u => (fun u => (fW g hn ha adn ada cI hei dra rai σ cre gai see fou u)) u ++ oW o cL f) (cells1 := 1) (slots1 := 6) ⟨hx, hb, hml, hown, hts⟩ (c_X1_holds l hst D cI sa1 sa2 g hn ha adn ada hei dra rai σ cre gai see fou z ht v) (cwV 1 hts gL_holds_X1_holds rfl rfl rfl (by decide +kernel) ⟨Nat.le_of_ble_eq_true rfl, Nat.le_of_ble_eq_true rfl⟩) hK hP hD hS hA hT [0, 1, 2, 3, 4, 5, 6, 7, 8, 9, 10, 11, 12, 13, 14, 15, 16, 17, 18, 19, 20, 21, 22, 23, 24] [25] ⟨rfl, rfl, rfl, rfl, rfl⟩ [1, 2, 3, 4, 5, 6, 7, 8, 9, 10, 11, 12, 13, 14, 15, 16, 17, 18, 19, 20, 21, 22, 23, 24, 25, 0] rfl (fun _ => rfl) [1, 2, 3, 4, 5, 6, 7, 8, 9, 10, 11, 12, 13, 14, 15, 16, 17, 18, 19, 20, 21, 22, 23, 24, 25, 0] rfl rfl [0] rfl (va_recv hK hP (ci := 1) (q0 := 0) rfl rfl) rfl hl.1 rfl (Nat.le_of_ble_eq_true rfl) rfl rfl ⟨Nat.le_of_ble_eq_true rfl, Nat.le_of_ble_eq_true rfl⟩ dL_holds_4 (fun E ce q9 H locs hex hP hD hS hce hcv hcl => ?_) (fun r u H locs hw hP hD hS => ?_)
  · skip
    obtain ⟨rfl, h1⟩ := hex
    refine vx_catch (own := RL) (name := "java/lang/IllegalArgumentException") hown [] ⟨0, 9, 12, 15⟩ [] htab (fun z hz => nomatch hz) rfl (by decide) (hts (Cond.classLink RL 15 "java/lang/IllegalArgumentException") (List.mem_of_getElem? (i := 1) rfl)) (va_any rfl hT.1.2.2.2.1) hce hcv hcl ?_
    refine lv_astore_n (lv' := [(3, .ref q9), (0, .ref g), (1, .int v), (2, .ref o)]) hx hb dL_holds_12 rfl hl (by decide) rfl (fun ls hl => ?_)
    refine lv_iconst (v := 1) hx hb dL_holds_13 (by decide) ?_
    exact fin 1 none H locs 1 6 14 ls dL_holds_14 (Or.inr ⟨rfl, ⟨rfl, h1⟩⟩) hP hD hS (Nat.le_of_ble_eq_true rfl) (Nat.le_of_ble_eq_true rfl)
  · skip
    refine lv_i2l (v := Int32.toInt64 r) hx hb dL_holds_7 rfl ?_
    refine va_last (cl := vwCl) hx hb hK hP hD hS 25 1 rfl rfl z_in0 dL_holds_8 (fun H locs hP hD hS => ?_)
    refine lv_goto (tgt := 15) hx hb dL_holds_9 (by decide) ?_
    refine lv_iconst (v := 0) hx hb dL_holds_15 (by decide) ?_
    exact fin 0 (some (u, vp_updL f (Int32.toNatClampNeg 0) r.toInt64)) H locs 1 6 16 ls dL_holds_16 ⟨rfl, r, hw, z_f0⟩ hP hD hS (Nat.le_of_ble_eq_true rfl) (Nat.le_of_ble_eq_true rfl)
abbrev rm_L_advise : Room := { frames := 8, cells := 1, slots := 6, locals := 159 }
set_option maxHeartbeats 4000000 in
set_option maxRecDepth 100000 in
theorem c_L_advise (l : Launch) (hst : l.stackTraces = false) (D : va_G) (cI cL : ClassId) (sa1 sa2 : Nat) (g hn ha : Nat) (adn ada : Nat → Nat) (hei dra rai : Nat → Int32) (σ : Ms) (cre gai see fou : Nat → Int32) (z : Nat → Nat → Int32) (ht : m_t σ < 2 ^ 29) (v : Int32) (o : Nat) (f : Nat → Int64) : cz_i (S := Option ((Nat → Nat → Int32) × (Nat → Int64))) l D yL_advise wsL_advise rm_L_advise [.ref g, .int v, .ref o] (fW g hn ha adn ada cI hei dra rai σ cre gai see fou z ++ oW o cL f) [(cI, .int), (cL, .long)] sa1 sa2 (z_post 2 1 (fun E => E = "java/lang/IllegalArgumentException" ∧ ¬ (1 ≤ v ∧ v ≤ 12)) (fun r _ => (1 ≤ v ∧ v ≤ 12) ∧ r = q_advise hei dra rai v.toNatClampNeg σ)) (z_wo (fW g hn ha adn ada cI hei dra rai σ cre gai see fou z) (fun u => (fW g hn ha adn ada cI hei dra rai σ cre gai see fou u)) o cL f) := by
  refine cz_ofi (cc := cL_advise) (maxL := 4) (hh := [(0, 9, 12, 15)]) (by decide) rfl (Nat.le_of_ble_eq_true rfl) ?_
  intro p e s m args below meth c A Q hx hb hml hown hts htab hA hK hT H locs hP hD hS fin ls hl
  have hown : s.vm.findClass RL = some m.cls := hown
  have hl : lv_has ls 4 [(0, .ref g), (1, .int v), (2, .ref o)] := hl
  refine lv_aload_n hx hb dL_advise_0 rfl (lv_at hl 2 rfl) ?_
  refine lv_iconst (v := 0) hx hb dL_advise_1 (by decide) ?_
  refine lv_aload_n hx hb dL_advise_2 rfl (lv_at hl 0 rfl) ?_
  refine lv_iload_n hx hb dL_advise_3 rfl (lv_at hl 1 rfl) ?_
  refine cx_Vi (As := [.int v]) (rest := [.int 0, .ref o]) (wr := oW o cL f) (W0 := fW g hn ha adn ada cI hei dra rai σ cre gai see fou z ++ oW o cL f) (W1 := fun u => (fun u => (fW g hn ha adn ada cI hei dra rai σ cre gai see fou u)) u ++ oW o cL f) (cells1 := 1) (slots1 := 6) ⟨hx, hb, hml, hown, hts⟩ (c_X1_advise l hst D cI sa1 sa2 g hn ha adn ada hei dra rai σ cre gai see fou z ht v) (cwV 1 hts gL_advise_X1_advise rfl rfl rfl (by decide +kernel) ⟨Nat.le_of_ble_eq_true rfl, Nat.le_of_ble_eq_true rfl⟩) hK hP hD hS hA hT [0, 1, 2, 3, 4, 5, 6, 7, 8, 9, 10, 11, 12, 13, 14, 15, 16, 17, 18, 19, 20, 21, 22, 23, 24] [25] ⟨rfl, rfl, rfl, rfl, rfl⟩ [1, 2, 3, 4, 5, 6, 7, 8, 9, 10, 11, 12, 13, 14, 15, 16, 17, 18, 19, 20, 21, 22, 23, 24, 25, 0] rfl (fun _ => rfl) [1, 2, 3, 4, 5, 6, 7, 8, 9, 10, 11, 12, 13, 14, 15, 16, 17, 18, 19, 20, 21, 22, 23, 24, 25, 0] rfl rfl [0] rfl (va_recv hK hP (ci := 1) (q0 := 0) rfl rfl) rfl hl.1 rfl (Nat.le_of_ble_eq_true rfl) rfl rfl ⟨Nat.le_of_ble_eq_true rfl, Nat.le_of_ble_eq_true rfl⟩ dL_advise_4 (fun E ce q9 H locs hex hP hD hS hce hcv hcl => ?_) (fun r u H locs hw hP hD hS => ?_)
  · skip
    obtain ⟨rfl, h1⟩ := hex
    refine vx_catch (own := RL) (name := "java/lang/IllegalArgumentException") hown [] ⟨0, 9, 12, 15⟩ [] htab (fun z hz => nomatch hz) rfl (by decide) (hts (Cond.classLink RL 15 "java/lang/IllegalArgumentException") (List.mem_of_getElem? (i := 1) rfl)) (va_any rfl hT.1.2.2.2.1) hce hcv hcl ?_
    refine lv_astore_n (lv' := [(3, .ref q9), (0, .ref g), (1, .int v), (2, .ref o)]) hx hb dL_advise_12 rfl hl (by decide) rfl (fun ls hl => ?_)
    refine lv_iconst (v := 1) hx hb dL_advise_13 (by decide) ?_
    exact fin 1 none H locs 1 6 14 ls dL_advise_14 (Or.inr ⟨rfl, ⟨rfl, h1⟩⟩) hP hD hS (Nat.le_of_ble_eq_true rfl) (Nat.le_of_ble_eq_true rfl)
  · skip
    refine lv_i2l (v := Int32.toInt64 r) hx hb dL_advise_7 rfl ?_
    refine va_last (cl := vwCl) hx hb hK hP hD hS 25 1 rfl rfl z_in0 dL_advise_8 (fun H locs hP hD hS => ?_)
    refine lv_goto (tgt := 15) hx hb dL_advise_9 (by decide) ?_
    refine lv_iconst (v := 0) hx hb dL_advise_15 (by decide) ?_
    exact fin 0 (some (u, vp_updL f (Int32.toNatClampNeg 0) r.toInt64)) H locs 1 6 16 ls dL_advise_16 ⟨rfl, r, hw, z_f0⟩ hP hD hS (Nat.le_of_ble_eq_true rfl) (Nat.le_of_ble_eq_true rfl)
