abbrev rm_L_build : Room := { frames := 12, cells := 250, slots := 1500, locals := 400 }
abbrev Sa : Type := Nat × (Nat → Nat) × (Nat → Nat → Nat) × Nat × (Nat → Nat)
theorem pv_0 : pv 0 (fun _ => 10) (fun _ => 0) (fun _ => 0) q_m0 := ⟨inv_0, fun c _ => by
  show 0 ≤ (0 : Int32).toInt ∧ (0 : Int32).toInt ≤ 90
  decide⟩
set_option maxHeartbeats 4000000 in
set_option maxRecDepth 100000 in
theorem c_L_build (l : Launch) (D : va_G) (cI cJ cZ cB : ClassId) (κ : Kx) (hst : l.stackTraces = false) (hL : κ.2.2.2.1 ≤ 260) (g hn ha : Nat) (adn ada : Nat → Nat) (cre gai see fou : Nat → Int32) (z : Nat → Nat → Int32) : cg_r (S := (Nat → Int32) × (Nat → Int32) × (Nat → Int32) × Ms × (Nat → Nat) × (Nat → Nat → Nat) × Nat × (Nat → Nat)) l D yL_build wsL_build rm_L_build [.ref g, .ref κ.2.2.1] (fW g hn ha adn ada cI (fun _ => 10) (fun _ => 0) (fun _ => 0) q_m0 cre gai see fou z) [(cI, .int), (cJ, .array .int), (cZ, .boolean), (cB, .array .boolean)] κ (fun u => pv (99 * 48) u.1 u.2.1 u.2.2.1 u.2.2.2.1 ∧ m_t u.2.2.2.1 = 0) (fun u v => ((fW g hn ha adn ada cI u.1 u.2.1 u.2.2.1 u.2.2.2.1 cre gai see fou z) ++ (sM v u.2.2.2.2.1 u.2.2.2.2.2.1 u.2.2.2.2.2.2.1 u.2.2.2.2.2.2.2 cI cJ u.1 u.2.1 u.2.2.1 u.2.2.2.1))) := by
  refine cg_ofr (cc := cL_build) (maxL := 4) (by decide) rfl (Nat.le_of_ble_eq_true rfl) ?_
  intro p e s m args below meth c A Q C0 H locs hP hD hS fin ls hl
  obtain ⟨hx, hb, hml, hown, hts, hA, hK, hX⟩ := C0
  have hown : s.vm.findClass RL = some m.cls := hown
  have hl : lv_has ls 4 [(0, .ref g), (1, .ref κ.2.2.1)] := hl
  refine va_new (ws := (fW g hn ha adn ada cI (fun _ => 10) (fun _ => 0) (fun _ => 0) q_m0 cre gai see fou z)) (ci := 2) (fs := [.null, .null, .null, .null, .null, .null, .null, .int 0, .int 0, .int 0, .int 0]) (C := RX2) (T := TX2) (N := 11) hx hb hts (fun _ h9 => (List.mem_cons_of_mem _ (List.mem_append_left _ (List.mem_append_left _ (List.mem_append_left _ (List.mem_append_left _ (List.mem_append_right _ h9))))))) tyX2 tyX2_ok hown (hts (Cond.classLink RL 16 RX2) (List.mem_of_getElem? (i := 1) rfl)) (hts (Cond.instantiable RX2 11) (List.mem_of_getElem? (i := 2) rfl)) (hts (Cond.initialized RX2) (List.mem_of_getElem? (i := 3) rfl)) hK hP hD hS hA rfl (fun j hj => by rcases (show j = 0 ∨ j = 1 ∨ j = 2 ∨ j = 3 ∨ j = 4 ∨ j = 5 ∨ j = 6 ∨ j = 7 ∨ j = 8 ∨ j = 9 ∨ j = 10 by omega) with rfl | rfl | rfl | rfl | rfl | rfl | rfl | rfl | rfl | rfl | rfl <;> rfl) (Nat.le_of_ble_eq_true rfl) (Nat.le_of_ble_eq_true rfl) dL_build_0 (fun h H hP hD hS => ?_)
  have hP := gp_comm hP
  have hD := gp_commD hD
  have hP : va_P D vwCl (([(h, .inr (2, [.null, .null, .null, .null, .null, .null, .null, .int 0, .int 0, .int 0, .int 0]))]) ++ (fW g hn ha adn ada cI (fun _ => 10) (fun _ => 0) (fun _ => 0) q_m0 cre gai see fou z)) H := hP
  have hD : va_D A (([(h, .inr (2, [.null, .null, .null, .null, .null, .null, .null, .int 0, .int 0, .int 0, .int 0]))]) ++ (fW g hn ha adn ada cI (fun _ => 10) (fun _ => 0) (fun _ => 0) q_m0 cre gai see fou z)) := hD
  refine lv_dup hx hb dL_build_3 rfl ?_
  refine cpg_Iv (As := []) (rest := [.ref h]) (wr := (fW g hn ha adn ada cI (fun _ => 10) (fun _ => 0) (fun _ => 0) q_m0 cre gai see fou z)) (cells1 := 56) (slots1 := 455) ⟨hx, hb, hml, hown, hts⟩ (c_X2_init l D cI cJ cZ cB κ h) (cwI 0 hts gL_build_X2_init rfl rfl rfl (hts (Cond.initialized RX2) (List.mem_of_getElem? (i := 3) rfl)) (hts (Cond.methodLink RL 64 yX2_init) (List.mem_of_getElem? (i := 4) rfl)) (hts (Cond.instanceMethod yX2_init) (List.mem_of_getElem? (i := 5) rfl)) rfl (by decide +kernel) ⟨Nat.le_of_ble_eq_true rfl, Nat.le_of_ble_eq_true rfl⟩) hK hP hD hS hA hX [0, 1, 2, 3] rfl rfl hl.1 rfl (Nat.le_of_ble_eq_true rfl) rfl rfl ⟨by show _ ≤ 250; omega, by show _ ≤ 1500; omega⟩ dL_build_4 (fun u H locs hw hP hD hS => ?_)
  have hP : va_P D vwCl ((sM h u.1 u.2.1 u.2.2.1 u.2.2.2 cI cJ (fun _ => 10) (fun _ => 0) (fun _ => 0) q_m0) ++ (fW g hn ha adn ada cI (fun _ => 10) (fun _ => 0) (fun _ => 0) q_m0 cre gai see fou z)) H := hP
  have hD : va_D A ((sM h u.1 u.2.1 u.2.2.1 u.2.2.2 cI cJ (fun _ => 10) (fun _ => 0) (fun _ => 0) q_m0) ++ (fW g hn ha adn ada cI (fun _ => 10) (fun _ => 0) (fun _ => 0) q_m0 cre gai see fou z)) := hD
  obtain ⟨a, r, aw, bw⟩ := u
  have hP := gp_comm hP
  have hD := gp_commD hD
  have hP : va_P D vwCl ((fW g hn ha adn ada cI (fun _ => 10) (fun _ => 0) (fun _ => 0) q_m0 cre gai see fou z) ++ (sM h a r aw bw cI cJ (fun _ => 10) (fun _ => 0) (fun _ => 0) q_m0)) H := hP
  have hD : va_D A ((fW g hn ha adn ada cI (fun _ => 10) (fun _ => 0) (fun _ => 0) q_m0 cre gai see fou z) ++ (sM h a r aw bw cI cJ (fun _ => 10) (fun _ => 0) (fun _ => 0) q_m0)) := hD
  refine lv_astore_n (lv' := [(2, .ref h), (0, .ref g), (1, .ref κ.2.2.1)]) hx hb dL_build_7 rfl hl (by decide) rfl (fun ls hl => ?_)
  refine lv_iconst (v := 0) hx hb dL_build_8 (by decide) ?_
  refine lv_istore_n (lv' := [(3, .int 0), (2, .ref h), (0, .ref g), (1, .ref κ.2.2.1)]) hx hb dL_build_9 rfl hl (by decide) rfl (fun ls hl => ?_)
  have lk : ∀ (fuk k : Nat), k + fuk = 48 → ∀ (hei : Nat → Int32) (dra : Nat → Int32) (rai : Nat → Int32) (σ : Ms) (H : Heap) (locs : List Loc) (ls : Array Slot), (pv (99 * (k : Int)) hei dra rai σ) → (m_t σ = 0) → va_P D vwCl ((fW g hn ha adn ada cI hei dra rai σ cre gai see fou z) ++ (sM h a r aw bw cI cJ hei dra rai σ)) H → va_D A ((fW g hn ha adn ada cI hei dra rai σ cre gai see fou z) ++ (sM h a r aw bw cI cJ hei dra rai σ)) → va_S A s.heap H locs → lv_has ls 4 [(0, .ref g), (1, .ref κ.2.2.1), (2, .ref h), (3, .int (nI k))] → W p l e rm_L_build s m args below meth c H locs (56 + 3 * k) (455 + 18 * k) Q (F0 m 10 ls []) := by
    intro fuk
    induction fuk with
    | zero =>
      intro k hik hei dra rai σ H locs ls hv htt hP hD hS hl
      obtain rfl : 48 = k := by omega
      refine lv_iload_n hx hb dL_build_10 rfl (lv_at hl 3 rfl) ?_
      refine lv_bipush (v := 48) hx hb dL_build_11 (by decide) ?_
      refine lv_icmp_ge (tgt := 53) hx hb dL_build_13 (by decide) (fun hc => ?_) (fun hc => ?_)
      · skip
        refine lv_aload_n hx hb dL_build_53 rfl (lv_at hl 2 rfl) ?_
        exact fin h (hei, dra, rai, σ, a, r, aw, bw) H locs (56 + 3 * 48) (455 + 18 * 48) 54 ls dL_build_54 ⟨hv, htt⟩ hP hD hS (by decide) (by decide)
      · skip
        exact absurd (show (48 : Int32) ≤ nI 48 by decide) hc
    | succ fuk ihk =>
      intro k hik hei dra rai σ H locs ls hv htt hP hD hS hl
      have hk48 : k < 48 := by omega
      refine lv_iload_n hx hb dL_build_10 rfl (lv_at hl 3 rfl) ?_
      refine lv_bipush (v := 48) hx hb dL_build_11 (by decide) ?_
      refine lv_icmp_ge (tgt := 53) hx hb dL_build_13 (by decide) (fun hc => ?_) (fun hc => ?_)
      · skip
        exact absurd hc (nI_ge (b := 48) hk48 (by decide))
      · skip
        refine lv_aload_n hx hb dL_build_16 rfl (lv_at hl 0 rfl) ?_
        refine lv_aload_n hx hb dL_build_17 rfl (lv_at hl 2 rfl) ?_
        refine lv_aload_n hx hb dL_build_18 rfl (lv_at hl 1 rfl) ?_
        refine lv_iload_n hx hb dL_build_19 rfl (lv_at hl 3 rfl) ?_
        refine lv_bipush (v := 16) hx hb dL_build_20 (by decide) ?_
        refine ct_irem hx hb k 16 rfl rfl (by omega) (by decide) (by decide) dL_build_22 ?_
        refine cpg_Si (As := [.ref κ.2.2.1, .int (nI (k % 16))]) (rest := [.ref h, .ref g]) (wr := (((fW g hn ha adn ada cI hei dra rai σ cre gai see fou z) ++ (sM h a r aw bw cI cJ hei dra rai σ)))) (cells1 := (56 + 3 * k)) (slots1 := (455 + 18 * k)) ⟨hx, hb, hml, hown, hts⟩ (c_L_cell l D cI cJ cZ cB κ (k % 16) (by omega) hL) (va_cwS 2 hts gL_build_L_cell rfl rfl rfl (by decide +kernel) ⟨Nat.le_of_ble_eq_true rfl, Nat.le_of_ble_eq_true rfl⟩) hK hP hD hS hA hX [0, 1, 2, 3] rfl rfl hl.1 rfl (Nat.le_of_ble_eq_true rfl) rfl rfl ⟨by show _ ≤ 250; omega, by show _ ≤ 1500; omega⟩ dL_build_23 (fun r1 u H locs hw hP hD hS => ?_)
        have hP : va_P D vwCl ((fW g hn ha adn ada cI hei dra rai σ cre gai see fou z) ++ (sM h a r aw bw cI cJ hei dra rai σ)) H := hP
        have hD : va_D A ((fW g hn ha adn ada cI hei dra rai σ cre gai see fou z) ++ (sM h a r aw bw cI cJ hei dra rai σ)) := hD
        refine lv_iload_n hx hb dL_build_26 rfl (lv_at hl 3 rfl) ?_
        refine lv_bipush (v := 16) hx hb dL_build_27 (by decide) ?_
        refine ct_idiv hx hb k 16 rfl rfl (by omega) (by decide) (by decide) dL_build_29 ?_
        refine lv_iconst (v := 4) hx hb dL_build_30 (by decide) ?_
        refine lv_imul hx hb dL_build_31 ?_
        refine lv_ishr hx hb dL_build_32 ?_
        refine lv_topi (fun z2 _ => ?_)
        refine lv_sipush (v := 191) hx hb dL_build_33 (by decide) ?_
        refine lv_iload_n hx hb dL_build_36 rfl (lv_at hl 3 rfl) ?_
        refine lv_imul hx hb dL_build_37 ?_
        refine lv_iadd hx hb dL_build_38 ?_
        refine cpg_Si (As := [.ref g, .ref h, .int (z2 + (191 * (nI k)))]) (rest := []) (wr := []) (cells1 := (56 + 3 * k + 3)) (slots1 := (455 + 18 * k + 18)) ⟨hx, hb, hml, hown, hts⟩ (c_L_act l D cI cJ cZ cB κ hst h a r aw bw g hn ha adn ada cre gai see fou z hei dra rai σ (z2 + (191 * (nI k))) (B := 99 * (k : Int)) (by omega) hv) (va_cwS 3 hts gL_build_L_act rfl rfl rfl (by decide +kernel) ⟨Nat.le_of_ble_eq_true rfl, Nat.le_of_ble_eq_true rfl⟩) hK hP hD hS hA hX [0, 1, 2, 3] rfl rfl hl.1 rfl (Nat.le_of_ble_eq_true rfl) rfl rfl ⟨by show _ ≤ 250; omega, by show _ ≤ 1500; omega⟩ dL_build_39 (fun r2 u H locs hw hP hD hS => ?_)
        have hP : va_P D vwCl ((fW g hn ha adn ada cI u.1 u.2.1 u.2.2.1 u.2.2.2 cre gai see fou z) ++ (sM h a r aw bw cI cJ u.1 u.2.1 u.2.2.1 u.2.2.2)) H := hP
        have hD : va_D A ((fW g hn ha adn ada cI u.1 u.2.1 u.2.2.1 u.2.2.2 cre gai see fou z) ++ (sM h a r aw bw cI cJ u.1 u.2.1 u.2.2.1 u.2.2.2)) := hD
        refine lv_if_ne (tgt := 47) hx hb dL_build_42 (by decide) (fun hs => ?_) (fun hs => ?_)
        · skip
          refine lv_iinc (v := (nI (k + 1))) (lv' := [(3, .int (nI (k + 1))), (0, .ref g), (1, .ref κ.2.2.1), (2, .ref h)]) hx hb dL_build_47 hl (k := 3) rfl (nI_1 k) (by decide) rfl (fun ls hl => ?_)
          refine lv_goto (tgt := 10) hx hb dL_build_50 (by decide) ?_
          refine W.widen (k := (56 + 3 * (k + 1))) (n := (455 + 18 * (k + 1))) (by omega) (by omega) ?_
          exact ihk (k + 1) (by omega) u.1 u.2.1 u.2.2.1 u.2.2.2 H locs ls (pv_up hw.2.1 (by omega)) (hw.2.2.trans htt) hP hD hS (lv_sub hl [1, 2, 3, 0] rfl)
        · skip
          exact absurd (hs.symm.trans hw.1) (by decide)
  exact lk 48 0 (by omega) (fun _ => 10) (fun _ => 0) (fun _ => 0) q_m0 H locs ls pv_0 rfl hP hD hS (lv_sub hl [2, 3, 1, 0] rfl)
