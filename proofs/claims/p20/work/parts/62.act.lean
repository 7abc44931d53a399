abbrev Pl : Type := (Nat → Int32) × (Nat → Int32) × (Nat → Int32) × Ms
theorem b_le {b N M : Nat} {I : Int32} (hI : I = nI M) (h : b < N) (hN : N ≤ M + 1) (hM : M < 1000) : (0 : Int32) ≤ nI b ∧ nI b ≤ I := by
  subst hI
  exact ⟨nI_pos0 b (by omega), (nI_leI (by omega) (by omega)).mpr (by omega)⟩
theorem b_pour {b : Nat} (h : b < 140) (hc : nI b - 40 ≤ 99) : (-99 : Int32) ≤ nI b - 40 ∧ nI b - 40 ≤ 99 := by
  refine ⟨?_, hc⟩
  have e1 : (nI b).toInt = (b : Int) := nI_toInt (by omega)
  have e2 : (40 : Int32).toInt = 40 := rfl
  have e3 : (nI b - 40).toInt = (b : Int) - 40 := by rw [sub_ex (by omega) (by omega), e1, e2]
  have e4 : (-99 : Int32).toInt = -99 := rfl
  rw [le_i, e3, e4]
  omega
theorem pv_up {B C : Int} {hei dra rai : Nat → Int32} {σ : Ms} (h : pv B hei dra rai σ) (hBC : B ≤ C) : pv C hei dra rai σ := ⟨inv_up h.1 hBC, h.2⟩
theorem pv_hei {B : Int} {hei dra rai : Nat → Int32} {σ : Ms} (h : pv B hei dra rai σ) (k : Nat) {v : Int32} (hv : 0 ≤ v ∧ v ≤ 50) : pv B (upd hei k v) dra rai σ := ⟨inv_hei h.1 k hv, h.2⟩
theorem pv_dra {B : Int} {hei dra rai : Nat → Int32} {σ : Ms} (h : pv B hei dra rai σ) (k : Nat) {v : Int32} (hv : 0 ≤ v ∧ v ≤ 9) : pv B hei (upd dra k v) rai σ := ⟨inv_dra h.1 k hv, h.2⟩
theorem pv_rai {B : Int} {hei dra rai : Nat → Int32} {σ : Ms} (h : pv B hei dra rai σ) (k : Nat) {v : Int32} (hv : 0 ≤ v ∧ v ≤ 9) : pv B hei dra (upd rai k v) σ := ⟨inv_rai h.1 k hv, h.2⟩
theorem pv_with {B : Int} {hei dra rai : Nat → Int32} {σ : Ms} (h : pv B hei dra rai σ) (k : Nat) {v : Int32} (hv : 0 ≤ v ∧ v ≤ 20) : pv B hei dra rai (q_with σ k v) := ⟨inv_with h.1 k hv, h.2⟩
theorem pv_pour {B : Int} {hei dra rai : Nat → Int32} {σ : Ms} (hB : B < 400000000) (h : pv B hei dra rai σ) {k : Nat} (hk : k < 64) {v : Int32} (hv : (-99) ≤ v ∧ v ≤ 99) : pv (B + 99) hei dra rai (upd (m_wat σ) k (i_max 0 (m_wat σ k + v)), m_dam σ, m_wea σ, m_peo σ, m_t σ, m_bro σ, m_drd σ, m_lef σ) := ⟨inv_pour hB h.1 hk hv, h.2⟩
theorem pv_set {B : Int} {hei dra rai : Nat → Int32} {σ : Ms} (h : pv B hei dra rai σ) (k : Nat) {v : Int32} (hv : 0 ≤ v ∧ v ≤ 90) : pv B hei dra rai (m_wat σ, m_dam σ, m_wea σ, upd (m_peo σ) k v, m_t σ, m_bro σ, m_drd σ, m_lef σ) := ⟨inv_peo h.1 _, bnd_upd h.2 ⟨le_i.mp hv.1, le_i.mp hv.2⟩⟩
abbrev rm_L_act : Room := { frames := 10, cells := 3, slots := 18, locals := 260 }
set_option maxHeartbeats 4000000 in
set_option maxRecDepth 100000 in
theorem c_L_act (l : Launch) (D : va_G) (cI cJ cZ cB : ClassId) (κ : Kx) (hst : l.stackTraces = false) (h : Nat) (a : Nat → Nat) (r : Nat → Nat → Nat) (aw : Nat) (bw : Nat → Nat) (g hn ha : Nat) (adn ada : Nat → Nat) (cre gai see fou : Nat → Int32) (z : Nat → Nat → Int32) (hei dra rai : Nat → Int32) (σ : Ms) (zz : Int32) {B : Int} (hB : B < 400000000) (hI : pv B hei dra rai σ) : cg_i (S := Pl) l D yL_act wsL_act rm_L_act [.ref g, .ref h, .int zz] ((fW g hn ha adn ada cI hei dra rai σ cre gai see fou z) ++ (sM h a r aw bw cI cJ hei dra rai σ)) [(cI, .int), (cJ, .array .int), (cZ, .boolean), (cB, .array .boolean)] κ (fun v u => v = 1 ∧ pv (B + 99) u.1 u.2.1 u.2.2.1 u.2.2.2 ∧ m_t u.2.2.2 = m_t σ) (fun u => ((fW g hn ha adn ada cI u.1 u.2.1 u.2.2.1 u.2.2.2 cre gai see fou z) ++ (sM h a r aw bw cI cJ u.1 u.2.1 u.2.2.1 u.2.2.2))) := by
  refine cg_ofz (fun _ _ h => Or.inr h.1) (cc := cL_act) (maxL := 8) (by decide) rfl (Nat.le_of_ble_eq_true rfl) ?_
  intro p e s m args below meth c A Q C0 H locs hP hD hS fin ls hl
  obtain ⟨hx, hb, hml, hown, hts, hA, hK, hX⟩ := C0
  have hown : s.vm.findClass RL = some m.cls := hown
  have hl : lv_has ls 8 [(0, .ref g), (1, .ref h), (2, .int zz)] := hl
  refine lv_iload_n hx hb dL_act_0 rfl (lv_at hl 2 rfl) ?_
  refine lv_bipush (v := 8) hx hb dL_act_1 (by decide) ?_
  refine cp_Si (As := [.int zz, .int (nI 8)]) (rest := []) (wr := (((fW g hn ha adn ada cI hei dra rai σ cre gai see fou z) ++ (sM h a r aw bw cI cJ hei dra rai σ)))) (cells1 := 0) (slots1 := 0) ⟨hx, hb, hml, hown, hts⟩ (c_L_below l D cI cJ cZ cB zz 8 (by decide) (by decide)) (va_cwS 2 hts gL_act_L_below rfl rfl rfl (by decide +kernel) ⟨Nat.le_of_ble_eq_true rfl, Nat.le_of_ble_eq_true rfl⟩) hK hP hD hS hA [0, 1, 2, 3] rfl rfl hl.1 rfl (Nat.le_of_ble_eq_true rfl) rfl rfl ⟨Nat.le_of_ble_eq_true rfl, Nat.le_of_ble_eq_true rfl⟩ dL_act_3 (fun rb u H locs hw hP hD hS => ?_)
  have hP : va_P D vwCl ((fW g hn ha adn ada cI hei dra rai σ cre gai see fou z) ++ (sM h a r aw bw cI cJ hei dra rai σ)) H := hP
  have hD : va_D A ((fW g hn ha adn ada cI hei dra rai σ cre gai see fou z) ++ (sM h a r aw bw cI cJ hei dra rai σ)) := hD
  obtain ⟨xa, hxa, rfl⟩ := hw
  refine lv_istore_n (lv' := [(3, .int (nI xa)), (0, .ref g), (1, .ref h), (2, .int zz)]) hx hb dL_act_6 rfl hl (by decide) rfl (fun ls hl => ?_)
  refine lv_iload_n hx hb dL_act_7 rfl (lv_at hl 3 rfl) ?_
  refine lv_iconst (v := 3) hx hb dL_act_8 (by decide) ?_
  refine lv_ishr hx hb dL_act_9 ?_
  refine lv_topi (fun z1 _ => ?_)
  refine lv_bipush (v := 8) hx hb dL_act_10 (by decide) ?_
  refine cp_Si (As := [.int z1, .int (nI 8)]) (rest := []) (wr := (((fW g hn ha adn ada cI hei dra rai σ cre gai see fou z) ++ (sM h a r aw bw cI cJ hei dra rai σ)))) (cells1 := 0) (slots1 := 0) ⟨hx, hb, hml, hown, hts⟩ (c_L_below l D cI cJ cZ cB z1 8 (by decide) (by decide)) (va_cwS 2 hts gL_act_L_below rfl rfl rfl (by decide +kernel) ⟨Nat.le_of_ble_eq_true rfl, Nat.le_of_ble_eq_true rfl⟩) hK hP hD hS hA [0, 1, 2, 3] rfl rfl hl.1 rfl (Nat.le_of_ble_eq_true rfl) rfl rfl ⟨Nat.le_of_ble_eq_true rfl, Nat.le_of_ble_eq_true rfl⟩ dL_act_12 (fun rb u H locs hw hP hD hS => ?_)
  have hP : va_P D vwCl ((fW g hn ha adn ada cI hei dra rai σ cre gai see fou z) ++ (sM h a r aw bw cI cJ hei dra rai σ)) H := hP
  have hD : va_D A ((fW g hn ha adn ada cI hei dra rai σ cre gai see fou z) ++ (sM h a r aw bw cI cJ hei dra rai σ)) := hD
  obtain ⟨ya, hya, rfl⟩ := hw
  refine lv_istore (lv' := [(4, .int (nI ya)), (3, .int (nI xa)), (0, .ref g), (1, .ref h), (2, .int zz)]) hx hb dL_act_15 hl (by decide) rfl (fun ls hl => ?_)
  refine lv_iload_n hx hb dL_act_17 rfl (lv_at hl 4 rfl) ?_
  refine lv_bipush (v := 9) hx hb dL_act_18 (by decide) ?_
  refine lv_ishr hx hb dL_act_20 ?_
  refine lv_topi (fun z2 _ => ?_)
  refine lv_bipush (v := 9) hx hb dL_act_21 (by decide) ?_
  refine cp_Si (As := [.int z2, .int (nI 9)]) (rest := []) (wr := (((fW g hn ha adn ada cI hei dra rai σ cre gai see fou z) ++ (sM h a r aw bw cI cJ hei dra rai σ)))) (cells1 := 0) (slots1 := 0) ⟨hx, hb, hml, hown, hts⟩ (c_L_below l D cI cJ cZ cB z2 9 (by decide) (by decide)) (va_cwS 2 hts gL_act_L_below rfl rfl rfl (by decide +kernel) ⟨Nat.le_of_ble_eq_true rfl, Nat.le_of_ble_eq_true rfl⟩) hK hP hD hS hA [0, 1, 2, 3] rfl rfl hl.1 rfl (Nat.le_of_ble_eq_true rfl) rfl rfl ⟨Nat.le_of_ble_eq_true rfl, Nat.le_of_ble_eq_true rfl⟩ dL_act_23 (fun rb u H locs hw hP hD hS => ?_)
  have hP : va_P D vwCl ((fW g hn ha adn ada cI hei dra rai σ cre gai see fou z) ++ (sM h a r aw bw cI cJ hei dra rai σ)) H := hP
  have hD : va_D A ((fW g hn ha adn ada cI hei dra rai σ cre gai see fou z) ++ (sM h a r aw bw cI cJ hei dra rai σ)) := hD
  obtain ⟨sb, hsb, rfl⟩ := hw
  have hxy : inC (nI xa) (nI ya) := (inC_nI (by omega) (by omega)).mpr ⟨by omega, by omega⟩
  have hat : q_at (nI xa) (nI ya) = 8 * ya + xa := qat_nI (by omega) (by omega)
  have hk64 : 8 * ya + xa < 64 := by omega
  rcases (show sb = 0 ∨ sb = 1 ∨ sb = 2 ∨ sb = 3 ∨ sb = 4 ∨ sb = 5 ∨ sb = 6 ∨ sb = 7 ∨ sb = 8 by omega) with rfl | rfl | rfl | rfl | rfl | rfl | rfl | rfl | rfl
  · skip
    refine lv_tableIn (off := 46) (tgt := 72) hx hb dL_act_26 (by decide) (by decide) rfl (by decide) ?_
    refine lv_aload_n hx hb dL_act_72 rfl (lv_at hl 3 rfl) ?_
    refine va_get (D := D) (ci := 2) (v := .ref (a 0)) (C := RX2) (T := TX2) (N := 11) hx hb hts (fun _ h9 => (List.mem_cons_of_mem _ (List.mem_append_left _ (List.mem_append_left _ (List.mem_append_left _ (List.mem_append_left _ (List.mem_append_right _ h9))))))) hown hK hP 25 rfl rfl 0 (by decide) (hts (Cond.fieldLink RL 15 "FloodGridLaw$Sim" "height" "[[I") (List.mem_of_getElem? (i := 1) rfl)) (fun _ h9 => h9) rfl dL_act_73 ?_
    refine lv_iload_n hx hb dL_act_76 rfl (lv_at hl 1 rfl) ?_
    refine gr_aald hx hb hK hP 26 1 rfl rfl xa rfl (by omega) (by decide) dL_act_77 ?_
    refine lv_iload hx hb dL_act_78 (lv_at hl 0 rfl) ?_
    refine gr_iald (v := hei (8 * ya + xa)) hx hb hK hP 27 0 rfl rfl xa ya (8 * ya + xa) (by omega) (by omega) rfl rfl rfl dL_act_80 ?_
    refine lv_istore (lv' := [(5, .int (hei (8 * ya + xa))), (4, .int (nI ya)), (3, .int (nI xa)), (0, .ref g), (1, .ref h), (2, .int zz)]) hx hb dL_act_81 hl (by decide) rfl (fun ls hl => ?_)
    refine lv_aload_n hx hb dL_act_83 rfl (lv_at hl 4 rfl) ?_
    refine va_get (D := D) (ci := 2) (v := .ref (a 0)) (C := RX2) (T := TX2) (N := 11) hx hb hts (fun _ h9 => (List.mem_cons_of_mem _ (List.mem_append_left _ (List.mem_append_left _ (List.mem_append_left _ (List.mem_append_left _ (List.mem_append_right _ h9))))))) hown hK hP 25 rfl rfl 0 (by decide) (hts (Cond.fieldLink RL 15 "FloodGridLaw$Sim" "height" "[[I") (List.mem_of_getElem? (i := 1) rfl)) (fun _ h9 => h9) rfl dL_act_84 ?_
    refine lv_iload_n hx hb dL_act_87 rfl (lv_at hl 2 rfl) ?_
    refine gr_aald hx hb hK hP 26 1 rfl rfl xa rfl (by omega) (by decide) dL_act_88 ?_
    refine lv_iload hx hb dL_act_89 (lv_at hl 1 rfl) ?_
    refine lv_iload_n hx hb dL_act_91 rfl (lv_at hl 5 rfl) ?_
    refine lv_iconst (v := 2) hx hb dL_act_92 (by decide) ?_
    refine lv_ishr hx hb dL_act_93 ?_
    refine lv_topi (fun z3 _ => ?_)
    refine lv_iload_n hx hb dL_act_94 rfl (lv_at hl 5 rfl) ?_
    refine lv_bipush (v := 6) hx hb dL_act_95 (by decide) ?_
    refine lv_ishr hx hb dL_act_97 ?_
    refine lv_topi (fun z4 _ => ?_)
    refine lv_iconst (v := 2) hx hb dL_act_98 (by decide) ?_
    refine cp_Si (As := [.int z4, .int (nI 2)]) (rest := [.int z3, .int (nI ya), .ref ((r 0) xa)]) (wr := (((fW g hn ha adn ada cI hei dra rai σ cre gai see fou z) ++ (sM h a r aw bw cI cJ hei dra rai σ)))) (cells1 := 0) (slots1 := 0) ⟨hx, hb, hml, hown, hts⟩ (c_L_below l D cI cJ cZ cB z4 2 (by decide) (by decide)) (va_cwS 2 hts gL_act_L_below rfl rfl rfl (by decide +kernel) ⟨Nat.le_of_ble_eq_true rfl, Nat.le_of_ble_eq_true rfl⟩) hK hP hD hS hA [0, 1, 2, 3] rfl rfl hl.1 rfl (Nat.le_of_ble_eq_true rfl) rfl rfl ⟨Nat.le_of_ble_eq_true rfl, Nat.le_of_ble_eq_true rfl⟩ dL_act_99 (fun rb u H locs hw hP hD hS => ?_)
    have hP : va_P D vwCl ((fW g hn ha adn ada cI hei dra rai σ cre gai see fou z) ++ (sM h a r aw bw cI cJ hei dra rai σ)) H := hP
    have hD : va_D A ((fW g hn ha adn ada cI hei dra rai σ cre gai see fou z) ++ (sM h a r aw bw cI cJ hei dra rai σ)) := hD
    obtain ⟨bb, hbb, rfl⟩ := hw
    refine lv_if_ne (tgt := 110) hx hb dL_act_102 (by decide) (fun hz => ?_) (fun hz => ?_)
    · skip
      refine lv_bipush (v := 16) hx hb dL_act_110 (by decide) ?_
      refine cp_Si (As := [.int z3, .int (nI 16)]) (rest := [.int (nI ya), .ref ((r 0) xa)]) (wr := (((fW g hn ha adn ada cI hei dra rai σ cre gai see fou z) ++ (sM h a r aw bw cI cJ hei dra rai σ)))) (cells1 := 0) (slots1 := 0) ⟨hx, hb, hml, hown, hts⟩ (c_L_below l D cI cJ cZ cB z3 16 (by decide) (by decide)) (va_cwS 2 hts gL_act_L_below rfl rfl rfl (by decide +kernel) ⟨Nat.le_of_ble_eq_true rfl, Nat.le_of_ble_eq_true rfl⟩) hK hP hD hS hA [0, 1, 2, 3] rfl rfl hl.1 rfl (Nat.le_of_ble_eq_true rfl) rfl rfl ⟨Nat.le_of_ble_eq_true rfl, Nat.le_of_ble_eq_true rfl⟩ dL_act_112 (fun rb u H locs hw hP hD hS => ?_)
      have hP : va_P D vwCl ((fW g hn ha adn ada cI hei dra rai σ cre gai see fou z) ++ (sM h a r aw bw cI cJ hei dra rai σ)) H := hP
      have hD : va_D A ((fW g hn ha adn ada cI hei dra rai σ cre gai see fou z) ++ (sM h a r aw bw cI cJ hei dra rai σ)) := hD
      obtain ⟨vb, hvb, rfl⟩ := hw
      have hv : (0 : Int32) ≤ nI vb ∧ nI vb ≤ 50 := b_le (M := 50) rfl hvb (by decide) (by decide)
      refine gr_iast (g := upd hei (8 * ya + xa) (nI vb)) (ws1 := ((fW g hn ha adn ada cI hei dra rai σ cre gai see fou z) ++ (sM h a r aw bw cI cJ (upd hei (8 * ya + xa) (nI vb)) dra rai σ))) hx hb hK hP hD hS 27 0 rfl rfl xa ya (8 * ya + xa) (by omega) (by omega) rfl rfl rfl rfl dL_act_115 (fun H locs hP hD hS => ?_)
      refine lv_aload_n hx hb dL_act_116 rfl (lv_at hl 3 rfl) ?_
      refine lv_iload_n hx hb dL_act_117 rfl (lv_at hl 2 rfl) ?_
      refine lv_iload hx hb dL_act_118 (lv_at hl 1 rfl) ?_
      refine lv_aload_n hx hb dL_act_120 rfl (lv_at hl 4 rfl) ?_
      refine va_get (D := D) (ci := 2) (v := .ref (a 0)) (C := RX2) (T := TX2) (N := 11) hx hb hts (fun _ h9 => (List.mem_cons_of_mem _ (List.mem_append_left _ (List.mem_append_left _ (List.mem_append_left _ (List.mem_append_left _ (List.mem_append_right _ h9))))))) hown hK hP 25 rfl rfl 0 (by decide) (hts (Cond.fieldLink RL 15 "FloodGridLaw$Sim" "height" "[[I") (List.mem_of_getElem? (i := 1) rfl)) (fun _ h9 => h9) rfl dL_act_121 ?_
      refine lv_iload_n hx hb dL_act_124 rfl (lv_at hl 2 rfl) ?_
      refine gr_aald hx hb hK hP 26 1 rfl rfl xa rfl (by omega) (by decide) dL_act_125 ?_
      refine lv_iload hx hb dL_act_126 (lv_at hl 1 rfl) ?_
      refine gr_iald (v := (nI vb)) hx hb hK hP 27 0 rfl rfl xa ya (8 * ya + xa) (by omega) (by omega) rfl rfl pk_us dL_act_128 ?_
      refine cpx_Vi (As := [.int (nI xa), .int (nI ya), .int (nI vb)]) (rest := []) (wr := (sM h a r aw bw cI cJ (upd hei (8 * ya + xa) (nI vb)) dra rai σ)) (cells1 := 3) (slots1 := 18) ⟨hx, hb, hml, hown, hts⟩ (c_X1_raise l hst D cI κ.1 κ.2.1 g hn ha adn ada hei dra rai σ cre gai see fou z (nI xa) (nI ya) (nI vb)) (cwV 3 hts gL_act_X1_raise rfl rfl rfl (by decide +kernel) ⟨Nat.le_of_ble_eq_true rfl, Nat.le_of_ble_eq_true rfl⟩) hK hP hD hS hA hX.1 (fun E z9 => by rcases z9 with ⟨-, z9⟩ | ⟨-, -, z9⟩ <;> exact z9 (by assumption)) [0] rfl (va_recv hK hP (ci := 1) (q0 := 0) rfl rfl) rfl hl.1 rfl (Nat.le_of_ble_eq_true rfl) rfl rfl ⟨Nat.le_of_ble_eq_true rfl, Nat.le_of_ble_eq_true rfl⟩ dL_act_129 (fun r1 u H locs hw hP hD hS => ?_)
      rw [hat] at hw hP hD
      have hP : va_P D vwCl ((fW g hn ha adn ada cI (upd hei (8 * ya + xa) (nI vb)) dra rai σ cre gai see fou z) ++ (sM h a r aw bw cI cJ (upd hei (8 * ya + xa) (nI vb)) dra rai σ)) H := hP
      have hD : va_D A ((fW g hn ha adn ada cI (upd hei (8 * ya + xa) (nI vb)) dra rai σ cre gai see fou z) ++ (sM h a r aw bw cI cJ (upd hei (8 * ya + xa) (nI vb)) dra rai σ)) := hD
      refine lv_iload hx hb dL_act_132 (lv_at hl 0 rfl) ?_
      refine lv_icmp_ne (tgt := 141) hx hb dL_act_134 (by decide) (fun hs => ?_) (fun hs => ?_)
      · skip
        exact absurd hw.2.2 hs
      · skip
        refine lv_iconst (v := 1) hx hb dL_act_137 (by decide) ?_
        refine lv_goto (tgt := 142) hx hb dL_act_138 (by decide) ?_
        exact fin 1 (upd hei (8 * ya + xa) (nI vb), dra, rai, σ) H locs 3 18 142 ls dL_act_142 ⟨rfl, (pv_up (pv_hei hI (8 * ya + xa) hv) (by omega)), rfl⟩ hP hD hS (Nat.le_of_ble_eq_true rfl) (Nat.le_of_ble_eq_true rfl)
    · skip
      refine lv_bipush (v := 51) hx hb dL_act_105 (by decide) ?_
      refine lv_goto (tgt := 112) hx hb dL_act_107 (by decide) ?_
      refine cp_Si (As := [.int z3, .int (nI 51)]) (rest := [.int (nI ya), .ref ((r 0) xa)]) (wr := (((fW g hn ha adn ada cI hei dra rai σ cre gai see fou z) ++ (sM h a r aw bw cI cJ hei dra rai σ)))) (cells1 := 0) (slots1 := 0) ⟨hx, hb, hml, hown, hts⟩ (c_L_below l D cI cJ cZ cB z3 51 (by decide) (by decide)) (va_cwS 2 hts gL_act_L_below rfl rfl rfl (by decide +kernel) ⟨Nat.le_of_ble_eq_true rfl, Nat.le_of_ble_eq_true rfl⟩) hK hP hD hS hA [0, 1, 2, 3] rfl rfl hl.1 rfl (Nat.le_of_ble_eq_true rfl) rfl rfl ⟨Nat.le_of_ble_eq_true rfl, Nat.le_of_ble_eq_true rfl⟩ dL_act_112 (fun rb u H locs hw hP hD hS => ?_)
      have hP : va_P D vwCl ((fW g hn ha adn ada cI hei dra rai σ cre gai see fou z) ++ (sM h a r aw bw cI cJ hei dra rai σ)) H := hP
      have hD : va_D A ((fW g hn ha adn ada cI hei dra rai σ cre gai see fou z) ++ (sM h a r aw bw cI cJ hei dra rai σ)) := hD
      obtain ⟨vb, hvb, rfl⟩ := hw
      have hv : (0 : Int32) ≤ nI vb ∧ nI vb ≤ 50 := b_le (M := 50) rfl hvb (by decide) (by decide)
      refine gr_iast (g := upd hei (8 * ya + xa) (nI vb)) (ws1 := ((fW g hn ha adn ada cI hei dra rai σ cre gai see fou z) ++ (sM h a r aw bw cI cJ (upd hei (8 * ya + xa) (nI vb)) dra rai σ))) hx hb hK hP hD hS 27 0 rfl rfl xa ya (8 * ya + xa) (by omega) (by omega) rfl rfl rfl rfl dL_act_115 (fun H locs hP hD hS => ?_)
      refine lv_aload_n hx hb dL_act_116 rfl (lv_at hl 3 rfl) ?_
      refine lv_iload_n hx hb dL_act_117 rfl (lv_at hl 2 rfl) ?_
      refine lv_iload hx hb dL_act_118 (lv_at hl 1 rfl) ?_
      refine lv_aload_n hx hb dL_act_120 rfl (lv_at hl 4 rfl) ?_
      refine va_get (D := D) (ci := 2) (v := .ref (a 0)) (C := RX2) (T := TX2) (N := 11) hx hb hts (fun _ h9 => (List.mem_cons_of_mem _ (List.mem_append_left _ (List.mem_append_left _ (List.mem_append_left _ (List.mem_append_left _ (List.mem_append_right _ h9))))))) hown hK hP 25 rfl rfl 0 (by decide) (hts (Cond.fieldLink RL 15 "FloodGridLaw$Sim" "height" "[[I") (List.mem_of_getElem? (i := 1) rfl)) (fun _ h9 => h9) rfl dL_act_121 ?_
      refine lv_iload_n hx hb dL_act_124 rfl (lv_at hl 2 rfl) ?_
      refine gr_aald hx hb hK hP 26 1 rfl rfl xa rfl (by omega) (by decide) dL_act_125 ?_
      refine lv_iload hx hb dL_act_126 (lv_at hl 1 rfl) ?_
      refine gr_iald (v := (nI vb)) hx hb hK hP 27 0 rfl rfl xa ya (8 * ya + xa) (by omega) (by omega) rfl rfl pk_us dL_act_128 ?_
      refine cpx_Vi (As := [.int (nI xa), .int (nI ya), .int (nI vb)]) (rest := []) (wr := (sM h a r aw bw cI cJ (upd hei (8 * ya + xa) (nI vb)) dra rai σ)) (cells1 := 3) (slots1 := 18) ⟨hx, hb, hml, hown, hts⟩ (c_X1_raise l hst D cI κ.1 κ.2.1 g hn ha adn ada hei dra rai σ cre gai see fou z (nI xa) (nI ya) (nI vb)) (cwV 3 hts gL_act_X1_raise rfl rfl rfl (by decide +kernel) ⟨Nat.le_of_ble_eq_true rfl, Nat.le_of_ble_eq_true rfl⟩) hK hP hD hS hA hX.1 (fun E z9 => by rcases z9 with ⟨-, z9⟩ | ⟨-, -, z9⟩ <;> exact z9 (by assumption)) [0] rfl (va_recv hK hP (ci := 1) (q0 := 0) rfl rfl) rfl hl.1 rfl (Nat.le_of_ble_eq_true rfl) rfl rfl ⟨Nat.le_of_ble_eq_true rfl, Nat.le_of_ble_eq_true rfl⟩ dL_act_129 (fun r1 u H locs hw hP hD hS => ?_)
      rw [hat] at hw hP hD
      have hP : va_P D vwCl ((fW g hn ha adn ada cI (upd hei (8 * ya + xa) (nI vb)) dra rai σ cre gai see fou z) ++ (sM h a r aw bw cI cJ (upd hei (8 * ya + xa) (nI vb)) dra rai σ)) H := hP
      have hD : va_D A ((fW g hn ha adn ada cI (upd hei (8 * ya + xa) (nI vb)) dra rai σ cre gai see fou z) ++ (sM h a r aw bw cI cJ (upd hei (8 * ya + xa) (nI vb)) dra rai σ)) := hD
      refine lv_iload hx hb dL_act_132 (lv_at hl 0 rfl) ?_
      refine lv_icmp_ne (tgt := 141) hx hb dL_act_134 (by decide) (fun hs => ?_) (fun hs => ?_)
      · skip
        exact absurd hw.2.2 hs
      · skip
        refine lv_iconst (v := 1) hx hb dL_act_137 (by decide) ?_
        refine lv_goto (tgt := 142) hx hb dL_act_138 (by decide) ?_
        exact fin 1 (upd hei (8 * ya + xa) (nI vb), dra, rai, σ) H locs 3 18 142 ls dL_act_142 ⟨rfl, (pv_up (pv_hei hI (8 * ya + xa) hv) (by omega)), rfl⟩ hP hD hS (Nat.le_of_ble_eq_true rfl) (Nat.le_of_ble_eq_true rfl)
  · skip
    refine lv_tableIn (off := 46) (tgt := 72) hx hb dL_act_26 (by decide) (by decide) rfl (by decide) ?_
    refine lv_aload_n hx hb dL_act_72 rfl (lv_at hl 3 rfl) ?_
    refine va_get (D := D) (ci := 2) (v := .ref (a 0)) (C := RX2) (T := TX2) (N := 11) hx hb hts (fun _ h9 => (List.mem_cons_of_mem _ (List.mem_append_left _ (List.mem_append_left _ (List.mem_append_left _ (List.mem_append_left _ (List.mem_append_right _ h9))))))) hown hK hP 25 rfl rfl 0 (by decide) (hts (Cond.fieldLink RL 15 "FloodGridLaw$Sim" "height" "[[I") (List.mem_of_getElem? (i := 1) rfl)) (fun _ h9 => h9) rfl dL_act_73 ?_
    refine lv_iload_n hx hb dL_act_76 rfl (lv_at hl 1 rfl) ?_
    refine gr_aald hx hb hK hP 26 1 rfl rfl xa rfl (by omega) (by decide) dL_act_77 ?_
    refine lv_iload hx hb dL_act_78 (lv_at hl 0 rfl) ?_
    refine gr_iald (v := hei (8 * ya + xa)) hx hb hK hP 27 0 rfl rfl xa ya (8 * ya + xa) (by omega) (by omega) rfl rfl rfl dL_act_80 ?_
    refine lv_istore (lv' := [(5, .int (hei (8 * ya + xa))), (4, .int (nI ya)), (3, .int (nI xa)), (0, .ref g), (1, .ref h), (2, .int zz)]) hx hb dL_act_81 hl (by decide) rfl (fun ls hl => ?_)
    refine lv_aload_n hx hb dL_act_83 rfl (lv_at hl 4 rfl) ?_
    refine va_get (D := D) (ci := 2) (v := .ref (a 0)) (C := RX2) (T := TX2) (N := 11) hx hb hts (fun _ h9 => (List.mem_cons_of_mem _ (List.mem_append_left _ (List.mem_append_left _ (List.mem_append_left _ (List.mem_append_left _ (List.mem_append_right _ h9))))))) hown hK hP 25 rfl rfl 0 (by decide) (hts (Cond.fieldLink RL 15 "FloodGridLaw$Sim" "height" "[[I") (List.mem_of_getElem? (i := 1) rfl)) (fun _ h9 => h9) rfl dL_act_84 ?_
    refine lv_iload_n hx hb dL_act_87 rfl (lv_at hl 2 rfl) ?_
    refine gr_aald hx hb hK hP 26 1 rfl rfl xa rfl (by omega) (by decide) dL_act_88 ?_
    refine lv_iload hx hb dL_act_89 (lv_at hl 1 rfl) ?_
    refine lv_iload_n hx hb dL_act_91 rfl (lv_at hl 5 rfl) ?_
    refine lv_iconst (v := 2) hx hb dL_act_92 (by decide) ?_
    refine lv_ishr hx hb dL_act_93 ?_
    refine lv_topi (fun z5 _ => ?_)
    refine lv_iload_n hx hb dL_act_94 rfl (lv_at hl 5 rfl) ?_
    refine lv_bipush (v := 6) hx hb dL_act_95 (by decide) ?_
    refine lv_ishr hx hb dL_act_97 ?_
    refine lv_topi (fun z6 _ => ?_)
    refine lv_iconst (v := 2) hx hb dL_act_98 (by decide) ?_
    refine cp_Si (As := [.int z6, .int (nI 2)]) (rest := [.int z5, .int (nI ya), .ref ((r 0) xa)]) (wr := (((fW g hn ha adn ada cI hei dra rai σ cre gai see fou z) ++ (sM h a r aw bw cI cJ hei dra rai σ)))) (cells1 := 0) (slots1 := 0) ⟨hx, hb, hml, hown, hts⟩ (c_L_below l D cI cJ cZ cB z6 2 (by decide) (by decide)) (va_cwS 2 hts gL_act_L_below rfl rfl rfl (by decide +kernel) ⟨Nat.le_of_ble_eq_true rfl, Nat.le_of_ble_eq_true rfl⟩) hK hP hD hS hA [0, 1, 2, 3] rfl rfl hl.1 rfl (Nat.le_of_ble_eq_true rfl) rfl rfl ⟨Nat.le_of_ble_eq_true rfl, Nat.le_of_ble_eq_true rfl⟩ dL_act_99 (fun rb u H locs hw hP hD hS => ?_)
    have hP : va_P D vwCl ((fW g hn ha adn ada cI hei dra rai σ cre gai see fou z) ++ (sM h a r aw bw cI cJ hei dra rai σ)) H := hP
    have hD : va_D A ((fW g hn ha adn ada cI hei dra rai σ cre gai see fou z) ++ (sM h a r aw bw cI cJ hei dra rai σ)) := hD
    obtain ⟨bb, hbb, rfl⟩ := hw
    refine lv_if_ne (tgt := 110) hx hb dL_act_102 (by decide) (fun hz => ?_) (fun hz => ?_)
    · skip
      refine lv_bipush (v := 16) hx hb dL_act_110 (by decide) ?_
      refine cp_Si (As := [.int z5, .int (nI 16)]) (rest := [.int (nI ya), .ref ((r 0) xa)]) (wr := (((fW g hn ha adn ada cI hei dra rai σ cre gai see fou z) ++ (sM h a r aw bw cI cJ hei dra rai σ)))) (cells1 := 0) (slots1 := 0) ⟨hx, hb, hml, hown, hts⟩ (c_L_below l D cI cJ cZ cB z5 16 (by decide) (by decide)) (va_cwS 2 hts gL_act_L_below rfl rfl rfl (by decide +kernel) ⟨Nat.le_of_ble_eq_true rfl, Nat.le_of_ble_eq_true rfl⟩) hK hP hD hS hA [0, 1, 2, 3] rfl rfl hl.1 rfl (Nat.le_of_ble_eq_true rfl) rfl rfl ⟨Nat.le_of_ble_eq_true rfl, Nat.le_of_ble_eq_true rfl⟩ dL_act_112 (fun rb u H locs hw hP hD hS => ?_)
      have hP : va_P D vwCl ((fW g hn ha adn ada cI hei dra rai σ cre gai see fou z) ++ (sM h a r aw bw cI cJ hei dra rai σ)) H := hP
      have hD : va_D A ((fW g hn ha adn ada cI hei dra rai σ cre gai see fou z) ++ (sM h a r aw bw cI cJ hei dra rai σ)) := hD
      obtain ⟨vb, hvb, rfl⟩ := hw
      have hv : (0 : Int32) ≤ nI vb ∧ nI vb ≤ 50 := b_le (M := 50) rfl hvb (by decide) (by decide)
      refine gr_iast (g := upd hei (8 * ya + xa) (nI vb)) (ws1 := ((fW g hn ha adn ada cI hei dra rai σ cre gai see fou z) ++ (sM h a r aw bw cI cJ (upd hei (8 * ya + xa) (nI vb)) dra rai σ))) hx hb hK hP hD hS 27 0 rfl rfl xa ya (8 * ya + xa) (by omega) (by omega) rfl rfl rfl rfl dL_act_115 (fun H locs hP hD hS => ?_)
      refine lv_aload_n hx hb dL_act_116 rfl (lv_at hl 3 rfl) ?_
      refine lv_iload_n hx hb dL_act_117 rfl (lv_at hl 2 rfl) ?_
      refine lv_iload hx hb dL_act_118 (lv_at hl 1 rfl) ?_
      refine lv_aload_n hx hb dL_act_120 rfl (lv_at hl 4 rfl) ?_
      refine va_get (D := D) (ci := 2) (v := .ref (a 0)) (C := RX2) (T := TX2) (N := 11) hx hb hts (fun _ h9 => (List.mem_cons_of_mem _ (List.mem_append_left _ (List.mem_append_left _ (List.mem_append_left _ (List.mem_append_left _ (List.mem_append_right _ h9))))))) hown hK hP 25 rfl rfl 0 (by decide) (hts (Cond.fieldLink RL 15 "FloodGridLaw$Sim" "height" "[[I") (List.mem_of_getElem? (i := 1) rfl)) (fun _ h9 => h9) rfl dL_act_121 ?_
      refine lv_iload_n hx hb dL_act_124 rfl (lv_at hl 2 rfl) ?_
      refine gr_aald hx hb hK hP 26 1 rfl rfl xa rfl (by omega) (by decide) dL_act_125 ?_
      refine lv_iload hx hb dL_act_126 (lv_at hl 1 rfl) ?_
      refine gr_iald (v := (nI vb)) hx hb hK hP 27 0 rfl rfl xa ya (8 * ya + xa) (by omega) (by omega) rfl rfl pk_us dL_act_128 ?_
      refine cpx_Vi (As := [.int (nI xa), .int (nI ya), .int (nI vb)]) (rest := []) (wr := (sM h a r aw bw cI cJ (upd hei (8 * ya + xa) (nI vb)) dra rai σ)) (cells1 := 3) (slots1 := 18) ⟨hx, hb, hml, hown, hts⟩ (c_X1_raise l hst D cI κ.1 κ.2.1 g hn ha adn ada hei dra rai σ cre gai see fou z (nI xa) (nI ya) (nI vb)) (cwV 3 hts gL_act_X1_raise rfl rfl rfl (by decide +kernel) ⟨Nat.le_of_ble_eq_true rfl, Nat.le_of_ble_eq_true rfl⟩) hK hP hD hS hA hX.1 (fun E z9 => by rcases z9 with ⟨-, z9⟩ | ⟨-, -, z9⟩ <;> exact z9 (by assumption)) [0] rfl (va_recv hK hP (ci := 1) (q0 := 0) rfl rfl) rfl hl.1 rfl (Nat.le_of_ble_eq_true rfl) rfl rfl ⟨Nat.le_of_ble_eq_true rfl, Nat.le_of_ble_eq_true rfl⟩ dL_act_129 (fun r1 u H locs hw hP hD hS => ?_)
      rw [hat] at hw hP hD
      have hP : va_P D vwCl ((fW g hn ha adn ada cI (upd hei (8 * ya + xa) (nI vb)) dra rai σ cre gai see fou z) ++ (sM h a r aw bw cI cJ (upd hei (8 * ya + xa) (nI vb)) dra rai σ)) H := hP
      have hD : va_D A ((fW g hn ha adn ada cI (upd hei (8 * ya + xa) (nI vb)) dra rai σ cre gai see fou z) ++ (sM h a r aw bw cI cJ (upd hei (8 * ya + xa) (nI vb)) dra rai σ)) := hD
      refine lv_iload hx hb dL_act_132 (lv_at hl 0 rfl) ?_
      refine lv_icmp_ne (tgt := 141) hx hb dL_act_134 (by decide) (fun hs => ?_) (fun hs => ?_)
      · skip
        exact absurd hw.2.2 hs
      · skip
        refine lv_iconst (v := 1) hx hb dL_act_137 (by decide) ?_
        refine lv_goto (tgt := 142) hx hb dL_act_138 (by decide) ?_
        exact fin 1 (upd hei (8 * ya + xa) (nI vb), dra, rai, σ) H locs 3 18 142 ls dL_act_142 ⟨rfl, (pv_up (pv_hei hI (8 * ya + xa) hv) (by omega)), rfl⟩ hP hD hS (Nat.le_of_ble_eq_true rfl) (Nat.le_of_ble_eq_true rfl)
    · skip
      refine lv_bipush (v := 51) hx hb dL_act_105 (by decide) ?_
      refine lv_goto (tgt := 112) hx hb dL_act_107 (by decide) ?_
      refine cp_Si (As := [.int z5, .int (nI 51)]) (rest := [.int (nI ya), .ref ((r 0) xa)]) (wr := (((fW g hn ha adn ada cI hei dra rai σ cre gai see fou z) ++ (sM h a r aw bw cI cJ hei dra rai σ)))) (cells1 := 0) (slots1 := 0) ⟨hx, hb, hml, hown, hts⟩ (c_L_below l D cI cJ cZ cB z5 51 (by decide) (by decide)) (va_cwS 2 hts gL_act_L_below rfl rfl rfl (by decide +kernel) ⟨Nat.le_of_ble_eq_true rfl, Nat.le_of_ble_eq_true rfl⟩) hK hP hD hS hA [0, 1, 2, 3] rfl rfl hl.1 rfl (Nat.le_of_ble_eq_true rfl) rfl rfl ⟨Nat.le_of_ble_eq_true rfl, Nat.le_of_ble_eq_true rfl⟩ dL_act_112 (fun rb u H locs hw hP hD hS => ?_)
      have hP : va_P D vwCl ((fW g hn ha adn ada cI hei dra rai σ cre gai see fou z) ++ (sM h a r aw bw cI cJ hei dra rai σ)) H := hP
      have hD : va_D A ((fW g hn ha adn ada cI hei dra rai σ cre gai see fou z) ++ (sM h a r aw bw cI cJ hei dra rai σ)) := hD
      obtain ⟨vb, hvb, rfl⟩ := hw
      have hv : (0 : Int32) ≤ nI vb ∧ nI vb ≤ 50 := b_le (M := 50) rfl hvb (by decide) (by decide)
      refine gr_iast (g := upd hei (8 * ya + xa) (nI vb)) (ws1 := ((fW g hn ha adn ada cI hei dra rai σ cre gai see fou z) ++ (sM h a r aw bw cI cJ (upd hei (8 * ya + xa) (nI vb)) dra rai σ))) hx hb hK hP hD hS 27 0 rfl rfl xa ya (8 * ya + xa) (by omega) (by omega) rfl rfl rfl rfl dL_act_115 (fun H locs hP hD hS => ?_)
      refine lv_aload_n hx hb dL_act_116 rfl (lv_at hl 3 rfl) ?_
      refine lv_iload_n hx hb dL_act_117 rfl (lv_at hl 2 rfl) ?_
      refine lv_iload hx hb dL_act_118 (lv_at hl 1 rfl) ?_
      refine lv_aload_n hx hb dL_act_120 rfl (lv_at hl 4 rfl) ?_
      refine va_get (D := D) (ci := 2) (v := .ref (a 0)) (C := RX2) (T := TX2) (N := 11) hx hb hts (fun _ h9 => (List.mem_cons_of_mem _ (List.mem_append_left _ (List.mem_append_left _ (List.mem_append_left _ (List.mem_append_left _ (List.mem_append_right _ h9))))))) hown hK hP 25 rfl rfl 0 (by decide) (hts (Cond.fieldLink RL 15 "FloodGridLaw$Sim" "height" "[[I") (List.mem_of_getElem? (i := 1) rfl)) (fun _ h9 => h9) rfl dL_act_121 ?_
      refine lv_iload_n hx hb dL_act_124 rfl (lv_at hl 2 rfl) ?_
      refine gr_aald hx hb hK hP 26 1 rfl rfl xa rfl (by omega) (by decide) dL_act_125 ?_
      refine lv_iload hx hb dL_act_126 (lv_at hl 1 rfl) ?_
      refine gr_iald (v := (nI vb)) hx hb hK hP 27 0 rfl rfl xa ya (8 * ya + xa) (by omega) (by omega) rfl rfl pk_us dL_act_128 ?_
      refine cpx_Vi (As := [.int (nI xa), .int (nI ya), .int (nI vb)]) (rest := []) (wr := (sM h a r aw bw cI cJ (upd hei (8 * ya + xa) (nI vb)) dra rai σ)) (cells1 := 3) (slots1 := 18) ⟨hx, hb, hml, hown, hts⟩ (c_X1_raise l hst D cI κ.1 κ.2.1 g hn ha adn ada hei dra rai σ cre gai see fou z (nI xa) (nI ya) (nI vb)) (cwV 3 hts gL_act_X1_raise rfl rfl rfl (by decide +kernel) ⟨Nat.le_of_ble_eq_true rfl, Nat.le_of_ble_eq_true rfl⟩) hK hP hD hS hA hX.1 (fun E z9 => by rcases z9 with ⟨-, z9⟩ | ⟨-, -, z9⟩ <;> exact z9 (by assumption)) [0] rfl (va_recv hK hP (ci := 1) (q0 := 0) rfl rfl) rfl hl.1 rfl (Nat.le_of_ble_eq_true rfl) rfl rfl ⟨Nat.le_of_ble_eq_true rfl, Nat.le_of_ble_eq_true rfl⟩ dL_act_129 (fun r1 u H locs hw hP hD hS => ?_)
      rw [hat] at hw hP hD
      have hP : va_P D vwCl ((fW g hn ha adn ada cI (upd hei (8 * ya + xa) (nI vb)) dra rai σ cre gai see fou z) ++ (sM h a r aw bw cI cJ (upd hei (8 * ya + xa) (nI vb)) dra rai σ)) H := hP
      have hD : va_D A ((fW g hn ha adn ada cI (upd hei (8 * ya + xa) (nI vb)) dra rai σ cre gai see fou z) ++ (sM h a r aw bw cI cJ (upd hei (8 * ya + xa) (nI vb)) dra rai σ)) := hD
      refine lv_iload hx hb dL_act_132 (lv_at hl 0 rfl) ?_
      refine lv_icmp_ne (tgt := 141) hx hb dL_act_134 (by decide) (fun hs => ?_) (fun hs => ?_)
      · skip
        exact absurd hw.2.2 hs
      · skip
        refine lv_iconst (v := 1) hx hb dL_act_137 (by decide) ?_
        refine lv_goto (tgt := 142) hx hb dL_act_138 (by decide) ?_
        exact fin 1 (upd hei (8 * ya + xa) (nI vb), dra, rai, σ) H locs 3 18 142 ls dL_act_142 ⟨rfl, (pv_up (pv_hei hI (8 * ya + xa) hv) (by omega)), rfl⟩ hP hD hS (Nat.le_of_ble_eq_true rfl) (Nat.le_of_ble_eq_true rfl)
  · skip
    refine lv_tableIn (off := 117) (tgt := 143) hx hb dL_act_26 (by decide) (by decide) rfl (by decide) ?_
    refine lv_iload_n hx hb dL_act_143 rfl (lv_at hl 4 rfl) ?_
    refine lv_iconst (v := 4) hx hb dL_act_144 (by decide) ?_
    refine lv_ishr hx hb dL_act_145 ?_
    refine lv_topi (fun z7 _ => ?_)
    refine lv_sipush (v := 140) hx hb dL_act_146 (by decide) ?_
    refine cp_Si (As := [.int z7, .int (nI 140)]) (rest := []) (wr := (((fW g hn ha adn ada cI hei dra rai σ cre gai see fou z) ++ (sM h a r aw bw cI cJ hei dra rai σ)))) (cells1 := 0) (slots1 := 0) ⟨hx, hb, hml, hown, hts⟩ (c_L_below l D cI cJ cZ cB z7 140 (by decide) (by decide)) (va_cwS 2 hts gL_act_L_below rfl rfl rfl (by decide +kernel) ⟨Nat.le_of_ble_eq_true rfl, Nat.le_of_ble_eq_true rfl⟩) hK hP hD hS hA [0, 1, 2, 3] rfl rfl hl.1 rfl (Nat.le_of_ble_eq_true rfl) rfl rfl ⟨Nat.le_of_ble_eq_true rfl, Nat.le_of_ble_eq_true rfl⟩ dL_act_149 (fun rb u H locs hw hP hD hS => ?_)
    have hP : va_P D vwCl ((fW g hn ha adn ada cI hei dra rai σ cre gai see fou z) ++ (sM h a r aw bw cI cJ hei dra rai σ)) H := hP
    have hD : va_D A ((fW g hn ha adn ada cI hei dra rai σ cre gai see fou z) ++ (sM h a r aw bw cI cJ hei dra rai σ)) := hD
    obtain ⟨vb, hvb, rfl⟩ := hw
    refine lv_bipush (v := 40) hx hb dL_act_152 (by decide) ?_
    refine lv_isub hx hb dL_act_154 ?_
    refine lv_istore (lv' := [(6, .int ((nI vb) - 40)), (4, .int (nI ya)), (3, .int (nI xa)), (0, .ref g), (1, .ref h), (2, .int zz)]) hx hb dL_act_155 hl (by decide) rfl (fun ls hl => ?_)
    refine lv_iload hx hb dL_act_157 (lv_at hl 0 rfl) ?_
    refine lv_bipush (v := 99) hx hb dL_act_159 (by decide) ?_
    refine lv_icmp_le (tgt := 168) hx hb dL_act_161 (by decide) (fun hz => ?_) (fun hz => ?_)
    · skip
      have hv := b_pour hvb hz
      refine lv_aload_n hx hb dL_act_168 rfl (lv_at hl 4 rfl) ?_
      refine va_get (D := D) (ci := 2) (v := .ref aw) (C := RX2) (T := TX2) (N := 11) hx hb hts (fun _ h9 => (List.mem_cons_of_mem _ (List.mem_append_left _ (List.mem_append_left _ (List.mem_append_left _ (List.mem_append_left _ (List.mem_append_right _ h9))))))) hown hK hP 25 rfl rfl 1 (by decide) (hts (Cond.fieldLink RL 27 "FloodGridLaw$Sim" "water" "[[I") (List.mem_of_getElem? (i := 2) rfl)) (fun _ h9 => h9) rfl dL_act_169 ?_
      refine lv_iload_n hx hb dL_act_172 rfl (lv_at hl 2 rfl) ?_
      refine gr_aald hx hb hK hP 35 1 rfl rfl xa rfl (by omega) (by decide) dL_act_173 ?_
      refine lv_iload hx hb dL_act_174 (lv_at hl 1 rfl) ?_
      refine lv_iconst (v := 0) hx hb dL_act_176 (by decide) ?_
      refine lv_aload_n hx hb dL_act_177 rfl (lv_at hl 4 rfl) ?_
      refine va_get (D := D) (ci := 2) (v := .ref aw) (C := RX2) (T := TX2) (N := 11) hx hb hts (fun _ h9 => (List.mem_cons_of_mem _ (List.mem_append_left _ (List.mem_append_left _ (List.mem_append_left _ (List.mem_append_left _ (List.mem_append_right _ h9))))))) hown hK hP 25 rfl rfl 1 (by decide) (hts (Cond.fieldLink RL 27 "FloodGridLaw$Sim" "water" "[[I") (List.mem_of_getElem? (i := 2) rfl)) (fun _ h9 => h9) rfl dL_act_178 ?_
      refine lv_iload_n hx hb dL_act_181 rfl (lv_at hl 2 rfl) ?_
      refine gr_aald hx hb hK hP 35 1 rfl rfl xa rfl (by omega) (by decide) dL_act_182 ?_
      refine lv_iload hx hb dL_act_183 (lv_at hl 1 rfl) ?_
      refine gr_iald (v := (m_wat σ) (8 * ya + xa)) hx hb hK hP 36 0 rfl rfl xa ya (8 * ya + xa) (by omega) (by omega) rfl rfl rfl dL_act_185 ?_
      refine lv_iload hx hb dL_act_186 (lv_at hl 0 rfl) ?_
      refine lv_iadd hx hb dL_act_188 ?_
      refine ct_mmax (v := (i_max 0 (m_wat σ (8 * ya + xa) + (nI vb - 40)))) hx hb (hml.trans hl.1.symm) hown (hts (Cond.methodLink RL 30 Lib.Math.max.name) (List.mem_of_getElem? (i := 3) rfl)) (hts (Cond.static Lib.Math.max.name) (List.mem_of_getElem? (i := 4) rfl)) (hts (Cond.initialized "java/lang/Math") (List.mem_of_getElem? (i := 5) rfl)) (hts (Cond.code Lib.Math.max.name Lib.Math.max.code 2 (some .int)) (List.mem_of_getElem? (i := 6) rfl)) (Nat.le_of_ble_eq_true rfl) (Nat.le_of_ble_eq_true rfl) (Nat.le_of_ble_eq_true rfl) (Nat.le_of_ble_eq_true rfl) rfl dL_act_189 ?_
      refine gr_iast (g := (upd (m_wat σ) (8 * ya + xa) (i_max 0 (m_wat σ (8 * ya + xa) + (nI vb - 40))))) (ws1 := ((fW g hn ha adn ada cI hei dra rai σ cre gai see fou z) ++ (sW h a r aw bw cI cJ hei (upd (m_wat σ) (8 * ya + xa) (i_max 0 (m_wat σ (8 * ya + xa) + (nI vb - 40)))) (m_dam σ) (m_wea σ) dra (m_peo σ) rai (nI (m_t σ)) (m_bro σ) (m_drd σ) (m_lef σ)))) hx hb hK hP hD hS 36 0 rfl rfl xa ya (8 * ya + xa) (by omega) (by omega) rfl rfl rfl rfl dL_act_192 (fun H locs hP hD hS => ?_)
      refine lv_aload_n hx hb dL_act_193 rfl (lv_at hl 3 rfl) ?_
      refine lv_iload_n hx hb dL_act_194 rfl (lv_at hl 2 rfl) ?_
      refine lv_iload hx hb dL_act_195 (lv_at hl 1 rfl) ?_
      refine lv_iload hx hb dL_act_197 (lv_at hl 0 rfl) ?_
      refine cpx_Vi (As := [.int (nI xa), .int (nI ya), .int (nI vb - 40)]) (rest := []) (wr := (sW h a r aw bw cI cJ hei (upd (m_wat σ) (8 * ya + xa) (i_max 0 (m_wat σ (8 * ya + xa) + (nI vb - 40)))) (m_dam σ) (m_wea σ) dra (m_peo σ) rai (nI (m_t σ)) (m_bro σ) (m_drd σ) (m_lef σ))) (cells1 := 3) (slots1 := 18) ⟨hx, hb, hml, hown, hts⟩ (c_X1_pour l hst D cI κ.1 κ.2.1 g hn ha adn ada hei dra rai σ cre gai see fou z (nI xa) (nI ya) (nI vb - 40)) (cwV 3 hts gL_act_X1_pour rfl rfl rfl (by decide +kernel) ⟨Nat.le_of_ble_eq_true rfl, Nat.le_of_ble_eq_true rfl⟩) hK hP hD hS hA hX.1 (fun E z9 => by rcases z9 with ⟨-, z9⟩ | ⟨-, -, z9⟩ <;> exact z9 (by assumption)) [0] rfl (va_recv hK hP (ci := 1) (q0 := 0) rfl rfl) rfl hl.1 rfl (Nat.le_of_ble_eq_true rfl) rfl rfl ⟨Nat.le_of_ble_eq_true rfl, Nat.le_of_ble_eq_true rfl⟩ dL_act_199 (fun r1 u H locs hw hP hD hS => ?_)
      rw [hat] at hw hP hD
      have hP : va_P D vwCl ((fW g hn ha adn ada cI hei dra rai (upd (m_wat σ) (8 * ya + xa) (i_max 0 (m_wat σ (8 * ya + xa) + (nI vb - 40))), m_dam σ, m_wea σ, m_peo σ, m_t σ, m_bro σ, m_drd σ, m_lef σ) cre gai see fou z) ++ (sW h a r aw bw cI cJ hei (upd (m_wat σ) (8 * ya + xa) (i_max 0 (m_wat σ (8 * ya + xa) + (nI vb - 40)))) (m_dam σ) (m_wea σ) dra (m_peo σ) rai (nI (m_t σ)) (m_bro σ) (m_drd σ) (m_lef σ))) H := hP
      have hD : va_D A ((fW g hn ha adn ada cI hei dra rai (upd (m_wat σ) (8 * ya + xa) (i_max 0 (m_wat σ (8 * ya + xa) + (nI vb - 40))), m_dam σ, m_wea σ, m_peo σ, m_t σ, m_bro σ, m_drd σ, m_lef σ) cre gai see fou z) ++ (sW h a r aw bw cI cJ hei (upd (m_wat σ) (8 * ya + xa) (i_max 0 (m_wat σ (8 * ya + xa) + (nI vb - 40)))) (m_dam σ) (m_wea σ) dra (m_peo σ) rai (nI (m_t σ)) (m_bro σ) (m_drd σ) (m_lef σ))) := hD
      refine lv_aload_n hx hb dL_act_202 rfl (lv_at hl 4 rfl) ?_
      refine va_get (D := D) (ci := 2) (v := .ref aw) (C := RX2) (T := TX2) (N := 11) hx hb hts (fun _ h9 => (List.mem_cons_of_mem _ (List.mem_append_left _ (List.mem_append_left _ (List.mem_append_left _ (List.mem_append_left _ (List.mem_append_right _ h9))))))) hown hK hP 25 rfl rfl 1 (by decide) (hts (Cond.fieldLink RL 27 "FloodGridLaw$Sim" "water" "[[I") (List.mem_of_getElem? (i := 2) rfl)) (fun _ h9 => h9) rfl dL_act_203 ?_
      refine lv_iload_n hx hb dL_act_206 rfl (lv_at hl 2 rfl) ?_
      refine gr_aald hx hb hK hP 35 1 rfl rfl xa rfl (by omega) (by decide) dL_act_207 ?_
      refine lv_iload hx hb dL_act_208 (lv_at hl 1 rfl) ?_
      refine gr_iald (v := (i_max 0 (m_wat σ (8 * ya + xa) + (nI vb - 40)))) hx hb hK hP 36 0 rfl rfl xa ya (8 * ya + xa) (by omega) (by omega) rfl rfl pk_us dL_act_210 ?_
      refine lv_icmp_ne (tgt := 218) hx hb dL_act_211 (by decide) (fun hs => ?_) (fun hs => ?_)
      · skip
        exact absurd hw.2.2 hs
      · skip
        refine lv_iconst (v := 1) hx hb dL_act_214 (by decide) ?_
        refine lv_goto (tgt := 219) hx hb dL_act_215 (by decide) ?_
        exact fin 1 (hei, dra, rai, (upd (m_wat σ) (8 * ya + xa) (i_max 0 (m_wat σ (8 * ya + xa) + (nI vb - 40))), m_dam σ, m_wea σ, m_peo σ, m_t σ, m_bro σ, m_drd σ, m_lef σ)) H locs 3 18 219 ls dL_act_219 ⟨rfl, (pv_pour hB hI hk64 hv), rfl⟩ hP hD hS (Nat.le_of_ble_eq_true rfl) (Nat.le_of_ble_eq_true rfl)
    · skip
      have hv : (-99 : Int32) ≤ 99 ∧ (99 : Int32) ≤ 99 := by decide
      refine lv_bipush (v := 99) hx hb dL_act_164 (by decide) ?_
      refine lv_istore (lv' := [(6, .int 99), (4, .int (nI ya)), (3, .int (nI xa)), (0, .ref g), (1, .ref h), (2, .int zz)]) hx hb dL_act_166 hl (by decide) rfl (fun ls hl => ?_)
      refine lv_aload_n hx hb dL_act_168 rfl (lv_at hl 4 rfl) ?_
      refine va_get (D := D) (ci := 2) (v := .ref aw) (C := RX2) (T := TX2) (N := 11) hx hb hts (fun _ h9 => (List.mem_cons_of_mem _ (List.mem_append_left _ (List.mem_append_left _ (List.mem_append_left _ (List.mem_append_left _ (List.mem_append_right _ h9))))))) hown hK hP 25 rfl rfl 1 (by decide) (hts (Cond.fieldLink RL 27 "FloodGridLaw$Sim" "water" "[[I") (List.mem_of_getElem? (i := 2) rfl)) (fun _ h9 => h9) rfl dL_act_169 ?_
      refine lv_iload_n hx hb dL_act_172 rfl (lv_at hl 2 rfl) ?_
      refine gr_aald hx hb hK hP 35 1 rfl rfl xa rfl (by omega) (by decide) dL_act_173 ?_
      refine lv_iload hx hb dL_act_174 (lv_at hl 1 rfl) ?_
      refine lv_iconst (v := 0) hx hb dL_act_176 (by decide) ?_
      refine lv_aload_n hx hb dL_act_177 rfl (lv_at hl 4 rfl) ?_
      refine va_get (D := D) (ci := 2) (v := .ref aw) (C := RX2) (T := TX2) (N := 11) hx hb hts (fun _ h9 => (List.mem_cons_of_mem _ (List.mem_append_left _ (List.mem_append_left _ (List.mem_append_left _ (List.mem_append_left _ (List.mem_append_right _ h9))))))) hown hK hP 25 rfl rfl 1 (by decide) (hts (Cond.fieldLink RL 27 "FloodGridLaw$Sim" "water" "[[I") (List.mem_of_getElem? (i := 2) rfl)) (fun _ h9 => h9) rfl dL_act_178 ?_
      refine lv_iload_n hx hb dL_act_181 rfl (lv_at hl 2 rfl) ?_
      refine gr_aald hx hb hK hP 35 1 rfl rfl xa rfl (by omega) (by decide) dL_act_182 ?_
      refine lv_iload hx hb dL_act_183 (lv_at hl 1 rfl) ?_
      refine gr_iald (v := (m_wat σ) (8 * ya + xa)) hx hb hK hP 36 0 rfl rfl xa ya (8 * ya + xa) (by omega) (by omega) rfl rfl rfl dL_act_185 ?_
      refine lv_iload hx hb dL_act_186 (lv_at hl 0 rfl) ?_
      refine lv_iadd hx hb dL_act_188 ?_
      refine ct_mmax (v := (i_max 0 (m_wat σ (8 * ya + xa) + 99))) hx hb (hml.trans hl.1.symm) hown (hts (Cond.methodLink RL 30 Lib.Math.max.name) (List.mem_of_getElem? (i := 3) rfl)) (hts (Cond.static Lib.Math.max.name) (List.mem_of_getElem? (i := 4) rfl)) (hts (Cond.initialized "java/lang/Math") (List.mem_of_getElem? (i := 5) rfl)) (hts (Cond.code Lib.Math.max.name Lib.Math.max.code 2 (some .int)) (List.mem_of_getElem? (i := 6) rfl)) (Nat.le_of_ble_eq_true rfl) (Nat.le_of_ble_eq_true rfl) (Nat.le_of_ble_eq_true rfl) (Nat.le_of_ble_eq_true rfl) rfl dL_act_189 ?_
      refine gr_iast (g := (upd (m_wat σ) (8 * ya + xa) (i_max 0 (m_wat σ (8 * ya + xa) + 99)))) (ws1 := ((fW g hn ha adn ada cI hei dra rai σ cre gai see fou z) ++ (sW h a r aw bw cI cJ hei (upd (m_wat σ) (8 * ya + xa) (i_max 0 (m_wat σ (8 * ya + xa) + 99))) (m_dam σ) (m_wea σ) dra (m_peo σ) rai (nI (m_t σ)) (m_bro σ) (m_drd σ) (m_lef σ)))) hx hb hK hP hD hS 36 0 rfl rfl xa ya (8 * ya + xa) (by omega) (by omega) rfl rfl rfl rfl dL_act_192 (fun H locs hP hD hS => ?_)
      refine lv_aload_n hx hb dL_act_193 rfl (lv_at hl 3 rfl) ?_
      refine lv_iload_n hx hb dL_act_194 rfl (lv_at hl 2 rfl) ?_
      refine lv_iload hx hb dL_act_195 (lv_at hl 1 rfl) ?_
      refine lv_iload hx hb dL_act_197 (lv_at hl 0 rfl) ?_
      refine cpx_Vi (As := [.int (nI xa), .int (nI ya), .int 99]) (rest := []) (wr := (sW h a r aw bw cI cJ hei (upd (m_wat σ) (8 * ya + xa) (i_max 0 (m_wat σ (8 * ya + xa) + 99))) (m_dam σ) (m_wea σ) dra (m_peo σ) rai (nI (m_t σ)) (m_bro σ) (m_drd σ) (m_lef σ))) (cells1 := 3) (slots1 := 18) ⟨hx, hb, hml, hown, hts⟩ (c_X1_pour l hst D cI κ.1 κ.2.1 g hn ha adn ada hei dra rai σ cre gai see fou z (nI xa) (nI ya) 99) (cwV 3 hts gL_act_X1_pour rfl rfl rfl (by decide +kernel) ⟨Nat.le_of_ble_eq_true rfl, Nat.le_of_ble_eq_true rfl⟩) hK hP hD hS hA hX.1 (fun E z9 => by rcases z9 with ⟨-, z9⟩ | ⟨-, -, z9⟩ <;> exact z9 (by assumption)) [0] rfl (va_recv hK hP (ci := 1) (q0 := 0) rfl rfl) rfl hl.1 rfl (Nat.le_of_ble_eq_true rfl) rfl rfl ⟨Nat.le_of_ble_eq_true rfl, Nat.le_of_ble_eq_true rfl⟩ dL_act_199 (fun r1 u H locs hw hP hD hS => ?_)
      rw [hat] at hw hP hD
      have hP : va_P D vwCl ((fW g hn ha adn ada cI hei dra rai (upd (m_wat σ) (8 * ya + xa) (i_max 0 (m_wat σ (8 * ya + xa) + 99)), m_dam σ, m_wea σ, m_peo σ, m_t σ, m_bro σ, m_drd σ, m_lef σ) cre gai see fou z) ++ (sW h a r aw bw cI cJ hei (upd (m_wat σ) (8 * ya + xa) (i_max 0 (m_wat σ (8 * ya + xa) + 99))) (m_dam σ) (m_wea σ) dra (m_peo σ) rai (nI (m_t σ)) (m_bro σ) (m_drd σ) (m_lef σ))) H := hP
      have hD : va_D A ((fW g hn ha adn ada cI hei dra rai (upd (m_wat σ) (8 * ya + xa) (i_max 0 (m_wat σ (8 * ya + xa) + 99)), m_dam σ, m_wea σ, m_peo σ, m_t σ, m_bro σ, m_drd σ, m_lef σ) cre gai see fou z) ++ (sW h a r aw bw cI cJ hei (upd (m_wat σ) (8 * ya + xa) (i_max 0 (m_wat σ (8 * ya + xa) + 99))) (m_dam σ) (m_wea σ) dra (m_peo σ) rai (nI (m_t σ)) (m_bro σ) (m_drd σ) (m_lef σ))) := hD
      refine lv_aload_n hx hb dL_act_202 rfl (lv_at hl 4 rfl) ?_
      refine va_get (D := D) (ci := 2) (v := .ref aw) (C := RX2) (T := TX2) (N := 11) hx hb hts (fun _ h9 => (List.mem_cons_of_mem _ (List.mem_append_left _ (List.mem_append_left _ (List.mem_append_left _ (List.mem_append_left _ (List.mem_append_right _ h9))))))) hown hK hP 25 rfl rfl 1 (by decide) (hts (Cond.fieldLink RL 27 "FloodGridLaw$Sim" "water" "[[I") (List.mem_of_getElem? (i := 2) rfl)) (fun _ h9 => h9) rfl dL_act_203 ?_
      refine lv_iload_n hx hb dL_act_206 rfl (lv_at hl 2 rfl) ?_
      refine gr_aald hx hb hK hP 35 1 rfl rfl xa rfl (by omega) (by decide) dL_act_207 ?_
      refine lv_iload hx hb dL_act_208 (lv_at hl 1 rfl) ?_
      refine gr_iald (v := (i_max 0 (m_wat σ (8 * ya + xa) + 99))) hx hb hK hP 36 0 rfl rfl xa ya (8 * ya + xa) (by omega) (by omega) rfl rfl pk_us dL_act_210 ?_
      refine lv_icmp_ne (tgt := 218) hx hb dL_act_211 (by decide) (fun hs => ?_) (fun hs => ?_)
      · skip
        exact absurd hw.2.2 hs
      · skip
        refine lv_iconst (v := 1) hx hb dL_act_214 (by decide) ?_
        refine lv_goto (tgt := 219) hx hb dL_act_215 (by decide) ?_
        exact fin 1 (hei, dra, rai, (upd (m_wat σ) (8 * ya + xa) (i_max 0 (m_wat σ (8 * ya + xa) + 99)), m_dam σ, m_wea σ, m_peo σ, m_t σ, m_bro σ, m_drd σ, m_lef σ)) H locs 3 18 219 ls dL_act_219 ⟨rfl, (pv_pour hB hI hk64 hv), rfl⟩ hP hD hS (Nat.le_of_ble_eq_true rfl) (Nat.le_of_ble_eq_true rfl)
  · skip
    refine lv_tableIn (off := 117) (tgt := 143) hx hb dL_act_26 (by decide) (by decide) rfl (by decide) ?_
    refine lv_iload_n hx hb dL_act_143 rfl (lv_at hl 4 rfl) ?_
    refine lv_iconst (v := 4) hx hb dL_act_144 (by decide) ?_
    refine lv_ishr hx hb dL_act_145 ?_
    refine lv_topi (fun z8 _ => ?_)
    refine lv_sipush (v := 140) hx hb dL_act_146 (by decide) ?_
    refine cp_Si (As := [.int z8, .int (nI 140)]) (rest := []) (wr := (((fW g hn ha adn ada cI hei dra rai σ cre gai see fou z) ++ (sM h a r aw bw cI cJ hei dra rai σ)))) (cells1 := 0) (slots1 := 0) ⟨hx, hb, hml, hown, hts⟩ (c_L_below l D cI cJ cZ cB z8 140 (by decide) (by decide)) (va_cwS 2 hts gL_act_L_below rfl rfl rfl (by decide +kernel) ⟨Nat.le_of_ble_eq_true rfl, Nat.le_of_ble_eq_true rfl⟩) hK hP hD hS hA [0, 1, 2, 3] rfl rfl hl.1 rfl (Nat.le_of_ble_eq_true rfl) rfl rfl ⟨Nat.le_of_ble_eq_true rfl, Nat.le_of_ble_eq_true rfl⟩ dL_act_149 (fun rb u H locs hw hP hD hS => ?_)
    have hP : va_P D vwCl ((fW g hn ha adn ada cI hei dra rai σ cre gai see fou z) ++ (sM h a r aw bw cI cJ hei dra rai σ)) H := hP
    have hD : va_D A ((fW g hn ha adn ada cI hei dra rai σ cre gai see fou z) ++ (sM h a r aw bw cI cJ hei dra rai σ)) := hD
    obtain ⟨vb, hvb, rfl⟩ := hw
    refine lv_bipush (v := 40) hx hb dL_act_152 (by decide) ?_
    refine lv_isub hx hb dL_act_154 ?_
    refine lv_istore (lv' := [(6, .int ((nI vb) - 40)), (4, .int (nI ya)), (3, .int (nI xa)), (0, .ref g), (1, .ref h), (2, .int zz)]) hx hb dL_act_155 hl (by decide) rfl (fun ls hl => ?_)
    refine lv_iload hx hb dL_act_157 (lv_at hl 0 rfl) ?_
    refine lv_bipush (v := 99) hx hb dL_act_159 (by decide) ?_
    refine lv_icmp_le (tgt := 168) hx hb dL_act_161 (by decide) (fun hz => ?_) (fun hz => ?_)
    · skip
      have hv := b_pour hvb hz
      refine lv_aload_n hx hb dL_act_168 rfl (lv_at hl 4 rfl) ?_
      refine va_get (D := D) (ci := 2) (v := .ref aw) (C := RX2) (T := TX2) (N := 11) hx hb hts (fun _ h9 => (List.mem_cons_of_mem _ (List.mem_append_left _ (List.mem_append_left _ (List.mem_append_left _ (List.mem_append_left _ (List.mem_append_right _ h9))))))) hown hK hP 25 rfl rfl 1 (by decide) (hts (Cond.fieldLink RL 27 "FloodGridLaw$Sim" "water" "[[I") (List.mem_of_getElem? (i := 2) rfl)) (fun _ h9 => h9) rfl dL_act_169 ?_
      refine lv_iload_n hx hb dL_act_172 rfl (lv_at hl 2 rfl) ?_
      refine gr_aald hx hb hK hP 35 1 rfl rfl xa rfl (by omega) (by decide) dL_act_173 ?_
      refine lv_iload hx hb dL_act_174 (lv_at hl 1 rfl) ?_
      refine lv_iconst (v := 0) hx hb dL_act_176 (by decide) ?_
      refine lv_aload_n hx hb dL_act_177 rfl (lv_at hl 4 rfl) ?_
      refine va_get (D := D) (ci := 2) (v := .ref aw) (C := RX2) (T := TX2) (N := 11) hx hb hts (fun _ h9 => (List.mem_cons_of_mem _ (List.mem_append_left _ (List.mem_append_left _ (List.mem_append_left _ (List.mem_append_left _ (List.mem_append_right _ h9))))))) hown hK hP 25 rfl rfl 1 (by decide) (hts (Cond.fieldLink RL 27 "FloodGridLaw$Sim" "water" "[[I") (List.mem_of_getElem? (i := 2) rfl)) (fun _ h9 => h9) rfl dL_act_178 ?_
      refine lv_iload_n hx hb dL_act_181 rfl (lv_at hl 2 rfl) ?_
      refine gr_aald hx hb hK hP 35 1 rfl rfl xa rfl (by omega) (by decide) dL_act_182 ?_
      refine lv_iload hx hb dL_act_183 (lv_at hl 1 rfl) ?_
      refine gr_iald (v := (m_wat σ) (8 * ya + xa)) hx hb hK hP 36 0 rfl rfl xa ya (8 * ya + xa) (by omega) (by omega) rfl rfl rfl dL_act_185 ?_
      refine lv_iload hx hb dL_act_186 (lv_at hl 0 rfl) ?_
      refine lv_iadd hx hb dL_act_188 ?_
      refine ct_mmax (v := (i_max 0 (m_wat σ (8 * ya + xa) + (nI vb - 40)))) hx hb (hml.trans hl.1.symm) hown (hts (Cond.methodLink RL 30 Lib.Math.max.name) (List.mem_of_getElem? (i := 3) rfl)) (hts (Cond.static Lib.Math.max.name) (List.mem_of_getElem? (i := 4) rfl)) (hts (Cond.initialized "java/lang/Math") (List.mem_of_getElem? (i := 5) rfl)) (hts (Cond.code Lib.Math.max.name Lib.Math.max.code 2 (some .int)) (List.mem_of_getElem? (i := 6) rfl)) (Nat.le_of_ble_eq_true rfl) (Nat.le_of_ble_eq_true rfl) (Nat.le_of_ble_eq_true rfl) (Nat.le_of_ble_eq_true rfl) rfl dL_act_189 ?_
      refine gr_iast (g := (upd (m_wat σ) (8 * ya + xa) (i_max 0 (m_wat σ (8 * ya + xa) + (nI vb - 40))))) (ws1 := ((fW g hn ha adn ada cI hei dra rai σ cre gai see fou z) ++ (sW h a r aw bw cI cJ hei (upd (m_wat σ) (8 * ya + xa) (i_max 0 (m_wat σ (8 * ya + xa) + (nI vb - 40)))) (m_dam σ) (m_wea σ) dra (m_peo σ) rai (nI (m_t σ)) (m_bro σ) (m_drd σ) (m_lef σ)))) hx hb hK hP hD hS 36 0 rfl rfl xa ya (8 * ya + xa) (by omega) (by omega) rfl rfl rfl rfl dL_act_192 (fun H locs hP hD hS => ?_)
      refine lv_aload_n hx hb dL_act_193 rfl (lv_at hl 3 rfl) ?_
      refine lv_iload_n hx hb dL_act_194 rfl (lv_at hl 2 rfl) ?_
      refine lv_iload hx hb dL_act_195 (lv_at hl 1 rfl) ?_
      refine lv_iload hx hb dL_act_197 (lv_at hl 0 rfl) ?_
      refine cpx_Vi (As := [.int (nI xa), .int (nI ya), .int (nI vb - 40)]) (rest := []) (wr := (sW h a r aw bw cI cJ hei (upd (m_wat σ) (8 * ya + xa) (i_max 0 (m_wat σ (8 * ya + xa) + (nI vb - 40)))) (m_dam σ) (m_wea σ) dra (m_peo σ) rai (nI (m_t σ)) (m_bro σ) (m_drd σ) (m_lef σ))) (cells1 := 3) (slots1 := 18) ⟨hx, hb, hml, hown, hts⟩ (c_X1_pour l hst D cI κ.1 κ.2.1 g hn ha adn ada hei dra rai σ cre gai see fou z (nI xa) (nI ya) (nI vb - 40)) (cwV 3 hts gL_act_X1_pour rfl rfl rfl (by decide +kernel) ⟨Nat.le_of_ble_eq_true rfl, Nat.le_of_ble_eq_true rfl⟩) hK hP hD hS hA hX.1 (fun E z9 => by rcases z9 with ⟨-, z9⟩ | ⟨-, -, z9⟩ <;> exact z9 (by assumption)) [0] rfl (va_recv hK hP (ci := 1) (q0 := 0) rfl rfl) rfl hl.1 rfl (Nat.le_of_ble_eq_true rfl) rfl rfl ⟨Nat.le_of_ble_eq_true rfl, Nat.le_of_ble_eq_true rfl⟩ dL_act_199 (fun r1 u H locs hw hP hD hS => ?_)
      rw [hat] at hw hP hD
      have hP : va_P D vwCl ((fW g hn ha adn ada cI hei dra rai (upd (m_wat σ) (8 * ya + xa) (i_max 0 (m_wat σ (8 * ya + xa) + (nI vb - 40))), m_dam σ, m_wea σ, m_peo σ, m_t σ, m_bro σ, m_drd σ, m_lef σ) cre gai see fou z) ++ (sW h a r aw bw cI cJ hei (upd (m_wat σ) (8 * ya + xa) (i_max 0 (m_wat σ (8 * ya + xa) + (nI vb - 40)))) (m_dam σ) (m_wea σ) dra (m_peo σ) rai (nI (m_t σ)) (m_bro σ) (m_drd σ) (m_lef σ))) H := hP
      have hD : va_D A ((fW g hn ha adn ada cI hei dra rai (upd (m_wat σ) (8 * ya + xa) (i_max 0 (m_wat σ (8 * ya + xa) + (nI vb - 40))), m_dam σ, m_wea σ, m_peo σ, m_t σ, m_bro σ, m_drd σ, m_lef σ) cre gai see fou z) ++ (sW h a r aw bw cI cJ hei (upd (m_wat σ) (8 * ya + xa) (i_max 0 (m_wat σ (8 * ya + xa) + (nI vb - 40)))) (m_dam σ) (m_wea σ) dra (m_peo σ) rai (nI (m_t σ)) (m_bro σ) (m_drd σ) (m_lef σ))) := hD
      refine lv_aload_n hx hb dL_act_202 rfl (lv_at hl 4 rfl) ?_
      refine va_get (D := D) (ci := 2) (v := .ref aw) (C := RX2) (T := TX2) (N := 11) hx hb hts (fun _ h9 => (List.mem_cons_of_mem _ (List.mem_append_left _ (List.mem_append_left _ (List.mem_append_left _ (List.mem_append_left _ (List.mem_append_right _ h9))))))) hown hK hP 25 rfl rfl 1 (by decide) (hts (Cond.fieldLink RL 27 "FloodGridLaw$Sim" "water" "[[I") (List.mem_of_getElem? (i := 2) rfl)) (fun _ h9 => h9) rfl dL_act_203 ?_
      refine lv_iload_n hx hb dL_act_206 rfl (lv_at hl 2 rfl) ?_
      refine gr_aald hx hb hK hP 35 1 rfl rfl xa rfl (by omega) (by decide) dL_act_207 ?_
      refine lv_iload hx hb dL_act_208 (lv_at hl 1 rfl) ?_
      refine gr_iald (v := (i_max 0 (m_wat σ (8 * ya + xa) + (nI vb - 40)))) hx hb hK hP 36 0 rfl rfl xa ya (8 * ya + xa) (by omega) (by omega) rfl rfl pk_us dL_act_210 ?_
      refine lv_icmp_ne (tgt := 218) hx hb dL_act_211 (by decide) (fun hs => ?_) (fun hs => ?_)
      · skip
        exact absurd hw.2.2 hs
      · skip
        refine lv_iconst (v := 1) hx hb dL_act_214 (by decide) ?_
        refine lv_goto (tgt := 219) hx hb dL_act_215 (by decide) ?_
        exact fin 1 (hei, dra, rai, (upd (m_wat σ) (8 * ya + xa) (i_max 0 (m_wat σ (8 * ya + xa) + (nI vb - 40))), m_dam σ, m_wea σ, m_peo σ, m_t σ, m_bro σ, m_drd σ, m_lef σ)) H locs 3 18 219 ls dL_act_219 ⟨rfl, (pv_pour hB hI hk64 hv), rfl⟩ hP hD hS (Nat.le_of_ble_eq_true rfl) (Nat.le_of_ble_eq_true rfl)
    · skip
      have hv : (-99 : Int32) ≤ 99 ∧ (99 : Int32) ≤ 99 := by decide
      refine lv_bipush (v := 99) hx hb dL_act_164 (by decide) ?_
      refine lv_istore (lv' := [(6, .int 99), (4, .int (nI ya)), (3, .int (nI xa)), (0, .ref g), (1, .ref h), (2, .int zz)]) hx hb dL_act_166 hl (by decide) rfl (fun ls hl => ?_)
      refine lv_aload_n hx hb dL_act_168 rfl (lv_at hl 4 rfl) ?_
      refine va_get (D := D) (ci := 2) (v := .ref aw) (C := RX2) (T := TX2) (N := 11) hx hb hts (fun _ h9 => (List.mem_cons_of_mem _ (List.mem_append_left _ (List.mem_append_left _ (List.mem_append_left _ (List.mem_append_left _ (List.mem_append_right _ h9))))))) hown hK hP 25 rfl rfl 1 (by decide) (hts (Cond.fieldLink RL 27 "FloodGridLaw$Sim" "water" "[[I") (List.mem_of_getElem? (i := 2) rfl)) (fun _ h9 => h9) rfl dL_act_169 ?_
      refine lv_iload_n hx hb dL_act_172 rfl (lv_at hl 2 rfl) ?_
      refine gr_aald hx hb hK hP 35 1 rfl rfl xa rfl (by omega) (by decide) dL_act_173 ?_
      refine lv_iload hx hb dL_act_174 (lv_at hl 1 rfl) ?_
      refine lv_iconst (v := 0) hx hb dL_act_176 (by decide) ?_
      refine lv_aload_n hx hb dL_act_177 rfl (lv_at hl 4 rfl) ?_
      refine va_get (D := D) (ci := 2) (v := .ref aw) (C := RX2) (T := TX2) (N := 11) hx hb hts (fun _ h9 => (List.mem_cons_of_mem _ (List.mem_append_left _ (List.mem_append_left _ (List.mem_append_left _ (List.mem_append_left _ (List.mem_append_right _ h9))))))) hown hK hP 25 rfl rfl 1 (by decide) (hts (Cond.fieldLink RL 27 "FloodGridLaw$Sim" "water" "[[I") (List.mem_of_getElem? (i := 2) rfl)) (fun _ h9 => h9) rfl dL_act_178 ?_
      refine lv_iload_n hx hb dL_act_181 rfl (lv_at hl 2 rfl) ?_
      refine gr_aald hx hb hK hP 35 1 rfl rfl xa rfl (by omega) (by decide) dL_act_182 ?_
      refine lv_iload hx hb dL_act_183 (lv_at hl 1 rfl) ?_
      refine gr_iald (v := (m_wat σ) (8 * ya + xa)) hx hb hK hP 36 0 rfl rfl xa ya (8 * ya + xa) (by omega) (by omega) rfl rfl rfl dL_act_185 ?_
      refine lv_iload hx hb dL_act_186 (lv_at hl 0 rfl) ?_
      refine lv_iadd hx hb dL_act_188 ?_
      refine ct_mmax (v := (i_max 0 (m_wat σ (8 * ya + xa) + 99))) hx hb (hml.trans hl.1.symm) hown (hts (Cond.methodLink RL 30 Lib.Math.max.name) (List.mem_of_getElem? (i := 3) rfl)) (hts (Cond.static Lib.Math.max.name) (List.mem_of_getElem? (i := 4) rfl)) (hts (Cond.initialized "java/lang/Math") (List.mem_of_getElem? (i := 5) rfl)) (hts (Cond.code Lib.Math.max.name Lib.Math.max.code 2 (some .int)) (List.mem_of_getElem? (i := 6) rfl)) (Nat.le_of_ble_eq_true rfl) (Nat.le_of_ble_eq_true rfl) (Nat.le_of_ble_eq_true rfl) (Nat.le_of_ble_eq_true rfl) rfl dL_act_189 ?_
      refine gr_iast (g := (upd (m_wat σ) (8 * ya + xa) (i_max 0 (m_wat σ (8 * ya + xa) + 99)))) (ws1 := ((fW g hn ha adn ada cI hei dra rai σ cre gai see fou z) ++ (sW h a r aw bw cI cJ hei (upd (m_wat σ) (8 * ya + xa) (i_max 0 (m_wat σ (8 * ya + xa) + 99))) (m_dam σ) (m_wea σ) dra (m_peo σ) rai (nI (m_t σ)) (m_bro σ) (m_drd σ) (m_lef σ)))) hx hb hK hP hD hS 36 0 rfl rfl xa ya (8 * ya + xa) (by omega) (by omega) rfl rfl rfl rfl dL_act_192 (fun H locs hP hD hS => ?_)
      refine lv_aload_n hx hb dL_act_193 rfl (lv_at hl 3 rfl) ?_
      refine lv_iload_n hx hb dL_act_194 rfl (lv_at hl 2 rfl) ?_
      refine lv_iload hx hb dL_act_195 (lv_at hl 1 rfl) ?_
      refine lv_iload hx hb dL_act_197 (lv_at hl 0 rfl) ?_
      refine cpx_Vi (As := [.int (nI xa), .int (nI ya), .int 99]) (rest := []) (wr := (sW h a r aw bw cI cJ hei (upd (m_wat σ) (8 * ya + xa) (i_max 0 (m_wat σ (8 * ya + xa) + 99))) (m_dam σ) (m_wea σ) dra (m_peo σ) rai (nI (m_t σ)) (m_bro σ) (m_drd σ) (m_lef σ))) (cells1 := 3) (slots1 := 18) ⟨hx, hb, hml, hown, hts⟩ (c_X1_pour l hst D cI κ.1 κ.2.1 g hn ha adn ada hei dra rai σ cre gai see fou z (nI xa) (nI ya) 99) (cwV 3 hts gL_act_X1_pour rfl rfl rfl (by decide +kernel) ⟨Nat.le_of_ble_eq_true rfl, Nat.le_of_ble_eq_true rfl⟩) hK hP hD hS hA hX.1 (fun E z9 => by rcases z9 with ⟨-, z9⟩ | ⟨-, -, z9⟩ <;> exact z9 (by assumption)) [0] rfl (va_recv hK hP (ci := 1) (q0 := 0) rfl rfl) rfl hl.1 rfl (Nat.le_of_ble_eq_true rfl) rfl rfl ⟨Nat.le_of_ble_eq_true rfl, Nat.le_of_ble_eq_true rfl⟩ dL_act_199 (fun r1 u H locs hw hP hD hS => ?_)
      rw [hat] at hw hP hD
      have hP : va_P D vwCl ((fW g hn ha adn ada cI hei dra rai (upd (m_wat σ) (8 * ya + xa) (i_max 0 (m_wat σ (8 * ya + xa) + 99)), m_dam σ, m_wea σ, m_peo σ, m_t σ, m_bro σ, m_drd σ, m_lef σ) cre gai see fou z) ++ (sW h a r aw bw cI cJ hei (upd (m_wat σ) (8 * ya + xa) (i_max 0 (m_wat σ (8 * ya + xa) + 99))) (m_dam σ) (m_wea σ) dra (m_peo σ) rai (nI (m_t σ)) (m_bro σ) (m_drd σ) (m_lef σ))) H := hP
      have hD : va_D A ((fW g hn ha adn ada cI hei dra rai (upd (m_wat σ) (8 * ya + xa) (i_max 0 (m_wat σ (8 * ya + xa) + 99)), m_dam σ, m_wea σ, m_peo σ, m_t σ, m_bro σ, m_drd σ, m_lef σ) cre gai see fou z) ++ (sW h a r aw bw cI cJ hei (upd (m_wat σ) (8 * ya + xa) (i_max 0 (m_wat σ (8 * ya + xa) + 99))) (m_dam σ) (m_wea σ) dra (m_peo σ) rai (nI (m_t σ)) (m_bro σ) (m_drd σ) (m_lef σ))) := hD
      refine lv_aload_n hx hb dL_act_202 rfl (lv_at hl 4 rfl) ?_
      refine va_get (D := D) (ci := 2) (v := .ref aw) (C := RX2) (T := TX2) (N := 11) hx hb hts (fun _ h9 => (List.mem_cons_of_mem _ (List.mem_append_left _ (List.mem_append_left _ (List.mem_append_left _ (List.mem_append_left _ (List.mem_append_right _ h9))))))) hown hK hP 25 rfl rfl 1 (by decide) (hts (Cond.fieldLink RL 27 "FloodGridLaw$Sim" "water" "[[I") (List.mem_of_getElem? (i := 2) rfl)) (fun _ h9 => h9) rfl dL_act_203 ?_
      refine lv_iload_n hx hb dL_act_206 rfl (lv_at hl 2 rfl) ?_
      refine gr_aald hx hb hK hP 35 1 rfl rfl xa rfl (by omega) (by decide) dL_act_207 ?_
      refine lv_iload hx hb dL_act_208 (lv_at hl 1 rfl) ?_
      refine gr_iald (v := (i_max 0 (m_wat σ (8 * ya + xa) + 99))) hx hb hK hP 36 0 rfl rfl xa ya (8 * ya + xa) (by omega) (by omega) rfl rfl pk_us dL_act_210 ?_
      refine lv_icmp_ne (tgt := 218) hx hb dL_act_211 (by decide) (fun hs => ?_) (fun hs => ?_)
      · skip
        exact absurd hw.2.2 hs
      · skip
        refine lv_iconst (v := 1) hx hb dL_act_214 (by decide) ?_
        refine lv_goto (tgt := 219) hx hb dL_act_215 (by decide) ?_
        exact fin 1 (hei, dra, rai, (upd (m_wat σ) (8 * ya + xa) (i_max 0 (m_wat σ (8 * ya + xa) + 99)), m_dam σ, m_wea σ, m_peo σ, m_t σ, m_bro σ, m_drd σ, m_lef σ)) H locs 3 18 219 ls dL_act_219 ⟨rfl, (pv_pour hB hI hk64 hv), rfl⟩ hP hD hS (Nat.le_of_ble_eq_true rfl) (Nat.le_of_ble_eq_true rfl)
  · skip
    refine lv_tableIn (off := 194) (tgt := 220) hx hb dL_act_26 (by decide) (by decide) rfl (by decide) ?_
    refine lv_aload_n hx hb dL_act_220 rfl (lv_at hl 3 rfl) ?_
    refine va_get (D := D) (ci := 2) (v := .ref (a 2)) (C := RX2) (T := TX2) (N := 11) hx hb hts (fun _ h9 => (List.mem_cons_of_mem _ (List.mem_append_left _ (List.mem_append_left _ (List.mem_append_left _ (List.mem_append_left _ (List.mem_append_right _ h9))))))) hown hK hP 25 rfl rfl 2 (by decide) (hts (Cond.fieldLink RL 38 "FloodGridLaw$Sim" "dam" "[[I") (List.mem_of_getElem? (i := 7) rfl)) (fun _ h9 => h9) rfl dL_act_221 ?_
    refine lv_iload_n hx hb dL_act_224 rfl (lv_at hl 1 rfl) ?_
    refine gr_aald hx hb hK hP 44 1 rfl rfl xa rfl (by omega) (by decide) dL_act_225 ?_
    refine lv_iload hx hb dL_act_226 (lv_at hl 0 rfl) ?_
    refine gr_iald (v := (m_dam σ) (8 * ya + xa)) hx hb hK hP 45 0 rfl rfl xa ya (8 * ya + xa) (by omega) (by omega) rfl rfl rfl dL_act_228 ?_
    refine lv_istore (lv' := [(5, .int ((m_dam σ) (8 * ya + xa))), (4, .int (nI ya)), (3, .int (nI xa)), (0, .ref g), (1, .ref h), (2, .int zz)]) hx hb dL_act_229 hl (by decide) rfl (fun ls hl => ?_)
    refine lv_aload_n hx hb dL_act_231 rfl (lv_at hl 4 rfl) ?_
    refine va_get (D := D) (ci := 2) (v := .ref (a 2)) (C := RX2) (T := TX2) (N := 11) hx hb hts (fun _ h9 => (List.mem_cons_of_mem _ (List.mem_append_left _ (List.mem_append_left _ (List.mem_append_left _ (List.mem_append_left _ (List.mem_append_right _ h9))))))) hown hK hP 25 rfl rfl 2 (by decide) (hts (Cond.fieldLink RL 38 "FloodGridLaw$Sim" "dam" "[[I") (List.mem_of_getElem? (i := 7) rfl)) (fun _ h9 => h9) rfl dL_act_232 ?_
    refine lv_iload_n hx hb dL_act_235 rfl (lv_at hl 2 rfl) ?_
    refine gr_aald hx hb hK hP 44 1 rfl rfl xa rfl (by omega) (by decide) dL_act_236 ?_
    refine lv_iload hx hb dL_act_237 (lv_at hl 1 rfl) ?_
    refine lv_iload_n hx hb dL_act_239 rfl (lv_at hl 5 rfl) ?_
    refine lv_iconst (v := 5) hx hb dL_act_240 (by decide) ?_
    refine lv_ishr hx hb dL_act_241 ?_
    refine lv_topi (fun z9 _ => ?_)
    refine lv_iconst (v := 4) hx hb dL_act_242 (by decide) ?_
    refine cp_Si (As := [.int z9, .int (nI 4)]) (rest := [.int (nI ya), .ref ((r 2) xa)]) (wr := (((fW g hn ha adn ada cI hei dra rai σ cre gai see fou z) ++ (sM h a r aw bw cI cJ hei dra rai σ)))) (cells1 := 0) (slots1 := 0) ⟨hx, hb, hml, hown, hts⟩ (c_L_below l D cI cJ cZ cB z9 4 (by decide) (by decide)) (va_cwS 2 hts gL_act_L_below rfl rfl rfl (by decide +kernel) ⟨Nat.le_of_ble_eq_true rfl, Nat.le_of_ble_eq_true rfl⟩) hK hP hD hS hA [0, 1, 2, 3] rfl rfl hl.1 rfl (Nat.le_of_ble_eq_true rfl) rfl rfl ⟨Nat.le_of_ble_eq_true rfl, Nat.le_of_ble_eq_true rfl⟩ dL_act_243 (fun rb u H locs hw hP hD hS => ?_)
    have hP : va_P D vwCl ((fW g hn ha adn ada cI hei dra rai σ cre gai see fou z) ++ (sM h a r aw bw cI cJ hei dra rai σ)) H := hP
    have hD : va_D A ((fW g hn ha adn ada cI hei dra rai σ cre gai see fou z) ++ (sM h a r aw bw cI cJ hei dra rai σ)) := hD
    obtain ⟨bb, hbb, rfl⟩ := hw
    refine lv_if_ne (tgt := 253) hx hb dL_act_246 (by decide) (fun hz => ?_) (fun hz => ?_)
    · skip
      refine lv_iload_n hx hb dL_act_253 rfl (lv_at hl 5 rfl) ?_
      refine lv_iconst (v := 4) hx hb dL_act_254 (by decide) ?_
      refine lv_ishr hx hb dL_act_255 ?_
      refine lv_topi (fun z10 _ => ?_)
      refine lv_bipush (v := 21) hx hb dL_act_256 (by decide) ?_
      refine cp_Si (As := [.int z10, .int (nI 21)]) (rest := [.int (nI ya), .ref ((r 2) xa)]) (wr := (((fW g hn ha adn ada cI hei dra rai σ cre gai see fou z) ++ (sM h a r aw bw cI cJ hei dra rai σ)))) (cells1 := 0) (slots1 := 0) ⟨hx, hb, hml, hown, hts⟩ (c_L_below l D cI cJ cZ cB z10 21 (by decide) (by decide)) (va_cwS 2 hts gL_act_L_below rfl rfl rfl (by decide +kernel) ⟨Nat.le_of_ble_eq_true rfl, Nat.le_of_ble_eq_true rfl⟩) hK hP hD hS hA [0, 1, 2, 3] rfl rfl hl.1 rfl (Nat.le_of_ble_eq_true rfl) rfl rfl ⟨Nat.le_of_ble_eq_true rfl, Nat.le_of_ble_eq_true rfl⟩ dL_act_258 (fun rb u H locs hw hP hD hS => ?_)
      have hP : va_P D vwCl ((fW g hn ha adn ada cI hei dra rai σ cre gai see fou z) ++ (sM h a r aw bw cI cJ hei dra rai σ)) H := hP
      have hD : va_D A ((fW g hn ha adn ada cI hei dra rai σ cre gai see fou z) ++ (sM h a r aw bw cI cJ hei dra rai σ)) := hD
      obtain ⟨vb, hvb, rfl⟩ := hw
      have hv : (0 : Int32) ≤ nI vb ∧ nI vb ≤ 20 := b_le (M := 20) rfl hvb (by decide) (by decide)
      refine gr_iast (g := upd (m_dam σ) (8 * ya + xa) (nI vb)) (ws1 := ((fW g hn ha adn ada cI hei dra rai σ cre gai see fou z) ++ (sW h a r aw bw cI cJ hei (m_wat σ) (upd (m_dam σ) (8 * ya + xa) (nI vb)) (m_wea σ) dra (m_peo σ) rai (nI (m_t σ)) (m_bro σ) (m_drd σ) (m_lef σ)))) hx hb hK hP hD hS 45 0 rfl rfl xa ya (8 * ya + xa) (by omega) (by omega) rfl rfl rfl rfl dL_act_261 (fun H locs hP hD hS => ?_)
      refine lv_aload_n hx hb dL_act_262 rfl (lv_at hl 4 rfl) ?_
      refine va_get (D := D) (ci := 2) (v := .ref (a 3)) (C := RX2) (T := TX2) (N := 11) hx hb hts (fun _ h9 => (List.mem_cons_of_mem _ (List.mem_append_left _ (List.mem_append_left _ (List.mem_append_left _ (List.mem_append_left _ (List.mem_append_right _ h9))))))) hown hK hP 25 rfl rfl 3 (by decide) (hts (Cond.fieldLink RL 41 "FloodGridLaw$Sim" "wear" "[[I") (List.mem_of_getElem? (i := 8) rfl)) (fun _ h9 => h9) rfl dL_act_263 ?_
      refine lv_iload_n hx hb dL_act_266 rfl (lv_at hl 2 rfl) ?_
      refine gr_aald hx hb hK hP 53 1 rfl rfl xa rfl (by omega) (by decide) dL_act_267 ?_
      refine lv_iload hx hb dL_act_268 (lv_at hl 1 rfl) ?_
      refine lv_iconst (v := 0) hx hb dL_act_270 (by decide) ?_
      refine gr_iast (g := upd (m_wea σ) (8 * ya + xa) 0) (ws1 := ((fW g hn ha adn ada cI hei dra rai σ cre gai see fou z) ++ (sW h a r aw bw cI cJ hei (m_wat σ) (upd (m_dam σ) (8 * ya + xa) (nI vb)) (upd (m_wea σ) (8 * ya + xa) 0) dra (m_peo σ) rai (nI (m_t σ)) (m_bro σ) (m_drd σ) (m_lef σ)))) hx hb hK hP hD hS 54 0 rfl rfl xa ya (8 * ya + xa) (by omega) (by omega) rfl rfl rfl rfl dL_act_271 (fun H locs hP hD hS => ?_)
      refine lv_aload_n hx hb dL_act_272 rfl (lv_at hl 3 rfl) ?_
      refine lv_iload_n hx hb dL_act_273 rfl (lv_at hl 2 rfl) ?_
      refine lv_iload hx hb dL_act_274 (lv_at hl 1 rfl) ?_
      refine lv_aload_n hx hb dL_act_276 rfl (lv_at hl 4 rfl) ?_
      refine va_get (D := D) (ci := 2) (v := .ref (a 2)) (C := RX2) (T := TX2) (N := 11) hx hb hts (fun _ h9 => (List.mem_cons_of_mem _ (List.mem_append_left _ (List.mem_append_left _ (List.mem_append_left _ (List.mem_append_left _ (List.mem_append_right _ h9))))))) hown hK hP 25 rfl rfl 2 (by decide) (hts (Cond.fieldLink RL 38 "FloodGridLaw$Sim" "dam" "[[I") (List.mem_of_getElem? (i := 7) rfl)) (fun _ h9 => h9) rfl dL_act_277 ?_
      refine lv_iload_n hx hb dL_act_280 rfl (lv_at hl 2 rfl) ?_
      refine gr_aald hx hb hK hP 44 1 rfl rfl xa rfl (by omega) (by decide) dL_act_281 ?_
      refine lv_iload hx hb dL_act_282 (lv_at hl 1 rfl) ?_
      refine gr_iald (v := (nI vb)) hx hb hK hP 45 0 rfl rfl xa ya (8 * ya + xa) (by omega) (by omega) rfl rfl pk_us dL_act_284 ?_
      refine cpx_Vi (As := [.int (nI xa), .int (nI ya), .int (nI vb)]) (rest := []) (wr := (sW h a r aw bw cI cJ hei (m_wat σ) (upd (m_dam σ) (8 * ya + xa) (nI vb)) (upd (m_wea σ) (8 * ya + xa) 0) dra (m_peo σ) rai (nI (m_t σ)) (m_bro σ) (m_drd σ) (m_lef σ))) (cells1 := 3) (slots1 := 18) ⟨hx, hb, hml, hown, hts⟩ (c_X1_dam l hst D cI κ.1 κ.2.1 g hn ha adn ada hei dra rai σ cre gai see fou z (nI xa) (nI ya) (nI vb)) (cwV 3 hts gL_act_X1_dam rfl rfl rfl (by decide +kernel) ⟨Nat.le_of_ble_eq_true rfl, Nat.le_of_ble_eq_true rfl⟩) hK hP hD hS hA hX.1 (fun E z9 => by rcases z9 with ⟨-, z9⟩ | ⟨-, -, z9⟩ <;> exact z9 (by assumption)) [0] rfl (va_recv hK hP (ci := 1) (q0 := 0) rfl rfl) rfl hl.1 rfl (Nat.le_of_ble_eq_true rfl) rfl rfl ⟨Nat.le_of_ble_eq_true rfl, Nat.le_of_ble_eq_true rfl⟩ dL_act_285 (fun r1 u H locs hw hP hD hS => ?_)
      rw [hat] at hw hP hD
      have hP : va_P D vwCl ((fW g hn ha adn ada cI hei dra rai (q_with σ (8 * ya + xa) (nI vb)) cre gai see fou z) ++ (sW h a r aw bw cI cJ hei (m_wat σ) (upd (m_dam σ) (8 * ya + xa) (nI vb)) (upd (m_wea σ) (8 * ya + xa) 0) dra (m_peo σ) rai (nI (m_t σ)) (m_bro σ) (m_drd σ) (m_lef σ))) H := hP
      have hD : va_D A ((fW g hn ha adn ada cI hei dra rai (q_with σ (8 * ya + xa) (nI vb)) cre gai see fou z) ++ (sW h a r aw bw cI cJ hei (m_wat σ) (upd (m_dam σ) (8 * ya + xa) (nI vb)) (upd (m_wea σ) (8 * ya + xa) 0) dra (m_peo σ) rai (nI (m_t σ)) (m_bro σ) (m_drd σ) (m_lef σ))) := hD
      refine lv_iload hx hb dL_act_288 (lv_at hl 0 rfl) ?_
      refine lv_icmp_ne (tgt := 297) hx hb dL_act_290 (by decide) (fun hs => ?_) (fun hs => ?_)
      · skip
        exact absurd hw.2.2 hs
      · skip
        refine lv_iconst (v := 1) hx hb dL_act_293 (by decide) ?_
        refine lv_goto (tgt := 298) hx hb dL_act_294 (by decide) ?_
        exact fin 1 (hei, dra, rai, (q_with σ (8 * ya + xa) (nI vb))) H locs 3 18 298 ls dL_act_298 ⟨rfl, (pv_up (pv_with hI (8 * ya + xa) hv) (by omega)), rfl⟩ hP hD hS (Nat.le_of_ble_eq_true rfl) (Nat.le_of_ble_eq_true rfl)
    · skip
      refine lv_iconst (v := 0) hx hb dL_act_249 (by decide) ?_
      refine lv_goto (tgt := 261) hx hb dL_act_250 (by decide) ?_
      have hv : (0 : Int32) ≤ 0 ∧ (0 : Int32) ≤ 20 := by decide
      refine gr_iast (g := upd (m_dam σ) (8 * ya + xa) 0) (ws1 := ((fW g hn ha adn ada cI hei dra rai σ cre gai see fou z) ++ (sW h a r aw bw cI cJ hei (m_wat σ) (upd (m_dam σ) (8 * ya + xa) 0) (m_wea σ) dra (m_peo σ) rai (nI (m_t σ)) (m_bro σ) (m_drd σ) (m_lef σ)))) hx hb hK hP hD hS 45 0 rfl rfl xa ya (8 * ya + xa) (by omega) (by omega) rfl rfl rfl rfl dL_act_261 (fun H locs hP hD hS => ?_)
      refine lv_aload_n hx hb dL_act_262 rfl (lv_at hl 4 rfl) ?_
      refine va_get (D := D) (ci := 2) (v := .ref (a 3)) (C := RX2) (T := TX2) (N := 11) hx hb hts (fun _ h9 => (List.mem_cons_of_mem _ (List.mem_append_left _ (List.mem_append_left _ (List.mem_append_left _ (List.mem_append_left _ (List.mem_append_right _ h9))))))) hown hK hP 25 rfl rfl 3 (by decide) (hts (Cond.fieldLink RL 41 "FloodGridLaw$Sim" "wear" "[[I") (List.mem_of_getElem? (i := 8) rfl)) (fun _ h9 => h9) rfl dL_act_263 ?_
      refine lv_iload_n hx hb dL_act_266 rfl (lv_at hl 2 rfl) ?_
      refine gr_aald hx hb hK hP 53 1 rfl rfl xa rfl (by omega) (by decide) dL_act_267 ?_
      refine lv_iload hx hb dL_act_268 (lv_at hl 1 rfl) ?_
      refine lv_iconst (v := 0) hx hb dL_act_270 (by decide) ?_
      refine gr_iast (g := upd (m_wea σ) (8 * ya + xa) 0) (ws1 := ((fW g hn ha adn ada cI hei dra rai σ cre gai see fou z) ++ (sW h a r aw bw cI cJ hei (m_wat σ) (upd (m_dam σ) (8 * ya + xa) 0) (upd (m_wea σ) (8 * ya + xa) 0) dra (m_peo σ) rai (nI (m_t σ)) (m_bro σ) (m_drd σ) (m_lef σ)))) hx hb hK hP hD hS 54 0 rfl rfl xa ya (8 * ya + xa) (by omega) (by omega) rfl rfl rfl rfl dL_act_271 (fun H locs hP hD hS => ?_)
      refine lv_aload_n hx hb dL_act_272 rfl (lv_at hl 3 rfl) ?_
      refine lv_iload_n hx hb dL_act_273 rfl (lv_at hl 2 rfl) ?_
      refine lv_iload hx hb dL_act_274 (lv_at hl 1 rfl) ?_
      refine lv_aload_n hx hb dL_act_276 rfl (lv_at hl 4 rfl) ?_
      refine va_get (D := D) (ci := 2) (v := .ref (a 2)) (C := RX2) (T := TX2) (N := 11) hx hb hts (fun _ h9 => (List.mem_cons_of_mem _ (List.mem_append_left _ (List.mem_append_left _ (List.mem_append_left _ (List.mem_append_left _ (List.mem_append_right _ h9))))))) hown hK hP 25 rfl rfl 2 (by decide) (hts (Cond.fieldLink RL 38 "FloodGridLaw$Sim" "dam" "[[I") (List.mem_of_getElem? (i := 7) rfl)) (fun _ h9 => h9) rfl dL_act_277 ?_
      refine lv_iload_n hx hb dL_act_280 rfl (lv_at hl 2 rfl) ?_
      refine gr_aald hx hb hK hP 44 1 rfl rfl xa rfl (by omega) (by decide) dL_act_281 ?_
      refine lv_iload hx hb dL_act_282 (lv_at hl 1 rfl) ?_
      refine gr_iald (v := 0) hx hb hK hP 45 0 rfl rfl xa ya (8 * ya + xa) (by omega) (by omega) rfl rfl pk_us dL_act_284 ?_
      refine cpx_Vi (As := [.int (nI xa), .int (nI ya), .int 0]) (rest := []) (wr := (sW h a r aw bw cI cJ hei (m_wat σ) (upd (m_dam σ) (8 * ya + xa) 0) (upd (m_wea σ) (8 * ya + xa) 0) dra (m_peo σ) rai (nI (m_t σ)) (m_bro σ) (m_drd σ) (m_lef σ))) (cells1 := 3) (slots1 := 18) ⟨hx, hb, hml, hown, hts⟩ (c_X1_dam l hst D cI κ.1 κ.2.1 g hn ha adn ada hei dra rai σ cre gai see fou z (nI xa) (nI ya) 0) (cwV 3 hts gL_act_X1_dam rfl rfl rfl (by decide +kernel) ⟨Nat.le_of_ble_eq_true rfl, Nat.le_of_ble_eq_true rfl⟩) hK hP hD hS hA hX.1 (fun E z9 => by rcases z9 with ⟨-, z9⟩ | ⟨-, -, z9⟩ <;> exact z9 (by assumption)) [0] rfl (va_recv hK hP (ci := 1) (q0 := 0) rfl rfl) rfl hl.1 rfl (Nat.le_of_ble_eq_true rfl) rfl rfl ⟨Nat.le_of_ble_eq_true rfl, Nat.le_of_ble_eq_true rfl⟩ dL_act_285 (fun r1 u H locs hw hP hD hS => ?_)
      rw [hat] at hw hP hD
      have hP : va_P D vwCl ((fW g hn ha adn ada cI hei dra rai (q_with σ (8 * ya + xa) 0) cre gai see fou z) ++ (sW h a r aw bw cI cJ hei (m_wat σ) (upd (m_dam σ) (8 * ya + xa) 0) (upd (m_wea σ) (8 * ya + xa) 0) dra (m_peo σ) rai (nI (m_t σ)) (m_bro σ) (m_drd σ) (m_lef σ))) H := hP
      have hD : va_D A ((fW g hn ha adn ada cI hei dra rai (q_with σ (8 * ya + xa) 0) cre gai see fou z) ++ (sW h a r aw bw cI cJ hei (m_wat σ) (upd (m_dam σ) (8 * ya + xa) 0) (upd (m_wea σ) (8 * ya + xa) 0) dra (m_peo σ) rai (nI (m_t σ)) (m_bro σ) (m_drd σ) (m_lef σ))) := hD
      refine lv_iload hx hb dL_act_288 (lv_at hl 0 rfl) ?_
      refine lv_icmp_ne (tgt := 297) hx hb dL_act_290 (by decide) (fun hs => ?_) (fun hs => ?_)
      · skip
        exact absurd hw.2.2 hs
      · skip
        refine lv_iconst (v := 1) hx hb dL_act_293 (by decide) ?_
        refine lv_goto (tgt := 298) hx hb dL_act_294 (by decide) ?_
        exact fin 1 (hei, dra, rai, (q_with σ (8 * ya + xa) 0)) H locs 3 18 298 ls dL_act_298 ⟨rfl, (pv_up (pv_with hI (8 * ya + xa) hv) (by omega)), rfl⟩ hP hD hS (Nat.le_of_ble_eq_true rfl) (Nat.le_of_ble_eq_true rfl)
  · skip
    refine lv_tableIn (off := 194) (tgt := 220) hx hb dL_act_26 (by decide) (by decide) rfl (by decide) ?_
    refine lv_aload_n hx hb dL_act_220 rfl (lv_at hl 3 rfl) ?_
    refine va_get (D := D) (ci := 2) (v := .ref (a 2)) (C := RX2) (T := TX2) (N := 11) hx hb hts (fun _ h9 => (List.mem_cons_of_mem _ (List.mem_append_left _ (List.mem_append_left _ (List.mem_append_left _ (List.mem_append_left _ (List.mem_append_right _ h9))))))) hown hK hP 25 rfl rfl 2 (by decide) (hts (Cond.fieldLink RL 38 "FloodGridLaw$Sim" "dam" "[[I") (List.mem_of_getElem? (i := 7) rfl)) (fun _ h9 => h9) rfl dL_act_221 ?_
    refine lv_iload_n hx hb dL_act_224 rfl (lv_at hl 1 rfl) ?_
    refine gr_aald hx hb hK hP 44 1 rfl rfl xa rfl (by omega) (by decide) dL_act_225 ?_
    refine lv_iload hx hb dL_act_226 (lv_at hl 0 rfl) ?_
    refine gr_iald (v := (m_dam σ) (8 * ya + xa)) hx hb hK hP 45 0 rfl rfl xa ya (8 * ya + xa) (by omega) (by omega) rfl rfl rfl dL_act_228 ?_
    refine lv_istore (lv' := [(5, .int ((m_dam σ) (8 * ya + xa))), (4, .int (nI ya)), (3, .int (nI xa)), (0, .ref g), (1, .ref h), (2, .int zz)]) hx hb dL_act_229 hl (by decide) rfl (fun ls hl => ?_)
    refine lv_aload_n hx hb dL_act_231 rfl (lv_at hl 4 rfl) ?_
    refine va_get (D := D) (ci := 2) (v := .ref (a 2)) (C := RX2) (T := TX2) (N := 11) hx hb hts (fun _ h9 => (List.mem_cons_of_mem _ (List.mem_append_left _ (List.mem_append_left _ (List.mem_append_left _ (List.mem_append_left _ (List.mem_append_right _ h9))))))) hown hK hP 25 rfl rfl 2 (by decide) (hts (Cond.fieldLink RL 38 "FloodGridLaw$Sim" "dam" "[[I") (List.mem_of_getElem? (i := 7) rfl)) (fun _ h9 => h9) rfl dL_act_232 ?_
    refine lv_iload_n hx hb dL_act_235 rfl (lv_at hl 2 rfl) ?_
    refine gr_aald hx hb hK hP 44 1 rfl rfl xa rfl (by omega) (by decide) dL_act_236 ?_
    refine lv_iload hx hb dL_act_237 (lv_at hl 1 rfl) ?_
    refine lv_iload_n hx hb dL_act_239 rfl (lv_at hl 5 rfl) ?_
    refine lv_iconst (v := 5) hx hb dL_act_240 (by decide) ?_
    refine lv_ishr hx hb dL_act_241 ?_
    refine lv_topi (fun z11 _ => ?_)
    refine lv_iconst (v := 4) hx hb dL_act_242 (by decide) ?_
    refine cp_Si (As := [.int z11, .int (nI 4)]) (rest := [.int (nI ya), .ref ((r 2) xa)]) (wr := (((fW g hn ha adn ada cI hei dra rai σ cre gai see fou z) ++ (sM h a r aw bw cI cJ hei dra rai σ)))) (cells1 := 0) (slots1 := 0) ⟨hx, hb, hml, hown, hts⟩ (c_L_below l D cI cJ cZ cB z11 4 (by decide) (by decide)) (va_cwS 2 hts gL_act_L_below rfl rfl rfl (by decide +kernel) ⟨Nat.le_of_ble_eq_true rfl, Nat.le_of_ble_eq_true rfl⟩) hK hP hD hS hA [0, 1, 2, 3] rfl rfl hl.1 rfl (Nat.le_of_ble_eq_true rfl) rfl rfl ⟨Nat.le_of_ble_eq_true rfl, Nat.le_of_ble_eq_true rfl⟩ dL_act_243 (fun rb u H locs hw hP hD hS => ?_)
    have hP : va_P D vwCl ((fW g hn ha adn ada cI hei dra rai σ cre gai see fou z) ++ (sM h a r aw bw cI cJ hei dra rai σ)) H := hP
    have hD : va_D A ((fW g hn ha adn ada cI hei dra rai σ cre gai see fou z) ++ (sM h a r aw bw cI cJ hei dra rai σ)) := hD
    obtain ⟨bb, hbb, rfl⟩ := hw
    refine lv_if_ne (tgt := 253) hx hb dL_act_246 (by decide) (fun hz => ?_) (fun hz => ?_)
    · skip
      refine lv_iload_n hx hb dL_act_253 rfl (lv_at hl 5 rfl) ?_
      refine lv_iconst (v := 4) hx hb dL_act_254 (by decide) ?_
      refine lv_ishr hx hb dL_act_255 ?_
      refine lv_topi (fun z12 _ => ?_)
      refine lv_bipush (v := 21) hx hb dL_act_256 (by decide) ?_
      refine cp_Si (As := [.int z12, .int (nI 21)]) (rest := [.int (nI ya), .ref ((r 2) xa)]) (wr := (((fW g hn ha adn ada cI hei dra rai σ cre gai see fou z) ++ (sM h a r aw bw cI cJ hei dra rai σ)))) (cells1 := 0) (slots1 := 0) ⟨hx, hb, hml, hown, hts⟩ (c_L_below l D cI cJ cZ cB z12 21 (by decide) (by decide)) (va_cwS 2 hts gL_act_L_below rfl rfl rfl (by decide +kernel) ⟨Nat.le_of_ble_eq_true rfl, Nat.le_of_ble_eq_true rfl⟩) hK hP hD hS hA [0, 1, 2, 3] rfl rfl hl.1 rfl (Nat.le_of_ble_eq_true rfl) rfl rfl ⟨Nat.le_of_ble_eq_true rfl, Nat.le_of_ble_eq_true rfl⟩ dL_act_258 (fun rb u H locs hw hP hD hS => ?_)
      have hP : va_P D vwCl ((fW g hn ha adn ada cI hei dra rai σ cre gai see fou z) ++ (sM h a r aw bw cI cJ hei dra rai σ)) H := hP
      have hD : va_D A ((fW g hn ha adn ada cI hei dra rai σ cre gai see fou z) ++ (sM h a r aw bw cI cJ hei dra rai σ)) := hD
      obtain ⟨vb, hvb, rfl⟩ := hw
      have hv : (0 : Int32) ≤ nI vb ∧ nI vb ≤ 20 := b_le (M := 20) rfl hvb (by decide) (by decide)
      refine gr_iast (g := upd (m_dam σ) (8 * ya + xa) (nI vb)) (ws1 := ((fW g hn ha adn ada cI hei dra rai σ cre gai see fou z) ++ (sW h a r aw bw cI cJ hei (m_wat σ) (upd (m_dam σ) (8 * ya + xa) (nI vb)) (m_wea σ) dra (m_peo σ) rai (nI (m_t σ)) (m_bro σ) (m_drd σ) (m_lef σ)))) hx hb hK hP hD hS 45 0 rfl rfl xa ya (8 * ya + xa) (by omega) (by omega) rfl rfl rfl rfl dL_act_261 (fun H locs hP hD hS => ?_)
      refine lv_aload_n hx hb dL_act_262 rfl (lv_at hl 4 rfl) ?_
      refine va_get (D := D) (ci := 2) (v := .ref (a 3)) (C := RX2) (T := TX2) (N := 11) hx hb hts (fun _ h9 => (List.mem_cons_of_mem _ (List.mem_append_left _ (List.mem_append_left _ (List.mem_append_left _ (List.mem_append_left _ (List.mem_append_right _ h9))))))) hown hK hP 25 rfl rfl 3 (by decide) (hts (Cond.fieldLink RL 41 "FloodGridLaw$Sim" "wear" "[[I") (List.mem_of_getElem? (i := 8) rfl)) (fun _ h9 => h9) rfl dL_act_263 ?_
      refine lv_iload_n hx hb dL_act_266 rfl (lv_at hl 2 rfl) ?_
      refine gr_aald hx hb hK hP 53 1 rfl rfl xa rfl (by omega) (by decide) dL_act_267 ?_
      refine lv_iload hx hb dL_act_268 (lv_at hl 1 rfl) ?_
      refine lv_iconst (v := 0) hx hb dL_act_270 (by decide) ?_
      refine gr_iast (g := upd (m_wea σ) (8 * ya + xa) 0) (ws1 := ((fW g hn ha adn ada cI hei dra rai σ cre gai see fou z) ++ (sW h a r aw bw cI cJ hei (m_wat σ) (upd (m_dam σ) (8 * ya + xa) (nI vb)) (upd (m_wea σ) (8 * ya + xa) 0) dra (m_peo σ) rai (nI (m_t σ)) (m_bro σ) (m_drd σ) (m_lef σ)))) hx hb hK hP hD hS 54 0 rfl rfl xa ya (8 * ya + xa) (by omega) (by omega) rfl rfl rfl rfl dL_act_271 (fun H locs hP hD hS => ?_)
      refine lv_aload_n hx hb dL_act_272 rfl (lv_at hl 3 rfl) ?_
      refine lv_iload_n hx hb dL_act_273 rfl (lv_at hl 2 rfl) ?_
      refine lv_iload hx hb dL_act_274 (lv_at hl 1 rfl) ?_
      refine lv_aload_n hx hb dL_act_276 rfl (lv_at hl 4 rfl) ?_
      refine va_get (D := D) (ci := 2) (v := .ref (a 2)) (C := RX2) (T := TX2) (N := 11) hx hb hts (fun _ h9 => (List.mem_cons_of_mem _ (List.mem_append_left _ (List.mem_append_left _ (List.mem_append_left _ (List.mem_append_left _ (List.mem_append_right _ h9))))))) hown hK hP 25 rfl rfl 2 (by decide) (hts (Cond.fieldLink RL 38 "FloodGridLaw$Sim" "dam" "[[I") (List.mem_of_getElem? (i := 7) rfl)) (fun _ h9 => h9) rfl dL_act_277 ?_
      refine lv_iload_n hx hb dL_act_280 rfl (lv_at hl 2 rfl) ?_
      refine gr_aald hx hb hK hP 44 1 rfl rfl xa rfl (by omega) (by decide) dL_act_281 ?_
      refine lv_iload hx hb dL_act_282 (lv_at hl 1 rfl) ?_
      refine gr_iald (v := (nI vb)) hx hb hK hP 45 0 rfl rfl xa ya (8 * ya + xa) (by omega) (by omega) rfl rfl pk_us dL_act_284 ?_
      refine cpx_Vi (As := [.int (nI xa), .int (nI ya), .int (nI vb)]) (rest := []) (wr := (sW h a r aw bw cI cJ hei (m_wat σ) (upd (m_dam σ) (8 * ya + xa) (nI vb)) (upd (m_wea σ) (8 * ya + xa) 0) dra (m_peo σ) rai (nI (m_t σ)) (m_bro σ) (m_drd σ) (m_lef σ))) (cells1 := 3) (slots1 := 18) ⟨hx, hb, hml, hown, hts⟩ (c_X1_dam l hst D cI κ.1 κ.2.1 g hn ha adn ada hei dra rai σ cre gai see fou z (nI xa) (nI ya) (nI vb)) (cwV 3 hts gL_act_X1_dam rfl rfl rfl (by decide +kernel) ⟨Nat.le_of_ble_eq_true rfl, Nat.le_of_ble_eq_true rfl⟩) hK hP hD hS hA hX.1 (fun E z9 => by rcases z9 with ⟨-, z9⟩ | ⟨-, -, z9⟩ <;> exact z9 (by assumption)) [0] rfl (va_recv hK hP (ci := 1) (q0 := 0) rfl rfl) rfl hl.1 rfl (Nat.le_of_ble_eq_true rfl) rfl rfl ⟨Nat.le_of_ble_eq_true rfl, Nat.le_of_ble_eq_true rfl⟩ dL_act_285 (fun r1 u H locs hw hP hD hS => ?_)
      rw [hat] at hw hP hD
      have hP : va_P D vwCl ((fW g hn ha adn ada cI hei dra rai (q_with σ (8 * ya + xa) (nI vb)) cre gai see fou z) ++ (sW h a r aw bw cI cJ hei (m_wat σ) (upd (m_dam σ) (8 * ya + xa) (nI vb)) (upd (m_wea σ) (8 * ya + xa) 0) dra (m_peo σ) rai (nI (m_t σ)) (m_bro σ) (m_drd σ) (m_lef σ))) H := hP
      have hD : va_D A ((fW g hn ha adn ada cI hei dra rai (q_with σ (8 * ya + xa) (nI vb)) cre gai see fou z) ++ (sW h a r aw bw cI cJ hei (m_wat σ) (upd (m_dam σ) (8 * ya + xa) (nI vb)) (upd (m_wea σ) (8 * ya + xa) 0) dra (m_peo σ) rai (nI (m_t σ)) (m_bro σ) (m_drd σ) (m_lef σ))) := hD
      refine lv_iload hx hb dL_act_288 (lv_at hl 0 rfl) ?_
      refine lv_icmp_ne (tgt := 297) hx hb dL_act_290 (by decide) (fun hs => ?_) (fun hs => ?_)
      · skip
        exact absurd hw.2.2 hs
      · skip
        refine lv_iconst (v := 1) hx hb dL_act_293 (by decide) ?_
        refine lv_goto (tgt := 298) hx hb dL_act_294 (by decide) ?_
        exact fin 1 (hei, dra, rai, (q_with σ (8 * ya + xa) (nI vb))) H locs 3 18 298 ls dL_act_298 ⟨rfl, (pv_up (pv_with hI (8 * ya + xa) hv) (by omega)), rfl⟩ hP hD hS (Nat.le_of_ble_eq_true rfl) (Nat.le_of_ble_eq_true rfl)
    · skip
      refine lv_iconst (v := 0) hx hb dL_act_249 (by decide) ?_
      refine lv_goto (tgt := 261) hx hb dL_act_250 (by decide) ?_
      have hv : (0 : Int32) ≤ 0 ∧ (0 : Int32) ≤ 20 := by decide
      refine gr_iast (g := upd (m_dam σ) (8 * ya + xa) 0) (ws1 := ((fW g hn ha adn ada cI hei dra rai σ cre gai see fou z) ++ (sW h a r aw bw cI cJ hei (m_wat σ) (upd (m_dam σ) (8 * ya + xa) 0) (m_wea σ) dra (m_peo σ) rai (nI (m_t σ)) (m_bro σ) (m_drd σ) (m_lef σ)))) hx hb hK hP hD hS 45 0 rfl rfl xa ya (8 * ya + xa) (by omega) (by omega) rfl rfl rfl rfl dL_act_261 (fun H locs hP hD hS => ?_)
      refine lv_aload_n hx hb dL_act_262 rfl (lv_at hl 4 rfl) ?_
      refine va_get (D := D) (ci := 2) (v := .ref (a 3)) (C := RX2) (T := TX2) (N := 11) hx hb hts (fun _ h9 => (List.mem_cons_of_mem _ (List.mem_append_left _ (List.mem_append_left _ (List.mem_append_left _ (List.mem_append_left _ (List.mem_append_right _ h9))))))) hown hK hP 25 rfl rfl 3 (by decide) (hts (Cond.fieldLink RL 41 "FloodGridLaw$Sim" "wear" "[[I") (List.mem_of_getElem? (i := 8) rfl)) (fun _ h9 => h9) rfl dL_act_263 ?_
      refine lv_iload_n hx hb dL_act_266 rfl (lv_at hl 2 rfl) ?_
      refine gr_aald hx hb hK hP 53 1 rfl rfl xa rfl (by omega) (by decide) dL_act_267 ?_
      refine lv_iload hx hb dL_act_268 (lv_at hl 1 rfl) ?_
      refine lv_iconst (v := 0) hx hb dL_act_270 (by decide) ?_
      refine gr_iast (g := upd (m_wea σ) (8 * ya + xa) 0) (ws1 := ((fW g hn ha adn ada cI hei dra rai σ cre gai see fou z) ++ (sW h a r aw bw cI cJ hei (m_wat σ) (upd (m_dam σ) (8 * ya + xa) 0) (upd (m_wea σ) (8 * ya + xa) 0) dra (m_peo σ) rai (nI (m_t σ)) (m_bro σ) (m_drd σ) (m_lef σ)))) hx hb hK hP hD hS 54 0 rfl rfl xa ya (8 * ya + xa) (by omega) (by omega) rfl rfl rfl rfl dL_act_271 (fun H locs hP hD hS => ?_)
      refine lv_aload_n hx hb dL_act_272 rfl (lv_at hl 3 rfl) ?_
      refine lv_iload_n hx hb dL_act_273 rfl (lv_at hl 2 rfl) ?_
      refine lv_iload hx hb dL_act_274 (lv_at hl 1 rfl) ?_
      refine lv_aload_n hx hb dL_act_276 rfl (lv_at hl 4 rfl) ?_
      refine va_get (D := D) (ci := 2) (v := .ref (a 2)) (C := RX2) (T := TX2) (N := 11) hx hb hts (fun _ h9 => (List.mem_cons_of_mem _ (List.mem_append_left _ (List.mem_append_left _ (List.mem_append_left _ (List.mem_append_left _ (List.mem_append_right _ h9))))))) hown hK hP 25 rfl rfl 2 (by decide) (hts (Cond.fieldLink RL 38 "FloodGridLaw$Sim" "dam" "[[I") (List.mem_of_getElem? (i := 7) rfl)) (fun _ h9 => h9) rfl dL_act_277 ?_
      refine lv_iload_n hx hb dL_act_280 rfl (lv_at hl 2 rfl) ?_
      refine gr_aald hx hb hK hP 44 1 rfl rfl xa rfl (by omega) (by decide) dL_act_281 ?_
      refine lv_iload hx hb dL_act_282 (lv_at hl 1 rfl) ?_
      refine gr_iald (v := 0) hx hb hK hP 45 0 rfl rfl xa ya (8 * ya + xa) (by omega) (by omega) rfl rfl pk_us dL_act_284 ?_
      refine cpx_Vi (As := [.int (nI xa), .int (nI ya), .int 0]) (rest := []) (wr := (sW h a r aw bw cI cJ hei (m_wat σ) (upd (m_dam σ) (8 * ya + xa) 0) (upd (m_wea σ) (8 * ya + xa) 0) dra (m_peo σ) rai (nI (m_t σ)) (m_bro σ) (m_drd σ) (m_lef σ))) (cells1 := 3) (slots1 := 18) ⟨hx, hb, hml, hown, hts⟩ (c_X1_dam l hst D cI κ.1 κ.2.1 g hn ha adn ada hei dra rai σ cre gai see fou z (nI xa) (nI ya) 0) (cwV 3 hts gL_act_X1_dam rfl rfl rfl (by decide +kernel) ⟨Nat.le_of_ble_eq_true rfl, Nat.le_of_ble_eq_true rfl⟩) hK hP hD hS hA hX.1 (fun E z9 => by rcases z9 with ⟨-, z9⟩ | ⟨-, -, z9⟩ <;> exact z9 (by assumption)) [0] rfl (va_recv hK hP (ci := 1) (q0 := 0) rfl rfl) rfl hl.1 rfl (Nat.le_of_ble_eq_true rfl) rfl rfl ⟨Nat.le_of_ble_eq_true rfl, Nat.le_of_ble_eq_true rfl⟩ dL_act_285 (fun r1 u H locs hw hP hD hS => ?_)
      rw [hat] at hw hP hD
      have hP : va_P D vwCl ((fW g hn ha adn ada cI hei dra rai (q_with σ (8 * ya + xa) 0) cre gai see fou z) ++ (sW h a r aw bw cI cJ hei (m_wat σ) (upd (m_dam σ) (8 * ya + xa) 0) (upd (m_wea σ) (8 * ya + xa) 0) dra (m_peo σ) rai (nI (m_t σ)) (m_bro σ) (m_drd σ) (m_lef σ))) H := hP
      have hD : va_D A ((fW g hn ha adn ada cI hei dra rai (q_with σ (8 * ya + xa) 0) cre gai see fou z) ++ (sW h a r aw bw cI cJ hei (m_wat σ) (upd (m_dam σ) (8 * ya + xa) 0) (upd (m_wea σ) (8 * ya + xa) 0) dra (m_peo σ) rai (nI (m_t σ)) (m_bro σ) (m_drd σ) (m_lef σ))) := hD
      refine lv_iload hx hb dL_act_288 (lv_at hl 0 rfl) ?_
      refine lv_icmp_ne (tgt := 297) hx hb dL_act_290 (by decide) (fun hs => ?_) (fun hs => ?_)
      · skip
        exact absurd hw.2.2 hs
      · skip
        refine lv_iconst (v := 1) hx hb dL_act_293 (by decide) ?_
        refine lv_goto (tgt := 298) hx hb dL_act_294 (by decide) ?_
        exact fin 1 (hei, dra, rai, (q_with σ (8 * ya + xa) 0)) H locs 3 18 298 ls dL_act_298 ⟨rfl, (pv_up (pv_with hI (8 * ya + xa) hv) (by omega)), rfl⟩ hP hD hS (Nat.le_of_ble_eq_true rfl) (Nat.le_of_ble_eq_true rfl)
  · skip
    refine lv_tableIn (off := 273) (tgt := 299) hx hb dL_act_26 (by decide) (by decide) rfl (by decide) ?_
    refine lv_aload_n hx hb dL_act_299 rfl (lv_at hl 3 rfl) ?_
    refine va_get (D := D) (ci := 2) (v := .ref (a 4)) (C := RX2) (T := TX2) (N := 11) hx hb hts (fun _ h9 => (List.mem_cons_of_mem _ (List.mem_append_left _ (List.mem_append_left _ (List.mem_append_left _ (List.mem_append_left _ (List.mem_append_right _ h9))))))) hown hK hP 25 rfl rfl 4 (by decide) (hts (Cond.fieldLink RL 46 "FloodGridLaw$Sim" "drain" "[[I") (List.mem_of_getElem? (i := 9) rfl)) (fun _ h9 => h9) rfl dL_act_300 ?_
    refine lv_iload_n hx hb dL_act_303 rfl (lv_at hl 1 rfl) ?_
    refine gr_aald hx hb hK hP 62 1 rfl rfl xa rfl (by omega) (by decide) dL_act_304 ?_
    refine lv_iload hx hb dL_act_305 (lv_at hl 0 rfl) ?_
    refine gr_iald (v := dra (8 * ya + xa)) hx hb hK hP 63 0 rfl rfl xa ya (8 * ya + xa) (by omega) (by omega) rfl rfl rfl dL_act_307 ?_
    refine lv_istore (lv' := [(5, .int (dra (8 * ya + xa))), (4, .int (nI ya)), (3, .int (nI xa)), (0, .ref g), (1, .ref h), (2, .int zz)]) hx hb dL_act_308 hl (by decide) rfl (fun ls hl => ?_)
    refine lv_aload_n hx hb dL_act_310 rfl (lv_at hl 4 rfl) ?_
    refine va_get (D := D) (ci := 2) (v := .ref (a 4)) (C := RX2) (T := TX2) (N := 11) hx hb hts (fun _ h9 => (List.mem_cons_of_mem _ (List.mem_append_left _ (List.mem_append_left _ (List.mem_append_left _ (List.mem_append_left _ (List.mem_append_right _ h9))))))) hown hK hP 25 rfl rfl 4 (by decide) (hts (Cond.fieldLink RL 46 "FloodGridLaw$Sim" "drain" "[[I") (List.mem_of_getElem? (i := 9) rfl)) (fun _ h9 => h9) rfl dL_act_311 ?_
    refine lv_iload_n hx hb dL_act_314 rfl (lv_at hl 2 rfl) ?_
    refine gr_aald hx hb hK hP 62 1 rfl rfl xa rfl (by omega) (by decide) dL_act_315 ?_
    refine lv_iload hx hb dL_act_316 (lv_at hl 1 rfl) ?_
    refine lv_iload_n hx hb dL_act_318 rfl (lv_at hl 5 rfl) ?_
    refine lv_iconst (v := 4) hx hb dL_act_319 (by decide) ?_
    refine lv_ishr hx hb dL_act_320 ?_
    refine lv_topi (fun z13 _ => ?_)
    refine lv_bipush (v := 10) hx hb dL_act_321 (by decide) ?_
    refine cp_Si (As := [.int z13, .int (nI 10)]) (rest := [.int (nI ya), .ref ((r 4) xa)]) (wr := (((fW g hn ha adn ada cI hei dra rai σ cre gai see fou z) ++ (sM h a r aw bw cI cJ hei dra rai σ)))) (cells1 := 0) (slots1 := 0) ⟨hx, hb, hml, hown, hts⟩ (c_L_below l D cI cJ cZ cB z13 10 (by decide) (by decide)) (va_cwS 2 hts gL_act_L_below rfl rfl rfl (by decide +kernel) ⟨Nat.le_of_ble_eq_true rfl, Nat.le_of_ble_eq_true rfl⟩) hK hP hD hS hA [0, 1, 2, 3] rfl rfl hl.1 rfl (Nat.le_of_ble_eq_true rfl) rfl rfl ⟨Nat.le_of_ble_eq_true rfl, Nat.le_of_ble_eq_true rfl⟩ dL_act_323 (fun rb u H locs hw hP hD hS => ?_)
    have hP : va_P D vwCl ((fW g hn ha adn ada cI hei dra rai σ cre gai see fou z) ++ (sM h a r aw bw cI cJ hei dra rai σ)) H := hP
    have hD : va_D A ((fW g hn ha adn ada cI hei dra rai σ cre gai see fou z) ++ (sM h a r aw bw cI cJ hei dra rai σ)) := hD
    obtain ⟨vb, hvb, rfl⟩ := hw
    have hv : (0 : Int32) ≤ nI vb ∧ nI vb ≤ 9 := b_le (M := 9) rfl hvb (by decide) (by decide)
    refine gr_iast (g := upd dra (8 * ya + xa) (nI vb)) (ws1 := ((fW g hn ha adn ada cI hei dra rai σ cre gai see fou z) ++ (sM h a r aw bw cI cJ hei (upd dra (8 * ya + xa) (nI vb)) rai σ))) hx hb hK hP hD hS 63 0 rfl rfl xa ya (8 * ya + xa) (by omega) (by omega) rfl rfl rfl rfl dL_act_326 (fun H locs hP hD hS => ?_)
    refine lv_aload_n hx hb dL_act_327 rfl (lv_at hl 3 rfl) ?_
    refine lv_iload_n hx hb dL_act_328 rfl (lv_at hl 2 rfl) ?_
    refine lv_iload hx hb dL_act_329 (lv_at hl 1 rfl) ?_
    refine lv_aload_n hx hb dL_act_331 rfl (lv_at hl 4 rfl) ?_
    refine va_get (D := D) (ci := 2) (v := .ref (a 4)) (C := RX2) (T := TX2) (N := 11) hx hb hts (fun _ h9 => (List.mem_cons_of_mem _ (List.mem_append_left _ (List.mem_append_left _ (List.mem_append_left _ (List.mem_append_left _ (List.mem_append_right _ h9))))))) hown hK hP 25 rfl rfl 4 (by decide) (hts (Cond.fieldLink RL 46 "FloodGridLaw$Sim" "drain" "[[I") (List.mem_of_getElem? (i := 9) rfl)) (fun _ h9 => h9) rfl dL_act_332 ?_
    refine lv_iload_n hx hb dL_act_335 rfl (lv_at hl 2 rfl) ?_
    refine gr_aald hx hb hK hP 62 1 rfl rfl xa rfl (by omega) (by decide) dL_act_336 ?_
    refine lv_iload hx hb dL_act_337 (lv_at hl 1 rfl) ?_
    refine gr_iald (v := (nI vb)) hx hb hK hP 63 0 rfl rfl xa ya (8 * ya + xa) (by omega) (by omega) rfl rfl pk_us dL_act_339 ?_
    refine cpx_Vi (As := [.int (nI xa), .int (nI ya), .int (nI vb)]) (rest := []) (wr := (sM h a r aw bw cI cJ hei (upd dra (8 * ya + xa) (nI vb)) rai σ)) (cells1 := 3) (slots1 := 18) ⟨hx, hb, hml, hown, hts⟩ (c_X1_drain l hst D cI κ.1 κ.2.1 g hn ha adn ada hei dra rai σ cre gai see fou z (nI xa) (nI ya) (nI vb)) (cwV 3 hts gL_act_X1_drain rfl rfl rfl (by decide +kernel) ⟨Nat.le_of_ble_eq_true rfl, Nat.le_of_ble_eq_true rfl⟩) hK hP hD hS hA hX.1 (fun E z9 => by rcases z9 with ⟨-, z9⟩ | ⟨-, -, z9⟩ <;> exact z9 (by assumption)) [0] rfl (va_recv hK hP (ci := 1) (q0 := 0) rfl rfl) rfl hl.1 rfl (Nat.le_of_ble_eq_true rfl) rfl rfl ⟨Nat.le_of_ble_eq_true rfl, Nat.le_of_ble_eq_true rfl⟩ dL_act_340 (fun r1 u H locs hw hP hD hS => ?_)
    rw [hat] at hw hP hD
    have hP : va_P D vwCl ((fW g hn ha adn ada cI hei (upd dra (8 * ya + xa) (nI vb)) rai σ cre gai see fou z) ++ (sM h a r aw bw cI cJ hei (upd dra (8 * ya + xa) (nI vb)) rai σ)) H := hP
    have hD : va_D A ((fW g hn ha adn ada cI hei (upd dra (8 * ya + xa) (nI vb)) rai σ cre gai see fou z) ++ (sM h a r aw bw cI cJ hei (upd dra (8 * ya + xa) (nI vb)) rai σ)) := hD
    refine lv_iload hx hb dL_act_343 (lv_at hl 0 rfl) ?_
    refine lv_icmp_ne (tgt := 352) hx hb dL_act_345 (by decide) (fun hs => ?_) (fun hs => ?_)
    · skip
      exact absurd hw.2.2 hs
    · skip
      refine lv_iconst (v := 1) hx hb dL_act_348 (by decide) ?_
      refine lv_goto (tgt := 353) hx hb dL_act_349 (by decide) ?_
      exact fin 1 (hei, upd dra (8 * ya + xa) (nI vb), rai, σ) H locs 3 18 353 ls dL_act_353 ⟨rfl, (pv_up (pv_dra hI (8 * ya + xa) hv) (by omega)), rfl⟩ hP hD hS (Nat.le_of_ble_eq_true rfl) (Nat.le_of_ble_eq_true rfl)
  · skip
    refine lv_tableIn (off := 328) (tgt := 354) hx hb dL_act_26 (by decide) (by decide) rfl (by decide) ?_
    refine lv_aload_n hx hb dL_act_354 rfl (lv_at hl 3 rfl) ?_
    refine va_get (D := D) (ci := 2) (v := .ref (a 5)) (C := RX2) (T := TX2) (N := 11) hx hb hts (fun _ h9 => (List.mem_cons_of_mem _ (List.mem_append_left _ (List.mem_append_left _ (List.mem_append_left _ (List.mem_append_left _ (List.mem_append_right _ h9))))))) hown hK hP 25 rfl rfl 5 (by decide) (hts (Cond.fieldLink RL 51 "FloodGridLaw$Sim" "town" "[[I") (List.mem_of_getElem? (i := 10) rfl)) (fun _ h9 => h9) rfl dL_act_355 ?_
    refine lv_iload_n hx hb dL_act_358 rfl (lv_at hl 1 rfl) ?_
    refine gr_aald hx hb hK hP 71 1 rfl rfl xa rfl (by omega) (by decide) dL_act_359 ?_
    refine lv_iload hx hb dL_act_360 (lv_at hl 0 rfl) ?_
    refine gr_iald (v := (m_peo σ) (8 * ya + xa)) hx hb hK hP 72 0 rfl rfl xa ya (8 * ya + xa) (by omega) (by omega) rfl rfl rfl dL_act_362 ?_
    refine lv_istore (lv' := [(5, .int ((m_peo σ) (8 * ya + xa))), (4, .int (nI ya)), (3, .int (nI xa)), (0, .ref g), (1, .ref h), (2, .int zz)]) hx hb dL_act_363 hl (by decide) rfl (fun ls hl => ?_)
    refine lv_aload_n hx hb dL_act_365 rfl (lv_at hl 4 rfl) ?_
    refine va_get (D := D) (ci := 2) (v := .ref (a 5)) (C := RX2) (T := TX2) (N := 11) hx hb hts (fun _ h9 => (List.mem_cons_of_mem _ (List.mem_append_left _ (List.mem_append_left _ (List.mem_append_left _ (List.mem_append_left _ (List.mem_append_right _ h9))))))) hown hK hP 25 rfl rfl 5 (by decide) (hts (Cond.fieldLink RL 51 "FloodGridLaw$Sim" "town" "[[I") (List.mem_of_getElem? (i := 10) rfl)) (fun _ h9 => h9) rfl dL_act_366 ?_
    refine lv_iload_n hx hb dL_act_369 rfl (lv_at hl 2 rfl) ?_
    refine gr_aald hx hb hK hP 71 1 rfl rfl xa rfl (by omega) (by decide) dL_act_370 ?_
    refine lv_iload hx hb dL_act_371 (lv_at hl 1 rfl) ?_
    refine lv_iload_n hx hb dL_act_373 rfl (lv_at hl 5 rfl) ?_
    refine lv_iconst (v := 2) hx hb dL_act_374 (by decide) ?_
    refine lv_ishr hx hb dL_act_375 ?_
    refine lv_topi (fun z14 _ => ?_)
    refine lv_bipush (v := 91) hx hb dL_act_376 (by decide) ?_
    refine cp_Si (As := [.int z14, .int (nI 91)]) (rest := [.int (nI ya), .ref ((r 5) xa)]) (wr := (((fW g hn ha adn ada cI hei dra rai σ cre gai see fou z) ++ (sM h a r aw bw cI cJ hei dra rai σ)))) (cells1 := 0) (slots1 := 0) ⟨hx, hb, hml, hown, hts⟩ (c_L_below l D cI cJ cZ cB z14 91 (by decide) (by decide)) (va_cwS 2 hts gL_act_L_below rfl rfl rfl (by decide +kernel) ⟨Nat.le_of_ble_eq_true rfl, Nat.le_of_ble_eq_true rfl⟩) hK hP hD hS hA [0, 1, 2, 3] rfl rfl hl.1 rfl (Nat.le_of_ble_eq_true rfl) rfl rfl ⟨Nat.le_of_ble_eq_true rfl, Nat.le_of_ble_eq_true rfl⟩ dL_act_378 (fun rb u H locs hw hP hD hS => ?_)
    have hP : va_P D vwCl ((fW g hn ha adn ada cI hei dra rai σ cre gai see fou z) ++ (sM h a r aw bw cI cJ hei dra rai σ)) H := hP
    have hD : va_D A ((fW g hn ha adn ada cI hei dra rai σ cre gai see fou z) ++ (sM h a r aw bw cI cJ hei dra rai σ)) := hD
    obtain ⟨vb, hvb, rfl⟩ := hw
    have hv : (0 : Int32) ≤ nI vb ∧ nI vb ≤ 90 := b_le (M := 90) rfl hvb (by decide) (by decide)
    refine gr_iast (g := upd (m_peo σ) (8 * ya + xa) (nI vb)) (ws1 := ((fW g hn ha adn ada cI hei dra rai σ cre gai see fou z) ++ (sW h a r aw bw cI cJ hei (m_wat σ) (m_dam σ) (m_wea σ) dra (upd (m_peo σ) (8 * ya + xa) (nI vb)) rai (nI (m_t σ)) (m_bro σ) (m_drd σ) (m_lef σ)))) hx hb hK hP hD hS 72 0 rfl rfl xa ya (8 * ya + xa) (by omega) (by omega) rfl rfl rfl rfl dL_act_381 (fun H locs hP hD hS => ?_)
    refine lv_aload_n hx hb dL_act_382 rfl (lv_at hl 3 rfl) ?_
    refine lv_iload_n hx hb dL_act_383 rfl (lv_at hl 2 rfl) ?_
    refine lv_iload hx hb dL_act_384 (lv_at hl 1 rfl) ?_
    refine lv_aload_n hx hb dL_act_386 rfl (lv_at hl 4 rfl) ?_
    refine va_get (D := D) (ci := 2) (v := .ref (a 5)) (C := RX2) (T := TX2) (N := 11) hx hb hts (fun _ h9 => (List.mem_cons_of_mem _ (List.mem_append_left _ (List.mem_append_left _ (List.mem_append_left _ (List.mem_append_left _ (List.mem_append_right _ h9))))))) hown hK hP 25 rfl rfl 5 (by decide) (hts (Cond.fieldLink RL 51 "FloodGridLaw$Sim" "town" "[[I") (List.mem_of_getElem? (i := 10) rfl)) (fun _ h9 => h9) rfl dL_act_387 ?_
    refine lv_iload_n hx hb dL_act_390 rfl (lv_at hl 2 rfl) ?_
    refine gr_aald hx hb hK hP 71 1 rfl rfl xa rfl (by omega) (by decide) dL_act_391 ?_
    refine lv_iload hx hb dL_act_392 (lv_at hl 1 rfl) ?_
    refine gr_iald (v := (nI vb)) hx hb hK hP 72 0 rfl rfl xa ya (8 * ya + xa) (by omega) (by omega) rfl rfl pk_us dL_act_394 ?_
    refine cpx_Vi (As := [.int (nI xa), .int (nI ya), .int (nI vb)]) (rest := []) (wr := (sW h a r aw bw cI cJ hei (m_wat σ) (m_dam σ) (m_wea σ) dra (upd (m_peo σ) (8 * ya + xa) (nI vb)) rai (nI (m_t σ)) (m_bro σ) (m_drd σ) (m_lef σ))) (cells1 := 3) (slots1 := 18) ⟨hx, hb, hml, hown, hts⟩ (c_X1_settle l hst D cI κ.1 κ.2.1 g hn ha adn ada hei dra rai σ cre gai see fou z (nI xa) (nI ya) (nI vb)) (cwV 3 hts gL_act_X1_settle rfl rfl rfl (by decide +kernel) ⟨Nat.le_of_ble_eq_true rfl, Nat.le_of_ble_eq_true rfl⟩) hK hP hD hS hA hX.1 (fun E z9 => by rcases z9 with ⟨-, z9⟩ | ⟨-, -, z9⟩ <;> exact z9 (by assumption)) [0] rfl (va_recv hK hP (ci := 1) (q0 := 0) rfl rfl) rfl hl.1 rfl (Nat.le_of_ble_eq_true rfl) rfl rfl ⟨Nat.le_of_ble_eq_true rfl, Nat.le_of_ble_eq_true rfl⟩ dL_act_395 (fun r1 u H locs hw hP hD hS => ?_)
    rw [hat] at hw hP hD
    have hP : va_P D vwCl ((fW g hn ha adn ada cI hei dra rai (m_wat σ, m_dam σ, m_wea σ, upd (m_peo σ) (8 * ya + xa) (nI vb), m_t σ, m_bro σ, m_drd σ, m_lef σ) cre gai see fou z) ++ (sW h a r aw bw cI cJ hei (m_wat σ) (m_dam σ) (m_wea σ) dra (upd (m_peo σ) (8 * ya + xa) (nI vb)) rai (nI (m_t σ)) (m_bro σ) (m_drd σ) (m_lef σ))) H := hP
    have hD : va_D A ((fW g hn ha adn ada cI hei dra rai (m_wat σ, m_dam σ, m_wea σ, upd (m_peo σ) (8 * ya + xa) (nI vb), m_t σ, m_bro σ, m_drd σ, m_lef σ) cre gai see fou z) ++ (sW h a r aw bw cI cJ hei (m_wat σ) (m_dam σ) (m_wea σ) dra (upd (m_peo σ) (8 * ya + xa) (nI vb)) rai (nI (m_t σ)) (m_bro σ) (m_drd σ) (m_lef σ))) := hD
    refine lv_iload hx hb dL_act_398 (lv_at hl 0 rfl) ?_
    refine lv_icmp_ne (tgt := 407) hx hb dL_act_400 (by decide) (fun hs => ?_) (fun hs => ?_)
    · skip
      exact absurd hw.2.2 hs
    · skip
      refine lv_iconst (v := 1) hx hb dL_act_403 (by decide) ?_
      refine lv_goto (tgt := 408) hx hb dL_act_404 (by decide) ?_
      exact fin 1 (hei, dra, rai, (m_wat σ, m_dam σ, m_wea σ, upd (m_peo σ) (8 * ya + xa) (nI vb), m_t σ, m_bro σ, m_drd σ, m_lef σ)) H locs 3 18 408 ls dL_act_408 ⟨rfl, (pv_up (pv_set hI (8 * ya + xa) hv) (by omega)), rfl⟩ hP hD hS (Nat.le_of_ble_eq_true rfl) (Nat.le_of_ble_eq_true rfl)
  · skip
    refine lv_tableOut (tgt := 409) hx hb dL_act_26 (by decide) (by decide) ?_
    refine lv_iload_n hx hb dL_act_409 rfl (lv_at hl 4 rfl) ?_
    refine lv_iconst (v := 4) hx hb dL_act_410 (by decide) ?_
    refine lv_ishr hx hb dL_act_411 ?_
    refine lv_topi (fun z15 _ => ?_)
    refine lv_bipush (v := 12) hx hb dL_act_412 (by decide) ?_
    refine cp_Si (As := [.int z15, .int (nI 12)]) (rest := []) (wr := (((fW g hn ha adn ada cI hei dra rai σ cre gai see fou z) ++ (sM h a r aw bw cI cJ hei dra rai σ)))) (cells1 := 0) (slots1 := 0) ⟨hx, hb, hml, hown, hts⟩ (c_L_below l D cI cJ cZ cB z15 12 (by decide) (by decide)) (va_cwS 2 hts gL_act_L_below rfl rfl rfl (by decide +kernel) ⟨Nat.le_of_ble_eq_true rfl, Nat.le_of_ble_eq_true rfl⟩) hK hP hD hS hA [0, 1, 2, 3] rfl rfl hl.1 rfl (Nat.le_of_ble_eq_true rfl) rfl rfl ⟨Nat.le_of_ble_eq_true rfl, Nat.le_of_ble_eq_true rfl⟩ dL_act_414 (fun rb u H locs hw hP hD hS => ?_)
    have hP : va_P D vwCl ((fW g hn ha adn ada cI hei dra rai σ cre gai see fou z) ++ (sM h a r aw bw cI cJ hei dra rai σ)) H := hP
    have hD : va_D A ((fW g hn ha adn ada cI hei dra rai σ cre gai see fou z) ++ (sM h a r aw bw cI cJ hei dra rai σ)) := hD
    obtain ⟨hh, hhh, rfl⟩ := hw
    refine lv_istore (lv' := [(7, .int (nI hh)), (4, .int (nI ya)), (3, .int (nI xa)), (0, .ref g), (1, .ref h), (2, .int zz)]) hx hb dL_act_417 hl (by decide) rfl (fun ls hl => ?_)
    refine lv_aload_n hx hb dL_act_419 rfl (lv_at hl 4 rfl) ?_
    refine va_get (D := D) (ci := 2) (v := .ref (a 6)) (C := RX2) (T := TX2) (N := 11) hx hb hts (fun _ h9 => (List.mem_cons_of_mem _ (List.mem_append_left _ (List.mem_append_left _ (List.mem_append_left _ (List.mem_append_left _ (List.mem_append_right _ h9))))))) hown hK hP 25 rfl rfl 6 (by decide) (hts (Cond.fieldLink RL 57 "FloodGridLaw$Sim" "rain" "[I") (List.mem_of_getElem? (i := 11) rfl)) (fun _ h9 => h9) rfl dL_act_420 ?_
    refine lv_iload hx hb dL_act_423 (lv_at hl 0 rfl) ?_
    refine ct_iald (v := rai hh) hx hb hK hP 80 0 rfl rfl hh rfl (by omega) (by decide) rfl dL_act_425 ?_
    refine lv_istore (lv' := [(5, .int (rai hh)), (7, .int (nI hh)), (4, .int (nI ya)), (3, .int (nI xa)), (0, .ref g), (1, .ref h), (2, .int zz)]) hx hb dL_act_426 hl (by decide) rfl (fun ls hl => ?_)
    refine lv_aload_n hx hb dL_act_428 rfl (lv_at hl 5 rfl) ?_
    refine va_get (D := D) (ci := 2) (v := .ref (a 6)) (C := RX2) (T := TX2) (N := 11) hx hb hts (fun _ h9 => (List.mem_cons_of_mem _ (List.mem_append_left _ (List.mem_append_left _ (List.mem_append_left _ (List.mem_append_left _ (List.mem_append_right _ h9))))))) hown hK hP 25 rfl rfl 6 (by decide) (hts (Cond.fieldLink RL 57 "FloodGridLaw$Sim" "rain" "[I") (List.mem_of_getElem? (i := 11) rfl)) (fun _ h9 => h9) rfl dL_act_429 ?_
    refine lv_iload hx hb dL_act_432 (lv_at hl 1 rfl) ?_
    refine lv_iload_n hx hb dL_act_434 rfl (lv_at hl 6 rfl) ?_
    refine lv_iconst (v := 3) hx hb dL_act_435 (by decide) ?_
    refine cp_Si (As := [.int zz, .int (nI 3)]) (rest := [.int (nI hh), .ref (a 6)]) (wr := (((fW g hn ha adn ada cI hei dra rai σ cre gai see fou z) ++ (sM h a r aw bw cI cJ hei dra rai σ)))) (cells1 := 0) (slots1 := 0) ⟨hx, hb, hml, hown, hts⟩ (c_L_below l D cI cJ cZ cB zz 3 (by decide) (by decide)) (va_cwS 2 hts gL_act_L_below rfl rfl rfl (by decide +kernel) ⟨Nat.le_of_ble_eq_true rfl, Nat.le_of_ble_eq_true rfl⟩) hK hP hD hS hA [0, 1, 2, 3] rfl rfl hl.1 rfl (Nat.le_of_ble_eq_true rfl) rfl rfl ⟨Nat.le_of_ble_eq_true rfl, Nat.le_of_ble_eq_true rfl⟩ dL_act_436 (fun rb u H locs hw hP hD hS => ?_)
    have hP : va_P D vwCl ((fW g hn ha adn ada cI hei dra rai σ cre gai see fou z) ++ (sM h a r aw bw cI cJ hei dra rai σ)) H := hP
    have hD : va_D A ((fW g hn ha adn ada cI hei dra rai σ cre gai see fou z) ++ (sM h a r aw bw cI cJ hei dra rai σ)) := hD
    obtain ⟨bb, hbb, rfl⟩ := hw
    refine lv_if_ne (tgt := 453) hx hb dL_act_439 (by decide) (fun hz => ?_) (fun hz => ?_)
    · skip
      refine lv_iload_n hx hb dL_act_453 rfl (lv_at hl 6 rfl) ?_
      refine lv_iconst (v := 2) hx hb dL_act_454 (by decide) ?_
      refine lv_ishr hx hb dL_act_455 ?_
      refine lv_topi (fun z16 _ => ?_)
      refine lv_iconst (v := 3) hx hb dL_act_456 (by decide) ?_
      refine cp_Si (As := [.int z16, .int (nI 3)]) (rest := [.int (nI hh), .ref (a 6)]) (wr := (((fW g hn ha adn ada cI hei dra rai σ cre gai see fou z) ++ (sM h a r aw bw cI cJ hei dra rai σ)))) (cells1 := 0) (slots1 := 0) ⟨hx, hb, hml, hown, hts⟩ (c_L_below l D cI cJ cZ cB z16 3 (by decide) (by decide)) (va_cwS 2 hts gL_act_L_below rfl rfl rfl (by decide +kernel) ⟨Nat.le_of_ble_eq_true rfl, Nat.le_of_ble_eq_true rfl⟩) hK hP hD hS hA [0, 1, 2, 3] rfl rfl hl.1 rfl (Nat.le_of_ble_eq_true rfl) rfl rfl ⟨Nat.le_of_ble_eq_true rfl, Nat.le_of_ble_eq_true rfl⟩ dL_act_457 (fun rb u H locs hw hP hD hS => ?_)
      have hP : va_P D vwCl ((fW g hn ha adn ada cI hei dra rai σ cre gai see fou z) ++ (sM h a r aw bw cI cJ hei dra rai σ)) H := hP
      have hD : va_D A ((fW g hn ha adn ada cI hei dra rai σ cre gai see fou z) ++ (sM h a r aw bw cI cJ hei dra rai σ)) := hD
      obtain ⟨vb, hvb, rfl⟩ := hw
      have hv : (0 : Int32) ≤ nI vb ∧ nI vb ≤ 9 := b_le (M := 9) rfl hvb (by decide) (by decide)
      have hr11 : (0 : Int32) ≤ nI hh ∧ nI hh ≤ 11 := b_le (M := 11) rfl hhh (by decide) (by decide)
      refine ct_iast (g := upd rai hh (nI vb)) (ws1 := ((fW g hn ha adn ada cI hei dra rai σ cre gai see fou z) ++ (sM h a r aw bw cI cJ hei dra (upd rai hh (nI vb)) σ))) hx hb hK hP hD hS 80 0 rfl rfl hh rfl (by omega) (by decide) rfl rfl dL_act_460 (fun H locs hP hD hS => ?_)
      refine lv_aload_n hx hb dL_act_461 rfl (lv_at hl 4 rfl) ?_
      refine lv_iload hx hb dL_act_462 (lv_at hl 1 rfl) ?_
      refine lv_aload_n hx hb dL_act_464 rfl (lv_at hl 5 rfl) ?_
      refine va_get (D := D) (ci := 2) (v := .ref (a 6)) (C := RX2) (T := TX2) (N := 11) hx hb hts (fun _ h9 => (List.mem_cons_of_mem _ (List.mem_append_left _ (List.mem_append_left _ (List.mem_append_left _ (List.mem_append_left _ (List.mem_append_right _ h9))))))) hown hK hP 25 rfl rfl 6 (by decide) (hts (Cond.fieldLink RL 57 "FloodGridLaw$Sim" "rain" "[I") (List.mem_of_getElem? (i := 11) rfl)) (fun _ h9 => h9) rfl dL_act_465 ?_
      refine lv_iload hx hb dL_act_468 (lv_at hl 1 rfl) ?_
      refine ct_iald (v := (nI vb)) hx hb hK hP 80 0 rfl rfl hh rfl (by omega) (by decide) pk_us dL_act_470 ?_
      refine cpx_Vi (As := [.int (nI hh), .int (nI vb)]) (rest := []) (wr := (sM h a r aw bw cI cJ hei dra (upd rai hh (nI vb)) σ)) (cells1 := 2) (slots1 := 12) ⟨hx, hb, hml, hown, hts⟩ (c_X1_setRain l hst D cI κ.1 κ.2.1 g hn ha adn ada hei dra rai σ cre gai see fou z (nI hh) (nI vb)) (cwV 2 hts gL_act_X1_setRain rfl rfl rfl (by decide +kernel) ⟨Nat.le_of_ble_eq_true rfl, Nat.le_of_ble_eq_true rfl⟩) hK hP hD hS hA hX.1 (fun E z9 => by rcases z9 with ⟨-, z9⟩ | ⟨-, -, z9⟩ <;> exact z9 (by assumption)) [0] rfl (va_recv hK hP (ci := 1) (q0 := 0) rfl rfl) rfl hl.1 rfl (Nat.le_of_ble_eq_true rfl) rfl rfl ⟨Nat.le_of_ble_eq_true rfl, Nat.le_of_ble_eq_true rfl⟩ dL_act_471 (fun r1 u H locs hw hP hD hS => ?_)
      rw [nI_clamp (by omega)] at hw hP hD
      have hP : va_P D vwCl ((fW g hn ha adn ada cI hei dra (upd rai hh (nI vb)) σ cre gai see fou z) ++ (sM h a r aw bw cI cJ hei dra (upd rai hh (nI vb)) σ)) H := hP
      have hD : va_D A ((fW g hn ha adn ada cI hei dra (upd rai hh (nI vb)) σ cre gai see fou z) ++ (sM h a r aw bw cI cJ hei dra (upd rai hh (nI vb)) σ)) := hD
      refine lv_iload hx hb dL_act_474 (lv_at hl 0 rfl) ?_
      refine lv_icmp_ne (tgt := 483) hx hb dL_act_476 (by decide) (fun hs => ?_) (fun hs => ?_)
      · skip
        exact absurd hw.2.2 hs
      · skip
        refine lv_iconst (v := 1) hx hb dL_act_479 (by decide) ?_
        refine lv_goto (tgt := 484) hx hb dL_act_480 (by decide) ?_
        exact fin 1 (hei, dra, upd rai hh (nI vb), σ) H locs 2 12 484 ls dL_act_484 ⟨rfl, (pv_up (pv_rai hI hh hv) (by omega)), rfl⟩ hP hD hS (Nat.le_of_ble_eq_true rfl) (Nat.le_of_ble_eq_true rfl)
    · skip
      refine lv_iload_n hx hb dL_act_442 rfl (lv_at hl 6 rfl) ?_
      refine lv_iconst (v := 2) hx hb dL_act_443 (by decide) ?_
      refine lv_ishr hx hb dL_act_444 ?_
      refine lv_topi (fun z17 _ => ?_)
      refine lv_bipush (v := 10) hx hb dL_act_445 (by decide) ?_
      refine cp_Si (As := [.int z17, .int (nI 10)]) (rest := [.int (nI hh), .ref (a 6)]) (wr := (((fW g hn ha adn ada cI hei dra rai σ cre gai see fou z) ++ (sM h a r aw bw cI cJ hei dra rai σ)))) (cells1 := 0) (slots1 := 0) ⟨hx, hb, hml, hown, hts⟩ (c_L_below l D cI cJ cZ cB z17 10 (by decide) (by decide)) (va_cwS 2 hts gL_act_L_below rfl rfl rfl (by decide +kernel) ⟨Nat.le_of_ble_eq_true rfl, Nat.le_of_ble_eq_true rfl⟩) hK hP hD hS hA [0, 1, 2, 3] rfl rfl hl.1 rfl (Nat.le_of_ble_eq_true rfl) rfl rfl ⟨Nat.le_of_ble_eq_true rfl, Nat.le_of_ble_eq_true rfl⟩ dL_act_447 (fun rb u H locs hw hP hD hS => ?_)
      have hP : va_P D vwCl ((fW g hn ha adn ada cI hei dra rai σ cre gai see fou z) ++ (sM h a r aw bw cI cJ hei dra rai σ)) H := hP
      have hD : va_D A ((fW g hn ha adn ada cI hei dra rai σ cre gai see fou z) ++ (sM h a r aw bw cI cJ hei dra rai σ)) := hD
      obtain ⟨vb, hvb, rfl⟩ := hw
      have hv : (0 : Int32) ≤ nI vb ∧ nI vb ≤ 9 := b_le (M := 9) rfl hvb (by decide) (by decide)
      have hr11 : (0 : Int32) ≤ nI hh ∧ nI hh ≤ 11 := b_le (M := 11) rfl hhh (by decide) (by decide)
      refine lv_goto (tgt := 460) hx hb dL_act_450 (by decide) ?_
      refine ct_iast (g := upd rai hh (nI vb)) (ws1 := ((fW g hn ha adn ada cI hei dra rai σ cre gai see fou z) ++ (sM h a r aw bw cI cJ hei dra (upd rai hh (nI vb)) σ))) hx hb hK hP hD hS 80 0 rfl rfl hh rfl (by omega) (by decide) rfl rfl dL_act_460 (fun H locs hP hD hS => ?_)
      refine lv_aload_n hx hb dL_act_461 rfl (lv_at hl 4 rfl) ?_
      refine lv_iload hx hb dL_act_462 (lv_at hl 1 rfl) ?_
      refine lv_aload_n hx hb dL_act_464 rfl (lv_at hl 5 rfl) ?_
      refine va_get (D := D) (ci := 2) (v := .ref (a 6)) (C := RX2) (T := TX2) (N := 11) hx hb hts (fun _ h9 => (List.mem_cons_of_mem _ (List.mem_append_left _ (List.mem_append_left _ (List.mem_append_left _ (List.mem_append_left _ (List.mem_append_right _ h9))))))) hown hK hP 25 rfl rfl 6 (by decide) (hts (Cond.fieldLink RL 57 "FloodGridLaw$Sim" "rain" "[I") (List.mem_of_getElem? (i := 11) rfl)) (fun _ h9 => h9) rfl dL_act_465 ?_
      refine lv_iload hx hb dL_act_468 (lv_at hl 1 rfl) ?_
      refine ct_iald (v := (nI vb)) hx hb hK hP 80 0 rfl rfl hh rfl (by omega) (by decide) pk_us dL_act_470 ?_
      refine cpx_Vi (As := [.int (nI hh), .int (nI vb)]) (rest := []) (wr := (sM h a r aw bw cI cJ hei dra (upd rai hh (nI vb)) σ)) (cells1 := 2) (slots1 := 12) ⟨hx, hb, hml, hown, hts⟩ (c_X1_setRain l hst D cI κ.1 κ.2.1 g hn ha adn ada hei dra rai σ cre gai see fou z (nI hh) (nI vb)) (cwV 2 hts gL_act_X1_setRain rfl rfl rfl (by decide +kernel) ⟨Nat.le_of_ble_eq_true rfl, Nat.le_of_ble_eq_true rfl⟩) hK hP hD hS hA hX.1 (fun E z9 => by rcases z9 with ⟨-, z9⟩ | ⟨-, -, z9⟩ <;> exact z9 (by assumption)) [0] rfl (va_recv hK hP (ci := 1) (q0 := 0) rfl rfl) rfl hl.1 rfl (Nat.le_of_ble_eq_true rfl) rfl rfl ⟨Nat.le_of_ble_eq_true rfl, Nat.le_of_ble_eq_true rfl⟩ dL_act_471 (fun r1 u H locs hw hP hD hS => ?_)
      rw [nI_clamp (by omega)] at hw hP hD
      have hP : va_P D vwCl ((fW g hn ha adn ada cI hei dra (upd rai hh (nI vb)) σ cre gai see fou z) ++ (sM h a r aw bw cI cJ hei dra (upd rai hh (nI vb)) σ)) H := hP
      have hD : va_D A ((fW g hn ha adn ada cI hei dra (upd rai hh (nI vb)) σ cre gai see fou z) ++ (sM h a r aw bw cI cJ hei dra (upd rai hh (nI vb)) σ)) := hD
      refine lv_iload hx hb dL_act_474 (lv_at hl 0 rfl) ?_
      refine lv_icmp_ne (tgt := 483) hx hb dL_act_476 (by decide) (fun hs => ?_) (fun hs => ?_)
      · skip
        exact absurd hw.2.2 hs
      · skip
        refine lv_iconst (v := 1) hx hb dL_act_479 (by decide) ?_
        refine lv_goto (tgt := 484) hx hb dL_act_480 (by decide) ?_
        exact fin 1 (hei, dra, upd rai hh (nI vb), σ) H locs 2 12 484 ls dL_act_484 ⟨rfl, (pv_up (pv_rai hI hh hv) (by omega)), rfl⟩ hP hD hS (Nat.le_of_ble_eq_true rfl) (Nat.le_of_ble_eq_true rfl)
