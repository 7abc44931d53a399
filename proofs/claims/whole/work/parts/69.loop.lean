set_option maxHeartbeats 4000000 in
set_option maxRecDepth 100000 in
theorem law_head {p : Program} {l : Launch} {e : Env} {s : State} {m : MethodId} {below : List Frame} {meth : Method} {c : Code} {b L : Nat} {xs : Nat → Int32} {D : va_G} {cI cJ cL : ClassId} {sa1 sa2 : Nat} {g hn ha : Nat} {adn ada : Nat → Nat} {h : Nat} {ad : Nat → Nat} {o : Nat} {i C S : Nat} (C9 : lw_Cx p l m c b L xs D cI cJ cL sa1 sa2 s) (hL : L ≤ 2048) (hr : meth.sig.returnType = ret) (hlocks : meth.locks = false) (hi5 : i ≤ 512) (hC : C ≤ 840170 ∧ S ≤ 6575593) (hC2 : i < 512 → C + 80 ≤ 840170 ∧ S + 700 ≤ 6575593) (kk : 4 * i + 4 ≤ L → lw_Nx p l e s m below meth c b D cI cL g hn ha adn ada h ad o i (C + 80) (S + 700)) {d0 : Drawn} (hd0 : s.drawn.sameBut d0 lw_cs) {hei dra rai : Nat → Int32} {σ : Ms} {cre gai see fou : Nat → Int32} {z : Nat → Nat → Int32} {thr : Int32} {flo lak row : Nat → Int32} {f : Nat → Int64} (hI : inv (28000 * (i : Int)) hei dra rai σ) (ht : m_t σ ≤ 48 * i) {H : Heap} {locs : List Loc} {ls : Array Slot}
    (hP : va_P D vwCl (lW g hn ha adn ada h ad o cI cL hei dra rai σ cre gai see fou z thr flo lak row f) H) (hD : va_D (lw_A s) (lW g hn ha adn ada h ad o cI cL hei dra rai σ cre gai see fou z thr flo lak row f)) (hS : va_S (lw_A s) s.heap H locs) (hl : lv_has ls 9 [(0, .ref b), (1, .ref g), (2, .ref h), (3, .ref o), (4, .int (nI (4 * i)))]) :
    W p l e room_1 (s.setDrawn d0) m #[Value.ref b] below meth c H locs C S (lw_Z below #[Value.ref b] s) (F0 m 23 ls []) := by
  obtain ⟨hx, hb, hml, hown, hts, hK, hT, hY, hX, hbl, hst⟩ := C9.drew d0
  have hbA : ¬ lw_A s b := Nat.not_le.mpr hbl
  have hS0 : va_S (lw_A s) (s.setDrawn d0).heap H locs := hS
  have hLI : (nI L).toInt = (L : Int) := nI_toInt (by omega)
  have hsub : (nI L - 4).toInt = (L : Int) - 4 := by
    have h4 : (4 : Int32).toInt = 4 := by decide
    rw [sub_ex (by rw [hLI, h4]; omega) (by rw [hLI, h4]; omega), hLI, h4]
  refine lv_iload hx hb dL_law_23 (lv_at hl 4 rfl) ?_
  refine lv_aload_n hx hb dL_law_25 rfl (lv_at hl 0 rfl) ?_
  refine va_slen hx hb hX hbl hbA hS0 dL_law_26 ?_
  refine lv_iconst (v := 4) hx hb dL_law_27 (by decide) ?_
  refine lv_isub hx hb dL_law_28 ?_
  refine ct_top (y := nI L - 4) rfl ?_
  refine lv_icmp_gt (tgt := 1225) hx hb dL_law_29 (by decide) (fun hc => ?_) (fun hc => ?_)
  · skip
    refine lv_iconst (v := 1) hx hb dL_law_1225 (by decide) ?_
    refine va_forget (fun q hq => hS.2.2 q hq) ?_
    refine W.widen (k := 840170) (n := 6575593) hC.1 hC.2 ?_
    exact lw_ret hd0 hx hb hr hlocks dL_law_1226
  · skip
    have hi : 4 * i + 4 ≤ L := by
      have h1 : (nI (4 * i)).toInt = ((4 * i : Nat) : Int) := nI_toInt (by omega)
      have h2 : ¬ (nI L - 4).toInt < (nI (4 * i)).toInt := fun h9 => hc (lt_i.mpr h9)
      rw [h1, hsub] at h2
      omega
    have kk := kk hi
    have hC := hC2 (by omega)
    refine lv_aload_n hx hb dL_law_32 rfl (lv_at hl 0 rfl) ?_
    refine lv_iload hx hb dL_law_33 (lv_at hl 4 rfl) ?_
    refine va_sld hx hb hX hbl hbA hS0 (vp_in_nI (by omega) (by omega)) dL_law_35 ?_
    refine lv_bipush (v := 31) hx hb dL_law_36 (by decide) ?_
    refine lv_iand hx hb dL_law_38 ?_
    refine lv_topi (fun y _ => ?_)
    by_cases hlo : y.toInt < 0 ∨ 16 < y.toInt
    · skip
      refine lv_tableOut (tgt := 1219) hx hb dL_law_39 hlo (by decide) ?_
      refine W.widen (k := C + 80) (n := S + 700) (by omega) (by omega) ?_
      exact kk d0 hei dra rai σ cre gai see fou z thr flo lak row f H locs ls hd0 (inv_up hI (by omega)) (by omega) hP hD hS hl
    have hy : y.toInt = 0 ∨ y.toInt = 1 ∨ y.toInt = 2 ∨ y.toInt = 3 ∨ y.toInt = 4 ∨ y.toInt = 5 ∨ y.toInt = 6 ∨ y.toInt = 7 ∨ y.toInt = 8 ∨ y.toInt = 9 ∨ y.toInt = 10 ∨ y.toInt = 11 ∨ y.toInt = 12 ∨ y.toInt = 13 ∨ y.toInt = 14 ∨ y.toInt = 15 ∨ y.toInt = 16 := by omega
    rcases hy with h9 | h9 | h9 | h9 | h9 | h9 | h9 | h9 | h9 | h9 | h9 | h9 | h9 | h9 | h9 | h9 | h9
    · refine lv_tableIn (off := 81) (tgt := 120) hx hb dL_law_39 (by omega) (by omega) (by rw [lw_is (k := 0) h9]; rfl) (by decide) ?_
      exact law_raise C9 hL hi hC kk hd0 hI ht rfl rfl rfl hP hD hS hl
    · refine lv_tableIn (off := 161) (tgt := 200) hx hb dL_law_39 (by omega) (by omega) (by rw [lw_is (k := 1) h9]; rfl) (by decide) ?_
      exact law_pour C9 hL hi hC kk hd0 hI ht rfl rfl rfl hP hD hS hl
    · refine lv_tableIn (off := 241) (tgt := 280) hx hb dL_law_39 (by omega) (by omega) (by rw [lw_is (k := 2) h9]; rfl) (by decide) ?_
      exact law_dam C9 hL hi hC kk hd0 hI ht rfl rfl rfl hP hD hS hl
    · refine lv_tableIn (off := 321) (tgt := 360) hx hb dL_law_39 (by omega) (by omega) (by rw [lw_is (k := 3) h9]; rfl) (by decide) ?_
      exact law_drain C9 hL hi hC kk hd0 hI ht rfl rfl rfl hP hD hS hl
    · refine lv_tableIn (off := 401) (tgt := 440) hx hb dL_law_39 (by omega) (by omega) (by rw [lw_is (k := 4) h9]; rfl) (by decide) ?_
      exact law_settle C9 hL hi hC kk hd0 hI ht rfl rfl rfl hP hD hS hl
    · refine lv_tableIn (off := 481) (tgt := 520) hx hb dL_law_39 (by omega) (by omega) (by rw [lw_is (k := 5) h9]; rfl) (by decide) ?_
      exact law_setRain C9 hL hi hC kk hd0 hI ht rfl rfl hP hD hS hl
    · refine lv_tableIn (off := 549) (tgt := 588) hx hb dL_law_39 (by omega) (by omega) (by rw [lw_is (k := 6) h9]; rfl) (by decide) ?_
      exact law_cell C9 hL hi hC kk hd0 hI ht rfl rfl rfl hP hD hS hl
    · refine lv_tableIn (off := 629) (tgt := 668) hx hb dL_law_39 (by omega) (by omega) (by rw [lw_is (k := 7) h9]; rfl) (by decide) ?_
      exact law_lake C9 hL hi hC kk hd0 hI ht rfl rfl hP hD hS hl
    · refine lv_tableIn (off := 697) (tgt := 736) hx hb dL_law_39 (by omega) (by omega) (by rw [lw_is (k := 8) h9]; rfl) (by decide) ?_
      exact law_count C9 hL hi hC kk hd0 hI ht rfl hP hD hS hl
    · refine lv_tableIn (off := 753) (tgt := 792) hx hb dL_law_39 (by omega) (by omega) (by rw [lw_is (k := 9) h9]; rfl) (by decide) ?_
      exact law_pass C9 hL hi hC kk hd0 hI ht rfl hP hD hS hl
    · refine lv_tableIn (off := 809) (tgt := 848) hx hb dL_law_39 (by omega) (by omega) (by rw [lw_is (k := 10) h9]; rfl) (by decide) ?_
      exact law_floods C9 hL hi hC kk hd0 hI ht rfl rfl hP hD hS hl
    · refine lv_tableIn (off := 877) (tgt := 916) hx hb dL_law_39 (by omega) (by omega) (by rw [lw_is (k := 11) h9]; rfl) (by decide) ?_
      exact law_breaks C9 hL hi hC kk hd0 hI ht rfl rfl hP hD hS hl
    · refine lv_tableIn (off := 945) (tgt := 984) hx hb dL_law_39 (by omega) (by omega) (by rw [lw_is (k := 12) h9]; rfl) (by decide) ?_
      exact law_foresee C9 hL hi hC kk hd0 hI ht rfl rfl hP hD hS hl
    · refine lv_tableIn (off := 1013) (tgt := 1052) hx hb dL_law_39 (by omega) (by omega) (by rw [lw_is (k := 13) h9]; rfl) (by decide) ?_
      exact law_holds C9 hL hi hC kk hd0 hI ht rfl hP hD hS hl
    · refine lv_tableIn (off := 1069) (tgt := 1108) hx hb dL_law_39 (by omega) (by omega) (by rw [lw_is (k := 14) h9]; rfl) (by decide) ?_
      exact law_advise C9 hL hi hC kk hd0 hI ht rfl hP hD hS hl
    · refine lv_tableIn (off := 1125) (tgt := 1164) hx hb dL_law_39 (by omega) (by omega) (by rw [lw_is (k := 15) h9]; rfl) (by decide) ?_
      exact law_mean C9 hL hi hC kk hd0 hI ht hP hD hS hl
    · refine lv_tableIn (off := 1166) (tgt := 1205) hx hb dL_law_39 (by omega) (by omega) (by rw [lw_is (k := 16) h9]; rfl) (by decide) ?_
      exact law_digest C9 hL hi hC kk hd0 hI ht hP hD hS hl
set_option maxHeartbeats 4000000 in
set_option maxRecDepth 100000 in
theorem law_loop {p : Program} {l : Launch} {e : Env} {s : State} {m : MethodId} {below : List Frame} {meth : Method} {c : Code} {b L : Nat} {xs : Nat → Int32} {D : va_G} {cI cJ cL : ClassId} {sa1 sa2 : Nat} {g hn ha : Nat} {adn ada : Nat → Nat} {h : Nat} {ad : Nat → Nat} {o : Nat} (C9 : lw_Cx p l m c b L xs D cI cJ cL sa1 sa2 s) (hL : L ≤ 2048) (hr : meth.sig.returnType = ret) (hlocks : meth.locks = false) : ∀ (n i : Nat), i + n = 512 → ∀ {d0 : Drawn} (hd0 : s.drawn.sameBut d0 lw_cs) {hei dra rai : Nat → Int32} {σ : Ms} {cre gai see fou : Nat → Int32} {z : Nat → Nat → Int32} {thr : Int32} {flo lak row : Nat → Int32} {f : Nat → Int64} (hI : inv (28000 * (i : Int)) hei dra rai σ) (ht : m_t σ ≤ 48 * i) {H : Heap} {locs : List Loc} {ls : Array Slot}
    (hP : va_P D vwCl (lW g hn ha adn ada h ad o cI cL hei dra rai σ cre gai see fou z thr flo lak row f) H) (hD : va_D (lw_A s) (lW g hn ha adn ada h ad o cI cL hei dra rai σ cre gai see fou z thr flo lak row f)) (hS : va_S (lw_A s) s.heap H locs) (hl : lv_has ls 9 [(0, .ref b), (1, .ref g), (2, .ref h), (3, .ref o), (4, .int (nI (4 * i)))]),
    W p l e room_1 (s.setDrawn d0) m #[Value.ref b] below meth c H locs (100 + 80 * i) (4000 + 700 * i) (lw_Z below #[Value.ref b] s) (F0 m 23 ls []) := by
  intro n
  induction n with
  | zero =>
    intro i hin d0 hd0 hei dra rai σ cre gai see fou z thr flo lak row f hI ht H locs ls hP hD hS hl
    exact law_head C9 hL hr hlocks (by omega) ⟨by omega, by omega⟩ (fun h9 => absurd h9 (by omega)) (fun h9 => absurd h9 (by omega)) hd0 hI ht hP hD hS hl
  | succ n ih =>
    intro i hin d0 hd0 hei dra rai σ cre gai see fou z thr flo lak row f hI ht H locs ls hP hD hS hl
    refine law_head C9 hL hr hlocks (by omega) ⟨by omega, by omega⟩ (fun h9 => ⟨by omega, by omega⟩) (fun h9 => ?_) hd0 hI ht hP hD hS hl
    intro d1 hei dra rai σ cre gai see fou z thr flo lak row f H locs ls hd1 hI ht hP hD hS hl
    obtain ⟨hx, hb, hml, hown, hts, hK, hT, hY, hX, hbl, hst⟩ := C9.drew d1
    refine lv_iinc (v := nI (4 * (i + 1))) (lv' := [(4, .int (nI (4 * (i + 1)))), (0, .ref b), (1, .ref g), (2, .ref h), (3, .ref o)]) hx hb dL_law_1219 hl (k := 4) rfl (nI_add (4 * i) 4) (by decide) rfl (fun ls hl => ?_)
    refine lv_goto (tgt := 23) hx hb dL_law_1222 (by decide) ?_
    refine W.widen (k := 100 + 80 * (i + 1)) (n := 4000 + 700 * (i + 1)) (by omega) (by omega) ?_
    exact ih (i + 1) (by omega) hd1 (inv_up hI (by omega)) (by omega) hP hD hS (lv_sub hl [1, 2, 3, 4, 0] rfl)
