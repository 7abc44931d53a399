set_option maxHeartbeats 4000000 in
set_option maxRecDepth 100000 in
theorem lw_counts {p : Program} {l : Launch} {e : Env} {s : State} {m : MethodId} {args : Array Value} {below : List Frame} {meth : Method} {c : Code} {A : Nat → Prop} {Q : State → Prop} {D : va_G} {cI cJ cZ cB : ClassId} {κ : Kx} {g hn ha : Nat} {adn ada : Nat → Nat} {cre gai see fou : Nat → Int32} {z : Nat → Nat → Int32} {h : Nat} {a : Nat → Nat} {r : Nat → Nat → Nat} {aw : Nat} {bw : Nat → Nat} {hei dra rai : Nat → Int32} {σ : Ms} {nC nS : Nat} {t : Nat} {zv : Int32} {q : Nat} {rr : Nat → Nat} {G : Nat → Nat → Int32} (C0 : cg_S p s m args c A D yL_law wsL_law cL_law 22 [(cI, .int), (cJ, .array .int), (cZ, .boolean), (cB, .array .boolean)] κ) (hC : nC ≤ 500000 ∧ nS ≤ 6000000) (hst : l.stackTraces = false) (hL : κ.2.2.2.1 ≤ 260) (ht : m_t σ < 2 ^ 29) (kk : ∀ (see : Nat → Int32) (fou : Nat → Int32) (z : Nat → Nat → Int32) (tq : Nat) (cq : Nat) (ft : Nat → Int32) (fc : Nat → Int32) (H : Heap) (locs : List Loc) (ls : Array Slot), (∀ j, 0 ≤ j → j < 9 → fc j = q_tally σ j) → (∀ j, 1 ≤ j → j < 9 → ft j = q_tally (q_hour hei dra rai σ) j) → va_P D vwCl ((fW g hn ha adn ada cI hei dra rai σ cre gai see fou z) ++ (([(tq, .inl (cI, 9, .inl ft)), (cq, .inl (cI, 9, .inl fc))]) ++ ((sM h a r aw bw cI cJ hei dra rai σ) ++ ((wG q rr cI cJ G))))) H → va_D A ((fW g hn ha adn ada cI hei dra rai σ cre gai see fou z) ++ (([(tq, .inl (cI, 9, .inl ft)), (cq, .inl (cI, 9, .inl fc))]) ++ ((sM h a r aw bw cI cJ hei dra rai σ) ++ ((wG q rr cI cJ G))))) → va_S A s.heap H locs → lv_has ls 22 [(0, .ref κ.2.2.1), (1, .ref g), (2, .ref h), (3, .int (nI t)), (4, .int zv), (5, .ref q), (6, .ref cq), (7, .ref tq)] → W p l e room_1 s m args below meth c H locs (nC + 27) (nS + 168) Q (F0 m 212 ls [])) {H : Heap} {locs : List Loc} {ls : Array Slot} (hP : va_P D vwCl ((fW g hn ha adn ada cI hei dra rai σ cre gai see fou z) ++ ((sM h a r aw bw cI cJ hei dra rai σ) ++ ((wG q rr cI cJ G)))) H) (hD : va_D A ((fW g hn ha adn ada cI hei dra rai σ cre gai see fou z) ++ ((sM h a r aw bw cI cJ hei dra rai σ) ++ ((wG q rr cI cJ G))))) (hS : va_S A s.heap H locs) (hl : lv_has ls 22 [(0, .ref κ.2.2.1), (1, .ref g), (2, .ref h), (3, .int (nI t)), (4, .int zv), (5, .ref q)]) : W p l e room_1 s m args below meth c H locs nC nS Q (F0 m 145 ls []) := by
  obtain ⟨hx, hb, hml, hown, hts, hA, hK, hX⟩ := C0
  have hown : s.vm.findClass RL = some m.cls := hown
  refine lv_bipush (v := 9) hx hb dL_law_145 (by decide) ?_
  refine ct_newa (cells1 := (nC + 1)) (slots1 := (nS + 9)) hx hb (hts (Cond.arrayClass .int) (List.mem_of_getElem? (i := 4) rfl)) 0 rfl hK hP hD hS hA 9 rfl (by decide) rfl rfl (by show _ ≤ 608781; omega) (by show _ ≤ 7275125; omega) dL_law_147 (fun cq H hP hD hS => ?_)
  have hP := gp_sw (gp_comm hP)
  have hD := gp_swD (gp_commD hD)
  have hP : va_P D vwCl ((fW g hn ha adn ada cI hei dra rai σ cre gai see fou z) ++ (([(cq, .inl (cI, 9, .inl (fun _ => 0)))]) ++ ((sM h a r aw bw cI cJ hei dra rai σ) ++ ((wG q rr cI cJ G))))) H := hP
  have hD : va_D A ((fW g hn ha adn ada cI hei dra rai σ cre gai see fou z) ++ (([(cq, .inl (cI, 9, .inl (fun _ => 0)))]) ++ ((sM h a r aw bw cI cJ hei dra rai σ) ++ ((wG q rr cI cJ G))))) := hD
  refine lv_astore (lv' := [(6, .ref cq), (0, .ref κ.2.2.1), (1, .ref g), (2, .ref h), (3, .int (nI t)), (4, .int zv), (5, .ref q)]) hx hb dL_law_149 hl (by decide) rfl (fun ls hl => ?_)
  refine lv_bipush (v := 9) hx hb dL_law_151 (by decide) ?_
  refine ct_newa (cells1 := (nC + 2)) (slots1 := (nS + 18)) hx hb (hts (Cond.arrayClass .int) (List.mem_of_getElem? (i := 4) rfl)) 0 rfl hK hP hD hS hA 9 rfl (by decide) rfl rfl (by show _ ≤ 608781; omega) (by show _ ≤ 7275125; omega) dL_law_153 (fun tq H hP hD hS => ?_)
  have hP := gp_sw (gp_comm hP)
  have hD := gp_swD (gp_commD hD)
  have hP : va_P D vwCl ((fW g hn ha adn ada cI hei dra rai σ cre gai see fou z) ++ (([(tq, .inl (cI, 9, .inl (fun _ => 0))), (cq, .inl (cI, 9, .inl (fun _ => 0)))]) ++ ((sM h a r aw bw cI cJ hei dra rai σ) ++ ((wG q rr cI cJ G))))) H := hP
  have hD : va_D A ((fW g hn ha adn ada cI hei dra rai σ cre gai see fou z) ++ (([(tq, .inl (cI, 9, .inl (fun _ => 0))), (cq, .inl (cI, 9, .inl (fun _ => 0)))]) ++ ((sM h a r aw bw cI cJ hei dra rai σ) ++ ((wG q rr cI cJ G))))) := hD
  refine lv_astore (lv' := [(7, .ref tq), (6, .ref cq), (0, .ref κ.2.2.1), (1, .ref g), (2, .ref h), (3, .int (nI t)), (4, .int zv), (5, .ref q)]) hx hb dL_law_155 hl (by decide) rfl (fun ls hl => ?_)
  refine lv_iconst (v := 0) hx hb dL_law_157 (by decide) ?_
  refine lv_istore (lv' := [(8, .int 0), (7, .ref tq), (6, .ref cq), (0, .ref κ.2.2.1), (1, .ref g), (2, .ref h), (3, .int (nI t)), (4, .int zv), (5, .ref q)]) hx hb dL_law_158 hl (by decide) rfl (fun ls hl => ?_)
  refine W.widen (k := (nC + 2 + 1 * 0)) (n := (nS + 18 + 6 * 0)) (by omega) (by omega) ?_
  have ln : ∀ (fun9 n : Nat), n + fun9 = 9 → ∀ (see : Nat → Int32) (fou : Nat → Int32) (fc : Nat → Int32) (H : Heap) (locs : List Loc) (ls : Array Slot), (∀ j, 0 ≤ j → j < n → fc j = q_tally σ j) → va_P D vwCl ((fW g hn ha adn ada cI hei dra rai σ cre gai see fou z) ++ (([(tq, .inl (cI, 9, .inl (fun _ => 0))), (cq, .inl (cI, 9, .inl fc))]) ++ ((sM h a r aw bw cI cJ hei dra rai σ) ++ ((wG q rr cI cJ G))))) H → va_D A ((fW g hn ha adn ada cI hei dra rai σ cre gai see fou z) ++ (([(tq, .inl (cI, 9, .inl (fun _ => 0))), (cq, .inl (cI, 9, .inl fc))]) ++ ((sM h a r aw bw cI cJ hei dra rai σ) ++ ((wG q rr cI cJ G))))) → va_S A s.heap H locs → lv_has ls 22 [(0, .ref κ.2.2.1), (1, .ref g), (2, .ref h), (3, .int (nI t)), (4, .int zv), (5, .ref q), (6, .ref cq), (7, .ref tq), (8, .int (nI n))] → W p l e room_1 s m args below meth c H locs (nC + 2 + 1 * n) (nS + 18 + 6 * n) Q (F0 m 160 ls []) := by
    intro fun9
    induction fun9 with
    | zero =>
      intro n hin see fou fc H locs ls hfc hP hD hS hl
      obtain rfl : 9 = n := by omega
      refine lv_iload hx hb dL_law_160 (lv_at hl 8 rfl) ?_
      refine lv_bipush (v := 9) hx hb dL_law_162 (by decide) ?_
      refine lv_icmp_ge (tgt := 184) hx hb dL_law_164 (by decide) (fun hc => ?_) (fun hc => ?_)
      · skip
        refine lv_iconst (v := 1) hx hb dL_law_184 (by decide) ?_
        refine lv_istore (lv' := [(8, .int 1), (0, .ref κ.2.2.1), (1, .ref g), (2, .ref h), (3, .int (nI t)), (4, .int zv), (5, .ref q), (6, .ref cq), (7, .ref tq)]) hx hb dL_law_185 hl (by decide) rfl (fun ls hl => ?_)
        refine W.widen (k := (nC + 11 + 2 * 0)) (n := (nS + 72 + 12 * 0)) (by omega) (by omega) ?_
        have lm : ∀ (fum n : Nat), n + fum = 8 → ∀ (z : Nat → Nat → Int32) (ft : Nat → Int32) (H : Heap) (locs : List Loc) (ls : Array Slot), (∀ j, 1 ≤ j → j < n + 1 → ft j = q_tally (q_hour hei dra rai σ) j) → va_P D vwCl ((fW g hn ha adn ada cI hei dra rai σ cre gai see fou z) ++ (([(tq, .inl (cI, 9, .inl ft)), (cq, .inl (cI, 9, .inl fc))]) ++ ((sM h a r aw bw cI cJ hei dra rai σ) ++ ((wG q rr cI cJ G))))) H → va_D A ((fW g hn ha adn ada cI hei dra rai σ cre gai see fou z) ++ (([(tq, .inl (cI, 9, .inl ft)), (cq, .inl (cI, 9, .inl fc))]) ++ ((sM h a r aw bw cI cJ hei dra rai σ) ++ ((wG q rr cI cJ G))))) → va_S A s.heap H locs → lv_has ls 22 [(0, .ref κ.2.2.1), (1, .ref g), (2, .ref h), (3, .int (nI t)), (4, .int zv), (5, .ref q), (6, .ref cq), (7, .ref tq), (8, .int (nI (n + 1)))] → W p l e room_1 s m args below meth c H locs (nC + 11 + 2 * n) (nS + 72 + 12 * n) Q (F0 m 187 ls []) := by
          intro fum
          induction fum with
          | zero =>
            intro n him z ft H locs ls hft hP hD hS hl
            obtain rfl : 8 = n := by omega
            refine lv_iload hx hb dL_law_187 (lv_at hl 8 rfl) ?_
            refine lv_bipush (v := 9) hx hb dL_law_189 (by decide) ?_
            refine lv_icmp_ge (tgt := 212) hx hb dL_law_191 (by decide) (fun hc => ?_) (fun hc => ?_)
            · skip
              exact kk see fou z tq cq ft fc H locs ls hfc hft hP hD hS (lv_sub hl [0, 1, 2, 3, 4, 5, 6, 7] rfl)
            · skip
              exact absurd (show (9 : Int32) ≤ nI (8 + 1) by decide) hc
          | succ fum ihm =>
            intro n him z ft H locs ls hft hP hD hS hl
            have hn8 : n < 8 := by omega
            refine lv_iload hx hb dL_law_187 (lv_at hl 8 rfl) ?_
            refine lv_bipush (v := 9) hx hb dL_law_189 (by decide) ?_
            refine lv_icmp_ge (tgt := 212) hx hb dL_law_191 (by decide) (fun hc => ?_) (fun hc => ?_)
            · skip
              exact absurd hc (nI_ge (b := 9) (by omega) (by decide))
            · skip
              refine lv_aload hx hb dL_law_194 (lv_at hl 7 rfl) ?_
              refine lv_iload hx hb dL_law_196 (lv_at hl 8 rfl) ?_
              refine lv_aload_n hx hb dL_law_198 rfl (lv_at hl 1 rfl) ?_
              refine lv_iconst (v := 1) hx hb dL_law_199 (by decide) ?_
              refine lv_iload hx hb dL_law_200 (lv_at hl 8 rfl) ?_
              have h18 : (1 : Int32) ≤ nI (n + 1) ∧ nI (n + 1) ≤ 8 := ⟨(nI_leI (a := 1) (by decide) (by omega)).mpr (by omega), nI_le8 (by omega)⟩
              have h148 : (1 : Int32) ≤ 1 ∧ (1 : Int32) ≤ 48 := by decide
              refine cpx_Vi (As := [.int 1, .int (nI (n + 1))]) (rest := [.int (nI (n + 1)), .ref tq]) (wr := ((([(tq, .inl (cI, 9, .inl ft)), (cq, .inl (cI, 9, .inl fc))]) ++ ((sM h a r aw bw cI cJ hei dra rai σ) ++ ((wG q rr cI cJ G)))))) (cells1 := ((nC + 11 + 2 * n) + 2)) (slots1 := ((nS + 72 + 12 * n) + 12)) ⟨hx, hb, hml, hown, hts⟩ (c_X1_foresee l hst D cI κ.1 κ.2.1 g hn ha adn ada hei dra rai σ cre gai see fou z ht 1 (nI (n + 1))) (cwV 2 hts gL_law_X1_foresee rfl rfl rfl (by decide +kernel) ⟨Nat.le_of_ble_eq_true rfl, Nat.le_of_ble_eq_true rfl⟩) hK hP hD hS hA hX.1 (fun E z9 => by rcases z9 with ⟨-, z9⟩ | ⟨-, -, z9⟩ <;> exact z9 (by assumption)) [0] rfl (va_recv hK hP (ci := 1) (q0 := 0) rfl rfl) rfl hl.1 rfl (Nat.le_of_ble_eq_true rfl) rfl rfl ⟨by show _ ≤ 608781; omega, by show _ ≤ 7275125; omega⟩ dL_law_202 (fun r1 u H locs hw hP hD hS => ?_)
              have hP : va_P D vwCl ((fW g hn ha adn ada cI hei dra rai σ cre gai see fou u) ++ (([(tq, .inl (cI, 9, .inl ft)), (cq, .inl (cI, 9, .inl fc))]) ++ ((sM h a r aw bw cI cJ hei dra rai σ) ++ ((wG q rr cI cJ G))))) H := hP
              have hD : va_D A ((fW g hn ha adn ada cI hei dra rai σ cre gai see fou u) ++ (([(tq, .inl (cI, 9, .inl ft)), (cq, .inl (cI, 9, .inl fc))]) ++ ((sM h a r aw bw cI cJ hei dra rai σ) ++ ((wG q rr cI cJ G))))) := hD
              have e1 : r1 = q_tally (q_hour hei dra rai σ) (n + 1) := by rw [hw.2.2, nI_clamp (by omega), c_1]; rfl
              refine ct_iast (g := (upd ft (n + 1) r1)) (ws1 := ((fW g hn ha adn ada cI hei dra rai σ cre gai see fou u) ++ (([(tq, .inl (cI, 9, .inl (upd ft (n + 1) r1))), (cq, .inl (cI, 9, .inl fc))]) ++ ((sM h a r aw bw cI cJ hei dra rai σ) ++ ((wG q rr cI cJ G)))))) hx hb hK hP hD hS 25 0 rfl rfl (n + 1) rfl (by omega) (by decide) rfl rfl dL_law_205 (fun H locs hP hD hS => ?_)
              refine lv_iinc (v := (nI ((n + 1) + 1))) (lv' := [(8, .int (nI ((n + 1) + 1))), (0, .ref κ.2.2.1), (1, .ref g), (2, .ref h), (3, .int (nI t)), (4, .int zv), (5, .ref q), (6, .ref cq), (7, .ref tq)]) hx hb dL_law_206 hl (k := 8) rfl (nI_1 (n + 1)) (by decide) rfl (fun ls hl => ?_)
              refine lv_goto (tgt := 187) hx hb dL_law_209 (by decide) ?_
              refine W.widen (k := (nC + 11 + 2 * (n + 1))) (n := (nS + 72 + 12 * (n + 1))) (by omega) (by omega) ?_
              exact ihm (n + 1) (by omega) u (upd ft (n + 1) r1) H locs ls (up_step e1 hft) hP hD hS (lv_sub hl [1, 2, 3, 4, 5, 6, 7, 8, 0] rfl)
        exact lm 8 0 (by omega) z (fun _ => 0) H locs ls (fun j a9 b9 => by omega) hP hD hS (lv_sub hl [1, 2, 3, 4, 5, 6, 7, 8, 0] rfl)
      · skip
        exact absurd (show (9 : Int32) ≤ nI 9 by decide) hc
    | succ fun9 ihn =>
      intro n hin see fou fc H locs ls hfc hP hD hS hl
      have hn9 : n < 9 := by omega
      refine lv_iload hx hb dL_law_160 (lv_at hl 8 rfl) ?_
      refine lv_bipush (v := 9) hx hb dL_law_162 (by decide) ?_
      refine lv_icmp_ge (tgt := 184) hx hb dL_law_164 (by decide) (fun hc => ?_) (fun hc => ?_)
      · skip
        exact absurd hc (nI_ge (b := 9) hn9 (by decide))
      · skip
        refine lv_aload hx hb dL_law_167 (lv_at hl 6 rfl) ?_
        refine lv_iload hx hb dL_law_169 (lv_at hl 8 rfl) ?_
        refine lv_aload_n hx hb dL_law_171 rfl (lv_at hl 1 rfl) ?_
        refine lv_iload hx hb dL_law_172 (lv_at hl 8 rfl) ?_
        refine cpx_Vi (As := [.int (nI n)]) (rest := [.int (nI n), .ref cq]) (wr := ((([(tq, .inl (cI, 9, .inl (fun _ => 0))), (cq, .inl (cI, 9, .inl fc))]) ++ ((sM h a r aw bw cI cJ hei dra rai σ) ++ ((wG q rr cI cJ G)))))) (cells1 := ((nC + 2 + 1 * n) + 1)) (slots1 := ((nS + 18 + 6 * n) + 6)) ⟨hx, hb, hml, hown, hts⟩ (c_X1_count l hst D cI κ.1 κ.2.1 g hn ha adn ada hei dra rai σ cre gai see fou z (nI n)) (cwV 1 hts gL_law_X1_count rfl rfl rfl (by decide +kernel) ⟨Nat.le_of_ble_eq_true rfl, Nat.le_of_ble_eq_true rfl⟩) hK hP hD hS hA hX.1 (fun E z9 => by exact z9.2 ⟨nI_pos0 n (by omega), nI_le8 (by omega)⟩) [0] rfl (va_recv hK hP (ci := 1) (q0 := 0) rfl rfl) rfl hl.1 rfl (Nat.le_of_ble_eq_true rfl) rfl rfl ⟨by show _ ≤ 608781; omega, by show _ ≤ 7275125; omega⟩ dL_law_174 (fun r1 u H locs hw hP hD hS => ?_)
        have hP : va_P D vwCl ((fW g hn ha adn ada cI hei dra rai σ cre gai u.1 u.2 z) ++ (([(tq, .inl (cI, 9, .inl (fun _ => 0))), (cq, .inl (cI, 9, .inl fc))]) ++ ((sM h a r aw bw cI cJ hei dra rai σ) ++ ((wG q rr cI cJ G))))) H := hP
        have hD : va_D A ((fW g hn ha adn ada cI hei dra rai σ cre gai u.1 u.2 z) ++ (([(tq, .inl (cI, 9, .inl (fun _ => 0))), (cq, .inl (cI, 9, .inl fc))]) ++ ((sM h a r aw bw cI cJ hei dra rai σ) ++ ((wG q rr cI cJ G))))) := hD
        have e1 : r1 = q_tally σ n := by rw [hw.2, nI_clamp (by omega)]
        refine ct_iast (g := (upd fc n r1)) (ws1 := ((fW g hn ha adn ada cI hei dra rai σ cre gai u.1 u.2 z) ++ (([(tq, .inl (cI, 9, .inl (fun _ => 0))), (cq, .inl (cI, 9, .inl (upd fc n r1)))]) ++ ((sM h a r aw bw cI cJ hei dra rai σ) ++ ((wG q rr cI cJ G)))))) hx hb hK hP hD hS 26 0 rfl rfl n rfl (by omega) (by decide) rfl rfl dL_law_177 (fun H locs hP hD hS => ?_)
        refine lv_iinc (v := (nI (n + 1))) (lv' := [(8, .int (nI (n + 1))), (0, .ref κ.2.2.1), (1, .ref g), (2, .ref h), (3, .int (nI t)), (4, .int zv), (5, .ref q), (6, .ref cq), (7, .ref tq)]) hx hb dL_law_178 hl (k := 8) rfl (nI_1 n) (by decide) rfl (fun ls hl => ?_)
        refine lv_goto (tgt := 160) hx hb dL_law_181 (by decide) ?_
        refine W.widen (k := (nC + 2 + 1 * (n + 1))) (n := (nS + 18 + 6 * (n + 1))) (by omega) (by omega) ?_
        exact ihn (n + 1) (by omega) u.1 u.2 (upd fc n r1) H locs ls (up_step e1 hfc) hP hD hS (lv_sub hl [1, 2, 3, 4, 5, 6, 7, 8, 0] rfl)
  exact ln 9 0 (by omega) see fou (fun _ => 0) H locs ls (fun j a9 b9 => absurd b9 (Nat.not_lt_zero _)) hP hD hS (lv_sub hl [3, 4, 5, 6, 7, 8, 2, 1, 0] rfl)
