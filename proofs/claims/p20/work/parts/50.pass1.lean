theorem upd_upd (f : Nat → Int32) (k : Nat) (a b : Int32) : upd (upd f k a) k b = upd f k b := by
  funext j
  by_cases e : j = k
  · subst e; rw [pk_us, pk_us]
  · rw [pk_un e, pk_un e, pk_un e]
theorem low_some {cre : Nat → Int32} {k : Nat} (hk : k < 64) : ∃ j, q_low cre k 4 = some j := by
  rw [← lwR_4]
  have ne : ∀ (j : Nat) (o : Option Nat), ∃ i, lw_step cre (some j) o = some i := by
    intro j o
    cases o with
    | none => exact ⟨j, rfl⟩
    | some b =>
      rw [lw_s2]
      by_cases h : cre b < cre j
      · exact ⟨b, if_pos h⟩
      · exact ⟨j, if_neg h⟩
  show ∃ j, lw_step cre (q_nb k 0) (lwR cre k 3) = some j
  by_cases h : 0 < k % 8
  · have e : q_nb k 0 = some (k - 1) := by simp only [q_nb]; rw [if_pos h]
    rw [e]
    exact ne _ _
  · have e : q_nb k 0 = none := by simp only [q_nb]; rw [if_neg h]
    have e1 : q_nb k 1 = some (k + 1) := by simp only [q_nb]; rw [if_pos (by omega)]
    rw [e, lw_sn]
    show ∃ j, lw_step cre (q_nb k 1) (lwR cre k 2) = some j
    rw [e1]
    exact ne _ _
abbrev rm_X2_pass : Room := { frames := 2, cells := 9, slots := 72, locals := 60 }
set_option maxHeartbeats 4000000 in
set_option maxRecDepth 100000 in
theorem sp_rain {p : Program} {l : Launch} {e : Env} {s : State} {m : MethodId} {args : Array Value} {below : List Frame} {meth : Method} {c : Code} {A : Nat → Prop} {Q : State → Prop} {D : va_G} {cI cJ cZ cB : ClassId} {κ : Kx} {h : Nat} {a : Nat → Nat} {r : Nat → Nat → Nat} {aw : Nat} {bw : Nat → Nat} {q : Nat} {rr : Nat → Nat} {hei dra rai : Nat → Int32} {σ : Ms} (C0 : cg_S p s m args c A D yX2_pass wsX2_pass cX2_pass 12 [(cI, .int), (cJ, .array .int), (cZ, .boolean), (cB, .array .boolean)] κ) (ht : m_t σ < 2 ^ 29) (kk : ∀ (H : Heap) (locs : List Loc) (ls : Array Slot), va_P D vwCl ((sW h a r aw bw cI cJ hei (q_w1 rai (m_t σ) (m_wat σ)) (m_dam σ) (m_wea σ) dra (m_peo σ) rai (nI (m_t σ)) (m_bro σ) (m_drd σ) (m_lef σ)) ++ (gr q rr cI cJ (fun _ => 0))) H → va_D A ((sW h a r aw bw cI cJ hei (q_w1 rai (m_t σ) (m_wat σ)) (m_dam σ) (m_wea σ) dra (m_peo σ) rai (nI (m_t σ)) (m_bro σ) (m_drd σ) (m_lef σ)) ++ (gr q rr cI cJ (fun _ => 0))) → va_S A s.heap H locs → lv_has ls 12 [(0, .ref h), (1, .int (m_lef σ)), (2, .ref q)] → W p l e rm_X2_pass s m args below meth c H locs 9 72 Q (F0 m 68 ls [])) {H : Heap} {locs : List Loc} {ls : Array Slot} (hP : va_P D vwCl ((sW h a r aw bw cI cJ hei (m_wat σ) (m_dam σ) (m_wea σ) dra (m_peo σ) rai (nI (m_t σ)) (m_bro σ) (m_drd σ) (m_lef σ)) ++ (gr q rr cI cJ (fun _ => 0))) H) (hD : va_D A ((sW h a r aw bw cI cJ hei (m_wat σ) (m_dam σ) (m_wea σ) dra (m_peo σ) rai (nI (m_t σ)) (m_bro σ) (m_drd σ) (m_lef σ)) ++ (gr q rr cI cJ (fun _ => 0)))) (hS : va_S A s.heap H locs) (hl : lv_has ls 12 [(0, .ref h), (1, .int (m_lef σ)), (2, .ref q)]) : W p l e rm_X2_pass s m args below meth c H locs 9 72 Q (F0 m 14 ls []) := by
  obtain ⟨hx, hb, hml, hown, hts, hA, hK, hX⟩ := C0
  have hown : s.vm.findClass RX2 = some m.cls := hown
  refine lv_iconst (v := 0) hx hb dX2_pass_14 (by decide) ?_
  refine lv_istore_n (lv' := [(3, .int 0), (0, .ref h), (1, .int (m_lef σ)), (2, .ref q)]) hx hb dX2_pass_15 rfl hl (by decide) rfl (fun ls hl => ?_)
  have lx : ∀ (fux x : Nat), x + fux = 8 → ∀ (g : Nat → Int32) (H : Heap) (locs : List Loc) (ls : Array Slot), (g = q_mx (8 * x) (q_w1 rai (m_t σ) (m_wat σ)) (m_wat σ)) → va_P D vwCl ((sW h a r aw bw cI cJ hei g (m_dam σ) (m_wea σ) dra (m_peo σ) rai (nI (m_t σ)) (m_bro σ) (m_drd σ) (m_lef σ)) ++ (gr q rr cI cJ (fun _ => 0))) H → va_D A ((sW h a r aw bw cI cJ hei g (m_dam σ) (m_wea σ) dra (m_peo σ) rai (nI (m_t σ)) (m_bro σ) (m_drd σ) (m_lef σ)) ++ (gr q rr cI cJ (fun _ => 0))) → va_S A s.heap H locs → lv_has ls 12 [(0, .ref h), (1, .int (m_lef σ)), (2, .ref q), (3, .int (nI x))] → W p l e rm_X2_pass s m args below meth c H locs 9 72 Q (F0 m 16 ls []) := by
    intro fux
    induction fux with
    | zero =>
      intro x hix g H locs ls hg hP hD hS hl
      obtain rfl : 8 = x := by omega
      refine lv_iload_n hx hb dX2_pass_16 rfl (lv_at hl 3 rfl) ?_
      refine lv_bipush (v := 8) hx hb dX2_pass_17 (by decide) ?_
      refine lv_icmp_ge (tgt := 68) hx hb dX2_pass_19 (by decide) (fun hc => ?_) (fun hc => ?_)
      · skip
        obtain ⟨hP, hD⟩ := gr_ext hP hD (q := 11) (f := g) (g := (q_w1 rai (m_t σ) (m_wat σ))) (ws1 := ((sW h a r aw bw cI cJ hei (q_w1 rai (m_t σ) (m_wat σ)) (m_dam σ) (m_wea σ) dra (m_peo σ) rai (nI (m_t σ)) (m_bro σ) (m_drd σ) (m_lef σ)) ++ (gr q rr cI cJ (fun _ => 0)))) rfl rfl (fun c hc => by rw [hg]; exact mx_64 hc)
        exact kk H locs ls hP hD hS (lv_sub hl [0, 1, 2] rfl)
      · skip
        exact absurd (Int32.le_refl _) hc
    | succ fux ihx =>
      intro x hix g H locs ls hg hP hD hS hl
      have hx8 : x < 8 := by omega
      refine lv_iload_n hx hb dX2_pass_16 rfl (lv_at hl 3 rfl) ?_
      refine lv_bipush (v := 8) hx hb dX2_pass_17 (by decide) ?_
      refine lv_icmp_ge (tgt := 68) hx hb dX2_pass_19 (by decide) (fun hc => ?_) (fun hc => ?_)
      · skip
        exact absurd hc (nI_ge (b := 8) hx8 (by decide))
      · skip
        refine lv_iconst (v := 0) hx hb dX2_pass_22 (by decide) ?_
        refine lv_istore (lv' := [(4, .int 0), (0, .ref h), (1, .int (m_lef σ)), (2, .ref q), (3, .int (nI x))]) hx hb dX2_pass_23 hl (by decide) rfl (fun ls hl => ?_)
        have ly : ∀ (fuy y : Nat), y + fuy = 8 → ∀ (g : Nat → Int32) (H : Heap) (locs : List Loc) (ls : Array Slot), (g = q_mx (8 * x + y) (q_w1 rai (m_t σ) (m_wat σ)) (m_wat σ)) → va_P D vwCl ((sW h a r aw bw cI cJ hei g (m_dam σ) (m_wea σ) dra (m_peo σ) rai (nI (m_t σ)) (m_bro σ) (m_drd σ) (m_lef σ)) ++ (gr q rr cI cJ (fun _ => 0))) H → va_D A ((sW h a r aw bw cI cJ hei g (m_dam σ) (m_wea σ) dra (m_peo σ) rai (nI (m_t σ)) (m_bro σ) (m_drd σ) (m_lef σ)) ++ (gr q rr cI cJ (fun _ => 0))) → va_S A s.heap H locs → lv_has ls 12 [(0, .ref h), (1, .int (m_lef σ)), (2, .ref q), (3, .int (nI x)), (4, .int (nI y))] → W p l e rm_X2_pass s m args below meth c H locs 9 72 Q (F0 m 25 ls []) := by
          intro fuy
          induction fuy with
          | zero =>
            intro y hiy g H locs ls hg hP hD hS hl
            obtain rfl : 8 = y := by omega
            refine lv_iload hx hb dX2_pass_25 (lv_at hl 4 rfl) ?_
            refine lv_bipush (v := 8) hx hb dX2_pass_27 (by decide) ?_
            refine lv_icmp_ge (tgt := 62) hx hb dX2_pass_29 (by decide) (fun hc2 => ?_) (fun hc2 => ?_)
            · skip
              refine lv_iinc (v := (nI (x + 1))) (lv' := [(3, .int (nI (x + 1))), (0, .ref h), (1, .int (m_lef σ)), (2, .ref q), (4, .int (nI 8))]) hx hb dX2_pass_62 hl (k := 3) rfl (nI_1 x) (by decide) rfl (fun ls hl => ?_)
              refine lv_goto (tgt := 16) hx hb dX2_pass_65 (by decide) ?_
              exact ihx (x + 1) (by omega) g H locs ls hg hP hD hS (lv_sub hl [1, 2, 3, 0] rfl)
            · skip
              exact absurd (show (8 : Int32) ≤ nI 8 by decide) hc2
          | succ fuy ihy =>
            intro y hiy g H locs ls hg hP hD hS hl
            have hy8 : y < 8 := by omega
            refine lv_iload hx hb dX2_pass_25 (lv_at hl 4 rfl) ?_
            refine lv_bipush (v := 8) hx hb dX2_pass_27 (by decide) ?_
            refine lv_icmp_ge (tgt := 62) hx hb dX2_pass_29 (by decide) (fun hc2 => ?_) (fun hc2 => ?_)
            · skip
              exact absurd hc2 (nI_ge (b := 8) hy8 (by decide))
            · skip
              have hi64 : 8 * x + y < 64 := by omega
              have hk64 : od (8 * x + y) < 64 := od_lt hi64
              refine lv_aload_n hx hb dX2_pass_32 rfl (lv_at hl 0 rfl) ?_
              refine va_get (D := D) (ci := 2) (v := .ref aw) (C := RX2) (T := TX2) (N := 11) hx hb hts (fun _ h9 => (List.mem_cons_of_mem _ (List.mem_append_right _ h9))) hown hK hP 0 rfl rfl 1 (by decide) (hts (Cond.fieldLink RX2 14 "FloodGridLaw$Sim" "water" "[[I") (List.mem_of_getElem? (i := 4) rfl)) (fun _ h9 => h9) rfl dX2_pass_33 ?_
              refine lv_iload_n hx hb dX2_pass_36 rfl (lv_at hl 3 rfl) ?_
              refine gr_aald hx hb hK hP 10 1 rfl rfl x rfl (by omega) (by decide) dX2_pass_37 ?_
              refine lv_iload hx hb dX2_pass_38 (lv_at hl 4 rfl) ?_
              refine lv_dup2_11 hx hb dX2_pass_40 rfl rfl ?_
              refine gr_iald (v := g (od (8 * x + y))) hx hb hK hP 11 0 rfl rfl x y (od (8 * x + y)) (by omega) (by omega) (od_at hx8 hy8).symm rfl rfl dX2_pass_41 ?_
              refine lv_aload_n hx hb dX2_pass_42 rfl (lv_at hl 0 rfl) ?_
              refine va_get (D := D) (ci := 2) (v := .ref (a 6)) (C := RX2) (T := TX2) (N := 11) hx hb hts (fun _ h9 => (List.mem_cons_of_mem _ (List.mem_append_right _ h9))) hown hK hP 0 rfl rfl 6 (by decide) (hts (Cond.fieldLink RX2 29 "FloodGridLaw$Sim" "rain" "[I") (List.mem_of_getElem? (i := 5) rfl)) (fun _ h9 => h9) rfl dX2_pass_43 ?_
              refine lv_aload_n hx hb dX2_pass_46 rfl (lv_at hl 0 rfl) ?_
              refine va_get (D := D) (ci := 2) (v := .int (nI (m_t σ))) (C := RX2) (T := TX2) (N := 11) hx hb hts (fun _ h9 => (List.mem_cons_of_mem _ (List.mem_append_right _ h9))) hown hK hP 0 rfl rfl 7 (by decide) (hts (Cond.fieldLink RX2 37 "FloodGridLaw$Sim" "hour" "I") (List.mem_of_getElem? (i := 6) rfl)) (fun _ h9 => h9) rfl dX2_pass_47 ?_
              refine lv_bipush (v := 12) hx hb dX2_pass_50 (by decide) ?_
              refine ct_irem hx hb (m_t σ) 12 rfl rfl (by omega) (by decide) (by decide) dX2_pass_52 ?_
              refine ct_iald (v := rai ((m_t σ) % 12)) hx hb hK hP 55 0 rfl rfl ((m_t σ) % 12) rfl (by omega) (by decide) rfl dX2_pass_53 ?_
              refine lv_iadd hx hb dX2_pass_54 ?_
              refine gr_iast (g := upd g (od (8 * x + y)) ((g (od (8 * x + y))) + (rai ((m_t σ) % 12)))) (ws1 := ((sW h a r aw bw cI cJ hei (upd g (od (8 * x + y)) ((g (od (8 * x + y))) + (rai ((m_t σ) % 12)))) (m_dam σ) (m_wea σ) dra (m_peo σ) rai (nI (m_t σ)) (m_bro σ) (m_drd σ) (m_lef σ)) ++ (gr q rr cI cJ (fun _ => 0)))) hx hb hK hP hD hS 11 0 rfl rfl x y (od (8 * x + y)) (by omega) (by omega) (od_at hx8 hy8).symm rfl rfl rfl dX2_pass_55 (fun H locs hP hD hS => ?_)
              refine lv_iinc (v := (nI (y + 1))) (lv' := [(4, .int (nI (y + 1))), (0, .ref h), (1, .int (m_lef σ)), (2, .ref q), (3, .int (nI x))]) hx hb dX2_pass_56 hl (k := 4) rfl (nI_1 y) (by decide) rfl (fun ls hl => ?_)
              refine lv_goto (tgt := 25) hx hb dX2_pass_59 (by decide) ?_
              exact ihy (y + 1) (by omega) (upd g (od (8 * x + y)) (g (od (8 * x + y)) + rai (m_t σ % 12))) H locs ls (by rw [hg]; exact mx_up hi64 (by rw [mx_at _ _ hi64]; rfl)) hP hD hS (lv_sub hl [1, 2, 3, 4, 0] rfl)
        exact ly 8 0 (by omega) g H locs ls hg hP hD hS (lv_sub hl [1, 2, 3, 4, 0] rfl)
  exact lx 8 0 (by omega) (m_wat σ) H locs ls (mx_0 _ _).symm hP hD hS (lv_sub hl [1, 2, 3, 0] rfl)
