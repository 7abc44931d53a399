set_option maxHeartbeats 4000000 in
set_option maxRecDepth 100000 in
theorem sp_run {p : Program} {l : Launch} {e : Env} {s : State} {m : MethodId} {args : Array Value} {below : List Frame} {meth : Method} {c : Code} {A : Nat → Prop} {Q : State → Prop} {D : va_G} {cI cJ cZ cB : ClassId} {κ : Kx} {h : Nat} {a : Nat → Nat} {r : Nat → Nat → Nat} {aw : Nat} {bw : Nat → Nat} {q : Nat} {rr : Nat → Nat} {hei dra rai : Nat → Int32} {σ : Ms} {w1 cre : Nat → Int32} (C0 : cg_S p s m args c A D yX2_pass wsX2_pass cX2_pass 12 [(cI, .int), (cJ, .array .int), (cZ, .boolean), (cB, .array .boolean)] κ) (hb9 : hB hei (m_dam σ) w1) (hcre : cre = q_cre hei (m_dam σ) w1) (kk : ∀ (H : Heap) (locs : List Loc) (ls : Array Slot), va_P D vwCl ((sW h a r aw bw cI cJ hei w1 (m_dam σ) (m_wea σ) dra (m_peo σ) rai (nI (m_t σ)) (m_bro σ) (m_drd σ) (m_lef σ)) ++ (gr q rr cI cJ (q_w2 hei (m_dam σ) w1))) H → va_D A ((sW h a r aw bw cI cJ hei w1 (m_dam σ) (m_wea σ) dra (m_peo σ) rai (nI (m_t σ)) (m_bro σ) (m_drd σ) (m_lef σ)) ++ (gr q rr cI cJ (q_w2 hei (m_dam σ) w1))) → va_S A s.heap H locs → lv_has ls 12 [(0, .ref h), (1, .int (m_lef σ)), (2, .ref q)] → W p l e rm_X2_pass s m args below meth c H locs 9 72 Q (F0 m 361 ls [])) {H : Heap} {locs : List Loc} {ls : Array Slot} (hP : va_P D vwCl ((sW h a r aw bw cI cJ hei w1 (m_dam σ) (m_wea σ) dra (m_peo σ) rai (nI (m_t σ)) (m_bro σ) (m_drd σ) (m_lef σ)) ++ (gr q rr cI cJ (fun _ => 0))) H) (hD : va_D A ((sW h a r aw bw cI cJ hei w1 (m_dam σ) (m_wea σ) dra (m_peo σ) rai (nI (m_t σ)) (m_bro σ) (m_drd σ) (m_lef σ)) ++ (gr q rr cI cJ (fun _ => 0)))) (hS : va_S A s.heap H locs) (hl : lv_has ls 12 [(0, .ref h), (1, .int (m_lef σ)), (2, .ref q)]) : W p l e rm_X2_pass s m args below meth c H locs 9 72 Q (F0 m 68 ls []) := by
  obtain ⟨hx, hb, hml, hown, hts, hA, hK, hX⟩ := C0
  have hown : s.vm.findClass RX2 = some m.cls := hown
  refine lv_iconst (v := 0) hx hb dX2_pass_68 (by decide) ?_
  refine lv_istore_n (lv' := [(3, .int 0), (0, .ref h), (1, .int (m_lef σ)), (2, .ref q)]) hx hb dX2_pass_69 rfl hl (by decide) rfl (fun ls hl => ?_)
  have lx : ∀ (fux x : Nat), x + fux = 8 → ∀ (f : Nat → Int32) (H : Heap) (locs : List Loc) (ls : Array Slot), (f = (q_th hei w1 (m_dam σ) cre (8 * x))) → va_P D vwCl ((sW h a r aw bw cI cJ hei w1 (m_dam σ) (m_wea σ) dra (m_peo σ) rai (nI (m_t σ)) (m_bro σ) (m_drd σ) (m_lef σ)) ++ (gr q rr cI cJ f)) H → va_D A ((sW h a r aw bw cI cJ hei w1 (m_dam σ) (m_wea σ) dra (m_peo σ) rai (nI (m_t σ)) (m_bro σ) (m_drd σ) (m_lef σ)) ++ (gr q rr cI cJ f)) → va_S A s.heap H locs → lv_has ls 12 [(0, .ref h), (1, .int (m_lef σ)), (2, .ref q), (3, .int (nI x))] → W p l e rm_X2_pass s m args below meth c H locs 9 72 Q (F0 m 70 ls []) := by
    intro fux
    induction fux with
    | zero =>
      intro x hix f H locs ls hg hP hD hS hl
      obtain rfl : 8 = x := by omega
      refine lv_iload_n hx hb dX2_pass_70 rfl (lv_at hl 3 rfl) ?_
      refine lv_bipush (v := 8) hx hb dX2_pass_71 (by decide) ?_
      refine lv_icmp_ge (tgt := 361) hx hb dX2_pass_73 (by decide) (fun hc => ?_) (fun hc => ?_)
      · skip
        obtain ⟨hP, hD⟩ := gr_ext hP hD (q := 57) (f := f) (g := (q_w2 hei (m_dam σ) w1)) (ws1 := ((sW h a r aw bw cI cJ hei w1 (m_dam σ) (m_wea σ) dra (m_peo σ) rai (nI (m_t σ)) (m_bro σ) (m_drd σ) (m_lef σ)) ++ (gr q rr cI cJ (q_w2 hei (m_dam σ) w1)))) rfl rfl (fun c hc => by rw [hg, hcre]; exact th_64 _ _ _ _ hc)
        exact kk H locs ls hP hD hS (lv_sub hl [0, 1, 2] rfl)
      · skip
        exact absurd (Int32.le_refl _) hc
    | succ fux ihx =>
      intro x hix f H locs ls hg hP hD hS hl
      have hx8 : x < 8 := by omega
      refine lv_iload_n hx hb dX2_pass_70 rfl (lv_at hl 3 rfl) ?_
      refine lv_bipush (v := 8) hx hb dX2_pass_71 (by decide) ?_
      refine lv_icmp_ge (tgt := 361) hx hb dX2_pass_73 (by decide) (fun hc => ?_) (fun hc => ?_)
      · skip
        exact absurd hc (nI_ge (b := 8) hx8 (by decide))
      · skip
        refine lv_iconst (v := 0) hx hb dX2_pass_76 (by decide) ?_
        refine lv_istore (lv' := [(4, .int 0), (0, .ref h), (1, .int (m_lef σ)), (2, .ref q), (3, .int (nI x))]) hx hb dX2_pass_77 hl (by decide) rfl (fun ls hl => ?_)
        have ly : ∀ (fuy y : Nat), y + fuy = 8 → ∀ (f : Nat → Int32) (H : Heap) (locs : List Loc) (ls : Array Slot), (f = (q_th hei w1 (m_dam σ) cre (8 * x + y))) → va_P D vwCl ((sW h a r aw bw cI cJ hei w1 (m_dam σ) (m_wea σ) dra (m_peo σ) rai (nI (m_t σ)) (m_bro σ) (m_drd σ) (m_lef σ)) ++ (gr q rr cI cJ f)) H → va_D A ((sW h a r aw bw cI cJ hei w1 (m_dam σ) (m_wea σ) dra (m_peo σ) rai (nI (m_t σ)) (m_bro σ) (m_drd σ) (m_lef σ)) ++ (gr q rr cI cJ f)) → va_S A s.heap H locs → lv_has ls 12 [(0, .ref h), (1, .int (m_lef σ)), (2, .ref q), (3, .int (nI x)), (4, .int (nI y))] → W p l e rm_X2_pass s m args below meth c H locs 9 72 Q (F0 m 79 ls []) := by
          intro fuy
          induction fuy with
          | zero =>
            intro y hiy f H locs ls hg hP hD hS hl
            obtain rfl : 8 = y := by omega
            refine lv_iload hx hb dX2_pass_79 (lv_at hl 4 rfl) ?_
            refine lv_bipush (v := 8) hx hb dX2_pass_81 (by decide) ?_
            refine lv_icmp_ge (tgt := 355) hx hb dX2_pass_83 (by decide) (fun hc2 => ?_) (fun hc2 => ?_)
            · skip
              refine lv_iinc (v := (nI (x + 1))) (lv' := [(3, .int (nI (x + 1))), (0, .ref h), (1, .int (m_lef σ)), (2, .ref q), (4, .int (nI 8))]) hx hb dX2_pass_355 hl (k := 3) rfl (nI_1 x) (by decide) rfl (fun ls hl => ?_)
              refine lv_goto (tgt := 70) hx hb dX2_pass_358 (by decide) ?_
              exact ihx (x + 1) (by omega) f H locs ls hg hP hD hS (lv_sub hl [1, 2, 3, 0] rfl)
            · skip
              exact absurd (show (8 : Int32) ≤ nI 8 by decide) hc2
          | succ fuy ihy =>
            intro y hiy f H locs ls hg hP hD hS hl
            have hy8 : y < 8 := by omega
            refine lv_iload hx hb dX2_pass_79 (lv_at hl 4 rfl) ?_
            refine lv_bipush (v := 8) hx hb dX2_pass_81 (by decide) ?_
            refine lv_icmp_ge (tgt := 355) hx hb dX2_pass_83 (by decide) (fun hc2 => ?_) (fun hc2 => ?_)
            · skip
              exact absurd hc2 (nI_ge (b := 8) hy8 (by decide))
            · skip
              have hi64 : 8 * x + y < 64 := by omega
              have hk64 : od (8 * x + y) < 64 := od_lt hi64
              obtain ⟨f1, hf1⟩ : ∃ f1 : Nat → Int32, f1 = upd f (od (8 * x + y)) (f (od (8 * x + y)) + w1 (od (8 * x + y))) := ⟨_, rfl⟩
              refine lv_aload_n hx hb dX2_pass_86 rfl (lv_at hl 2 rfl) ?_
              refine lv_iload_n hx hb dX2_pass_87 rfl (lv_at hl 3 rfl) ?_
              refine gr_aald hx hb hK hP 56 1 rfl rfl x rfl (by omega) (by decide) dX2_pass_88 ?_
              refine lv_iload hx hb dX2_pass_89 (lv_at hl 4 rfl) ?_
              refine lv_dup2_11 hx hb dX2_pass_91 rfl rfl ?_
              refine gr_iald (v := f (od (8 * x + y))) hx hb hK hP 57 0 rfl rfl x y (od (8 * x + y)) (by omega) (by omega) (od_at hx8 hy8).symm rfl rfl dX2_pass_92 ?_
              refine lv_aload_n hx hb dX2_pass_93 rfl (lv_at hl 0 rfl) ?_
              refine va_get (D := D) (ci := 2) (v := .ref aw) (C := RX2) (T := TX2) (N := 11) hx hb hts (fun _ h9 => (List.mem_cons_of_mem _ (List.mem_append_right _ h9))) hown hK hP 0 rfl rfl 1 (by decide) (hts (Cond.fieldLink RX2 14 "FloodGridLaw$Sim" "water" "[[I") (List.mem_of_getElem? (i := 4) rfl)) (fun _ h9 => h9) rfl dX2_pass_94 ?_
              refine lv_iload_n hx hb dX2_pass_97 rfl (lv_at hl 3 rfl) ?_
              refine gr_aald hx hb hK hP 10 1 rfl rfl x rfl (by omega) (by decide) dX2_pass_98 ?_
              refine lv_iload hx hb dX2_pass_99 (lv_at hl 4 rfl) ?_
              refine gr_iald (v := w1 (od (8 * x + y))) hx hb hK hP 11 0 rfl rfl x y (od (8 * x + y)) (by omega) (by omega) (od_at hx8 hy8).symm rfl rfl dX2_pass_101 ?_
              refine lv_iadd hx hb dX2_pass_102 ?_
              refine gr_iast (g := f1) (ws1 := ((sW h a r aw bw cI cJ hei w1 (m_dam σ) (m_wea σ) dra (m_peo σ) rai (nI (m_t σ)) (m_bro σ) (m_drd σ) (m_lef σ)) ++ (gr q rr cI cJ f1))) hx hb hK hP hD hS 57 0 rfl rfl x y (od (8 * x + y)) (by omega) (by omega) (od_at hx8 hy8).symm rfl hf1.symm rfl dX2_pass_103 (fun H locs hP hD hS => ?_)
              refine lv_aload_n hx hb dX2_pass_104 rfl (lv_at hl 0 rfl) ?_
              refine va_get (D := D) (ci := 2) (v := .ref aw) (C := RX2) (T := TX2) (N := 11) hx hb hts (fun _ h9 => (List.mem_cons_of_mem _ (List.mem_append_right _ h9))) hown hK hP 0 rfl rfl 1 (by decide) (hts (Cond.fieldLink RX2 14 "FloodGridLaw$Sim" "water" "[[I") (List.mem_of_getElem? (i := 4) rfl)) (fun _ h9 => h9) rfl dX2_pass_105 ?_
              refine lv_iload_n hx hb dX2_pass_108 rfl (lv_at hl 3 rfl) ?_
              refine gr_aald hx hb hK hP 10 1 rfl rfl x rfl (by omega) (by decide) dX2_pass_109 ?_
              refine lv_iload hx hb dX2_pass_110 (lv_at hl 4 rfl) ?_
              refine gr_iald (v := w1 (od (8 * x + y))) hx hb hK hP 11 0 rfl rfl x y (od (8 * x + y)) (by omega) (by omega) (od_at hx8 hy8).symm rfl rfl dX2_pass_112 ?_
              refine lv_aload_n hx hb dX2_pass_113 rfl (lv_at hl 0 rfl) ?_
              refine va_get (D := D) (ci := 2) (v := .ref (a 2)) (C := RX2) (T := TX2) (N := 11) hx hb hts (fun _ h9 => (List.mem_cons_of_mem _ (List.mem_append_right _ h9))) hown hK hP 0 rfl rfl 2 (by decide) (hts (Cond.fieldLink RX2 17 "FloodGridLaw$Sim" "dam" "[[I") (List.mem_of_getElem? (i := 7) rfl)) (fun _ h9 => h9) rfl dX2_pass_114 ?_
              refine lv_iload_n hx hb dX2_pass_117 rfl (lv_at hl 3 rfl) ?_
              refine gr_aald hx hb hK hP 19 1 rfl rfl x rfl (by omega) (by decide) dX2_pass_118 ?_
              refine lv_iload hx hb dX2_pass_119 (lv_at hl 4 rfl) ?_
              refine gr_iald (v := (m_dam σ) (od (8 * x + y))) hx hb hK hP 20 0 rfl rfl x y (od (8 * x + y)) (by omega) (by omega) (od_at hx8 hy8).symm rfl rfl dX2_pass_121 ?_
              refine lv_isub hx hb dX2_pass_122 ?_
              refine lv_istore (lv' := [(5, .int ((w1 (od (8 * x + y))) - ((m_dam σ) (od (8 * x + y))))), (0, .ref h), (1, .int (m_lef σ)), (2, .ref q), (3, .int (nI x)), (4, .int (nI y))]) hx hb dX2_pass_123 hl (by decide) rfl (fun ls hl => ?_)
              refine lv_iload hx hb dX2_pass_125 (lv_at hl 0 rfl) ?_
              refine lv_if_gt (tgt := 133) hx hb dX2_pass_127 (by decide) (fun ho => ?_) (fun ho => ?_)
              · skip
                have hov : m_dam σ (od (8 * x + y)) < w1 (od (8 * x + y)) := (hB_over hb9 hk64).mp ho
                have k272 : ∀ (j : Nat) (hj0 : j < 64) (H : Heap) (locs : List Loc) (ls : Array Slot), (q_low cre (od (8 * x + y)) 4 = some j) → va_P D vwCl ((sW h a r aw bw cI cJ hei w1 (m_dam σ) (m_wea σ) dra (m_peo σ) rai (nI (m_t σ)) (m_bro σ) (m_drd σ) (m_lef σ)) ++ (gr q rr cI cJ f1)) H → va_D A ((sW h a r aw bw cI cJ hei w1 (m_dam σ) (m_wea σ) dra (m_peo σ) rai (nI (m_t σ)) (m_bro σ) (m_drd σ) (m_lef σ)) ++ (gr q rr cI cJ f1)) → va_S A s.heap H locs → lv_has ls 12 [(0, .ref h), (1, .int (m_lef σ)), (2, .ref q), (3, .int (nI x)), (4, .int (nI y)), (5, .int (w1 (od (8 * x + y)) - m_dam σ (od (8 * x + y)))), (6, .int (nI (j % 8))), (7, .int (nI (j / 8))), (8, .int (cre j))] → W p l e rm_X2_pass s m args below meth c H locs 9 72 Q (F0 m 272 ls []) := by
                  intro j hj0 H locs ls hj hP hD hS hl
                  refine lv_aload_n hx hb dX2_pass_272 rfl (lv_at hl 0 rfl) ?_
                  refine va_get (D := D) (ci := 2) (v := .ref (a 0)) (C := RX2) (T := TX2) (N := 11) hx hb hts (fun _ h9 => (List.mem_cons_of_mem _ (List.mem_append_right _ h9))) hown hK hP 0 rfl rfl 0 (by decide) (hts (Cond.fieldLink RX2 9 "FloodGridLaw$Sim" "height" "[[I") (List.mem_of_getElem? (i := 9) rfl)) (fun _ h9 => h9) rfl dX2_pass_273 ?_
                  refine lv_iload_n hx hb dX2_pass_276 rfl (lv_at hl 3 rfl) ?_
                  refine gr_aald hx hb hK hP 1 1 rfl rfl x rfl (by omega) (by decide) dX2_pass_277 ?_
                  refine lv_iload hx hb dX2_pass_278 (lv_at hl 4 rfl) ?_
                  refine gr_iald (v := hei (od (8 * x + y))) hx hb hK hP 2 0 rfl rfl x y (od (8 * x + y)) (by omega) (by omega) (od_at hx8 hy8).symm rfl rfl dX2_pass_280 ?_
                  refine lv_aload_n hx hb dX2_pass_281 rfl (lv_at hl 0 rfl) ?_
                  refine va_get (D := D) (ci := 2) (v := .ref aw) (C := RX2) (T := TX2) (N := 11) hx hb hts (fun _ h9 => (List.mem_cons_of_mem _ (List.mem_append_right _ h9))) hown hK hP 0 rfl rfl 1 (by decide) (hts (Cond.fieldLink RX2 14 "FloodGridLaw$Sim" "water" "[[I") (List.mem_of_getElem? (i := 4) rfl)) (fun _ h9 => h9) rfl dX2_pass_282 ?_
                  refine lv_iload_n hx hb dX2_pass_285 rfl (lv_at hl 3 rfl) ?_
                  refine gr_aald hx hb hK hP 10 1 rfl rfl x rfl (by omega) (by decide) dX2_pass_286 ?_
                  refine lv_iload hx hb dX2_pass_287 (lv_at hl 4 rfl) ?_
                  refine gr_iald (v := w1 (od (8 * x + y))) hx hb hK hP 11 0 rfl rfl x y (od (8 * x + y)) (by omega) (by omega) (od_at hx8 hy8).symm rfl rfl dX2_pass_289 ?_
                  refine lv_iadd hx hb dX2_pass_290 ?_
                  refine lv_iload hx hb dX2_pass_291 (lv_at hl 8 rfl) ?_
                  refine lv_isub hx hb dX2_pass_293 ?_
                  refine lv_istore (lv' := [(9, .int (((hei (od (8 * x + y))) + (w1 (od (8 * x + y)))) - (cre j))), (0, .ref h), (1, .int (m_lef σ)), (2, .ref q), (3, .int (nI x)), (4, .int (nI y)), (5, .int (w1 (od (8 * x + y)) - m_dam σ (od (8 * x + y)))), (6, .int (nI (j % 8))), (7, .int (nI (j / 8))), (8, .int (cre j))]) hx hb dX2_pass_294 hl (by decide) rfl (fun ls hl => ?_)
                  refine lv_iload hx hb dX2_pass_296 (lv_at hl 0 rfl) ?_
                  refine lv_iconst (v := 2) hx hb dX2_pass_298 (by decide) ?_
                  have k324 : ∀ (xg : Int32) (H : Heap) (locs : List Loc) (ls : Array Slot), (xg = if 0 < (hei (od (8 * x + y)) + w1 (od (8 * x + y)) - cre j) then q_given hei w1 (m_dam σ) cre (od (8 * x + y)) j else 0) → va_P D vwCl ((sW h a r aw bw cI cJ hei w1 (m_dam σ) (m_wea σ) dra (m_peo σ) rai (nI (m_t σ)) (m_bro σ) (m_drd σ) (m_lef σ)) ++ (gr q rr cI cJ f1)) H → va_D A ((sW h a r aw bw cI cJ hei w1 (m_dam σ) (m_wea σ) dra (m_peo σ) rai (nI (m_t σ)) (m_bro σ) (m_drd σ) (m_lef σ)) ++ (gr q rr cI cJ f1)) → va_S A s.heap H locs → lv_has ls 12 [(0, .ref h), (1, .int (m_lef σ)), (2, .ref q), (3, .int (nI x)), (4, .int (nI y)), (5, .int (w1 (od (8 * x + y)) - m_dam σ (od (8 * x + y)))), (6, .int (nI (j % 8))), (7, .int (nI (j / 8))), (8, .int (cre j)), (9, .int (hei (od (8 * x + y)) + w1 (od (8 * x + y)) - cre j))] → W p l e rm_X2_pass s m args below meth c H locs 9 72 Q (F0 m 324 ls [.int xg]) := by
                    intro xg H locs ls hxg hP hD hS hl
                    refine lv_istore (lv' := [(10, .int xg), (0, .ref h), (1, .int (m_lef σ)), (2, .ref q), (3, .int (nI x)), (4, .int (nI y)), (5, .int (w1 (od (8 * x + y)) - m_dam σ (od (8 * x + y)))), (6, .int (nI (j % 8))), (7, .int (nI (j / 8))), (8, .int (cre j)), (9, .int (hei (od (8 * x + y)) + w1 (od (8 * x + y)) - cre j))]) hx hb dX2_pass_324 hl (by decide) rfl (fun ls hl => ?_)
                    refine lv_aload_n hx hb dX2_pass_326 rfl (lv_at hl 3 rfl) ?_
                    refine lv_iload_n hx hb dX2_pass_327 rfl (lv_at hl 4 rfl) ?_
                    refine gr_aald hx hb hK hP 56 1 rfl rfl x rfl (by omega) (by decide) dX2_pass_328 ?_
                    refine lv_iload hx hb dX2_pass_329 (lv_at hl 5 rfl) ?_
                    refine lv_dup2_11 hx hb dX2_pass_331 rfl rfl ?_
                    refine gr_iald (v := f1 (od (8 * x + y))) hx hb hK hP 57 0 rfl rfl x y (od (8 * x + y)) (by omega) (by omega) (od_at hx8 hy8).symm rfl rfl dX2_pass_332 ?_
                    refine lv_iload hx hb dX2_pass_333 (lv_at hl 0 rfl) ?_
                    refine lv_isub hx hb dX2_pass_335 ?_
                    refine gr_iast (g := upd f1 (od (8 * x + y)) ((f1 (od (8 * x + y))) - xg)) (ws1 := ((sW h a r aw bw cI cJ hei w1 (m_dam σ) (m_wea σ) dra (m_peo σ) rai (nI (m_t σ)) (m_bro σ) (m_drd σ) (m_lef σ)) ++ (gr q rr cI cJ (upd f1 (od (8 * x + y)) ((f1 (od (8 * x + y))) - xg))))) hx hb hK hP hD hS 57 0 rfl rfl x y (od (8 * x + y)) (by omega) (by omega) (od_at hx8 hy8).symm rfl rfl rfl dX2_pass_336 (fun H locs hP hD hS => ?_)
                    refine lv_aload_n hx hb dX2_pass_337 rfl (lv_at hl 3 rfl) ?_
                    refine lv_iload hx hb dX2_pass_338 (lv_at hl 7 rfl) ?_
                    refine gr_aald hx hb hK hP 56 1 rfl rfl (j % 8) rfl (by omega) (by decide) dX2_pass_340 ?_
                    refine lv_iload hx hb dX2_pass_341 (lv_at hl 8 rfl) ?_
                    refine lv_dup2_11 hx hb dX2_pass_343 rfl rfl ?_
                    refine gr_iald (v := (upd f1 (od (8 * x + y)) ((f1 (od (8 * x + y))) - xg)) j) hx hb hK hP 57 0 rfl rfl (j % 8) (j / 8) j (by omega) (by omega) (by omega) rfl rfl dX2_pass_344 ?_
                    refine lv_iload hx hb dX2_pass_345 (lv_at hl 0 rfl) ?_
                    refine lv_iadd hx hb dX2_pass_347 ?_
                    refine gr_iast (g := upd (upd f1 (od (8 * x + y)) ((f1 (od (8 * x + y))) - xg)) j (((upd f1 (od (8 * x + y)) ((f1 (od (8 * x + y))) - xg)) j) + xg)) (ws1 := ((sW h a r aw bw cI cJ hei w1 (m_dam σ) (m_wea σ) dra (m_peo σ) rai (nI (m_t σ)) (m_bro σ) (m_drd σ) (m_lef σ)) ++ (gr q rr cI cJ (upd (upd f1 (od (8 * x + y)) ((f1 (od (8 * x + y))) - xg)) j (((upd f1 (od (8 * x + y)) ((f1 (od (8 * x + y))) - xg)) j) + xg))))) hx hb hK hP hD hS 57 0 rfl rfl (j % 8) (j / 8) j (by omega) (by omega) (by omega) rfl rfl rfl dX2_pass_348 (fun H locs hP hD hS => ?_)
                    refine lv_iinc (v := (nI (y + 1))) (lv' := [(4, .int (nI (y + 1))), (10, .int xg), (0, .ref h), (1, .int (m_lef σ)), (2, .ref q), (3, .int (nI x)), (5, .int (w1 (od (8 * x + y)) - m_dam σ (od (8 * x + y)))), (6, .int (nI (j % 8))), (7, .int (nI (j / 8))), (8, .int (cre j)), (9, .int (hei (od (8 * x + y)) + w1 (od (8 * x + y)) - cre j))]) hx hb dX2_pass_349 hl (k := 5) rfl (nI_1 y) (by decide) rfl (fun ls hl => ?_)
                    refine lv_goto (tgt := 79) hx hb dX2_pass_352 (by decide) ?_
                    exact ihy (y + 1) (by omega) (upd (upd f1 (od (8 * x + y)) (f1 (od (8 * x + y)) - xg)) j (upd f1 (od (8 * x + y)) (f1 (od (8 * x + y)) - xg) j + xg)) H locs ls (th_yes hi64 hov hj hxg (by rw [hf1, hg])) hP hD hS (lv_sub hl [2, 3, 4, 5, 0] rfl)
                  refine lv_icmp_ge (tgt := 306) hx hb dX2_pass_299 (by decide) (fun h2 => ?_) (fun h2 => ?_)
                  · skip
                    refine lv_iload hx hb dX2_pass_306 (lv_at hl 0 rfl) ?_
                    refine lv_iconst (v := 2) hx hb dX2_pass_308 (by decide) ?_
                    refine lv_idiv hx hb dX2_pass_309 (by decide) ?_
                    refine lv_iload hx hb dX2_pass_310 (lv_at hl 6 rfl) ?_
                    refine lv_icmp_ge (tgt := 322) hx hb dX2_pass_312 (by decide) (fun h3 => ?_) (fun h3 => ?_)
                    · skip
                      refine lv_iload hx hb dX2_pass_322 (lv_at hl 6 rfl) ?_
                      exact k324 (w1 (od (8 * x + y)) - m_dam σ (od (8 * x + y))) H locs ls (gives_3 (Int32.not_lt.mpr h2) rfl (if_neg (Int32.not_lt.mpr h3)).symm) hP hD hS (lv_sub hl [1, 2, 3, 4, 5, 6, 7, 8, 9, 0] rfl)
                    · skip
                      refine lv_iload hx hb dX2_pass_315 (lv_at hl 0 rfl) ?_
                      refine lv_iconst (v := 2) hx hb dX2_pass_317 (by decide) ?_
                      refine lv_idiv hx hb dX2_pass_318 (by decide) ?_
                      refine lv_goto (tgt := 324) hx hb dX2_pass_319 (by decide) ?_
                      exact k324 ((hei (od (8 * x + y)) + w1 (od (8 * x + y)) - cre j) / 2) H locs ls (gives_3 (Int32.not_lt.mpr h2) rfl (if_pos (Int32.not_le.mp h3)).symm) hP hD hS (lv_sub hl [1, 2, 3, 4, 5, 6, 7, 8, 9, 0] rfl)
                  · skip
                    refine lv_iconst (v := 0) hx hb dX2_pass_302 (by decide) ?_
                    refine lv_goto (tgt := 324) hx hb dX2_pass_303 (by decide) ?_
                    exact k324 0 H locs ls (gives_2 (Int32.not_le.mp h2) ho rfl) hP hD hS (lv_sub hl [1, 2, 3, 4, 5, 6, 7, 8, 9, 0] rfl)
                have side : ∀ (o : Option Nat) (s9 : Nat) (X Y : Int32), (∀ b, (inC X Y ∧ q_at X Y = b) ↔ q_nb (od (8 * x + y)) s9 = some b) → (∀ (H : Heap) (locs : List Loc) (ls : Array Slot), va_P D vwCl ((sW h a r aw bw cI cJ hei w1 (m_dam σ) (m_wea σ) dra (m_peo σ) rai (nI (m_t σ)) (m_bro σ) (m_drd σ) (m_lef σ)) ++ (gr q rr cI cJ f1)) H → va_D A ((sW h a r aw bw cI cJ hei w1 (m_dam σ) (m_wea σ) dra (m_peo σ) rai (nI (m_t σ)) (m_bro σ) (m_drd σ) (m_lef σ)) ++ (gr q rr cI cJ f1)) → va_S A s.heap H locs → lv_has ls 12 [(0, .ref h), (1, .int (m_lef σ)), (2, .ref q), (3, .int (nI x)), (4, .int (nI y)), (5, .int (w1 (od (8 * x + y)) - m_dam σ (od (8 * x + y)))), (6, .int (nI (lw_x x (lw_step cre (q_nb (od (8 * x + y)) s9) o)))), (7, .int (nI (lw_y y (lw_step cre (q_nb (od (8 * x + y)) s9) o)))), (8, .int (lw_v cre (lw_step cre (q_nb (od (8 * x + y)) s9) o))), (9, .int (nI s9))] → W p l e rm_X2_pass s m args below meth c H locs 9 72 Q (F0 m 266 ls [])) → ∀ (H : Heap) (locs : List Loc) (ls : Array Slot), va_P D vwCl ((sW h a r aw bw cI cJ hei w1 (m_dam σ) (m_wea σ) dra (m_peo σ) rai (nI (m_t σ)) (m_bro σ) (m_drd σ) (m_lef σ)) ++ (gr q rr cI cJ f1)) H → va_D A ((sW h a r aw bw cI cJ hei w1 (m_dam σ) (m_wea σ) dra (m_peo σ) rai (nI (m_t σ)) (m_bro σ) (m_drd σ) (m_lef σ)) ++ (gr q rr cI cJ f1)) → va_S A s.heap H locs → lv_has ls 12 [(0, .ref h), (1, .int (m_lef σ)), (2, .ref q), (3, .int (nI x)), (4, .int (nI y)), (5, .int (w1 (od (8 * x + y)) - m_dam σ (od (8 * x + y)))), (6, .int (nI (lw_x x o))), (7, .int (nI (lw_y y o))), (8, .int (lw_v cre o)), (9, .int (nI s9)), (10, .int X), (11, .int Y)] → W p l e rm_X2_pass s m args below meth c H locs 9 72 Q (F0 m 208 ls []) := by
                  intro o s9 X Y hnb k9 H locs ls hP hD hS hl
                  refine lv_iload hx hb dX2_pass_208 (lv_at hl 10 rfl) ?_
                  refine lv_if_lt (tgt := 266) hx hb dX2_pass_210 (by decide) (fun h1 => ?_) (fun h1 => ?_)
                  · skip
                    have e9 : q_nb (od (8 * x + y)) s9 = none := by
                      cases hq : q_nb (od (8 * x + y)) s9 with
                      | none => rfl
                      | some b => exact absurd ((hnb b).mpr hq).1 (fun z => Int32.not_le.mpr h1 z.1.1)
                    rw [e9, lw_sn] at k9
                    exact k9 H locs ls hP hD hS (lv_sub hl [0, 1, 2, 3, 4, 5, 6, 7, 8, 9] rfl)
                  · skip
                    refine lv_iload hx hb dX2_pass_213 (lv_at hl 10 rfl) ?_
                    refine lv_bipush (v := 7) hx hb dX2_pass_215 (by decide) ?_
                    refine lv_icmp_gt (tgt := 266) hx hb dX2_pass_217 (by decide) (fun h2 => ?_) (fun h2 => ?_)
                    · skip
                      have e9 : q_nb (od (8 * x + y)) s9 = none := by
                        cases hq : q_nb (od (8 * x + y)) s9 with
                        | none => rfl
                        | some b => exact absurd ((hnb b).mpr hq).1 (fun z => Int32.not_le.mpr h2 z.1.2)
                      rw [e9, lw_sn] at k9
                      exact k9 H locs ls hP hD hS (lv_sub hl [0, 1, 2, 3, 4, 5, 6, 7, 8, 9] rfl)
                    · skip
                      refine lv_iload hx hb dX2_pass_220 (lv_at hl 11 rfl) ?_
                      refine lv_if_lt (tgt := 266) hx hb dX2_pass_222 (by decide) (fun h3 => ?_) (fun h3 => ?_)
                      · skip
                        have e9 : q_nb (od (8 * x + y)) s9 = none := by
                          cases hq : q_nb (od (8 * x + y)) s9 with
                          | none => rfl
                          | some b => exact absurd ((hnb b).mpr hq).1 (fun z => Int32.not_le.mpr h3 z.2.1)
                        rw [e9, lw_sn] at k9
                        exact k9 H locs ls hP hD hS (lv_sub hl [0, 1, 2, 3, 4, 5, 6, 7, 8, 9] rfl)
                      · skip
                        refine lv_iload hx hb dX2_pass_225 (lv_at hl 11 rfl) ?_
                        refine lv_bipush (v := 7) hx hb dX2_pass_227 (by decide) ?_
                        refine lv_icmp_gt (tgt := 266) hx hb dX2_pass_229 (by decide) (fun h4 => ?_) (fun h4 => ?_)
                        · skip
                          have e9 : q_nb (od (8 * x + y)) s9 = none := by
                            cases hq : q_nb (od (8 * x + y)) s9 with
                            | none => rfl
                            | some b => exact absurd ((hnb b).mpr hq).1 (fun z => Int32.not_le.mpr h4 z.2.2)
                          rw [e9, lw_sn] at k9
                          exact k9 H locs ls hP hD hS (lv_sub hl [0, 1, 2, 3, 4, 5, 6, 7, 8, 9] rfl)
                        · skip
                          have hin : inC X Y := ⟨⟨Int32.not_lt.mp h1, Int32.not_lt.mp h2⟩, Int32.not_lt.mp h3, Int32.not_lt.mp h4⟩
                          obtain ⟨xa, hu7, rfl⟩ := nI_of2 (M := 7) (n := 7) rfl h1 (Int32.not_lt.mp h2)
                          obtain ⟨ya, hv7, rfl⟩ := nI_of2 (M := 7) (n := 7) rfl h3 (Int32.not_lt.mp h4)
                          have e9 := (hnb (8 * ya + xa)).mp ⟨hin, qat_nI (by omega) (by omega)⟩
                          rw [e9] at k9
                          refine lv_aload_n hx hb dX2_pass_232 rfl (lv_at hl 0 rfl) ?_
                          refine lv_iload hx hb dX2_pass_233 (lv_at hl 10 rfl) ?_
                          refine lv_iload hx hb dX2_pass_235 (lv_at hl 11 rfl) ?_
                          refine cp_Vi (As := [.int (nI xa), .int (nI ya)]) (rest := []) (wr := gr q rr cI cJ f1) (cells1 := 9) (slots1 := 72) ⟨hx, hb, hml, hown, hts⟩ (c_X2_crest l D cI cJ cZ cB h a r aw bw hei w1 (m_dam σ) (m_wea σ) dra (m_peo σ) rai (nI (m_t σ)) (m_bro σ) (m_drd σ) (m_lef σ) xa ya (by omega) (by omega)) (cwV 2 hts gX2_pass_X2_crest rfl rfl rfl (by decide +kernel) ⟨Nat.le_of_ble_eq_true rfl, Nat.le_of_ble_eq_true rfl⟩) hK hP hD hS hA [0, 1, 2, 3] rfl (va_recv hK hP (ci := 2) (q0 := 0) rfl rfl) rfl hl.1 rfl (Nat.le_of_ble_eq_true rfl) rfl rfl ⟨Nat.le_of_ble_eq_true rfl, Nat.le_of_ble_eq_true rfl⟩ dX2_pass_237 (fun r1 u H locs hw hP hD hS => ?_)
                          have hP : va_P D vwCl ((sW h a r aw bw cI cJ hei w1 (m_dam σ) (m_wea σ) dra (m_peo σ) rai (nI (m_t σ)) (m_bro σ) (m_drd σ) (m_lef σ)) ++ (gr q rr cI cJ f1)) H := hP
                          have hD : va_D A ((sW h a r aw bw cI cJ hei w1 (m_dam σ) (m_wea σ) dra (m_peo σ) rai (nI (m_t σ)) (m_bro σ) (m_drd σ) (m_lef σ)) ++ (gr q rr cI cJ f1)) := hD
                          have r1e : r1 = cre (8 * ya + xa) := by rw [hcre]; exact hw
                          subst r1e
                          refine lv_iload hx hb dX2_pass_240 (lv_at hl 8 rfl) ?_
                          refine lv_icmp_le (tgt := 248) hx hb dX2_pass_242 (by decide) (fun h5 => ?_) (fun h5 => ?_)
                          · skip
                            refine lv_aload_n hx hb dX2_pass_248 rfl (lv_at hl 0 rfl) ?_
                            refine lv_iload hx hb dX2_pass_249 (lv_at hl 10 rfl) ?_
                            refine lv_iload hx hb dX2_pass_251 (lv_at hl 11 rfl) ?_
                            refine cp_Vi (As := [.int (nI xa), .int (nI ya)]) (rest := []) (wr := gr q rr cI cJ f1) (cells1 := 9) (slots1 := 72) ⟨hx, hb, hml, hown, hts⟩ (c_X2_crest l D cI cJ cZ cB h a r aw bw hei w1 (m_dam σ) (m_wea σ) dra (m_peo σ) rai (nI (m_t σ)) (m_bro σ) (m_drd σ) (m_lef σ) xa ya (by omega) (by omega)) (cwV 2 hts gX2_pass_X2_crest rfl rfl rfl (by decide +kernel) ⟨Nat.le_of_ble_eq_true rfl, Nat.le_of_ble_eq_true rfl⟩) hK hP hD hS hA [0, 1, 2, 3] rfl (va_recv hK hP (ci := 2) (q0 := 0) rfl rfl) rfl hl.1 rfl (Nat.le_of_ble_eq_true rfl) rfl rfl ⟨Nat.le_of_ble_eq_true rfl, Nat.le_of_ble_eq_true rfl⟩ dX2_pass_253 (fun r2 u H locs hw hP hD hS => ?_)
                            have hP : va_P D vwCl ((sW h a r aw bw cI cJ hei w1 (m_dam σ) (m_wea σ) dra (m_peo σ) rai (nI (m_t σ)) (m_bro σ) (m_drd σ) (m_lef σ)) ++ (gr q rr cI cJ f1)) H := hP
                            have hD : va_D A ((sW h a r aw bw cI cJ hei w1 (m_dam σ) (m_wea σ) dra (m_peo σ) rai (nI (m_t σ)) (m_bro σ) (m_drd σ) (m_lef σ)) ++ (gr q rr cI cJ f1)) := hD
                            have r2e : r2 = cre (8 * ya + xa) := by rw [hcre]; exact hw
                            subst r2e
                            refine lv_istore (lv' := [(8, .int (cre (8 * ya + xa))), (0, .ref h), (1, .int (m_lef σ)), (2, .ref q), (3, .int (nI x)), (4, .int (nI y)), (5, .int (w1 (od (8 * x + y)) - m_dam σ (od (8 * x + y)))), (6, .int (nI (lw_x x o))), (7, .int (nI (lw_y y o))), (9, .int (nI s9)), (10, .int (nI xa)), (11, .int (nI ya))]) hx hb dX2_pass_256 hl (by decide) rfl (fun ls hl => ?_)
                            refine lv_iload hx hb dX2_pass_258 (lv_at hl 10 rfl) ?_
                            refine lv_istore (lv' := [(6, .int (nI xa)), (8, .int (cre (8 * ya + xa))), (0, .ref h), (1, .int (m_lef σ)), (2, .ref q), (3, .int (nI x)), (4, .int (nI y)), (5, .int (w1 (od (8 * x + y)) - m_dam σ (od (8 * x + y)))), (7, .int (nI (lw_y y o))), (9, .int (nI s9)), (10, .int (nI xa)), (11, .int (nI ya))]) hx hb dX2_pass_260 hl (by decide) rfl (fun ls hl => ?_)
                            refine lv_iload hx hb dX2_pass_262 (lv_at hl 11 rfl) ?_
                            refine lv_istore (lv' := [(7, .int (nI ya)), (6, .int (nI xa)), (8, .int (cre (8 * ya + xa))), (0, .ref h), (1, .int (m_lef σ)), (2, .ref q), (3, .int (nI x)), (4, .int (nI y)), (5, .int (w1 (od (8 * x + y)) - m_dam σ (od (8 * x + y)))), (9, .int (nI s9)), (10, .int (nI xa)), (11, .int (nI ya))]) hx hb dX2_pass_264 hl (by decide) rfl (fun ls hl => ?_)
                            have e8 : lw_step cre (some (8 * ya + xa)) o = some (8 * ya + xa) := lw_take (Int32.not_lt.mpr h5)
                            have eu : (8 * ya + xa) % 8 = xa := by omega
                            have ev : (8 * ya + xa) / 8 = ya := by omega
                            have e6 : lw_x x (lw_step cre (some (8 * ya + xa)) o) = xa := by rw [e8]; exact eu
                            have e7 : lw_y y (lw_step cre (some (8 * ya + xa)) o) = ya := by rw [e8]; exact ev
                            have e5 : lw_v cre (lw_step cre (some (8 * ya + xa)) o) = cre (8 * ya + xa) := by rw [e8]; rfl
                            rw [e6, e7, e5] at k9
                            exact k9 H locs ls hP hD hS (lv_sub hl [3, 4, 5, 6, 7, 8, 1, 0, 2, 9] rfl)
                          · skip
                            refine lv_goto (tgt := 266) hx hb dX2_pass_245 (by decide) ?_
                            rw [lw_keep (by rw [hcre]; exact (hB_cre hb9 (by omega)).2) (Int32.not_le.mp h5)] at k9
                            exact k9 H locs ls hP hD hS (lv_sub hl [0, 1, 2, 3, 4, 5, 6, 7, 8, 9] rfl)
                have n4 : ∀ (H : Heap) (locs : List Loc) (ls : Array Slot), va_P D vwCl ((sW h a r aw bw cI cJ hei w1 (m_dam σ) (m_wea σ) dra (m_peo σ) rai (nI (m_t σ)) (m_bro σ) (m_drd σ) (m_lef σ)) ++ (gr q rr cI cJ f1)) H → va_D A ((sW h a r aw bw cI cJ hei w1 (m_dam σ) (m_wea σ) dra (m_peo σ) rai (nI (m_t σ)) (m_bro σ) (m_drd σ) (m_lef σ)) ++ (gr q rr cI cJ f1)) → va_S A s.heap H locs → lv_has ls 12 [(0, .ref h), (1, .int (m_lef σ)), (2, .ref q), (3, .int (nI x)), (4, .int (nI y)), (5, .int (w1 (od (8 * x + y)) - m_dam σ (od (8 * x + y)))), (6, .int (nI (lw_x x (lwR cre (od (8 * x + y)) 4)))), (7, .int (nI (lw_y y (lwR cre (od (8 * x + y)) 4)))), (8, .int (lw_v cre (lwR cre (od (8 * x + y)) 4))), (9, .int (-1))] → W p l e rm_X2_pass s m args below meth c H locs 9 72 Q (F0 m 147 ls []) := by
                  intro H locs ls hP hD hS hl
                  refine lv_iload hx hb dX2_pass_147 (lv_at hl 9 rfl) ?_
                  refine lv_if_lt (tgt := 272) hx hb dX2_pass_149 (by decide) (fun hs => ?_) (fun hs => ?_)
                  · skip
                    obtain ⟨j, hj⟩ := low_some (cre := cre) hk64
                    have hl : lv_has ls 12 _ := hl
                    rw [lwR_4, hj] at hl
                    exact k272 j (q_low_lt hk64 hj) H locs ls hj hP hD hS (lv_sub hl [0, 1, 2, 3, 4, 5, 6, 7, 8] rfl)
                  · skip
                    exact absurd (by decide) hs
                have n3 : ∀ (H : Heap) (locs : List Loc) (ls : Array Slot), va_P D vwCl ((sW h a r aw bw cI cJ hei w1 (m_dam σ) (m_wea σ) dra (m_peo σ) rai (nI (m_t σ)) (m_bro σ) (m_drd σ) (m_lef σ)) ++ (gr q rr cI cJ f1)) H → va_D A ((sW h a r aw bw cI cJ hei w1 (m_dam σ) (m_wea σ) dra (m_peo σ) rai (nI (m_t σ)) (m_bro σ) (m_drd σ) (m_lef σ)) ++ (gr q rr cI cJ f1)) → va_S A s.heap H locs → lv_has ls 12 [(0, .ref h), (1, .int (m_lef σ)), (2, .ref q), (3, .int (nI x)), (4, .int (nI y)), (5, .int (w1 (od (8 * x + y)) - m_dam σ (od (8 * x + y)))), (6, .int (nI (lw_x x (lwR cre (od (8 * x + y)) 3)))), (7, .int (nI (lw_y y (lwR cre (od (8 * x + y)) 3)))), (8, .int (lw_v cre (lwR cre (od (8 * x + y)) 3))), (9, .int 0)] → W p l e rm_X2_pass s m args below meth c H locs 9 72 Q (F0 m 147 ls []) := by
                  intro H locs ls hP hD hS hl
                  refine lv_iload hx hb dX2_pass_147 (lv_at hl 9 rfl) ?_
                  refine lv_if_lt (tgt := 272) hx hb dX2_pass_149 (by decide) (fun hs => ?_) (fun hs => ?_)
                  · first | exact absurd hs (by decide) | exact absurd (by decide) hs
                  refine lv_iload hx hb dX2_pass_152 (lv_at hl 9 rfl) ?_
                  refine lv_if_ne (tgt := 163) hx hb dX2_pass_154 (by decide) (fun hs => ?_) (fun hs => ?_)
                  · first | exact absurd hs (by decide) | exact absurd (by decide) hs
                  refine lv_iload_n hx hb dX2_pass_157 rfl (lv_at hl 3 rfl) ?_
                  refine lv_iconst (v := 1) hx hb dX2_pass_158 (by decide) ?_
                  refine lv_isub hx hb dX2_pass_159 ?_
                  refine lv_goto (tgt := 176) hx hb dX2_pass_160 (by decide) ?_
                  refine lv_istore (lv' := [(10, .int ((nI x) - 1)), (0, .ref h), (1, .int (m_lef σ)), (2, .ref q), (3, .int (nI x)), (4, .int (nI y)), (5, .int (w1 (od (8 * x + y)) - m_dam σ (od (8 * x + y)))), (6, .int (nI (lw_x x (lwR cre (od (8 * x + y)) 3)))), (7, .int (nI (lw_y y (lwR cre (od (8 * x + y)) 3)))), (8, .int (lw_v cre (lwR cre (od (8 * x + y)) 3))), (9, .int 0)]) hx hb dX2_pass_176 hl (by decide) rfl (fun ls hl => ?_)
                  refine lv_iload hx hb dX2_pass_178 (lv_at hl 10 rfl) ?_
                  refine lv_iconst (v := 2) hx hb dX2_pass_180 (by decide) ?_
                  refine lv_icmp_ne (tgt := 191) hx hb dX2_pass_181 (by decide) (fun hs => ?_) (fun hs => ?_)
                  rotate_left
                  · first | exact absurd hs (by decide) | exact absurd (by decide) hs
                  refine lv_iload hx hb dX2_pass_191 (lv_at hl 10 rfl) ?_
                  refine lv_iconst (v := 3) hx hb dX2_pass_193 (by decide) ?_
                  refine lv_icmp_ne (tgt := 204) hx hb dX2_pass_194 (by decide) (fun hs => ?_) (fun hs => ?_)
                  rotate_left
                  · first | exact absurd hs (by decide) | exact absurd (by decide) hs
                  refine lv_iload hx hb dX2_pass_204 (lv_at hl 5 rfl) ?_
                  refine lv_istore (lv' := [(11, .int (nI y)), (10, .int ((nI x) - 1)), (0, .ref h), (1, .int (m_lef σ)), (2, .ref q), (3, .int (nI x)), (4, .int (nI y)), (5, .int (w1 (od (8 * x + y)) - m_dam σ (od (8 * x + y)))), (6, .int (nI (lw_x x (lwR cre (od (8 * x + y)) 3)))), (7, .int (nI (lw_y y (lwR cre (od (8 * x + y)) 3)))), (8, .int (lw_v cre (lwR cre (od (8 * x + y)) 3))), (9, .int 0)]) hx hb dX2_pass_206 hl (by decide) rfl (fun ls hl => ?_)
                  refine side (lwR cre (od (8 * x + y)) 3) 0 (nI x - 1) (nI y) (fun b => by rw [od_at hx8 hy8]; exact sp_0 hx8 hy8) ?_ H locs ls hP hD hS (lv_sub hl [2, 3, 4, 5, 6, 7, 8, 9, 10, 11, 1, 0] rfl)
                  intro H locs ls hP hD hS hl
                  refine lv_iinc (v := (-1)) (lv' := [(9, .int (-1)), (0, .ref h), (1, .int (m_lef σ)), (2, .ref q), (3, .int (nI x)), (4, .int (nI y)), (5, .int (w1 (od (8 * x + y)) - m_dam σ (od (8 * x + y)))), (6, .int (nI (lw_x x (lwR cre (od (8 * x + y)) 4)))), (7, .int (nI (lw_y y (lwR cre (od (8 * x + y)) 4)))), (8, .int (lw_v cre (lwR cre (od (8 * x + y)) 4)))]) hx hb dX2_pass_266 hl (k := 9) rfl (by decide) (by decide) rfl (fun ls hl => ?_)
                  refine lv_goto (tgt := 147) hx hb dX2_pass_269 (by decide) ?_
                  exact n4 H locs ls hP hD hS (lv_sub hl [1, 2, 3, 4, 5, 6, 7, 8, 9, 0] rfl)
                have n2 : ∀ (H : Heap) (locs : List Loc) (ls : Array Slot), va_P D vwCl ((sW h a r aw bw cI cJ hei w1 (m_dam σ) (m_wea σ) dra (m_peo σ) rai (nI (m_t σ)) (m_bro σ) (m_drd σ) (m_lef σ)) ++ (gr q rr cI cJ f1)) H → va_D A ((sW h a r aw bw cI cJ hei w1 (m_dam σ) (m_wea σ) dra (m_peo σ) rai (nI (m_t σ)) (m_bro σ) (m_drd σ) (m_lef σ)) ++ (gr q rr cI cJ f1)) → va_S A s.heap H locs → lv_has ls 12 [(0, .ref h), (1, .int (m_lef σ)), (2, .ref q), (3, .int (nI x)), (4, .int (nI y)), (5, .int (w1 (od (8 * x + y)) - m_dam σ (od (8 * x + y)))), (6, .int (nI (lw_x x (lwR cre (od (8 * x + y)) 2)))), (7, .int (nI (lw_y y (lwR cre (od (8 * x + y)) 2)))), (8, .int (lw_v cre (lwR cre (od (8 * x + y)) 2))), (9, .int 1)] → W p l e rm_X2_pass s m args below meth c H locs 9 72 Q (F0 m 147 ls []) := by
                  intro H locs ls hP hD hS hl
                  refine lv_iload hx hb dX2_pass_147 (lv_at hl 9 rfl) ?_
                  refine lv_if_lt (tgt := 272) hx hb dX2_pass_149 (by decide) (fun hs => ?_) (fun hs => ?_)
                  · first | exact absurd hs (by decide) | exact absurd (by decide) hs
                  refine lv_iload hx hb dX2_pass_152 (lv_at hl 9 rfl) ?_
                  refine lv_if_ne (tgt := 163) hx hb dX2_pass_154 (by decide) (fun hs => ?_) (fun hs => ?_)
                  rotate_left
                  · first | exact absurd hs (by decide) | exact absurd (by decide) hs
                  refine lv_iload hx hb dX2_pass_163 (lv_at hl 9 rfl) ?_
                  refine lv_iconst (v := 1) hx hb dX2_pass_165 (by decide) ?_
                  refine lv_icmp_ne (tgt := 175) hx hb dX2_pass_166 (by decide) (fun hs => ?_) (fun hs => ?_)
                  · first | exact absurd hs (by decide) | exact absurd (by decide) hs
                  refine lv_iload_n hx hb dX2_pass_169 rfl (lv_at hl 3 rfl) ?_
                  refine lv_iconst (v := 1) hx hb dX2_pass_170 (by decide) ?_
                  refine lv_iadd hx hb dX2_pass_171 ?_
                  refine lv_goto (tgt := 176) hx hb dX2_pass_172 (by decide) ?_
                  refine lv_istore (lv' := [(10, .int ((nI x) + 1)), (0, .ref h), (1, .int (m_lef σ)), (2, .ref q), (3, .int (nI x)), (4, .int (nI y)), (5, .int (w1 (od (8 * x + y)) - m_dam σ (od (8 * x + y)))), (6, .int (nI (lw_x x (lwR cre (od (8 * x + y)) 2)))), (7, .int (nI (lw_y y (lwR cre (od (8 * x + y)) 2)))), (8, .int (lw_v cre (lwR cre (od (8 * x + y)) 2))), (9, .int 1)]) hx hb dX2_pass_176 hl (by decide) rfl (fun ls hl => ?_)
                  refine lv_iload hx hb dX2_pass_178 (lv_at hl 10 rfl) ?_
                  refine lv_iconst (v := 2) hx hb dX2_pass_180 (by decide) ?_
                  refine lv_icmp_ne (tgt := 191) hx hb dX2_pass_181 (by decide) (fun hs => ?_) (fun hs => ?_)
                  rotate_left
                  · first | exact absurd hs (by decide) | exact absurd (by decide) hs
                  refine lv_iload hx hb dX2_pass_191 (lv_at hl 10 rfl) ?_
                  refine lv_iconst (v := 3) hx hb dX2_pass_193 (by decide) ?_
                  refine lv_icmp_ne (tgt := 204) hx hb dX2_pass_194 (by decide) (fun hs => ?_) (fun hs => ?_)
                  rotate_left
                  · first | exact absurd hs (by decide) | exact absurd (by decide) hs
                  refine lv_iload hx hb dX2_pass_204 (lv_at hl 5 rfl) ?_
                  refine lv_istore (lv' := [(11, .int (nI y)), (10, .int ((nI x) + 1)), (0, .ref h), (1, .int (m_lef σ)), (2, .ref q), (3, .int (nI x)), (4, .int (nI y)), (5, .int (w1 (od (8 * x + y)) - m_dam σ (od (8 * x + y)))), (6, .int (nI (lw_x x (lwR cre (od (8 * x + y)) 2)))), (7, .int (nI (lw_y y (lwR cre (od (8 * x + y)) 2)))), (8, .int (lw_v cre (lwR cre (od (8 * x + y)) 2))), (9, .int 1)]) hx hb dX2_pass_206 hl (by decide) rfl (fun ls hl => ?_)
                  refine side (lwR cre (od (8 * x + y)) 2) 1 (nI x + 1) (nI y) (fun b => by rw [od_at hx8 hy8]; exact sp_1 hx8 hy8) ?_ H locs ls hP hD hS (lv_sub hl [2, 3, 4, 5, 6, 7, 8, 9, 10, 11, 1, 0] rfl)
                  intro H locs ls hP hD hS hl
                  refine lv_iinc (v := 0) (lv' := [(9, .int 0), (0, .ref h), (1, .int (m_lef σ)), (2, .ref q), (3, .int (nI x)), (4, .int (nI y)), (5, .int (w1 (od (8 * x + y)) - m_dam σ (od (8 * x + y)))), (6, .int (nI (lw_x x (lwR cre (od (8 * x + y)) 3)))), (7, .int (nI (lw_y y (lwR cre (od (8 * x + y)) 3)))), (8, .int (lw_v cre (lwR cre (od (8 * x + y)) 3)))]) hx hb dX2_pass_266 hl (k := 9) rfl (by decide) (by decide) rfl (fun ls hl => ?_)
                  refine lv_goto (tgt := 147) hx hb dX2_pass_269 (by decide) ?_
                  exact n3 H locs ls hP hD hS (lv_sub hl [1, 2, 3, 4, 5, 6, 7, 8, 9, 0] rfl)
                have n1 : ∀ (H : Heap) (locs : List Loc) (ls : Array Slot), va_P D vwCl ((sW h a r aw bw cI cJ hei w1 (m_dam σ) (m_wea σ) dra (m_peo σ) rai (nI (m_t σ)) (m_bro σ) (m_drd σ) (m_lef σ)) ++ (gr q rr cI cJ f1)) H → va_D A ((sW h a r aw bw cI cJ hei w1 (m_dam σ) (m_wea σ) dra (m_peo σ) rai (nI (m_t σ)) (m_bro σ) (m_drd σ) (m_lef σ)) ++ (gr q rr cI cJ f1)) → va_S A s.heap H locs → lv_has ls 12 [(0, .ref h), (1, .int (m_lef σ)), (2, .ref q), (3, .int (nI x)), (4, .int (nI y)), (5, .int (w1 (od (8 * x + y)) - m_dam σ (od (8 * x + y)))), (6, .int (nI (lw_x x (lwR cre (od (8 * x + y)) 1)))), (7, .int (nI (lw_y y (lwR cre (od (8 * x + y)) 1)))), (8, .int (lw_v cre (lwR cre (od (8 * x + y)) 1))), (9, .int 2)] → W p l e rm_X2_pass s m args below meth c H locs 9 72 Q (F0 m 147 ls []) := by
                  intro H locs ls hP hD hS hl
                  refine lv_iload hx hb dX2_pass_147 (lv_at hl 9 rfl) ?_
                  refine lv_if_lt (tgt := 272) hx hb dX2_pass_149 (by decide) (fun hs => ?_) (fun hs => ?_)
                  · first | exact absurd hs (by decide) | exact absurd (by decide) hs
                  refine lv_iload hx hb dX2_pass_152 (lv_at hl 9 rfl) ?_
                  refine lv_if_ne (tgt := 163) hx hb dX2_pass_154 (by decide) (fun hs => ?_) (fun hs => ?_)
                  rotate_left
                  · first | exact absurd hs (by decide) | exact absurd (by decide) hs
                  refine lv_iload hx hb dX2_pass_163 (lv_at hl 9 rfl) ?_
                  refine lv_iconst (v := 1) hx hb dX2_pass_165 (by decide) ?_
                  refine lv_icmp_ne (tgt := 175) hx hb dX2_pass_166 (by decide) (fun hs => ?_) (fun hs => ?_)
                  rotate_left
                  · first | exact absurd hs (by decide) | exact absurd (by decide) hs
                  refine lv_iload_n hx hb dX2_pass_175 rfl (lv_at hl 3 rfl) ?_
                  refine lv_istore (lv' := [(10, .int (nI x)), (0, .ref h), (1, .int (m_lef σ)), (2, .ref q), (3, .int (nI x)), (4, .int (nI y)), (5, .int (w1 (od (8 * x + y)) - m_dam σ (od (8 * x + y)))), (6, .int (nI (lw_x x (lwR cre (od (8 * x + y)) 1)))), (7, .int (nI (lw_y y (lwR cre (od (8 * x + y)) 1)))), (8, .int (lw_v cre (lwR cre (od (8 * x + y)) 1))), (9, .int 2)]) hx hb dX2_pass_176 hl (by decide) rfl (fun ls hl => ?_)
                  refine lv_iload hx hb dX2_pass_178 (lv_at hl 10 rfl) ?_
                  refine lv_iconst (v := 2) hx hb dX2_pass_180 (by decide) ?_
                  refine lv_icmp_ne (tgt := 191) hx hb dX2_pass_181 (by decide) (fun hs => ?_) (fun hs => ?_)
                  · first | exact absurd hs (by decide) | exact absurd (by decide) hs
                  refine lv_iload hx hb dX2_pass_184 (lv_at hl 5 rfl) ?_
                  refine lv_iconst (v := 1) hx hb dX2_pass_186 (by decide) ?_
                  refine lv_isub hx hb dX2_pass_187 ?_
                  refine lv_goto (tgt := 206) hx hb dX2_pass_188 (by decide) ?_
                  refine lv_istore (lv' := [(11, .int ((nI y) - 1)), (10, .int (nI x)), (0, .ref h), (1, .int (m_lef σ)), (2, .ref q), (3, .int (nI x)), (4, .int (nI y)), (5, .int (w1 (od (8 * x + y)) - m_dam σ (od (8 * x + y)))), (6, .int (nI (lw_x x (lwR cre (od (8 * x + y)) 1)))), (7, .int (nI (lw_y y (lwR cre (od (8 * x + y)) 1)))), (8, .int (lw_v cre (lwR cre (od (8 * x + y)) 1))), (9, .int 2)]) hx hb dX2_pass_206 hl (by decide) rfl (fun ls hl => ?_)
                  refine side (lwR cre (od (8 * x + y)) 1) 2 (nI x) (nI y - 1) (fun b => by rw [od_at hx8 hy8]; exact sp_2 hx8 hy8) ?_ H locs ls hP hD hS (lv_sub hl [2, 3, 4, 5, 6, 7, 8, 9, 10, 11, 1, 0] rfl)
                  intro H locs ls hP hD hS hl
                  refine lv_iinc (v := 1) (lv' := [(9, .int 1), (0, .ref h), (1, .int (m_lef σ)), (2, .ref q), (3, .int (nI x)), (4, .int (nI y)), (5, .int (w1 (od (8 * x + y)) - m_dam σ (od (8 * x + y)))), (6, .int (nI (lw_x x (lwR cre (od (8 * x + y)) 2)))), (7, .int (nI (lw_y y (lwR cre (od (8 * x + y)) 2)))), (8, .int (lw_v cre (lwR cre (od (8 * x + y)) 2)))]) hx hb dX2_pass_266 hl (k := 9) rfl (by decide) (by decide) rfl (fun ls hl => ?_)
                  refine lv_goto (tgt := 147) hx hb dX2_pass_269 (by decide) ?_
                  exact n2 H locs ls hP hD hS (lv_sub hl [1, 2, 3, 4, 5, 6, 7, 8, 9, 0] rfl)
                have n0 : ∀ (H : Heap) (locs : List Loc) (ls : Array Slot), va_P D vwCl ((sW h a r aw bw cI cJ hei w1 (m_dam σ) (m_wea σ) dra (m_peo σ) rai (nI (m_t σ)) (m_bro σ) (m_drd σ) (m_lef σ)) ++ (gr q rr cI cJ f1)) H → va_D A ((sW h a r aw bw cI cJ hei w1 (m_dam σ) (m_wea σ) dra (m_peo σ) rai (nI (m_t σ)) (m_bro σ) (m_drd σ) (m_lef σ)) ++ (gr q rr cI cJ f1)) → va_S A s.heap H locs → lv_has ls 12 [(0, .ref h), (1, .int (m_lef σ)), (2, .ref q), (3, .int (nI x)), (4, .int (nI y)), (5, .int (w1 (od (8 * x + y)) - m_dam σ (od (8 * x + y)))), (6, .int (nI (lw_x x (lwR cre (od (8 * x + y)) 0)))), (7, .int (nI (lw_y y (lwR cre (od (8 * x + y)) 0)))), (8, .int (lw_v cre (lwR cre (od (8 * x + y)) 0))), (9, .int 3)] → W p l e rm_X2_pass s m args below meth c H locs 9 72 Q (F0 m 147 ls []) := by
                  intro H locs ls hP hD hS hl
                  refine lv_iload hx hb dX2_pass_147 (lv_at hl 9 rfl) ?_
                  refine lv_if_lt (tgt := 272) hx hb dX2_pass_149 (by decide) (fun hs => ?_) (fun hs => ?_)
                  · first | exact absurd hs (by decide) | exact absurd (by decide) hs
                  refine lv_iload hx hb dX2_pass_152 (lv_at hl 9 rfl) ?_
                  refine lv_if_ne (tgt := 163) hx hb dX2_pass_154 (by decide) (fun hs => ?_) (fun hs => ?_)
                  rotate_left
                  · first | exact absurd hs (by decide) | exact absurd (by decide) hs
                  refine lv_iload hx hb dX2_pass_163 (lv_at hl 9 rfl) ?_
                  refine lv_iconst (v := 1) hx hb dX2_pass_165 (by decide) ?_
                  refine lv_icmp_ne (tgt := 175) hx hb dX2_pass_166 (by decide) (fun hs => ?_) (fun hs => ?_)
                  rotate_left
                  · first | exact absurd hs (by decide) | exact absurd (by decide) hs
                  refine lv_iload_n hx hb dX2_pass_175 rfl (lv_at hl 3 rfl) ?_
                  refine lv_istore (lv' := [(10, .int (nI x)), (0, .ref h), (1, .int (m_lef σ)), (2, .ref q), (3, .int (nI x)), (4, .int (nI y)), (5, .int (w1 (od (8 * x + y)) - m_dam σ (od (8 * x + y)))), (6, .int (nI (lw_x x (lwR cre (od (8 * x + y)) 0)))), (7, .int (nI (lw_y y (lwR cre (od (8 * x + y)) 0)))), (8, .int (lw_v cre (lwR cre (od (8 * x + y)) 0))), (9, .int 3)]) hx hb dX2_pass_176 hl (by decide) rfl (fun ls hl => ?_)
                  refine lv_iload hx hb dX2_pass_178 (lv_at hl 10 rfl) ?_
                  refine lv_iconst (v := 2) hx hb dX2_pass_180 (by decide) ?_
                  refine lv_icmp_ne (tgt := 191) hx hb dX2_pass_181 (by decide) (fun hs => ?_) (fun hs => ?_)
                  rotate_left
                  · first | exact absurd hs (by decide) | exact absurd (by decide) hs
                  refine lv_iload hx hb dX2_pass_191 (lv_at hl 10 rfl) ?_
                  refine lv_iconst (v := 3) hx hb dX2_pass_193 (by decide) ?_
                  refine lv_icmp_ne (tgt := 204) hx hb dX2_pass_194 (by decide) (fun hs => ?_) (fun hs => ?_)
                  · first | exact absurd hs (by decide) | exact absurd (by decide) hs
                  refine lv_iload hx hb dX2_pass_197 (lv_at hl 5 rfl) ?_
                  refine lv_iconst (v := 1) hx hb dX2_pass_199 (by decide) ?_
                  refine lv_iadd hx hb dX2_pass_200 ?_
                  refine lv_goto (tgt := 206) hx hb dX2_pass_201 (by decide) ?_
                  refine lv_istore (lv' := [(11, .int ((nI y) + 1)), (10, .int (nI x)), (0, .ref h), (1, .int (m_lef σ)), (2, .ref q), (3, .int (nI x)), (4, .int (nI y)), (5, .int (w1 (od (8 * x + y)) - m_dam σ (od (8 * x + y)))), (6, .int (nI (lw_x x (lwR cre (od (8 * x + y)) 0)))), (7, .int (nI (lw_y y (lwR cre (od (8 * x + y)) 0)))), (8, .int (lw_v cre (lwR cre (od (8 * x + y)) 0))), (9, .int 3)]) hx hb dX2_pass_206 hl (by decide) rfl (fun ls hl => ?_)
                  refine side (lwR cre (od (8 * x + y)) 0) 3 (nI x) (nI y + 1) (fun b => by rw [od_at hx8 hy8]; exact sp_3 hx8 hy8) ?_ H locs ls hP hD hS (lv_sub hl [2, 3, 4, 5, 6, 7, 8, 9, 10, 11, 1, 0] rfl)
                  intro H locs ls hP hD hS hl
                  refine lv_iinc (v := 2) (lv' := [(9, .int 2), (0, .ref h), (1, .int (m_lef σ)), (2, .ref q), (3, .int (nI x)), (4, .int (nI y)), (5, .int (w1 (od (8 * x + y)) - m_dam σ (od (8 * x + y)))), (6, .int (nI (lw_x x (lwR cre (od (8 * x + y)) 1)))), (7, .int (nI (lw_y y (lwR cre (od (8 * x + y)) 1)))), (8, .int (lw_v cre (lwR cre (od (8 * x + y)) 1)))]) hx hb dX2_pass_266 hl (k := 9) rfl (by decide) (by decide) rfl (fun ls hl => ?_)
                  refine lv_goto (tgt := 147) hx hb dX2_pass_269 (by decide) ?_
                  exact n1 H locs ls hP hD hS (lv_sub hl [1, 2, 3, 4, 5, 6, 7, 8, 9, 0] rfl)
                refine lv_iload_n hx hb dX2_pass_133 rfl (lv_at hl 4 rfl) ?_
                refine lv_istore (lv' := [(6, .int (nI x)), (5, .int ((w1 (od (8 * x + y))) - ((m_dam σ) (od (8 * x + y))))), (0, .ref h), (1, .int (m_lef σ)), (2, .ref q), (3, .int (nI x)), (4, .int (nI y))]) hx hb dX2_pass_134 hl (by decide) rfl (fun ls hl => ?_)
                refine lv_iload hx hb dX2_pass_136 (lv_at hl 6 rfl) ?_
                refine lv_istore (lv' := [(7, .int (nI y)), (6, .int (nI x)), (5, .int ((w1 (od (8 * x + y))) - ((m_dam σ) (od (8 * x + y))))), (0, .ref h), (1, .int (m_lef σ)), (2, .ref q), (3, .int (nI x)), (4, .int (nI y))]) hx hb dX2_pass_138 hl (by decide) rfl (fun ls hl => ?_)
                refine lv_ldc (v := 100000) hx hb hown (hts (Cond.constant RX2 50 (100000)) (List.mem_of_getElem? (i := 8) rfl)) dX2_pass_140 ?_
                refine lv_istore (lv' := [(8, .int 100000), (7, .int (nI y)), (6, .int (nI x)), (5, .int ((w1 (od (8 * x + y))) - ((m_dam σ) (od (8 * x + y))))), (0, .ref h), (1, .int (m_lef σ)), (2, .ref q), (3, .int (nI x)), (4, .int (nI y))]) hx hb dX2_pass_142 hl (by decide) rfl (fun ls hl => ?_)
                refine lv_iconst (v := 3) hx hb dX2_pass_144 (by decide) ?_
                refine lv_istore (lv' := [(9, .int 3), (8, .int 100000), (7, .int (nI y)), (6, .int (nI x)), (5, .int ((w1 (od (8 * x + y))) - ((m_dam σ) (od (8 * x + y))))), (0, .ref h), (1, .int (m_lef σ)), (2, .ref q), (3, .int (nI x)), (4, .int (nI y))]) hx hb dX2_pass_145 hl (by decide) rfl (fun ls hl => ?_)
                exact n0 H locs ls hP hD hS (lv_sub hl [5, 6, 7, 8, 9, 4, 3, 2, 1, 0] rfl)
              · skip
                refine lv_goto (tgt := 349) hx hb dX2_pass_130 (by decide) ?_
                refine lv_iinc (v := (nI (y + 1))) (lv' := [(4, .int (nI (y + 1))), (5, .int ((w1 (od (8 * x + y))) - ((m_dam σ) (od (8 * x + y))))), (0, .ref h), (1, .int (m_lef σ)), (2, .ref q), (3, .int (nI x))]) hx hb dX2_pass_349 hl (k := 5) rfl (nI_1 y) (by decide) rfl (fun ls hl => ?_)
                refine lv_goto (tgt := 79) hx hb dX2_pass_352 (by decide) ?_
                exact ihy (y + 1) (by omega) f1 H locs ls (by rw [hf1, hg]; exact th_no hi64 (fun z => ho ((hB_over hb9 hk64).mpr z))) hP hD hS (lv_sub hl [2, 3, 4, 5, 0] rfl)
        exact ly 8 0 (by omega) f H locs ls hg hP hD hS (lv_sub hl [1, 2, 3, 4, 0] rfl)
  exact lx 8 0 (by omega) (fun _ => 0) H locs ls (th_0 _ _ _ _).symm hP hD hS (lv_sub hl [1, 2, 3, 0] rfl)
