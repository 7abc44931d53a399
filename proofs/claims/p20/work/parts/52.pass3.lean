set_option maxHeartbeats 4000000 in
set_option maxRecDepth 100000 in
theorem sp_rest {p : Program} {l : Launch} {e : Env} {s : State} {m : MethodId} {args : Array Value} {below : List Frame} {meth : Method} {c : Code} {A : Nat → Prop} {Q : State → Prop} {D : va_G} {cI cJ cZ cB : ClassId} {κ : Kx} {h : Nat} {a : Nat → Nat} {r : Nat → Nat → Nat} {aw : Nat} {bw : Nat → Nat} {q : Nat} {rr : Nat → Nat} {hei dra rai : Nat → Int32} {σ : Ms} {w2 : Nat → Int32} (C0 : cg_S p s m args c A D yX2_pass wsX2_pass cX2_pass 12 [(cI, .int), (cJ, .array .int), (cZ, .boolean), (cB, .array .boolean)] κ) (hwe : ∀ c, c < 64 → 0 ≤ (m_wea σ c).toInt ∧ (m_wea σ c).toInt ≤ 9) (hpe : ∀ c, c < 64 → 0 ≤ (m_peo σ c).toInt ∧ (m_peo σ c).toInt ≤ 90) (kk : ∀ (v : Int32) (H : Heap) (locs : List Loc) (ls : Array Slot), va_P D vwCl (sW h a r q rr cI cJ hei (q_w3 dra w2) (q_dam (m_dam σ) w2 (m_wea σ)) (q_wea (m_dam σ) w2 (m_wea σ)) dra (q_peo (q_w3 dra w2) (m_peo σ)) rai (nI (m_t σ + 1)) (m_bro σ + q_sum (q_brk (m_dam σ) w2 (m_wea σ)) 64) (m_drd σ + q_sum (q_tak dra w2) 64) (m_lef σ + q_sum (q_lv (q_w3 dra w2) (m_peo σ)) 64)) H → va_D A (sW h a r q rr cI cJ hei (q_w3 dra w2) (q_dam (m_dam σ) w2 (m_wea σ)) (q_wea (m_dam σ) w2 (m_wea σ)) dra (q_peo (q_w3 dra w2) (m_peo σ)) rai (nI (m_t σ + 1)) (m_bro σ + q_sum (q_brk (m_dam σ) w2 (m_wea σ)) 64) (m_drd σ + q_sum (q_tak dra w2) 64) (m_lef σ + q_sum (q_lv (q_w3 dra w2) (m_peo σ)) 64)) → va_S A s.heap H locs → lv_has ls 12 [] → W p l e rm_X2_pass s m args below meth c H locs 9 72 Q (F0 m 639 ls [.int v])) {H : Heap} {locs : List Loc} {ls : Array Slot} (hP : va_P D vwCl (sW h a r q rr cI cJ hei w2 (m_dam σ) (m_wea σ) dra (m_peo σ) rai (nI (m_t σ)) (m_bro σ) (m_drd σ) (m_lef σ)) H) (hD : va_D A (sW h a r q rr cI cJ hei w2 (m_dam σ) (m_wea σ) dra (m_peo σ) rai (nI (m_t σ)) (m_bro σ) (m_drd σ) (m_lef σ))) (hS : va_S A s.heap H locs) (hl : lv_has ls 12 [(0, .ref h), (1, .int (m_lef σ)), (2, .ref q)]) : W p l e rm_X2_pass s m args below meth c H locs 9 72 Q (F0 m 366 ls []) := by
  obtain ⟨hx, hb, hml, hown, hts, hA, hK, hX⟩ := C0
  have hown : s.vm.findClass RX2 = some m.cls := hown
  refine lv_iconst (v := 0) hx hb dX2_pass_366 (by decide) ?_
  refine lv_istore_n (lv' := [(3, .int 0), (0, .ref h), (1, .int (m_lef σ)), (2, .ref q)]) hx hb dX2_pass_367 rfl hl (by decide) rfl (fun ls hl => ?_)
  have lx : ∀ (fux x : Nat), x + fux = 8 → ∀ (gd : Nat → Int32) (ga : Nat → Int32) (gq : Nat → Int32) (gp : Nat → Int32) (br : Int32) (dr : Int32) (le : Int32) (H : Heap) (locs : List Loc) (ls : Array Slot), (gd = q_mx (8 * x) (q_dam (m_dam σ) w2 (m_wea σ)) (m_dam σ)) → (ga = q_mx (8 * x) (q_wea (m_dam σ) w2 (m_wea σ)) (m_wea σ)) → (gq = q_mx (8 * x) (q_w3 dra w2) w2) → (gp = q_mx (8 * x) (q_peo (q_w3 dra w2) (m_peo σ)) (m_peo σ)) → (br = m_bro σ + q_sum (fun j => (q_brk (m_dam σ) w2 (m_wea σ)) (od j)) (8 * x)) → (dr = m_drd σ + q_sum (fun j => (q_tak dra w2) (od j)) (8 * x)) → (le = m_lef σ + q_sum (fun j => (q_lv (q_w3 dra w2) (m_peo σ)) (od j)) (8 * x)) → va_P D vwCl (sW h a r q rr cI cJ hei gq gd ga dra gp rai (nI (m_t σ)) br dr le) H → va_D A (sW h a r q rr cI cJ hei gq gd ga dra gp rai (nI (m_t σ)) br dr le) → va_S A s.heap H locs → lv_has ls 12 [(0, .ref h), (1, .int (m_lef σ)), (2, .ref q), (3, .int (nI x))] → W p l e rm_X2_pass s m args below meth c H locs 9 72 Q (F0 m 368 ls []) := by
    intro fux
    induction fux with
    | zero =>
      intro x hix gd ga gq gp br dr le H locs ls hgd hga hgq hgp hbr hdr hle hP hD hS hl
      obtain rfl : 8 = x := by omega
      refine lv_iload_n hx hb dX2_pass_368 rfl (lv_at hl 3 rfl) ?_
      refine lv_bipush (v := 8) hx hb dX2_pass_369 (by decide) ?_
      refine lv_icmp_ge (tgt := 623) hx hb dX2_pass_371 (by decide) (fun hc => ?_) (fun hc => ?_)
      · skip
        obtain ⟨hP, hD⟩ := gr_ext hP hD (q := 11) (f := gq) (g := (q_w3 dra w2)) (ws1 := (sW h a r q rr cI cJ hei (q_w3 dra w2) gd ga dra gp rai (nI (m_t σ)) br dr le)) rfl rfl (fun c hc => by rw [hgq]; exact mx_64 hc)
        obtain ⟨hP, hD⟩ := gr_ext hP hD (q := 20) (f := gd) (g := (q_dam (m_dam σ) w2 (m_wea σ))) (ws1 := (sW h a r q rr cI cJ hei (q_w3 dra w2) (q_dam (m_dam σ) w2 (m_wea σ)) ga dra gp rai (nI (m_t σ)) br dr le)) rfl rfl (fun c hc => by rw [hgd]; exact mx_64 hc)
        obtain ⟨hP, hD⟩ := gr_ext hP hD (q := 29) (f := ga) (g := (q_wea (m_dam σ) w2 (m_wea σ))) (ws1 := (sW h a r q rr cI cJ hei (q_w3 dra w2) (q_dam (m_dam σ) w2 (m_wea σ)) (q_wea (m_dam σ) w2 (m_wea σ)) dra gp rai (nI (m_t σ)) br dr le)) rfl rfl (fun c hc => by rw [hga]; exact mx_64 hc)
        obtain ⟨hP, hD⟩ := gr_ext hP hD (q := 47) (f := gp) (g := (q_peo (q_w3 dra w2) (m_peo σ))) (ws1 := (sW h a r q rr cI cJ hei (q_w3 dra w2) (q_dam (m_dam σ) w2 (m_wea σ)) (q_wea (m_dam σ) w2 (m_wea σ)) dra (q_peo (q_w3 dra w2) (m_peo σ)) rai (nI (m_t σ)) br dr le)) rfl rfl (fun c hc => by rw [hgp]; exact mx_64 hc)
        have hbr : br = m_bro σ + q_sum (q_brk (m_dam σ) w2 (m_wea σ)) 64 := by rw [hbr]; exact congrArg _ (so_64 (q_brk (m_dam σ) w2 (m_wea σ)))
        have hdr : dr = m_drd σ + q_sum (q_tak dra w2) 64 := by rw [hdr]; exact congrArg _ (so_64 (q_tak dra w2))
        have hle : le = m_lef σ + q_sum (q_lv (q_w3 dra w2) (m_peo σ)) 64 := by rw [hle]; exact congrArg _ (so_64 (q_lv (q_w3 dra w2) (m_peo σ)))
        subst hbr
        subst hdr
        subst hle
        refine lv_aload_n hx hb dX2_pass_623 rfl (lv_at hl 0 rfl) ?_
        refine lv_dup hx hb dX2_pass_624 rfl ?_
        refine va_get (D := D) (ci := 2) (v := .int (nI (m_t σ))) (C := RX2) (T := TX2) (N := 11) hx hb hts (fun _ h9 => (List.mem_cons_of_mem _ (List.mem_append_right _ h9))) hown hK hP 0 rfl rfl 7 (by decide) (hts (Cond.fieldLink RX2 37 "FloodGridLaw$Sim" "hour" "I") (List.mem_of_getElem? (i := 6) rfl)) (fun _ h9 => h9) rfl dX2_pass_625 ?_
        refine lv_iconst (v := 1) hx hb dX2_pass_628 (by decide) ?_
        refine lv_iadd hx hb dX2_pass_629 ?_
        refine ct_top (y := (nI (m_t σ + 1))) (nI_1 _) ?_
        refine va_put (D := D) (ci := 2) (v := .int (nI (m_t σ + 1))) (ty := .int) (C := RX2) (T := TX2) (N := 11) hx hb hts (fun _ h9 => (List.mem_cons_of_mem _ (List.mem_append_right _ h9))) tyX2 tyX2_ok nmX2 hown hK hP hD hS 0 rfl rfl 7 (by decide) (hts (Cond.fieldLink RX2 37 "FloodGridLaw$Sim" "hour" "I") (List.mem_of_getElem? (i := 6) rfl)) (fun _ h9 => h9) rfl (by decide +kernel) rfl rfl (Nat.le_of_ble_eq_true rfl) dX2_pass_630 (fun H locs hP hD hS => ?_)
        have hP : va_P D vwCl (sW h a r q rr cI cJ hei (q_w3 dra w2) (q_dam (m_dam σ) w2 (m_wea σ)) (q_wea (m_dam σ) w2 (m_wea σ)) dra (q_peo (q_w3 dra w2) (m_peo σ)) rai (nI (m_t σ + 1)) (m_bro σ + q_sum (q_brk (m_dam σ) w2 (m_wea σ)) 64) (m_drd σ + q_sum (q_tak dra w2) 64) (m_lef σ + q_sum (q_lv (q_w3 dra w2) (m_peo σ)) 64)) H := hP
        have hD : va_D A (sW h a r q rr cI cJ hei (q_w3 dra w2) (q_dam (m_dam σ) w2 (m_wea σ)) (q_wea (m_dam σ) w2 (m_wea σ)) dra (q_peo (q_w3 dra w2) (m_peo σ)) rai (nI (m_t σ + 1)) (m_bro σ + q_sum (q_brk (m_dam σ) w2 (m_wea σ)) 64) (m_drd σ + q_sum (q_tak dra w2) 64) (m_lef σ + q_sum (q_lv (q_w3 dra w2) (m_peo σ)) 64)) := hD
        refine lv_aload_n hx hb dX2_pass_633 rfl (lv_at hl 0 rfl) ?_
        refine va_get (D := D) (ci := 2) (v := .int (m_lef σ + q_sum (q_lv (q_w3 dra w2) (m_peo σ)) 64)) (C := RX2) (T := TX2) (N := 11) hx hb hts (fun _ h9 => (List.mem_cons_of_mem _ (List.mem_append_right _ h9))) hown hK hP 0 rfl rfl 10 (by decide) (hts (Cond.fieldLink RX2 47 "FloodGridLaw$Sim" "left" "I") (List.mem_of_getElem? (i := 1) rfl)) (fun _ h9 => h9) rfl dX2_pass_634 ?_
        refine lv_iload_n hx hb dX2_pass_637 rfl (lv_at hl 1 rfl) ?_
        refine lv_isub hx hb dX2_pass_638 ?_
        exact kk _ H locs ls hP hD hS (lv_sub hl [] rfl)
      · skip
        exact absurd (Int32.le_refl _) hc
    | succ fux ihx =>
      intro x hix gd ga gq gp br dr le H locs ls hgd hga hgq hgp hbr hdr hle hP hD hS hl
      have hx8 : x < 8 := by omega
      refine lv_iload_n hx hb dX2_pass_368 rfl (lv_at hl 3 rfl) ?_
      refine lv_bipush (v := 8) hx hb dX2_pass_369 (by decide) ?_
      refine lv_icmp_ge (tgt := 623) hx hb dX2_pass_371 (by decide) (fun hc => ?_) (fun hc => ?_)
      · skip
        exact absurd hc (nI_ge (b := 8) hx8 (by decide))
      · skip
        refine lv_iconst (v := 0) hx hb dX2_pass_374 (by decide) ?_
        refine lv_istore (lv' := [(4, .int 0), (0, .ref h), (1, .int (m_lef σ)), (2, .ref q), (3, .int (nI x))]) hx hb dX2_pass_375 hl (by decide) rfl (fun ls hl => ?_)
        have ly : ∀ (fuy y : Nat), y + fuy = 8 → ∀ (gd : Nat → Int32) (ga : Nat → Int32) (gq : Nat → Int32) (gp : Nat → Int32) (br : Int32) (dr : Int32) (le : Int32) (H : Heap) (locs : List Loc) (ls : Array Slot), (gd = q_mx (8 * x + y) (q_dam (m_dam σ) w2 (m_wea σ)) (m_dam σ)) → (ga = q_mx (8 * x + y) (q_wea (m_dam σ) w2 (m_wea σ)) (m_wea σ)) → (gq = q_mx (8 * x + y) (q_w3 dra w2) w2) → (gp = q_mx (8 * x + y) (q_peo (q_w3 dra w2) (m_peo σ)) (m_peo σ)) → (br = m_bro σ + q_sum (fun j => (q_brk (m_dam σ) w2 (m_wea σ)) (od j)) (8 * x + y)) → (dr = m_drd σ + q_sum (fun j => (q_tak dra w2) (od j)) (8 * x + y)) → (le = m_lef σ + q_sum (fun j => (q_lv (q_w3 dra w2) (m_peo σ)) (od j)) (8 * x + y)) → va_P D vwCl (sW h a r q rr cI cJ hei gq gd ga dra gp rai (nI (m_t σ)) br dr le) H → va_D A (sW h a r q rr cI cJ hei gq gd ga dra gp rai (nI (m_t σ)) br dr le) → va_S A s.heap H locs → lv_has ls 12 [(0, .ref h), (1, .int (m_lef σ)), (2, .ref q), (3, .int (nI x)), (4, .int (nI y))] → W p l e rm_X2_pass s m args below meth c H locs 9 72 Q (F0 m 377 ls []) := by
          intro fuy
          induction fuy with
          | zero =>
            intro y hiy gd ga gq gp br dr le H locs ls hgd hga hgq hgp hbr hdr hle hP hD hS hl
            obtain rfl : 8 = y := by omega
            refine lv_iload hx hb dX2_pass_377 (lv_at hl 4 rfl) ?_
            refine lv_bipush (v := 8) hx hb dX2_pass_379 (by decide) ?_
            refine lv_icmp_ge (tgt := 617) hx hb dX2_pass_381 (by decide) (fun hc2 => ?_) (fun hc2 => ?_)
            · skip
              refine lv_iinc (v := (nI (x + 1))) (lv' := [(3, .int (nI (x + 1))), (0, .ref h), (1, .int (m_lef σ)), (2, .ref q), (4, .int (nI 8))]) hx hb dX2_pass_617 hl (k := 3) rfl (nI_1 x) (by decide) rfl (fun ls hl => ?_)
              refine lv_goto (tgt := 368) hx hb dX2_pass_620 (by decide) ?_
              exact ihx (x + 1) (by omega) gd ga gq gp br dr le H locs ls hgd hga hgq hgp hbr hdr hle hP hD hS (lv_sub hl [1, 2, 3, 0] rfl)
            · skip
              exact absurd (show (8 : Int32) ≤ nI 8 by decide) hc2
          | succ fuy ihy =>
            intro y hiy gd ga gq gp br dr le H locs ls hgd hga hgq hgp hbr hdr hle hP hD hS hl
            have hy8 : y < 8 := by omega
            refine lv_iload hx hb dX2_pass_377 (lv_at hl 4 rfl) ?_
            refine lv_bipush (v := 8) hx hb dX2_pass_379 (by decide) ?_
            refine lv_icmp_ge (tgt := 617) hx hb dX2_pass_381 (by decide) (fun hc2 => ?_) (fun hc2 => ?_)
            · skip
              exact absurd hc2 (nI_ge (b := 8) hy8 (by decide))
            · skip
              have hi64 : 8 * x + y < 64 := by omega
              have hk64 : od (8 * x + y) < 64 := od_lt hi64
              have rd1 : gd (od (8 * x + y)) = m_dam σ (od (8 * x + y)) := by rw [hgd]; exact mx_at _ _ hi64
              have rd2 : ga (od (8 * x + y)) = m_wea σ (od (8 * x + y)) := by rw [hga]; exact mx_at _ _ hi64
              have rd3 : gq (od (8 * x + y)) = w2 (od (8 * x + y)) := by rw [hgq]; exact mx_at _ _ hi64
              have rd4 : gp (od (8 * x + y)) = m_peo σ (od (8 * x + y)) := by rw [hgp]; exact mx_at _ _ hi64
              have rd5 := hwe (od (8 * x + y)) hk64
              have k611 : ∀ (d1 : Nat → Int32) (a1 : Nat → Int32) (q1 : Nat → Int32) (p1 : Nat → Int32) (b1 : Int32) (r1 : Int32) (l1 : Int32) (H : Heap) (locs : List Loc) (ls : Array Slot), (d1 = q_mx (8 * x + y + 1) (q_dam (m_dam σ) w2 (m_wea σ)) (m_dam σ)) → (a1 = q_mx (8 * x + y + 1) (q_wea (m_dam σ) w2 (m_wea σ)) (m_wea σ)) → (q1 = q_mx (8 * x + y + 1) (q_w3 dra w2) w2) → (p1 = q_mx (8 * x + y + 1) (q_peo (q_w3 dra w2) (m_peo σ)) (m_peo σ)) → (b1 = m_bro σ + q_sum (fun j => (q_brk (m_dam σ) w2 (m_wea σ)) (od j)) (8 * x + y + 1)) → (r1 = m_drd σ + q_sum (fun j => (q_tak dra w2) (od j)) (8 * x + y + 1)) → (l1 = m_lef σ + q_sum (fun j => (q_lv (q_w3 dra w2) (m_peo σ)) (od j)) (8 * x + y + 1)) → va_P D vwCl (sW h a r q rr cI cJ hei q1 d1 a1 dra p1 rai (nI (m_t σ)) b1 r1 l1) H → va_D A (sW h a r q rr cI cJ hei q1 d1 a1 dra p1 rai (nI (m_t σ)) b1 r1 l1) → va_S A s.heap H locs → lv_has ls 12 [(0, .ref h), (1, .int (m_lef σ)), (2, .ref q), (3, .int (nI x)), (4, .int (nI y))] → W p l e rm_X2_pass s m args below meth c H locs 9 72 Q (F0 m 611 ls []) := by
                intro d1 a1 q1 p1 b1 r1 l1 H locs ls z1 z2 z3 z4 z5 z6 z7 hP hD hS hl
                refine lv_iinc (v := (nI (y + 1))) (lv' := [(4, .int (nI (y + 1))), (0, .ref h), (1, .int (m_lef σ)), (2, .ref q), (3, .int (nI x))]) hx hb dX2_pass_611 hl (k := 4) rfl (nI_1 y) (by decide) rfl (fun ls hl => ?_)
                refine lv_goto (tgt := 377) hx hb dX2_pass_614 (by decide) ?_
                exact ihy (y + 1) (by omega) d1 a1 q1 p1 b1 r1 l1 H locs ls z1 z2 z3 z4 z5 z6 z7 hP hD hS (lv_sub hl [1, 2, 3, 4, 0] rfl)
              have k474 : ∀ (d1 : Nat → Int32) (a1 : Nat → Int32) (b1 : Int32) (H : Heap) (locs : List Loc) (ls : Array Slot), (d1 = q_mx (8 * x + y + 1) (q_dam (m_dam σ) w2 (m_wea σ)) (m_dam σ)) → (a1 = q_mx (8 * x + y + 1) (q_wea (m_dam σ) w2 (m_wea σ)) (m_wea σ)) → (b1 = m_bro σ + q_sum (fun j => (q_brk (m_dam σ) w2 (m_wea σ)) (od j)) (8 * x + y + 1)) → va_P D vwCl (sW h a r q rr cI cJ hei gq d1 a1 dra gp rai (nI (m_t σ)) b1 dr le) H → va_D A (sW h a r q rr cI cJ hei gq d1 a1 dra gp rai (nI (m_t σ)) b1 dr le) → va_S A s.heap H locs → lv_has ls 12 [(0, .ref h), (1, .int (m_lef σ)), (2, .ref q), (3, .int (nI x)), (4, .int (nI y))] → W p l e rm_X2_pass s m args below meth c H locs 9 72 Q (F0 m 474 ls []) := by
                intro d1 a1 b1 H locs ls z1 z2 z5 hP hD hS hl
                have k516 : ∀ (v : Int32) (H : Heap) (locs : List Loc) (ls : Array Slot), (v = q_tak dra w2 (od (8 * x + y))) → va_P D vwCl (sW h a r q rr cI cJ hei gq d1 a1 dra gp rai (nI (m_t σ)) b1 dr le) H → va_D A (sW h a r q rr cI cJ hei gq d1 a1 dra gp rai (nI (m_t σ)) b1 dr le) → va_S A s.heap H locs → lv_has ls 12 [(0, .ref h), (1, .int (m_lef σ)), (2, .ref q), (3, .int (nI x)), (4, .int (nI y))] → W p l e rm_X2_pass s m args below meth c H locs 9 72 Q (F0 m 516 ls [.int v]) := by
                  intro v H locs ls hv hP hD hS hl
                  subst hv
                  refine lv_istore (lv' := [(5, .int (q_tak dra w2 (od (8 * x + y)))), (0, .ref h), (1, .int (m_lef σ)), (2, .ref q), (3, .int (nI x)), (4, .int (nI y))]) hx hb dX2_pass_516 hl (by decide) rfl (fun ls hl => ?_)
                  refine lv_aload_n hx hb dX2_pass_518 rfl (lv_at hl 1 rfl) ?_
                  refine va_get (D := D) (ci := 2) (v := .ref q) (C := RX2) (T := TX2) (N := 11) hx hb hts (fun _ h9 => (List.mem_cons_of_mem _ (List.mem_append_right _ h9))) hown hK hP 0 rfl rfl 1 (by decide) (hts (Cond.fieldLink RX2 14 "FloodGridLaw$Sim" "water" "[[I") (List.mem_of_getElem? (i := 4) rfl)) (fun _ h9 => h9) rfl dX2_pass_519 ?_
                  refine lv_iload_n hx hb dX2_pass_522 rfl (lv_at hl 4 rfl) ?_
                  refine gr_aald hx hb hK hP 10 1 rfl rfl x rfl (by omega) (by decide) dX2_pass_523 ?_
                  refine lv_iload hx hb dX2_pass_524 (lv_at hl 5 rfl) ?_
                  refine lv_dup2_11 hx hb dX2_pass_526 rfl rfl ?_
                  refine gr_iald (v := (w2 (od (8 * x + y)))) hx hb hK hP 11 0 rfl rfl x y (od (8 * x + y)) (by omega) (by omega) (od_at hx8 hy8).symm rfl rd3 dX2_pass_527 ?_
                  refine lv_iload hx hb dX2_pass_528 (lv_at hl 0 rfl) ?_
                  refine lv_isub hx hb dX2_pass_530 ?_
                  refine gr_iast (g := (upd gq (od (8 * x + y)) (w2 (od (8 * x + y)) - q_tak dra w2 (od (8 * x + y))))) (ws1 := (sW h a r q rr cI cJ hei (upd gq (od (8 * x + y)) (w2 (od (8 * x + y)) - q_tak dra w2 (od (8 * x + y)))) d1 a1 dra gp rai (nI (m_t σ)) b1 dr le)) hx hb hK hP hD hS 11 0 rfl rfl x y (od (8 * x + y)) (by omega) (by omega) (od_at hx8 hy8).symm rfl rfl rfl dX2_pass_531 (fun H locs hP hD hS => ?_)
                  refine lv_aload_n hx hb dX2_pass_532 rfl (lv_at hl 1 rfl) ?_
                  refine lv_dup hx hb dX2_pass_533 rfl ?_
                  refine va_get (D := D) (ci := 2) (v := .int dr) (C := RX2) (T := TX2) (N := 11) hx hb hts (fun _ h9 => (List.mem_cons_of_mem _ (List.mem_append_right _ h9))) hown hK hP 0 rfl rfl 9 (by decide) (hts (Cond.fieldLink RX2 44 "FloodGridLaw$Sim" "drained" "I") (List.mem_of_getElem? (i := 13) rfl)) (fun _ h9 => h9) rfl dX2_pass_534 ?_
                  refine lv_iload hx hb dX2_pass_537 (lv_at hl 0 rfl) ?_
                  refine lv_iadd hx hb dX2_pass_539 ?_
                  refine va_put (D := D) (ci := 2) (v := .int (dr + (q_tak dra w2 (od (8 * x + y))))) (ty := .int) (C := RX2) (T := TX2) (N := 11) hx hb hts (fun _ h9 => (List.mem_cons_of_mem _ (List.mem_append_right _ h9))) tyX2 tyX2_ok nmX2 hown hK hP hD hS 0 rfl rfl 9 (by decide) (hts (Cond.fieldLink RX2 44 "FloodGridLaw$Sim" "drained" "I") (List.mem_of_getElem? (i := 13) rfl)) (fun _ h9 => h9) rfl (by decide +kernel) rfl rfl (Nat.le_of_ble_eq_true rfl) dX2_pass_540 (fun H locs hP hD hS => ?_)
                  have hP : va_P D vwCl (sW h a r q rr cI cJ hei (upd gq (od (8 * x + y)) (w2 (od (8 * x + y)) - q_tak dra w2 (od (8 * x + y)))) d1 a1 dra gp rai (nI (m_t σ)) b1 (dr + (q_tak dra w2 (od (8 * x + y)))) le) H := hP
                  have hD : va_D A (sW h a r q rr cI cJ hei (upd gq (od (8 * x + y)) (w2 (od (8 * x + y)) - q_tak dra w2 (od (8 * x + y)))) d1 a1 dra gp rai (nI (m_t σ)) b1 (dr + (q_tak dra w2 (od (8 * x + y)))) le) := hD
                  refine lv_aload_n hx hb dX2_pass_543 rfl (lv_at hl 1 rfl) ?_
                  refine va_get (D := D) (ci := 2) (v := .ref q) (C := RX2) (T := TX2) (N := 11) hx hb hts (fun _ h9 => (List.mem_cons_of_mem _ (List.mem_append_right _ h9))) hown hK hP 0 rfl rfl 1 (by decide) (hts (Cond.fieldLink RX2 14 "FloodGridLaw$Sim" "water" "[[I") (List.mem_of_getElem? (i := 4) rfl)) (fun _ h9 => h9) rfl dX2_pass_544 ?_
                  refine lv_iload_n hx hb dX2_pass_547 rfl (lv_at hl 4 rfl) ?_
                  refine gr_aald hx hb hK hP 10 1 rfl rfl x rfl (by omega) (by decide) dX2_pass_548 ?_
                  refine lv_iload hx hb dX2_pass_549 (lv_at hl 5 rfl) ?_
                  refine gr_iald (v := (q_w3 dra w2 (od (8 * x + y)))) hx hb hK hP 11 0 rfl rfl x y (od (8 * x + y)) (by omega) (by omega) (od_at hx8 hy8).symm rfl pk_us dX2_pass_551 ?_
                  refine lv_iconst (v := 3) hx hb dX2_pass_552 (by decide) ?_
                  refine lv_icmp_lt (tgt := 611) hx hb dX2_pass_553 (by decide) (fun h3 => ?_) (fun h3 => ?_)
                  · skip
                    exact k611 d1 a1 (upd gq (od (8 * x + y)) (w2 (od (8 * x + y)) - q_tak dra w2 (od (8 * x + y)))) gp b1 (dr + q_tak dra w2 (od (8 * x + y))) le H locs ls z1 z2 (by rw [hgq]; exact mx_up hi64 rfl) (by rw [hgp]; exact mx_same hi64 (lv_no (Or.inl (Int32.not_le.mpr h3))).2.symm) z5 (by rw [hdr]; exact so_up (q_tak dra w2) _ _ rfl) (by rw [hle]; exact so_no (q_lv (q_w3 dra w2) (m_peo σ)) _ _ (lv_no (Or.inl (Int32.not_le.mpr h3))).1) hP hD hS (lv_sub hl [1, 2, 3, 4, 5] rfl)
                  · skip
                    refine lv_aload_n hx hb dX2_pass_556 rfl (lv_at hl 1 rfl) ?_
                    refine va_get (D := D) (ci := 2) (v := .ref (a 5)) (C := RX2) (T := TX2) (N := 11) hx hb hts (fun _ h9 => (List.mem_cons_of_mem _ (List.mem_append_right _ h9))) hown hK hP 0 rfl rfl 5 (by decide) (hts (Cond.fieldLink RX2 26 "FloodGridLaw$Sim" "town" "[[I") (List.mem_of_getElem? (i := 14) rfl)) (fun _ h9 => h9) rfl dX2_pass_557 ?_
                    refine lv_iload_n hx hb dX2_pass_560 rfl (lv_at hl 4 rfl) ?_
                    refine gr_aald hx hb hK hP 46 1 rfl rfl x rfl (by omega) (by decide) dX2_pass_561 ?_
                    refine lv_iload hx hb dX2_pass_562 (lv_at hl 5 rfl) ?_
                    refine gr_iald (v := (m_peo σ (od (8 * x + y)))) hx hb hK hP 47 0 rfl rfl x y (od (8 * x + y)) (by omega) (by omega) (od_at hx8 hy8).symm rfl rd4 dX2_pass_564 ?_
                    refine lv_if_ne (tgt := 571) hx hb dX2_pass_565 (by decide) (fun h4 => ?_) (fun h4 => ?_)
                    · skip
                      refine lv_aload_n hx hb dX2_pass_571 rfl (lv_at hl 1 rfl) ?_
                      refine va_get (D := D) (ci := 2) (v := .ref (a 5)) (C := RX2) (T := TX2) (N := 11) hx hb hts (fun _ h9 => (List.mem_cons_of_mem _ (List.mem_append_right _ h9))) hown hK hP 0 rfl rfl 5 (by decide) (hts (Cond.fieldLink RX2 26 "FloodGridLaw$Sim" "town" "[[I") (List.mem_of_getElem? (i := 14) rfl)) (fun _ h9 => h9) rfl dX2_pass_572 ?_
                      refine lv_iload_n hx hb dX2_pass_575 rfl (lv_at hl 4 rfl) ?_
                      refine gr_aald hx hb hK hP 46 1 rfl rfl x rfl (by omega) (by decide) dX2_pass_576 ?_
                      refine lv_iload hx hb dX2_pass_577 (lv_at hl 5 rfl) ?_
                      refine gr_iald (v := (m_peo σ (od (8 * x + y)))) hx hb hK hP 47 0 rfl rfl x y (od (8 * x + y)) (by omega) (by omega) (od_at hx8 hy8).symm rfl rd4 dX2_pass_579 ?_
                      refine lv_iconst (v := 3) hx hb dX2_pass_580 (by decide) ?_
                      refine lv_idiv hx hb dX2_pass_581 (by decide) ?_
                      refine lv_iconst (v := 1) hx hb dX2_pass_582 (by decide) ?_
                      refine lv_iadd hx hb dX2_pass_583 ?_
                      refine lv_istore (lv' := [(6, .int (((m_peo σ (od (8 * x + y))) / 3) + 1)), (5, .int (q_tak dra w2 (od (8 * x + y)))), (0, .ref h), (1, .int (m_lef σ)), (2, .ref q), (3, .int (nI x)), (4, .int (nI y))]) hx hb dX2_pass_584 hl (by decide) rfl (fun ls hl => ?_)
                      refine lv_aload_n hx hb dX2_pass_586 rfl (lv_at hl 2 rfl) ?_
                      refine va_get (D := D) (ci := 2) (v := .ref (a 5)) (C := RX2) (T := TX2) (N := 11) hx hb hts (fun _ h9 => (List.mem_cons_of_mem _ (List.mem_append_right _ h9))) hown hK hP 0 rfl rfl 5 (by decide) (hts (Cond.fieldLink RX2 26 "FloodGridLaw$Sim" "town" "[[I") (List.mem_of_getElem? (i := 14) rfl)) (fun _ h9 => h9) rfl dX2_pass_587 ?_
                      refine lv_iload_n hx hb dX2_pass_590 rfl (lv_at hl 5 rfl) ?_
                      refine gr_aald hx hb hK hP 46 1 rfl rfl x rfl (by omega) (by decide) dX2_pass_591 ?_
                      refine lv_iload hx hb dX2_pass_592 (lv_at hl 6 rfl) ?_
                      refine lv_dup2_11 hx hb dX2_pass_594 rfl rfl ?_
                      refine gr_iald (v := (m_peo σ (od (8 * x + y)))) hx hb hK hP 47 0 rfl rfl x y (od (8 * x + y)) (by omega) (by omega) (od_at hx8 hy8).symm rfl rd4 dX2_pass_595 ?_
                      refine lv_iload hx hb dX2_pass_596 (lv_at hl 0 rfl) ?_
                      refine lv_isub hx hb dX2_pass_598 ?_
                      refine gr_iast (g := upd gp (od (8 * x + y)) ((m_peo σ (od (8 * x + y))) - (((m_peo σ (od (8 * x + y))) / 3) + 1))) (ws1 := (sW h a r q rr cI cJ hei (upd gq (od (8 * x + y)) (w2 (od (8 * x + y)) - q_tak dra w2 (od (8 * x + y)))) d1 a1 dra (upd gp (od (8 * x + y)) ((m_peo σ (od (8 * x + y))) - (((m_peo σ (od (8 * x + y))) / 3) + 1))) rai (nI (m_t σ)) b1 (dr + (q_tak dra w2 (od (8 * x + y)))) le)) hx hb hK hP hD hS 47 0 rfl rfl x y (od (8 * x + y)) (by omega) (by omega) (od_at hx8 hy8).symm rfl rfl rfl dX2_pass_599 (fun H locs hP hD hS => ?_)
                      refine lv_aload_n hx hb dX2_pass_600 rfl (lv_at hl 2 rfl) ?_
                      refine lv_dup hx hb dX2_pass_601 rfl ?_
                      refine va_get (D := D) (ci := 2) (v := .int le) (C := RX2) (T := TX2) (N := 11) hx hb hts (fun _ h9 => (List.mem_cons_of_mem _ (List.mem_append_right _ h9))) hown hK hP 0 rfl rfl 10 (by decide) (hts (Cond.fieldLink RX2 47 "FloodGridLaw$Sim" "left" "I") (List.mem_of_getElem? (i := 1) rfl)) (fun _ h9 => h9) rfl dX2_pass_602 ?_
                      refine lv_iload hx hb dX2_pass_605 (lv_at hl 0 rfl) ?_
                      refine lv_iadd hx hb dX2_pass_607 ?_
                      refine va_put (D := D) (ci := 2) (v := .int (le + (((m_peo σ (od (8 * x + y))) / 3) + 1))) (ty := .int) (C := RX2) (T := TX2) (N := 11) hx hb hts (fun _ h9 => (List.mem_cons_of_mem _ (List.mem_append_right _ h9))) tyX2 tyX2_ok nmX2 hown hK hP hD hS 0 rfl rfl 10 (by decide) (hts (Cond.fieldLink RX2 47 "FloodGridLaw$Sim" "left" "I") (List.mem_of_getElem? (i := 1) rfl)) (fun _ h9 => h9) rfl (by decide +kernel) rfl rfl (Nat.le_of_ble_eq_true rfl) dX2_pass_608 (fun H locs hP hD hS => ?_)
                      have hP : va_P D vwCl (sW h a r q rr cI cJ hei (upd gq (od (8 * x + y)) (w2 (od (8 * x + y)) - q_tak dra w2 (od (8 * x + y)))) d1 a1 dra (upd gp (od (8 * x + y)) ((m_peo σ (od (8 * x + y))) - (((m_peo σ (od (8 * x + y))) / 3) + 1))) rai (nI (m_t σ)) b1 (dr + (q_tak dra w2 (od (8 * x + y)))) (le + (((m_peo σ (od (8 * x + y))) / 3) + 1))) H := hP
                      have hD : va_D A (sW h a r q rr cI cJ hei (upd gq (od (8 * x + y)) (w2 (od (8 * x + y)) - q_tak dra w2 (od (8 * x + y)))) d1 a1 dra (upd gp (od (8 * x + y)) ((m_peo σ (od (8 * x + y))) - (((m_peo σ (od (8 * x + y))) / 3) + 1))) rai (nI (m_t σ)) b1 (dr + (q_tak dra w2 (od (8 * x + y)))) (le + (((m_peo σ (od (8 * x + y))) / 3) + 1))) := hD
                      have yes := lv_yes (w3 := (q_w3 dra w2)) (Int32.not_lt.mp h3) h4 (hpe _ hk64)
                      exact k611 d1 a1 (upd gq (od (8 * x + y)) (w2 (od (8 * x + y)) - q_tak dra w2 (od (8 * x + y)))) (upd gp (od (8 * x + y)) (m_peo σ (od (8 * x + y)) - (m_peo σ (od (8 * x + y)) / 3 + 1))) b1 (dr + q_tak dra w2 (od (8 * x + y))) (le + (m_peo σ (od (8 * x + y)) / 3 + 1)) H locs ls z1 z2 (by rw [hgq]; exact mx_up hi64 rfl) (by rw [hgp]; exact mx_up hi64 yes.2.symm) z5 (by rw [hdr]; exact so_up (q_tak dra w2) _ _ rfl) (by rw [hle]; exact so_up (q_lv (q_w3 dra w2) (m_peo σ)) _ _ yes.1.symm) hP hD hS (lv_sub hl [2, 3, 4, 5, 6] rfl)
                    · skip
                      refine lv_goto (tgt := 611) hx hb dX2_pass_568 (by decide) ?_
                      exact k611 d1 a1 (upd gq (od (8 * x + y)) (w2 (od (8 * x + y)) - q_tak dra w2 (od (8 * x + y)))) gp b1 (dr + q_tak dra w2 (od (8 * x + y))) le H locs ls z1 z2 (by rw [hgq]; exact mx_up hi64 rfl) (by rw [hgp]; exact mx_same hi64 (lv_no (Or.inr h4)).2.symm) z5 (by rw [hdr]; exact so_up (q_tak dra w2) _ _ rfl) (by rw [hle]; exact so_no (q_lv (q_w3 dra w2) (m_peo σ)) _ _ (lv_no (Or.inr h4)).1) hP hD hS (lv_sub hl [1, 2, 3, 4, 5] rfl)
                refine lv_aload_n hx hb dX2_pass_474 rfl (lv_at hl 0 rfl) ?_
                refine va_get (D := D) (ci := 2) (v := .ref q) (C := RX2) (T := TX2) (N := 11) hx hb hts (fun _ h9 => (List.mem_cons_of_mem _ (List.mem_append_right _ h9))) hown hK hP 0 rfl rfl 1 (by decide) (hts (Cond.fieldLink RX2 14 "FloodGridLaw$Sim" "water" "[[I") (List.mem_of_getElem? (i := 4) rfl)) (fun _ h9 => h9) rfl dX2_pass_475 ?_
                refine lv_iload_n hx hb dX2_pass_478 rfl (lv_at hl 3 rfl) ?_
                refine gr_aald hx hb hK hP 10 1 rfl rfl x rfl (by omega) (by decide) dX2_pass_479 ?_
                refine lv_iload hx hb dX2_pass_480 (lv_at hl 4 rfl) ?_
                refine gr_iald (v := (w2 (od (8 * x + y)))) hx hb hK hP 11 0 rfl rfl x y (od (8 * x + y)) (by omega) (by omega) (od_at hx8 hy8).symm rfl rd3 dX2_pass_482 ?_
                refine lv_aload_n hx hb dX2_pass_483 rfl (lv_at hl 0 rfl) ?_
                refine va_get (D := D) (ci := 2) (v := .ref (a 4)) (C := RX2) (T := TX2) (N := 11) hx hb hts (fun _ h9 => (List.mem_cons_of_mem _ (List.mem_append_right _ h9))) hown hK hP 0 rfl rfl 4 (by decide) (hts (Cond.fieldLink RX2 23 "FloodGridLaw$Sim" "drain" "[[I") (List.mem_of_getElem? (i := 12) rfl)) (fun _ h9 => h9) rfl dX2_pass_484 ?_
                refine lv_iload_n hx hb dX2_pass_487 rfl (lv_at hl 3 rfl) ?_
                refine gr_aald hx hb hK hP 37 1 rfl rfl x rfl (by omega) (by decide) dX2_pass_488 ?_
                refine lv_iload hx hb dX2_pass_489 (lv_at hl 4 rfl) ?_
                refine gr_iald (v := dra (od (8 * x + y))) hx hb hK hP 38 0 rfl rfl x y (od (8 * x + y)) (by omega) (by omega) (od_at hx8 hy8).symm rfl rfl dX2_pass_491 ?_
                refine lv_icmp_ge (tgt := 507) hx hb dX2_pass_492 (by decide) (fun h2 => ?_) (fun h2 => ?_)
                · skip
                  refine lv_aload_n hx hb dX2_pass_507 rfl (lv_at hl 0 rfl) ?_
                  refine va_get (D := D) (ci := 2) (v := .ref (a 4)) (C := RX2) (T := TX2) (N := 11) hx hb hts (fun _ h9 => (List.mem_cons_of_mem _ (List.mem_append_right _ h9))) hown hK hP 0 rfl rfl 4 (by decide) (hts (Cond.fieldLink RX2 23 "FloodGridLaw$Sim" "drain" "[[I") (List.mem_of_getElem? (i := 12) rfl)) (fun _ h9 => h9) rfl dX2_pass_508 ?_
                  refine lv_iload_n hx hb dX2_pass_511 rfl (lv_at hl 3 rfl) ?_
                  refine gr_aald hx hb hK hP 37 1 rfl rfl x rfl (by omega) (by decide) dX2_pass_512 ?_
                  refine lv_iload hx hb dX2_pass_513 (lv_at hl 4 rfl) ?_
                  refine gr_iald (v := dra (od (8 * x + y))) hx hb hK hP 38 0 rfl rfl x y (od (8 * x + y)) (by omega) (by omega) (od_at hx8 hy8).symm rfl rfl dX2_pass_515 ?_
                  exact k516 (dra (od (8 * x + y))) H locs ls (tak_n (Int32.not_lt.mpr h2)) hP hD hS (lv_sub hl [0, 1, 2, 3, 4] rfl)
                · skip
                  refine lv_aload_n hx hb dX2_pass_495 rfl (lv_at hl 0 rfl) ?_
                  refine va_get (D := D) (ci := 2) (v := .ref q) (C := RX2) (T := TX2) (N := 11) hx hb hts (fun _ h9 => (List.mem_cons_of_mem _ (List.mem_append_right _ h9))) hown hK hP 0 rfl rfl 1 (by decide) (hts (Cond.fieldLink RX2 14 "FloodGridLaw$Sim" "water" "[[I") (List.mem_of_getElem? (i := 4) rfl)) (fun _ h9 => h9) rfl dX2_pass_496 ?_
                  refine lv_iload_n hx hb dX2_pass_499 rfl (lv_at hl 3 rfl) ?_
                  refine gr_aald hx hb hK hP 10 1 rfl rfl x rfl (by omega) (by decide) dX2_pass_500 ?_
                  refine lv_iload hx hb dX2_pass_501 (lv_at hl 4 rfl) ?_
                  refine gr_iald (v := (w2 (od (8 * x + y)))) hx hb hK hP 11 0 rfl rfl x y (od (8 * x + y)) (by omega) (by omega) (od_at hx8 hy8).symm rfl rd3 dX2_pass_503 ?_
                  refine lv_goto (tgt := 516) hx hb dX2_pass_504 (by decide) ?_
                  exact k516 (w2 (od (8 * x + y))) H locs ls (tak_y (Int32.not_le.mp h2)) hP hD hS (lv_sub hl [0, 1, 2, 3, 4] rfl)
              refine lv_aload_n hx hb dX2_pass_384 rfl (lv_at hl 0 rfl) ?_
              refine va_get (D := D) (ci := 2) (v := .ref (a 2)) (C := RX2) (T := TX2) (N := 11) hx hb hts (fun _ h9 => (List.mem_cons_of_mem _ (List.mem_append_right _ h9))) hown hK hP 0 rfl rfl 2 (by decide) (hts (Cond.fieldLink RX2 17 "FloodGridLaw$Sim" "dam" "[[I") (List.mem_of_getElem? (i := 7) rfl)) (fun _ h9 => h9) rfl dX2_pass_385 ?_
              refine lv_iload_n hx hb dX2_pass_388 rfl (lv_at hl 3 rfl) ?_
              refine gr_aald hx hb hK hP 19 1 rfl rfl x rfl (by omega) (by decide) dX2_pass_389 ?_
              refine lv_iload hx hb dX2_pass_390 (lv_at hl 4 rfl) ?_
              refine gr_iald (v := (m_dam σ (od (8 * x + y)))) hx hb hK hP 20 0 rfl rfl x y (od (8 * x + y)) (by omega) (by omega) (od_at hx8 hy8).symm rfl rd1 dX2_pass_392 ?_
              refine lv_if_le (tgt := 430) hx hb dX2_pass_393 (by decide) (fun h1 => ?_) (fun h1 => ?_)
              · skip
                refine lv_aload_n hx hb dX2_pass_430 rfl (lv_at hl 0 rfl) ?_
                refine va_get (D := D) (ci := 2) (v := .ref (a 3)) (C := RX2) (T := TX2) (N := 11) hx hb hts (fun _ h9 => (List.mem_cons_of_mem _ (List.mem_append_right _ h9))) hown hK hP 0 rfl rfl 3 (by decide) (hts (Cond.fieldLink RX2 20 "FloodGridLaw$Sim" "wear" "[[I") (List.mem_of_getElem? (i := 10) rfl)) (fun _ h9 => h9) rfl dX2_pass_431 ?_
                refine lv_iload_n hx hb dX2_pass_434 rfl (lv_at hl 3 rfl) ?_
                refine gr_aald hx hb hK hP 28 1 rfl rfl x rfl (by omega) (by decide) dX2_pass_435 ?_
                refine lv_iload hx hb dX2_pass_436 (lv_at hl 4 rfl) ?_
                refine gr_iald (v := (m_wea σ (od (8 * x + y)))) hx hb hK hP 29 0 rfl rfl x y (od (8 * x + y)) (by omega) (by omega) (od_at hx8 hy8).symm rfl rd2 dX2_pass_438 ?_
                refine lv_bipush (v := 9) hx hb dX2_pass_439 (by decide) ?_
                refine lv_icmp_le (tgt := 474) hx hb dX2_pass_441 (by decide) (fun h9 => ?_) (fun h9 => ?_)
                · skip
                  have ca := cell_A (dam := m_dam σ) (w2 := w2) (wea := m_wea σ) (fun z => Int32.not_le.mpr z.1 h1)
                  exact k474 gd ga br H locs ls (by rw [hgd]; exact mx_same hi64 ca.1.symm) (by rw [hga]; exact mx_same hi64 ca.2.1.symm) (by rw [hbr]; exact so_no (q_brk (m_dam σ) w2 (m_wea σ)) _ _ ca.2.2) hP hD hS (lv_sub hl [0, 1, 2, 3, 4] rfl)
                · skip
                  exact absurd (le_i.mpr rd5.2) h9
              · skip
                refine lv_aload_n hx hb dX2_pass_396 rfl (lv_at hl 0 rfl) ?_
                refine va_get (D := D) (ci := 2) (v := .ref q) (C := RX2) (T := TX2) (N := 11) hx hb hts (fun _ h9 => (List.mem_cons_of_mem _ (List.mem_append_right _ h9))) hown hK hP 0 rfl rfl 1 (by decide) (hts (Cond.fieldLink RX2 14 "FloodGridLaw$Sim" "water" "[[I") (List.mem_of_getElem? (i := 4) rfl)) (fun _ h9 => h9) rfl dX2_pass_397 ?_
                refine lv_iload_n hx hb dX2_pass_400 rfl (lv_at hl 3 rfl) ?_
                refine gr_aald hx hb hK hP 10 1 rfl rfl x rfl (by omega) (by decide) dX2_pass_401 ?_
                refine lv_iload hx hb dX2_pass_402 (lv_at hl 4 rfl) ?_
                refine gr_iald (v := (w2 (od (8 * x + y)))) hx hb hK hP 11 0 rfl rfl x y (od (8 * x + y)) (by omega) (by omega) (od_at hx8 hy8).symm rfl rd3 dX2_pass_404 ?_
                refine lv_aload_n hx hb dX2_pass_405 rfl (lv_at hl 0 rfl) ?_
                refine va_get (D := D) (ci := 2) (v := .ref (a 2)) (C := RX2) (T := TX2) (N := 11) hx hb hts (fun _ h9 => (List.mem_cons_of_mem _ (List.mem_append_right _ h9))) hown hK hP 0 rfl rfl 2 (by decide) (hts (Cond.fieldLink RX2 17 "FloodGridLaw$Sim" "dam" "[[I") (List.mem_of_getElem? (i := 7) rfl)) (fun _ h9 => h9) rfl dX2_pass_406 ?_
                refine lv_iload_n hx hb dX2_pass_409 rfl (lv_at hl 3 rfl) ?_
                refine gr_aald hx hb hK hP 19 1 rfl rfl x rfl (by omega) (by decide) dX2_pass_410 ?_
                refine lv_iload hx hb dX2_pass_411 (lv_at hl 4 rfl) ?_
                refine gr_iald (v := (m_dam σ (od (8 * x + y)))) hx hb hK hP 20 0 rfl rfl x y (od (8 * x + y)) (by omega) (by omega) (od_at hx8 hy8).symm rfl rd1 dX2_pass_413 ?_
                refine lv_icmp_lt (tgt := 430) hx hb dX2_pass_414 (by decide) (fun h2 => ?_) (fun h2 => ?_)
                · skip
                  refine lv_aload_n hx hb dX2_pass_430 rfl (lv_at hl 0 rfl) ?_
                  refine va_get (D := D) (ci := 2) (v := .ref (a 3)) (C := RX2) (T := TX2) (N := 11) hx hb hts (fun _ h9 => (List.mem_cons_of_mem _ (List.mem_append_right _ h9))) hown hK hP 0 rfl rfl 3 (by decide) (hts (Cond.fieldLink RX2 20 "FloodGridLaw$Sim" "wear" "[[I") (List.mem_of_getElem? (i := 10) rfl)) (fun _ h9 => h9) rfl dX2_pass_431 ?_
                  refine lv_iload_n hx hb dX2_pass_434 rfl (lv_at hl 3 rfl) ?_
                  refine gr_aald hx hb hK hP 28 1 rfl rfl x rfl (by omega) (by decide) dX2_pass_435 ?_
                  refine lv_iload hx hb dX2_pass_436 (lv_at hl 4 rfl) ?_
                  refine gr_iald (v := (m_wea σ (od (8 * x + y)))) hx hb hK hP 29 0 rfl rfl x y (od (8 * x + y)) (by omega) (by omega) (od_at hx8 hy8).symm rfl rd2 dX2_pass_438 ?_
                  refine lv_bipush (v := 9) hx hb dX2_pass_439 (by decide) ?_
                  refine lv_icmp_le (tgt := 474) hx hb dX2_pass_441 (by decide) (fun h9 => ?_) (fun h9 => ?_)
                  · skip
                    have ca := cell_A (dam := m_dam σ) (w2 := w2) (wea := m_wea σ) (fun z => Int32.not_lt.mpr z.2 h2)
                    exact k474 gd ga br H locs ls (by rw [hgd]; exact mx_same hi64 ca.1.symm) (by rw [hga]; exact mx_same hi64 ca.2.1.symm) (by rw [hbr]; exact so_no (q_brk (m_dam σ) w2 (m_wea σ)) _ _ ca.2.2) hP hD hS (lv_sub hl [0, 1, 2, 3, 4] rfl)
                  · skip
                    exact absurd (le_i.mpr rd5.2) h9
                · skip
                  have hcb : 0 < m_dam σ (od (8 * x + y)) ∧ m_dam σ (od (8 * x + y)) ≤ w2 (od (8 * x + y)) := ⟨Int32.not_le.mp h1, Int32.not_lt.mp h2⟩
                  refine lv_aload_n hx hb dX2_pass_417 rfl (lv_at hl 0 rfl) ?_
                  refine va_get (D := D) (ci := 2) (v := .ref (a 3)) (C := RX2) (T := TX2) (N := 11) hx hb hts (fun _ h9 => (List.mem_cons_of_mem _ (List.mem_append_right _ h9))) hown hK hP 0 rfl rfl 3 (by decide) (hts (Cond.fieldLink RX2 20 "FloodGridLaw$Sim" "wear" "[[I") (List.mem_of_getElem? (i := 10) rfl)) (fun _ h9 => h9) rfl dX2_pass_418 ?_
                  refine lv_iload_n hx hb dX2_pass_421 rfl (lv_at hl 3 rfl) ?_
                  refine gr_aald hx hb hK hP 28 1 rfl rfl x rfl (by omega) (by decide) dX2_pass_422 ?_
                  refine lv_iload hx hb dX2_pass_423 (lv_at hl 4 rfl) ?_
                  refine lv_dup2_11 hx hb dX2_pass_425 rfl rfl ?_
                  refine gr_iald (v := (m_wea σ (od (8 * x + y)))) hx hb hK hP 29 0 rfl rfl x y (od (8 * x + y)) (by omega) (by omega) (od_at hx8 hy8).symm rfl rd2 dX2_pass_426 ?_
                  refine lv_iconst (v := 1) hx hb dX2_pass_427 (by decide) ?_
                  refine lv_iadd hx hb dX2_pass_428 ?_
                  refine gr_iast (g := (upd ga (od (8 * x + y)) (m_wea σ (od (8 * x + y)) + 1))) (ws1 := (sW h a r q rr cI cJ hei gq gd (upd ga (od (8 * x + y)) (m_wea σ (od (8 * x + y)) + 1)) dra gp rai (nI (m_t σ)) br dr le)) hx hb hK hP hD hS 29 0 rfl rfl x y (od (8 * x + y)) (by omega) (by omega) (od_at hx8 hy8).symm rfl rfl rfl dX2_pass_429 (fun H locs hP hD hS => ?_)
                  refine lv_aload_n hx hb dX2_pass_430 rfl (lv_at hl 0 rfl) ?_
                  refine va_get (D := D) (ci := 2) (v := .ref (a 3)) (C := RX2) (T := TX2) (N := 11) hx hb hts (fun _ h9 => (List.mem_cons_of_mem _ (List.mem_append_right _ h9))) hown hK hP 0 rfl rfl 3 (by decide) (hts (Cond.fieldLink RX2 20 "FloodGridLaw$Sim" "wear" "[[I") (List.mem_of_getElem? (i := 10) rfl)) (fun _ h9 => h9) rfl dX2_pass_431 ?_
                  refine lv_iload_n hx hb dX2_pass_434 rfl (lv_at hl 3 rfl) ?_
                  refine gr_aald hx hb hK hP 28 1 rfl rfl x rfl (by omega) (by decide) dX2_pass_435 ?_
                  refine lv_iload hx hb dX2_pass_436 (lv_at hl 4 rfl) ?_
                  refine gr_iald (v := (m_wea σ (od (8 * x + y)) + 1)) hx hb hK hP 29 0 rfl rfl x y (od (8 * x + y)) (by omega) (by omega) (od_at hx8 hy8).symm rfl pk_us dX2_pass_438 ?_
                  refine lv_bipush (v := 9) hx hb dX2_pass_439 (by decide) ?_
                  refine lv_icmp_le (tgt := 474) hx hb dX2_pass_441 (by decide) (fun h9 => ?_) (fun h9 => ?_)
                  · skip
                    have cc9 := cell_C (w2 := w2) (wea := m_wea σ) hcb (Int32.not_lt.mpr h9)
                    exact k474 gd (upd ga (od (8 * x + y)) (m_wea σ (od (8 * x + y)) + 1)) br H locs ls (by rw [hgd]; exact mx_same hi64 cc9.1.symm) (by rw [hga]; exact mx_up hi64 cc9.2.1.symm) (by rw [hbr]; exact so_no (q_brk (m_dam σ) w2 (m_wea σ)) _ _ cc9.2.2) hP hD hS (lv_sub hl [0, 1, 2, 3, 4] rfl)
                  · skip
                    have cb9 := cell_B (w2 := w2) (wea := m_wea σ) hcb (Int32.not_le.mp h9)
                    refine lv_aload_n hx hb dX2_pass_444 rfl (lv_at hl 0 rfl) ?_
                    refine va_get (D := D) (ci := 2) (v := .ref (a 2)) (C := RX2) (T := TX2) (N := 11) hx hb hts (fun _ h9 => (List.mem_cons_of_mem _ (List.mem_append_right _ h9))) hown hK hP 0 rfl rfl 2 (by decide) (hts (Cond.fieldLink RX2 17 "FloodGridLaw$Sim" "dam" "[[I") (List.mem_of_getElem? (i := 7) rfl)) (fun _ h9 => h9) rfl dX2_pass_445 ?_
                    refine lv_iload_n hx hb dX2_pass_448 rfl (lv_at hl 3 rfl) ?_
                    refine gr_aald hx hb hK hP 19 1 rfl rfl x rfl (by omega) (by decide) dX2_pass_449 ?_
                    refine lv_iload hx hb dX2_pass_450 (lv_at hl 4 rfl) ?_
                    refine lv_iconst (v := 0) hx hb dX2_pass_452 (by decide) ?_
                    refine gr_iast (g := upd gd (od (8 * x + y)) 0) (ws1 := (sW h a r q rr cI cJ hei gq (upd gd (od (8 * x + y)) 0) (upd ga (od (8 * x + y)) (m_wea σ (od (8 * x + y)) + 1)) dra gp rai (nI (m_t σ)) br dr le)) hx hb hK hP hD hS 20 0 rfl rfl x y (od (8 * x + y)) (by omega) (by omega) (od_at hx8 hy8).symm rfl rfl rfl dX2_pass_453 (fun H locs hP hD hS => ?_)
                    refine lv_aload_n hx hb dX2_pass_454 rfl (lv_at hl 0 rfl) ?_
                    refine va_get (D := D) (ci := 2) (v := .ref (a 3)) (C := RX2) (T := TX2) (N := 11) hx hb hts (fun _ h9 => (List.mem_cons_of_mem _ (List.mem_append_right _ h9))) hown hK hP 0 rfl rfl 3 (by decide) (hts (Cond.fieldLink RX2 20 "FloodGridLaw$Sim" "wear" "[[I") (List.mem_of_getElem? (i := 10) rfl)) (fun _ h9 => h9) rfl dX2_pass_455 ?_
                    refine lv_iload_n hx hb dX2_pass_458 rfl (lv_at hl 3 rfl) ?_
                    refine gr_aald hx hb hK hP 28 1 rfl rfl x rfl (by omega) (by decide) dX2_pass_459 ?_
                    refine lv_iload hx hb dX2_pass_460 (lv_at hl 4 rfl) ?_
                    refine lv_iconst (v := 0) hx hb dX2_pass_462 (by decide) ?_
                    refine gr_iast (g := upd (upd ga (od (8 * x + y)) (m_wea σ (od (8 * x + y)) + 1)) (od (8 * x + y)) 0) (ws1 := (sW h a r q rr cI cJ hei gq (upd gd (od (8 * x + y)) 0) (upd (upd ga (od (8 * x + y)) (m_wea σ (od (8 * x + y)) + 1)) (od (8 * x + y)) 0) dra gp rai (nI (m_t σ)) br dr le)) hx hb hK hP hD hS 29 0 rfl rfl x y (od (8 * x + y)) (by omega) (by omega) (od_at hx8 hy8).symm rfl rfl rfl dX2_pass_463 (fun H locs hP hD hS => ?_)
                    refine lv_aload_n hx hb dX2_pass_464 rfl (lv_at hl 0 rfl) ?_
                    refine lv_dup hx hb dX2_pass_465 rfl ?_
                    refine va_get (D := D) (ci := 2) (v := .int br) (C := RX2) (T := TX2) (N := 11) hx hb hts (fun _ h9 => (List.mem_cons_of_mem _ (List.mem_append_right _ h9))) hown hK hP 0 rfl rfl 8 (by decide) (hts (Cond.fieldLink RX2 41 "FloodGridLaw$Sim" "broke" "I") (List.mem_of_getElem? (i := 11) rfl)) (fun _ h9 => h9) rfl dX2_pass_466 ?_
                    refine lv_iconst (v := 1) hx hb dX2_pass_469 (by decide) ?_
                    refine lv_iadd hx hb dX2_pass_470 ?_
                    refine va_put (D := D) (ci := 2) (v := .int (br + 1)) (ty := .int) (C := RX2) (T := TX2) (N := 11) hx hb hts (fun _ h9 => (List.mem_cons_of_mem _ (List.mem_append_right _ h9))) tyX2 tyX2_ok nmX2 hown hK hP hD hS 0 rfl rfl 8 (by decide) (hts (Cond.fieldLink RX2 41 "FloodGridLaw$Sim" "broke" "I") (List.mem_of_getElem? (i := 11) rfl)) (fun _ h9 => h9) rfl (by decide +kernel) rfl rfl (Nat.le_of_ble_eq_true rfl) dX2_pass_471 (fun H locs hP hD hS => ?_)
                    have hP : va_P D vwCl (sW h a r q rr cI cJ hei gq (upd gd (od (8 * x + y)) 0) (upd (upd ga (od (8 * x + y)) (m_wea σ (od (8 * x + y)) + 1)) (od (8 * x + y)) 0) dra gp rai (nI (m_t σ)) (br + 1) dr le) H := hP
                    have hD : va_D A (sW h a r q rr cI cJ hei gq (upd gd (od (8 * x + y)) 0) (upd (upd ga (od (8 * x + y)) (m_wea σ (od (8 * x + y)) + 1)) (od (8 * x + y)) 0) dra gp rai (nI (m_t σ)) (br + 1) dr le) := hD
                    exact k474 (upd gd (od (8 * x + y)) 0) (upd (upd ga (od (8 * x + y)) (m_wea σ (od (8 * x + y)) + 1)) (od (8 * x + y)) 0) (br + 1) H locs ls (by rw [hgd]; exact mx_up hi64 cb9.1.symm) (by rw [upd_upd, hga]; exact mx_up hi64 cb9.2.1.symm) (by rw [hbr]; exact so_up (q_brk (m_dam σ) w2 (m_wea σ)) _ _ cb9.2.2.symm) hP hD hS (lv_sub hl [0, 1, 2, 3, 4] rfl)
        exact ly 8 0 (by omega) gd ga gq gp br dr le H locs ls hgd hga hgq hgp hbr hdr hle hP hD hS (lv_sub hl [1, 2, 3, 4, 0] rfl)
  exact lx 8 0 (by omega) (m_dam σ) (m_wea σ) w2 (m_peo σ) (m_bro σ) (m_drd σ) (m_lef σ) H locs ls (mx_0 _ _).symm (mx_0 _ _).symm (mx_0 _ _).symm (mx_0 _ _).symm (Int32.add_zero _).symm (Int32.add_zero _).symm (Int32.add_zero _).symm hP hD hS (lv_sub hl [1, 2, 3, 0] rfl)
