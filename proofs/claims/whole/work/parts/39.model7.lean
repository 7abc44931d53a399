abbrev rm_X2_mean : Room := { frames := 1, cells := 0, slots := 0, locals := 25 }
set_option maxHeartbeats 4000000 in
set_option maxRecDepth 100000 in
theorem c_X2_mean (l : Launch) (D : va_G) (cI : ClassId) (h : Nat) (ad : Nat → Nat) (thr : Int32) (hei dra rai : Nat → Int32) (σ : Ms) (flo lak row : Nat → Int32) : ct_d (S := Unit) l D yX2_mean wsX2_mean rm_X2_mean [.ref h] (mM h ad cI thr hei dra rai σ flo lak row) [(cI, .int)] (fun r _ => q_mean (m_wat σ) r) (fun _ => (mM h ad cI 0 hei dra rai σ flo lak row)) := by
  refine ct_ofd (cc := cX2_mean) (maxL := 1) (by decide) rfl (Nat.le_of_ble_eq_true rfl) ?_
  intro p e s m args below meth c A Q hx hb hml hown hts hA hK H locs hP hD hS fin ls hl
  have hown : (s.setDrawn s.drawn).vm.findClass RX2 = some m.cls := hown
  have hd0 := Drawn.sameBut.refl s.drawn lw_cs
  have hl : lv_has ls 1 [(0, .ref h)] := hl
  refine lv_aload_n hx hb dX2_mean_0 rfl (lv_at hl 0 rfl) ?_
  refine lv_iconst (v := 0) hx hb dX2_mean_1 (by decide) ?_
  refine va_put (D := D) (ci := 2) (v := .int 0) (ty := .int) (C := RX2) (T := TX2) (N := 12) hx hb hts (fun _ h9 => (List.mem_cons_of_mem _ (List.mem_append_right _ h9))) tyX2 tyX2_ok nmX2 hown hK hP hD hS 0 rfl rfl 0 (by decide) (hts (Cond.fieldLink RX2 43 "FloodGridModel" "thrown" "I") (List.mem_of_getElem? (i := 1) rfl)) (fun _ h9 => h9) rfl (by decide +kernel) rfl rfl (Nat.le_of_ble_eq_true rfl) dX2_mean_2 (fun H locs hP hD hS => ?_)
  have hP : va_P D vwCl (mM h ad cI 0 hei dra rai σ flo lak row) H := hP
  have hD : va_D A (mM h ad cI 0 hei dra rai σ flo lak row) := hD
  refine lv_aload_n hx hb dX2_mean_5 rfl (lv_at hl 0 rfl) ?_
  refine va_get (D := D) (ci := 2) (v := .ref (ad 2)) (C := RX2) (T := TX2) (N := 12) hx hb hts (fun _ h9 => (List.mem_cons_of_mem _ (List.mem_append_right _ h9))) hown hK hP 0 rfl rfl 2 (by decide) (hts (Cond.fieldLink RX2 13 "FloodGridModel" "water" "[I") (List.mem_of_getElem? (i := 2) rfl)) (fun _ h9 => h9) rfl dX2_mean_6 ?_
  refine ct_Si (As := [.ref (ad 2)]) (rest := []) (wr := [(h, .inr (2, [.int 0, .ref (ad 1), .ref (ad 2), .ref (ad 3), .ref (ad 4), .ref (ad 5), .ref (ad 6), .ref (ad 7), .ref (ad 8), .ref (ad 9), .ref (ad 10), .ref (ad 11)])), ((ad 1), .inl (cI, 64, .inl hei)), ((ad 3), .inl (cI, 64, .inl (m_dam σ))), ((ad 4), .inl (cI, 64, .inl (m_wea σ))), ((ad 5), .inl (cI, 64, .inl dra)), ((ad 6), .inl (cI, 64, .inl (m_peo σ))), ((ad 7), .inl (cI, 12, .inl rai)), ((ad 8), .inl (cI, 4, .inl (q_num (nI (m_t σ)) (m_bro σ) (m_drd σ) (m_lef σ)))), ((ad 9), .inl (cI, 64, .inl flo)), ((ad 10), .inl (cI, 64, .inl lak)), ((ad 11), .inl (cI, 64, .inl row))]) (W1 := fun u => (mM h ad cI 0 hei dra rai σ flo lak row)) (cells1 := 0) (slots1 := 0) ⟨hx, hb, hml, hown, hts⟩ (c_X2_some l D cI (ad 2) 64 (by decide) (m_wat σ)) (va_cwS 1 hts gX2_mean_X2_some rfl rfl rfl (by decide +kernel) ⟨Nat.le_of_ble_eq_true rfl, Nat.le_of_ble_eq_true rfl⟩) hK hP hD hS hA [2] [0, 1, 3, 4, 5, 6, 7, 8, 9, 10, 11] ⟨rfl, rfl, rfl, rfl, rfl⟩ [0, 1, 11, 2, 3, 4, 5, 6, 7, 8, 9, 10] rfl (fun _ => rfl) [0] rfl rfl hl.1 rfl (Nat.le_of_ble_eq_true rfl) rfl rfl ⟨(Nat.le_of_ble_eq_true rfl), (Nat.le_of_ble_eq_true rfl)⟩ dX2_mean_9 (fun r u H locs hw hP hD hS => ?_)
  subst hw
  refine lv_if_ne (tgt := 19) hx hb dX2_mean_12 (by decide) (fun hc => ?_) (fun hc => ?_)
  · skip
    refine lv_aload_n hx hb dX2_mean_19 rfl (lv_at hl 0 rfl) ?_
    refine va_get (D := D) (ci := 2) (v := .ref (ad 2)) (C := RX2) (T := TX2) (N := 12) hx hb hts (fun _ h9 => (List.mem_cons_of_mem _ (List.mem_append_right _ h9))) hown hK hP 0 rfl rfl 2 (by decide) (hts (Cond.fieldLink RX2 13 "FloodGridModel" "water" "[I") (List.mem_of_getElem? (i := 2) rfl)) (fun _ h9 => h9) rfl dX2_mean_20 ?_
    refine ct_Si (As := [.ref (ad 2)]) (rest := []) (wr := [(h, .inr (2, [.int 0, .ref (ad 1), .ref (ad 2), .ref (ad 3), .ref (ad 4), .ref (ad 5), .ref (ad 6), .ref (ad 7), .ref (ad 8), .ref (ad 9), .ref (ad 10), .ref (ad 11)])), ((ad 1), .inl (cI, 64, .inl hei)), ((ad 3), .inl (cI, 64, .inl (m_dam σ))), ((ad 4), .inl (cI, 64, .inl (m_wea σ))), ((ad 5), .inl (cI, 64, .inl dra)), ((ad 6), .inl (cI, 64, .inl (m_peo σ))), ((ad 7), .inl (cI, 12, .inl rai)), ((ad 8), .inl (cI, 4, .inl (q_num (nI (m_t σ)) (m_bro σ) (m_drd σ) (m_lef σ)))), ((ad 9), .inl (cI, 64, .inl flo)), ((ad 10), .inl (cI, 64, .inl lak)), ((ad 11), .inl (cI, 64, .inl row))]) (W1 := fun u => (mM h ad cI 0 hei dra rai σ flo lak row)) (cells1 := 0) (slots1 := 0) ⟨hx, hb, hml, hown, hts⟩ (c_X2_sum l D cI (ad 2) 64 (by decide) (m_wat σ)) (va_cwS 1 hts gX2_mean_X2_sum rfl rfl rfl (by decide +kernel) ⟨Nat.le_of_ble_eq_true rfl, Nat.le_of_ble_eq_true rfl⟩) hK hP hD hS hA [2] [0, 1, 3, 4, 5, 6, 7, 8, 9, 10, 11] ⟨rfl, rfl, rfl, rfl, rfl⟩ [0, 1, 11, 2, 3, 4, 5, 6, 7, 8, 9, 10] rfl (fun _ => rfl) [0] rfl rfl hl.1 rfl (Nat.le_of_ble_eq_true rfl) rfl rfl ⟨(Nat.le_of_ble_eq_true rfl), (Nat.le_of_ble_eq_true rfl)⟩ dX2_mean_23 (fun r u H locs hw hP hD hS => ?_)
    subst hw
    refine lv_i2d hx hb dX2_mean_26 ?_
    refine lv_aload_n hx hb dX2_mean_27 rfl (lv_at hl 0 rfl) ?_
    refine va_get (D := D) (ci := 2) (v := .ref (ad 2)) (C := RX2) (T := TX2) (N := 12) hx hb hts (fun _ h9 => (List.mem_cons_of_mem _ (List.mem_append_right _ h9))) hown hK hP 0 rfl rfl 2 (by decide) (hts (Cond.fieldLink RX2 13 "FloodGridModel" "water" "[I") (List.mem_of_getElem? (i := 2) rfl)) (fun _ h9 => h9) rfl dX2_mean_28 ?_
    refine ct_Si (As := [.ref (ad 2)]) (rest := [.double (FP.i2d (q_sum (m_wat σ) 64))]) (wr := [(h, .inr (2, [.int 0, .ref (ad 1), .ref (ad 2), .ref (ad 3), .ref (ad 4), .ref (ad 5), .ref (ad 6), .ref (ad 7), .ref (ad 8), .ref (ad 9), .ref (ad 10), .ref (ad 11)])), ((ad 1), .inl (cI, 64, .inl hei)), ((ad 3), .inl (cI, 64, .inl (m_dam σ))), ((ad 4), .inl (cI, 64, .inl (m_wea σ))), ((ad 5), .inl (cI, 64, .inl dra)), ((ad 6), .inl (cI, 64, .inl (m_peo σ))), ((ad 7), .inl (cI, 12, .inl rai)), ((ad 8), .inl (cI, 4, .inl (q_num (nI (m_t σ)) (m_bro σ) (m_drd σ) (m_lef σ)))), ((ad 9), .inl (cI, 64, .inl flo)), ((ad 10), .inl (cI, 64, .inl lak)), ((ad 11), .inl (cI, 64, .inl row))]) (W1 := fun u => (mM h ad cI 0 hei dra rai σ flo lak row)) (cells1 := 0) (slots1 := 0) ⟨hx, hb, hml, hown, hts⟩ (c_X2_some l D cI (ad 2) 64 (by decide) (m_wat σ)) (va_cwS 1 hts gX2_mean_X2_some rfl rfl rfl (by decide +kernel) ⟨Nat.le_of_ble_eq_true rfl, Nat.le_of_ble_eq_true rfl⟩) hK hP hD hS hA [2] [0, 1, 3, 4, 5, 6, 7, 8, 9, 10, 11] ⟨rfl, rfl, rfl, rfl, rfl⟩ [0, 1, 11, 2, 3, 4, 5, 6, 7, 8, 9, 10] rfl (fun _ => rfl) [0] rfl rfl hl.1 rfl (Nat.le_of_ble_eq_true rfl) rfl rfl ⟨(Nat.le_of_ble_eq_true rfl), (Nat.le_of_ble_eq_true rfl)⟩ dX2_mean_31 (fun r u H locs hw hP hD hS => ?_)
    subst hw
    refine lv_i2d hx hb dX2_mean_34 ?_
    refine lv_ddiv_any hd0 lw_bits hx hb dX2_mean_35 (fun rr d1 hal hd1 => ?_)
    exact fin rr d1 () H locs 0 0 36 ls hd1 dX2_mean_36 (Or.inr ⟨hc, hal⟩) hP hD hS (Nat.le_of_ble_eq_true rfl) (Nat.le_of_ble_eq_true rfl)
  · skip
    refine lv_dconst0 hx hb dX2_mean_15 ?_
    refine lv_goto (tgt := 36) hx hb dX2_mean_16 (by decide) ?_
    exact fin FP.dconst0 s.drawn () H locs 0 0 36 ls hd0 dX2_mean_36 (Or.inl ⟨hc, rfl⟩) hP hD hS (Nat.le_of_ble_eq_true rfl) (Nat.le_of_ble_eq_true rfl)
abbrev rm_X2_digest : Room := { frames := 4, cells := 0, slots := 0, locals := 90 }
set_option maxHeartbeats 4000000 in
set_option maxRecDepth 100000 in
theorem c_X2_digest (l : Launch) (D : va_G) (cI : ClassId) (h : Nat) (ad : Nat → Nat) (thr : Int32) (hei dra rai : Nat → Int32) (σ : Ms) (flo lak row : Nat → Int32) (hw0 : ∀ c, c < 64 → 0 ≤ m_wat σ c) : ct_l (S := (Nat → Int32) × (Nat → Int32)) l D yX2_digest wsX2_digest rm_X2_digest [.ref h] (mM h ad cI thr hei dra rai σ flo lak row) [(cI, .int)] (fun r _ => r = q_dig hei dra rai σ) (fun u => (mM h ad cI 0 hei dra rai σ flo u.1 u.2)) := by
  refine ct_ofl (cc := cX2_digest) (maxL := 7) (by decide) rfl (Nat.le_of_ble_eq_true rfl) ?_
  intro p e s m args below meth c A Q hx hb hml hown hts hin hA hK H locs hP hD hS fin ls hl
  have hown : s.vm.findClass RX2 = some m.cls := hown
  have hl : lv_has ls 7 [(0, .ref h)] := hl
  refine lv_aload_n hx hb dX2_digest_0 rfl (lv_at hl 0 rfl) ?_
  refine lv_iconst (v := 0) hx hb dX2_digest_1 (by decide) ?_
  refine va_put (D := D) (ci := 2) (v := .int 0) (ty := .int) (C := RX2) (T := TX2) (N := 12) hx hb hts (fun _ h9 => (List.mem_cons_of_mem _ (List.mem_append_right _ h9))) tyX2 tyX2_ok nmX2 hown hK hP hD hS 0 rfl rfl 0 (by decide) (hts (Cond.fieldLink RX2 43 "FloodGridModel" "thrown" "I") (List.mem_of_getElem? (i := 1) rfl)) (fun _ h9 => h9) rfl (by decide +kernel) rfl rfl (Nat.le_of_ble_eq_true rfl) dX2_digest_2 (fun H locs hP hD hS => ?_)
  have hP : va_P D vwCl (mM h ad cI 0 hei dra rai σ flo lak row) H := hP
  have hD : va_D A (mM h ad cI 0 hei dra rai σ flo lak row) := hD
  refine lv_ldc2 (v := (1129)) hx hb hown (hts (Cond.constantLong RX2 130 (1129)) (List.mem_of_getElem? (i := 2) rfl)) dX2_digest_5 ?_
  refine lv_lstore_n (lv' := [(1, .long (1129)), (0, .ref h)]) hx hb dX2_digest_8 rfl hl (by decide) rfl (fun ls hl => ?_)
  refine lv_iconst (v := 0) hx hb dX2_digest_9 (by decide) ?_
  refine lv_istore_n (lv' := [(3, .int 0), (1, .long (1129)), (0, .ref h)]) hx hb dX2_digest_10 rfl hl (by decide) rfl (fun ls hl => ?_)
  have loop : ∀ (fu i : Nat), i + fu = 9 → ∀ (d : Int64) (s1 : Nat → Int32) (f1 : Nat → Int32) (H : Heap) (locs : List Loc) (ls : Array Slot), (d = q_digT σ i) → va_P D vwCl (mM h ad cI 0 hei dra rai σ flo s1 f1) H → va_D A (mM h ad cI 0 hei dra rai σ flo s1 f1) → va_S A s.heap H locs → lv_has ls 7 [(0, .ref h), (1, .long d), (3, .int (nI i))] → W p l e rm_X2_digest s m args below meth c H locs 0 0 Q (F0 m 11 ls []) := by
    intro fu
    induction fu with
    | zero =>
      intro i hi d s1 f1 H locs ls hd hP hD hS hl
      obtain rfl : 9 = i := by omega
      refine lv_iload_n hx hb dX2_digest_11 rfl (lv_at hl 2 rfl) ?_
      refine lv_bipush (v := 9) hx hb dX2_digest_12 (by decide) ?_
      refine lv_icmp_ge (tgt := 36) hx hb dX2_digest_14 (by decide) (fun hc => ?_) (fun hc => ?_)
      · skip
        refine lv_iconst (v := 0) hx hb dX2_digest_36 (by decide) ?_
        refine lv_istore_n (lv' := [(3, .int 0), (0, .ref h), (1, .long d)]) hx hb dX2_digest_37 rfl hl (by decide) rfl (fun ls hl => ?_)
        have loop2 : ∀ (fu i : Nat), i + fu = 64 → ∀ (d2 : Int64) (H : Heap) (locs : List Loc) (ls : Array Slot), (d2 = q_digC hei dra σ d i) → va_P D vwCl (mM h ad cI 0 hei dra rai σ flo s1 f1) H → va_D A (mM h ad cI 0 hei dra rai σ flo s1 f1) → va_S A s.heap H locs → lv_has ls 7 [(0, .ref h), (1, .long d2), (3, .int (nI i))] → W p l e rm_X2_digest s m args below meth c H locs 0 0 Q (F0 m 38 ls []) := by
          intro fu
          induction fu with
          | zero =>
            intro i hi d2 H locs ls hd2 hP hD hS hl
            obtain rfl : 64 = i := by omega
            refine lv_iload_n hx hb dX2_digest_38 rfl (lv_at hl 2 rfl) ?_
            refine lv_bipush (v := 64) hx hb dX2_digest_39 (by decide) ?_
            refine lv_icmp_ge (tgt := 81) hx hb dX2_digest_41 (by decide) (fun hc => ?_) (fun hc => ?_)
            · skip
              refine lv_aload_n hx hb dX2_digest_81 rfl (lv_at hl 0 rfl) ?_
              refine va_get (D := D) (ci := 2) (v := .ref (ad 7)) (C := RX2) (T := TX2) (N := 12) hx hb hts (fun _ h9 => (List.mem_cons_of_mem _ (List.mem_append_right _ h9))) hown hK hP 0 rfl rfl 7 (by decide) (hts (Cond.fieldLink RX2 28 "FloodGridModel" "table" "[I") (List.mem_of_getElem? (i := 4) rfl)) (fun _ h9 => h9) rfl dX2_digest_82 ?_
              refine lv_astore_n (lv' := [(3, .ref (ad 7)), (0, .ref h), (1, .long d2)]) hx hb dX2_digest_85 rfl hl (by decide) rfl (fun ls hl => ?_)
              refine lv_aload_n hx hb dX2_digest_86 rfl (lv_at hl 0 rfl) ?_
              refine va_alen (v := (nI 12)) hx hb hK hP 7 rfl (t0 := 0) rfl rfl dX2_digest_87 ?_
              refine lv_istore (lv' := [(4, .int (nI 12)), (3, .ref (ad 7)), (0, .ref h), (1, .long d2)]) hx hb dX2_digest_88 hl (by decide) rfl (fun ls hl => ?_)
              refine lv_iconst (v := 0) hx hb dX2_digest_90 (by decide) ?_
              refine lv_istore (lv' := [(5, .int 0), (4, .int (nI 12)), (3, .ref (ad 7)), (0, .ref h), (1, .long d2)]) hx hb dX2_digest_91 hl (by decide) rfl (fun ls hl => ?_)
              have loop4 : ∀ (fu i : Nat), i + fu = 12 → ∀ (d4 : Int64) (H : Heap) (locs : List Loc) (ls : Array Slot), (d4 = q_digR rai d2 i) → va_P D vwCl (mM h ad cI 0 hei dra rai σ flo s1 f1) H → va_D A (mM h ad cI 0 hei dra rai σ flo s1 f1) → va_S A s.heap H locs → lv_has ls 7 [(0, .ref h), (1, .long d4), (3, .ref (ad 7)), (4, .int (nI 12)), (5, .int (nI i))] → W p l e rm_X2_digest s m args below meth c H locs 0 0 Q (F0 m 93 ls []) := by
                intro fu
                induction fu with
                | zero =>
                  intro i hi d4 H locs ls hd4 hP hD hS hl
                  obtain rfl : 12 = i := by omega
                  refine lv_iload hx hb dX2_digest_93 (lv_at hl 4 rfl) ?_
                  refine lv_iload hx hb dX2_digest_95 (lv_at hl 3 rfl) ?_
                  refine lv_icmp_ge (tgt := 122) hx hb dX2_digest_97 (by decide) (fun hc => ?_) (fun hc => ?_)
                  · skip
                    refine lv_lload_n hx hb dX2_digest_122 rfl (lv_at hl 1 rfl) ?_
                    exact fin d4 (s1, f1) H locs 0 0 123 ls dX2_digest_123 (by rw [hd4, hd2, hd]; exact q_dig_eq hei dra rai σ) hP hD hS (Nat.le_of_ble_eq_true rfl) (Nat.le_of_ble_eq_true rfl)
                  · skip
                    exact absurd (Int32.le_refl _) hc
                | succ fu ih =>
                  intro i hi d4 H locs ls hd4 hP hD hS hl
                  have hlt : i < 12 := by omega
                  refine lv_iload hx hb dX2_digest_93 (lv_at hl 4 rfl) ?_
                  refine lv_iload hx hb dX2_digest_95 (lv_at hl 3 rfl) ?_
                  refine lv_icmp_ge (tgt := 122) hx hb dX2_digest_97 (by decide) (fun hc => ?_) (fun hc => ?_)
                  · skip
                    exact absurd hc (nI_ge (b := 12) hlt (by decide))
                  · skip
                    refine lv_aload_n hx hb dX2_digest_100 rfl (lv_at hl 2 rfl) ?_
                    refine lv_iload hx hb dX2_digest_101 (lv_at hl 4 rfl) ?_
                    refine ct_iald (v := rai i) hx hb hK hP 7 0 rfl rfl i rfl (by omega) (by decide) rfl dX2_digest_103 ?_
                    refine lv_istore (lv' := [(6, .int (rai i)), (0, .ref h), (1, .long d4), (3, .ref (ad 7)), (4, .int (nI 12)), (5, .int (nI i))]) hx hb dX2_digest_104 hl (by decide) rfl (fun ls hl => ?_)
                    refine lv_lload_n hx hb dX2_digest_106 rfl (lv_at hl 2 rfl) ?_
                    refine lv_ldc2 (v := (31)) hx hb hown (hts (Cond.constantLong RX2 132 (31)) (List.mem_of_getElem? (i := 3) rfl)) dX2_digest_107 ?_
                    refine lv_lmul hx hb dX2_digest_110 ?_
                    refine lv_iload hx hb dX2_digest_111 (lv_at hl 0 rfl) ?_
                    refine lv_i2l (v := Int32.toInt64 (rai i)) hx hb dX2_digest_113 rfl ?_
                    refine lv_ladd hx hb dX2_digest_114 ?_
                    refine lv_lstore_n (lv' := [(1, .long ((d4 * (31)) + (Int32.toInt64 (rai i)))), (6, .int (rai i)), (0, .ref h), (3, .ref (ad 7)), (4, .int (nI 12)), (5, .int (nI i))]) hx hb dX2_digest_115 rfl hl (by decide) rfl (fun ls hl => ?_)
                    refine lv_iinc (v := (nI (i + 1))) (lv' := [(5, .int (nI (i + 1))), (1, .long ((d4 * (31)) + (Int32.toInt64 (rai i)))), (6, .int (rai i)), (0, .ref h), (3, .ref (ad 7)), (4, .int (nI 12))]) hx hb dX2_digest_116 hl (k := 5) rfl (nI_1 i) (by decide) rfl (fun ls hl => ?_)
                    refine lv_goto (tgt := 93) hx hb dX2_digest_119 (by decide) ?_
                    exact ih (i + 1) (by omega) (d4 * 31 + Int32.toInt64 (rai i)) H locs ls (by rw [hd4]; rfl) hP hD hS (lv_sub hl [3, 1, 4, 5, 0] rfl)
              exact loop4 12 0 (by omega) d2 H locs ls rfl hP hD hS (lv_sub hl [3, 4, 2, 1, 0] rfl)
            · skip
              exact absurd (show (64 : Int32) ≤ nI 64 by decide) hc
          | succ fu ih =>
            intro i hi d2 H locs ls hd2 hP hD hS hl
            have hlt : i < 64 := by omega
            refine lv_iload_n hx hb dX2_digest_38 rfl (lv_at hl 2 rfl) ?_
            refine lv_bipush (v := 64) hx hb dX2_digest_39 (by decide) ?_
            refine lv_icmp_ge (tgt := 81) hx hb dX2_digest_41 (by decide) (fun hc => ?_) (fun hc => ?_)
            · skip
              exact absurd hc (nI_ge (b := 64) hlt (by decide))
            · skip
              refine lv_iconst (v := 0) hx hb dX2_digest_44 (by decide) ?_
              refine lv_istore (lv' := [(4, .int 0), (0, .ref h), (1, .long d2), (3, .int (nI i))]) hx hb dX2_digest_45 hl (by decide) rfl (fun ls hl => ?_)
              have loop3 : ∀ (fu wh : Nat), wh + fu = 8 → ∀ (d3 : Int64) (H : Heap) (locs : List Loc) (ls : Array Slot), (d3 = q_digW hei dra σ i d2 wh) → va_P D vwCl (mM h ad cI 0 hei dra rai σ flo s1 f1) H → va_D A (mM h ad cI 0 hei dra rai σ flo s1 f1) → va_S A s.heap H locs → lv_has ls 7 [(0, .ref h), (1, .long d3), (3, .int (nI i)), (4, .int (nI wh))] → W p l e rm_X2_digest s m args below meth c H locs 0 0 Q (F0 m 47 ls []) := by
                intro fu
                induction fu with
                | zero =>
                  intro wh hi8 d3 H locs ls hd3 hP hD hS hl
                  obtain rfl : 8 = wh := by omega
                  refine lv_iload hx hb dX2_digest_47 (lv_at hl 3 rfl) ?_
                  refine lv_bipush (v := 8) hx hb dX2_digest_49 (by decide) ?_
                  refine lv_icmp_ge (tgt := 75) hx hb dX2_digest_51 (by decide) (fun hc3 => ?_) (fun hc3 => ?_)
                  · skip
                    refine lv_iinc (v := (nI (i + 1))) (lv' := [(3, .int (nI (i + 1))), (0, .ref h), (1, .long d3), (4, .int (nI 8))]) hx hb dX2_digest_75 hl (k := 2) rfl (nI_1 i) (by decide) rfl (fun ls hl => ?_)
                    refine lv_goto (tgt := 38) hx hb dX2_digest_78 (by decide) ?_
                    exact ih (i + 1) (by omega) d3 H locs ls (by rw [hd3, hd2]; rfl) hP hD hS (lv_sub hl [1, 2, 0] rfl)
                  · skip
                    exact absurd (show (8 : Int32) ≤ nI 8 by decide) hc3
                | succ fu ih =>
                  intro wh hi8 d3 H locs ls hd3 hP hD hS hl
                  have hl8 : wh < 8 := by omega
                  refine lv_iload hx hb dX2_digest_47 (lv_at hl 3 rfl) ?_
                  refine lv_bipush (v := 8) hx hb dX2_digest_49 (by decide) ?_
                  refine lv_icmp_ge (tgt := 75) hx hb dX2_digest_51 (by decide) (fun hc3 => ?_) (fun hc3 => ?_)
                  · skip
                    exact absurd hc3 (nI_ge (b := 8) hl8 (by decide))
                  · skip
                    refine lv_lload_n hx hb dX2_digest_54 rfl (lv_at hl 1 rfl) ?_
                    refine lv_ldc2 (v := (31)) hx hb hown (hts (Cond.constantLong RX2 132 (31)) (List.mem_of_getElem? (i := 3) rfl)) dX2_digest_55 ?_
                    refine lv_lmul hx hb dX2_digest_58 ?_
                    refine lv_aload_n hx hb dX2_digest_59 rfl (lv_at hl 0 rfl) ?_
                    refine lv_iload_n hx hb dX2_digest_60 rfl (lv_at hl 2 rfl) ?_
                    refine lv_iload hx hb dX2_digest_61 (lv_at hl 3 rfl) ?_
                    refine ct_Vi (As := [.int (nI i), .int (nI wh)]) (rest := [.long (d3 * (31))]) (wr := []) (W1 := fun u => (mM h ad cI 0 hei dra rai σ flo s1 f1)) (cells1 := 0) (slots1 := 0) ⟨hx, hb, hml, hown, hts⟩ (c_X2_cellTold l D cI h ad 0 hei (m_wat σ) (m_dam σ) (m_wea σ) dra (m_peo σ) rai (q_num (nI (m_t σ)) (m_bro σ) (m_drd σ) (m_lef σ)) flo s1 f1 i hlt wh hl8) (cwV 2 hts gX2_digest_X2_cellTold rfl rfl rfl (by decide +kernel) ⟨Nat.le_of_ble_eq_true rfl, Nat.le_of_ble_eq_true rfl⟩) hK hP hD hS hA [0, 1, 2, 3, 4, 5, 6, 7, 8, 9, 10, 11] [] ⟨rfl, rfl, rfl, rfl, rfl⟩ [0, 1, 2, 3, 4, 5, 6, 7, 8, 9, 10, 11] rfl (fun _ => rfl) [0] rfl (va_recv hK hP (ci := 2) (q0 := 0) rfl rfl) rfl hl.1 rfl (Nat.le_of_ble_eq_true rfl) rfl rfl ⟨(Nat.le_of_ble_eq_true rfl), (Nat.le_of_ble_eq_true rfl)⟩ dX2_digest_63 (fun r u H locs hw hP hD hS => ?_)
                    subst hw
                    refine lv_i2l (v := Int32.toInt64 (q_cell hei (m_wat σ) (m_dam σ) (m_wea σ) dra (m_peo σ) i wh)) hx hb dX2_digest_66 rfl ?_
                    refine lv_ladd hx hb dX2_digest_67 ?_
                    refine lv_lstore_n (lv' := [(1, .long ((d3 * (31)) + (Int32.toInt64 (q_cell hei (m_wat σ) (m_dam σ) (m_wea σ) dra (m_peo σ) i wh)))), (0, .ref h), (3, .int (nI i)), (4, .int (nI wh))]) hx hb dX2_digest_68 rfl hl (by decide) rfl (fun ls hl => ?_)
                    refine lv_iinc (v := (nI (wh + 1))) (lv' := [(4, .int (nI (wh + 1))), (1, .long ((d3 * (31)) + (Int32.toInt64 (q_cell hei (m_wat σ) (m_dam σ) (m_wea σ) dra (m_peo σ) i wh)))), (0, .ref h), (3, .int (nI i))]) hx hb dX2_digest_69 hl (k := 3) rfl (nI_1 wh) (by decide) rfl (fun ls hl => ?_)
                    refine lv_goto (tgt := 47) hx hb dX2_digest_72 (by decide) ?_
                    exact ih (wh + 1) (by omega) (d3 * 31 + Int32.toInt64 (q_cell hei (m_wat σ) (m_dam σ) (m_wea σ) dra (m_peo σ) i wh)) H locs ls (by rw [hd3]; rfl) hP hD hS (lv_sub hl [2, 1, 3, 0] rfl)
              exact loop3 8 0 (by omega) d2 H locs ls rfl hP hD hS (lv_sub hl [1, 2, 3, 0] rfl)
        exact loop2 64 0 (by omega) d H locs ls rfl hP hD hS (lv_sub hl [1, 2, 0] rfl)
      · skip
        exact absurd (show (9 : Int32) ≤ nI 9 by decide) hc
    | succ fu ih =>
      intro i hi d s1 f1 H locs ls hd hP hD hS hl
      have hlt : i < 9 := by omega
      refine lv_iload_n hx hb dX2_digest_11 rfl (lv_at hl 2 rfl) ?_
      refine lv_bipush (v := 9) hx hb dX2_digest_12 (by decide) ?_
      refine lv_icmp_ge (tgt := 36) hx hb dX2_digest_14 (by decide) (fun hc => ?_) (fun hc => ?_)
      · skip
        exact absurd hc (nI_ge (b := 9) hlt (by decide))
      · skip
        refine lv_lload_n hx hb dX2_digest_17 rfl (lv_at hl 1 rfl) ?_
        refine lv_ldc2 (v := (31)) hx hb hown (hts (Cond.constantLong RX2 132 (31)) (List.mem_of_getElem? (i := 3) rfl)) dX2_digest_18 ?_
        refine lv_lmul hx hb dX2_digest_21 ?_
        refine lv_aload_n hx hb dX2_digest_22 rfl (lv_at hl 0 rfl) ?_
        refine lv_iload_n hx hb dX2_digest_23 rfl (lv_at hl 2 rfl) ?_
        refine ct_Vi (As := [.int (nI i)]) (rest := [.long (d * (31))]) (wr := []) (W1 := fun u => (mM h ad cI 0 hei dra rai σ flo u.1 u.2)) (cells1 := 0) (slots1 := 0) ⟨hx, hb, hml, hown, hts⟩ (c_X2_counted l D cI h ad 0 hei dra rai σ flo s1 f1 hw0 i hlt) (cwV 1 hts gX2_digest_X2_counted rfl rfl rfl (by decide +kernel) ⟨Nat.le_of_ble_eq_true rfl, Nat.le_of_ble_eq_true rfl⟩) hK hP hD hS hA [0, 1, 2, 3, 4, 5, 6, 7, 8, 9, 10, 11] [] ⟨rfl, rfl, rfl, rfl, rfl⟩ [0, 1, 2, 3, 4, 5, 6, 7, 8, 9, 10, 11] rfl (fun _ => rfl) [0] rfl (va_recv hK hP (ci := 2) (q0 := 0) rfl rfl) rfl hl.1 rfl (Nat.le_of_ble_eq_true rfl) rfl rfl ⟨(Nat.le_of_ble_eq_true rfl), (Nat.le_of_ble_eq_true rfl)⟩ dX2_digest_24 (fun r u H locs hw hP hD hS => ?_)
        subst hw
        refine lv_i2l (v := Int32.toInt64 (q_tally σ i)) hx hb dX2_digest_27 rfl ?_
        refine lv_ladd hx hb dX2_digest_28 ?_
        refine lv_lstore_n (lv' := [(1, .long ((d * (31)) + (Int32.toInt64 (q_tally σ i)))), (0, .ref h), (3, .int (nI i))]) hx hb dX2_digest_29 rfl hl (by decide) rfl (fun ls hl => ?_)
        refine lv_iinc (v := (nI (i + 1))) (lv' := [(3, .int (nI (i + 1))), (1, .long ((d * (31)) + (Int32.toInt64 (q_tally σ i)))), (0, .ref h)]) hx hb dX2_digest_30 hl (k := 2) rfl (nI_1 i) (by decide) rfl (fun ls hl => ?_)
        refine lv_goto (tgt := 11) hx hb dX2_digest_33 (by decide) ?_
        exact ih (i + 1) (by omega) (d * 31 + Int32.toInt64 (q_tally σ i)) u.1 u.2 H locs ls (by rw [hd]; rfl) hP hD hS (lv_sub hl [2, 1, 0] rfl)
  exact loop 9 0 (by omega) 1129 lak row H locs ls rfl hP hD hS (lv_sub hl [2, 1, 0] rfl)
abbrev rm_X2_init : Room := { frames := 1, cells := 11, slots := 592, locals := 12 }
set_option maxHeartbeats 4000000 in
set_option maxRecDepth 100000 in
theorem c_X2_init (l : Launch) (D : va_G) (cI : ClassId) (h : Nat) : ct_v (S := Nat → Nat) l D yX2_init wsX2_init rm_X2_init [.ref h] ([(h, .inr (2, [.int 0, .null, .null, .null, .null, .null, .null, .null, .null, .null, .null, .null]))]) [(cI, .int)] (fun _ => True) (fun u => (mM h u cI 0 (fun _ => 10) (fun _ => 0) (fun _ => 0) q_m0 (fun _ => 0) (fun _ => 0) (fun _ => 0))) := by
  refine ct_ofv (cc := cX2_init) (maxL := 2) (by decide) rfl (Nat.le_of_ble_eq_true rfl) ?_
  intro p e s m args below meth c A Q hx hb hml hown hts hin hA hK H locs hP hD hS fin ls hl
  have hown : s.vm.findClass RX2 = some m.cls := hown
  have hl : lv_has ls 2 [(0, .ref h)] := hl
  refine lv_aload_n hx hb dX2_init_0 rfl (lv_at hl 0 rfl) ?_
  refine W.objInit hx hb hown (hts (Cond.methodLink RX2 1 objectInit) (List.mem_of_getElem? (i := 1) rfl)) (hts (Cond.instanceMethod objectInit) (List.mem_of_getElem? (i := 2) rfl)) (hts (Cond.code objectInit ⟨#[0xb1]⟩ 1 none) (List.mem_of_getElem? (i := 3) rfl)) rfl (by rw [hml]; exact hl.1) rfl dX2_init_1 (Nat.le_of_ble_eq_true rfl) (Nat.le_of_ble_eq_true rfl) ?_
  refine W.eq (g2 := F0 m 4 ls []) rfl ?_
  refine lv_aload_n hx hb dX2_init_4 rfl (lv_at hl 0 rfl) ?_
  refine lv_bipush (v := 64) hx hb dX2_init_5 (by decide) ?_
  refine ct_newa (cells1 := 1) (slots1 := 64) hx hb (hts (Cond.arrayClass .int) (List.mem_of_getElem? (i := 4) rfl)) 0 rfl hK hP hD hS hA 64 rfl (by decide) rfl rfl (Nat.le_of_ble_eq_true rfl) (Nat.le_of_ble_eq_true rfl) dX2_init_7 (fun q1 H hP hD hS => ?_)
  have hP : va_P D vwCl ([(h, .inr (2, [.int 0, .null, .null, .null, .null, .null, .null, .null, .null, .null, .null, .null])), (q1, .inl (cI, 64, .inl (fun _ => 0)))]) H := hP
  have hD : va_D A ([(h, .inr (2, [.int 0, .null, .null, .null, .null, .null, .null, .null, .null, .null, .null, .null])), (q1, .inl (cI, 64, .inl (fun _ => 0)))]) := hD
  refine va_putF (D := D) (ci := 2) (v := .ref q1) (ty := .array .int) (C := RX2) (T := TX2) (N := 12) hx hb hts (fun _ h9 => (List.mem_cons_of_mem _ (List.mem_append_right _ h9))) tyX2 tyX2_ok nmX2 hown hK hP hD hS 0 rfl rfl 1 (by decide) (hts (Cond.fieldLink RX2 9 "FloodGridModel" "heights" "[I") (List.mem_of_getElem? (i := 5) rfl)) (fun _ h9 => h9) rfl hin rfl (by decide +kernel) rfl rfl (Nat.le_of_ble_eq_true rfl) dX2_init_9 (fun H locs hP hD hS => ?_)
  have hP : va_P D vwCl ([(h, .inr (2, [.int 0, .ref q1, .null, .null, .null, .null, .null, .null, .null, .null, .null, .null])), (q1, .inl (cI, 64, .inl (fun _ => 0)))]) H := hP
  have hD : va_D A ([(h, .inr (2, [.int 0, .ref q1, .null, .null, .null, .null, .null, .null, .null, .null, .null, .null])), (q1, .inl (cI, 64, .inl (fun _ => 0)))]) := hD
  refine lv_aload_n hx hb dX2_init_12 rfl (lv_at hl 0 rfl) ?_
  refine lv_bipush (v := 64) hx hb dX2_init_13 (by decide) ?_
  refine ct_newa (cells1 := 2) (slots1 := 128) hx hb (hts (Cond.arrayClass .int) (List.mem_of_getElem? (i := 4) rfl)) 0 rfl hK hP hD hS hA 64 rfl (by decide) rfl rfl (Nat.le_of_ble_eq_true rfl) (Nat.le_of_ble_eq_true rfl) dX2_init_15 (fun q2 H hP hD hS => ?_)
  have hP : va_P D vwCl ([(h, .inr (2, [.int 0, .ref q1, .null, .null, .null, .null, .null, .null, .null, .null, .null, .null])), (q1, .inl (cI, 64, .inl (fun _ => 0))), (q2, .inl (cI, 64, .inl (fun _ => 0)))]) H := hP
  have hD : va_D A ([(h, .inr (2, [.int 0, .ref q1, .null, .null, .null, .null, .null, .null, .null, .null, .null, .null])), (q1, .inl (cI, 64, .inl (fun _ => 0))), (q2, .inl (cI, 64, .inl (fun _ => 0)))]) := hD
  refine va_putF (D := D) (ci := 2) (v := .ref q2) (ty := .array .int) (C := RX2) (T := TX2) (N := 12) hx hb hts (fun _ h9 => (List.mem_cons_of_mem _ (List.mem_append_right _ h9))) tyX2 tyX2_ok nmX2 hown hK hP hD hS 0 rfl rfl 2 (by decide) (hts (Cond.fieldLink RX2 13 "FloodGridModel" "water" "[I") (List.mem_of_getElem? (i := 6) rfl)) (fun _ h9 => h9) rfl hin rfl (by decide +kernel) rfl rfl (Nat.le_of_ble_eq_true rfl) dX2_init_17 (fun H locs hP hD hS => ?_)
  have hP : va_P D vwCl ([(h, .inr (2, [.int 0, .ref q1, .ref q2, .null, .null, .null, .null, .null, .null, .null, .null, .null])), (q1, .inl (cI, 64, .inl (fun _ => 0))), (q2, .inl (cI, 64, .inl (fun _ => 0)))]) H := hP
  have hD : va_D A ([(h, .inr (2, [.int 0, .ref q1, .ref q2, .null, .null, .null, .null, .null, .null, .null, .null, .null])), (q1, .inl (cI, 64, .inl (fun _ => 0))), (q2, .inl (cI, 64, .inl (fun _ => 0)))]) := hD
  refine lv_aload_n hx hb dX2_init_20 rfl (lv_at hl 0 rfl) ?_
  refine lv_bipush (v := 64) hx hb dX2_init_21 (by decide) ?_
  refine ct_newa (cells1 := 3) (slots1 := 192) hx hb (hts (Cond.arrayClass .int) (List.mem_of_getElem? (i := 4) rfl)) 0 rfl hK hP hD hS hA 64 rfl (by decide) rfl rfl (Nat.le_of_ble_eq_true rfl) (Nat.le_of_ble_eq_true rfl) dX2_init_23 (fun q3 H hP hD hS => ?_)
  have hP : va_P D vwCl ([(h, .inr (2, [.int 0, .ref q1, .ref q2, .null, .null, .null, .null, .null, .null, .null, .null, .null])), (q1, .inl (cI, 64, .inl (fun _ => 0))), (q2, .inl (cI, 64, .inl (fun _ => 0))), (q3, .inl (cI, 64, .inl (fun _ => 0)))]) H := hP
  have hD : va_D A ([(h, .inr (2, [.int 0, .ref q1, .ref q2, .null, .null, .null, .null, .null, .null, .null, .null, .null])), (q1, .inl (cI, 64, .inl (fun _ => 0))), (q2, .inl (cI, 64, .inl (fun _ => 0))), (q3, .inl (cI, 64, .inl (fun _ => 0)))]) := hD
  refine va_putF (D := D) (ci := 2) (v := .ref q3) (ty := .array .int) (C := RX2) (T := TX2) (N := 12) hx hb hts (fun _ h9 => (List.mem_cons_of_mem _ (List.mem_append_right _ h9))) tyX2 tyX2_ok nmX2 hown hK hP hD hS 0 rfl rfl 3 (by decide) (hts (Cond.fieldLink RX2 16 "FloodGridModel" "dams" "[I") (List.mem_of_getElem? (i := 7) rfl)) (fun _ h9 => h9) rfl hin rfl (by decide +kernel) rfl rfl (Nat.le_of_ble_eq_true rfl) dX2_init_25 (fun H locs hP hD hS => ?_)
  have hP : va_P D vwCl ([(h, .inr (2, [.int 0, .ref q1, .ref q2, .ref q3, .null, .null, .null, .null, .null, .null, .null, .null])), (q1, .inl (cI, 64, .inl (fun _ => 0))), (q2, .inl (cI, 64, .inl (fun _ => 0))), (q3, .inl (cI, 64, .inl (fun _ => 0)))]) H := hP
  have hD : va_D A ([(h, .inr (2, [.int 0, .ref q1, .ref q2, .ref q3, .null, .null, .null, .null, .null, .null, .null, .null])), (q1, .inl (cI, 64, .inl (fun _ => 0))), (q2, .inl (cI, 64, .inl (fun _ => 0))), (q3, .inl (cI, 64, .inl (fun _ => 0)))]) := hD
  refine lv_aload_n hx hb dX2_init_28 rfl (lv_at hl 0 rfl) ?_
  refine lv_bipush (v := 64) hx hb dX2_init_29 (by decide) ?_
  refine ct_newa (cells1 := 4) (slots1 := 256) hx hb (hts (Cond.arrayClass .int) (List.mem_of_getElem? (i := 4) rfl)) 0 rfl hK hP hD hS hA 64 rfl (by decide) rfl rfl (Nat.le_of_ble_eq_true rfl) (Nat.le_of_ble_eq_true rfl) dX2_init_31 (fun q4 H hP hD hS => ?_)
  have hP : va_P D vwCl ([(h, .inr (2, [.int 0, .ref q1, .ref q2, .ref q3, .null, .null, .null, .null, .null, .null, .null, .null])), (q1, .inl (cI, 64, .inl (fun _ => 0))), (q2, .inl (cI, 64, .inl (fun _ => 0))), (q3, .inl (cI, 64, .inl (fun _ => 0))), (q4, .inl (cI, 64, .inl (fun _ => 0)))]) H := hP
  have hD : va_D A ([(h, .inr (2, [.int 0, .ref q1, .ref q2, .ref q3, .null, .null, .null, .null, .null, .null, .null, .null])), (q1, .inl (cI, 64, .inl (fun _ => 0))), (q2, .inl (cI, 64, .inl (fun _ => 0))), (q3, .inl (cI, 64, .inl (fun _ => 0))), (q4, .inl (cI, 64, .inl (fun _ => 0)))]) := hD
  refine va_putF (D := D) (ci := 2) (v := .ref q4) (ty := .array .int) (C := RX2) (T := TX2) (N := 12) hx hb hts (fun _ h9 => (List.mem_cons_of_mem _ (List.mem_append_right _ h9))) tyX2 tyX2_ok nmX2 hown hK hP hD hS 0 rfl rfl 4 (by decide) (hts (Cond.fieldLink RX2 19 "FloodGridModel" "wear" "[I") (List.mem_of_getElem? (i := 8) rfl)) (fun _ h9 => h9) rfl hin rfl (by decide +kernel) rfl rfl (Nat.le_of_ble_eq_true rfl) dX2_init_33 (fun H locs hP hD hS => ?_)
  have hP : va_P D vwCl ([(h, .inr (2, [.int 0, .ref q1, .ref q2, .ref q3, .ref q4, .null, .null, .null, .null, .null, .null, .null])), (q1, .inl (cI, 64, .inl (fun _ => 0))), (q2, .inl (cI, 64, .inl (fun _ => 0))), (q3, .inl (cI, 64, .inl (fun _ => 0))), (q4, .inl (cI, 64, .inl (fun _ => 0)))]) H := hP
  have hD : va_D A ([(h, .inr (2, [.int 0, .ref q1, .ref q2, .ref q3, .ref q4, .null, .null, .null, .null, .null, .null, .null])), (q1, .inl (cI, 64, .inl (fun _ => 0))), (q2, .inl (cI, 64, .inl (fun _ => 0))), (q3, .inl (cI, 64, .inl (fun _ => 0))), (q4, .inl (cI, 64, .inl (fun _ => 0)))]) := hD
  refine lv_aload_n hx hb dX2_init_36 rfl (lv_at hl 0 rfl) ?_
  refine lv_bipush (v := 64) hx hb dX2_init_37 (by decide) ?_
  refine ct_newa (cells1 := 5) (slots1 := 320) hx hb (hts (Cond.arrayClass .int) (List.mem_of_getElem? (i := 4) rfl)) 0 rfl hK hP hD hS hA 64 rfl (by decide) rfl rfl (Nat.le_of_ble_eq_true rfl) (Nat.le_of_ble_eq_true rfl) dX2_init_39 (fun q5 H hP hD hS => ?_)
  have hP : va_P D vwCl ([(h, .inr (2, [.int 0, .ref q1, .ref q2, .ref q3, .ref q4, .null, .null, .null, .null, .null, .null, .null])), (q1, .inl (cI, 64, .inl (fun _ => 0))), (q2, .inl (cI, 64, .inl (fun _ => 0))), (q3, .inl (cI, 64, .inl (fun _ => 0))), (q4, .inl (cI, 64, .inl (fun _ => 0))), (q5, .inl (cI, 64, .inl (fun _ => 0)))]) H := hP
  have hD : va_D A ([(h, .inr (2, [.int 0, .ref q1, .ref q2, .ref q3, .ref q4, .null, .null, .null, .null, .null, .null, .null])), (q1, .inl (cI, 64, .inl (fun _ => 0))), (q2, .inl (cI, 64, .inl (fun _ => 0))), (q3, .inl (cI, 64, .inl (fun _ => 0))), (q4, .inl (cI, 64, .inl (fun _ => 0))), (q5, .inl (cI, 64, .inl (fun _ => 0)))]) := hD
  refine va_putF (D := D) (ci := 2) (v := .ref q5) (ty := .array .int) (C := RX2) (T := TX2) (N := 12) hx hb hts (fun _ h9 => (List.mem_cons_of_mem _ (List.mem_append_right _ h9))) tyX2 tyX2_ok nmX2 hown hK hP hD hS 0 rfl rfl 5 (by decide) (hts (Cond.fieldLink RX2 22 "FloodGridModel" "drains" "[I") (List.mem_of_getElem? (i := 9) rfl)) (fun _ h9 => h9) rfl hin rfl (by decide +kernel) rfl rfl (Nat.le_of_ble_eq_true rfl) dX2_init_41 (fun H locs hP hD hS => ?_)
  have hP : va_P D vwCl ([(h, .inr (2, [.int 0, .ref q1, .ref q2, .ref q3, .ref q4, .ref q5, .null, .null, .null, .null, .null, .null])), (q1, .inl (cI, 64, .inl (fun _ => 0))), (q2, .inl (cI, 64, .inl (fun _ => 0))), (q3, .inl (cI, 64, .inl (fun _ => 0))), (q4, .inl (cI, 64, .inl (fun _ => 0))), (q5, .inl (cI, 64, .inl (fun _ => 0)))]) H := hP
  have hD : va_D A ([(h, .inr (2, [.int 0, .ref q1, .ref q2, .ref q3, .ref q4, .ref q5, .null, .null, .null, .null, .null, .null])), (q1, .inl (cI, 64, .inl (fun _ => 0))), (q2, .inl (cI, 64, .inl (fun _ => 0))), (q3, .inl (cI, 64, .inl (fun _ => 0))), (q4, .inl (cI, 64, .inl (fun _ => 0))), (q5, .inl (cI, 64, .inl (fun _ => 0)))]) := hD
  refine lv_aload_n hx hb dX2_init_44 rfl (lv_at hl 0 rfl) ?_
  refine lv_bipush (v := 64) hx hb dX2_init_45 (by decide) ?_
  refine ct_newa (cells1 := 6) (slots1 := 384) hx hb (hts (Cond.arrayClass .int) (List.mem_of_getElem? (i := 4) rfl)) 0 rfl hK hP hD hS hA 64 rfl (by decide) rfl rfl (Nat.le_of_ble_eq_true rfl) (Nat.le_of_ble_eq_true rfl) dX2_init_47 (fun q6 H hP hD hS => ?_)
  have hP : va_P D vwCl ([(h, .inr (2, [.int 0, .ref q1, .ref q2, .ref q3, .ref q4, .ref q5, .null, .null, .null, .null, .null, .null])), (q1, .inl (cI, 64, .inl (fun _ => 0))), (q2, .inl (cI, 64, .inl (fun _ => 0))), (q3, .inl (cI, 64, .inl (fun _ => 0))), (q4, .inl (cI, 64, .inl (fun _ => 0))), (q5, .inl (cI, 64, .inl (fun _ => 0))), (q6, .inl (cI, 64, .inl (fun _ => 0)))]) H := hP
  have hD : va_D A ([(h, .inr (2, [.int 0, .ref q1, .ref q2, .ref q3, .ref q4, .ref q5, .null, .null, .null, .null, .null, .null])), (q1, .inl (cI, 64, .inl (fun _ => 0))), (q2, .inl (cI, 64, .inl (fun _ => 0))), (q3, .inl (cI, 64, .inl (fun _ => 0))), (q4, .inl (cI, 64, .inl (fun _ => 0))), (q5, .inl (cI, 64, .inl (fun _ => 0))), (q6, .inl (cI, 64, .inl (fun _ => 0)))]) := hD
  refine va_putF (D := D) (ci := 2) (v := .ref q6) (ty := .array .int) (C := RX2) (T := TX2) (N := 12) hx hb hts (fun _ h9 => (List.mem_cons_of_mem _ (List.mem_append_right _ h9))) tyX2 tyX2_ok nmX2 hown hK hP hD hS 0 rfl rfl 6 (by decide) (hts (Cond.fieldLink RX2 25 "FloodGridModel" "towns" "[I") (List.mem_of_getElem? (i := 10) rfl)) (fun _ h9 => h9) rfl hin rfl (by decide +kernel) rfl rfl (Nat.le_of_ble_eq_true rfl) dX2_init_49 (fun H locs hP hD hS => ?_)
  have hP : va_P D vwCl ([(h, .inr (2, [.int 0, .ref q1, .ref q2, .ref q3, .ref q4, .ref q5, .ref q6, .null, .null, .null, .null, .null])), (q1, .inl (cI, 64, .inl (fun _ => 0))), (q2, .inl (cI, 64, .inl (fun _ => 0))), (q3, .inl (cI, 64, .inl (fun _ => 0))), (q4, .inl (cI, 64, .inl (fun _ => 0))), (q5, .inl (cI, 64, .inl (fun _ => 0))), (q6, .inl (cI, 64, .inl (fun _ => 0)))]) H := hP
  have hD : va_D A ([(h, .inr (2, [.int 0, .ref q1, .ref q2, .ref q3, .ref q4, .ref q5, .ref q6, .null, .null, .null, .null, .null])), (q1, .inl (cI, 64, .inl (fun _ => 0))), (q2, .inl (cI, 64, .inl (fun _ => 0))), (q3, .inl (cI, 64, .inl (fun _ => 0))), (q4, .inl (cI, 64, .inl (fun _ => 0))), (q5, .inl (cI, 64, .inl (fun _ => 0))), (q6, .inl (cI, 64, .inl (fun _ => 0)))]) := hD
  refine lv_aload_n hx hb dX2_init_52 rfl (lv_at hl 0 rfl) ?_
  refine lv_bipush (v := 12) hx hb dX2_init_53 (by decide) ?_
  refine ct_newa (cells1 := 7) (slots1 := 396) hx hb (hts (Cond.arrayClass .int) (List.mem_of_getElem? (i := 4) rfl)) 0 rfl hK hP hD hS hA 12 rfl (by decide) rfl rfl (Nat.le_of_ble_eq_true rfl) (Nat.le_of_ble_eq_true rfl) dX2_init_55 (fun q7 H hP hD hS => ?_)
  have hP : va_P D vwCl ([(h, .inr (2, [.int 0, .ref q1, .ref q2, .ref q3, .ref q4, .ref q5, .ref q6, .null, .null, .null, .null, .null])), (q1, .inl (cI, 64, .inl (fun _ => 0))), (q2, .inl (cI, 64, .inl (fun _ => 0))), (q3, .inl (cI, 64, .inl (fun _ => 0))), (q4, .inl (cI, 64, .inl (fun _ => 0))), (q5, .inl (cI, 64, .inl (fun _ => 0))), (q6, .inl (cI, 64, .inl (fun _ => 0))), (q7, .inl (cI, 12, .inl (fun _ => 0)))]) H := hP
  have hD : va_D A ([(h, .inr (2, [.int 0, .ref q1, .ref q2, .ref q3, .ref q4, .ref q5, .ref q6, .null, .null, .null, .null, .null])), (q1, .inl (cI, 64, .inl (fun _ => 0))), (q2, .inl (cI, 64, .inl (fun _ => 0))), (q3, .inl (cI, 64, .inl (fun _ => 0))), (q4, .inl (cI, 64, .inl (fun _ => 0))), (q5, .inl (cI, 64, .inl (fun _ => 0))), (q6, .inl (cI, 64, .inl (fun _ => 0))), (q7, .inl (cI, 12, .inl (fun _ => 0)))]) := hD
  refine va_putF (D := D) (ci := 2) (v := .ref q7) (ty := .array .int) (C := RX2) (T := TX2) (N := 12) hx hb hts (fun _ h9 => (List.mem_cons_of_mem _ (List.mem_append_right _ h9))) tyX2 tyX2_ok nmX2 hown hK hP hD hS 0 rfl rfl 7 (by decide) (hts (Cond.fieldLink RX2 28 "FloodGridModel" "table" "[I") (List.mem_of_getElem? (i := 11) rfl)) (fun _ h9 => h9) rfl hin rfl (by decide +kernel) rfl rfl (Nat.le_of_ble_eq_true rfl) dX2_init_57 (fun H locs hP hD hS => ?_)
  have hP : va_P D vwCl ([(h, .inr (2, [.int 0, .ref q1, .ref q2, .ref q3, .ref q4, .ref q5, .ref q6, .ref q7, .null, .null, .null, .null])), (q1, .inl (cI, 64, .inl (fun _ => 0))), (q2, .inl (cI, 64, .inl (fun _ => 0))), (q3, .inl (cI, 64, .inl (fun _ => 0))), (q4, .inl (cI, 64, .inl (fun _ => 0))), (q5, .inl (cI, 64, .inl (fun _ => 0))), (q6, .inl (cI, 64, .inl (fun _ => 0))), (q7, .inl (cI, 12, .inl (fun _ => 0)))]) H := hP
  have hD : va_D A ([(h, .inr (2, [.int 0, .ref q1, .ref q2, .ref q3, .ref q4, .ref q5, .ref q6, .ref q7, .null, .null, .null, .null])), (q1, .inl (cI, 64, .inl (fun _ => 0))), (q2, .inl (cI, 64, .inl (fun _ => 0))), (q3, .inl (cI, 64, .inl (fun _ => 0))), (q4, .inl (cI, 64, .inl (fun _ => 0))), (q5, .inl (cI, 64, .inl (fun _ => 0))), (q6, .inl (cI, 64, .inl (fun _ => 0))), (q7, .inl (cI, 12, .inl (fun _ => 0)))]) := hD
  refine lv_aload_n hx hb dX2_init_60 rfl (lv_at hl 0 rfl) ?_
  refine lv_iconst (v := 4) hx hb dX2_init_61 (by decide) ?_
  refine ct_newa (cells1 := 8) (slots1 := 400) hx hb (hts (Cond.arrayClass .int) (List.mem_of_getElem? (i := 4) rfl)) 0 rfl hK hP hD hS hA 4 rfl (by decide) rfl rfl (Nat.le_of_ble_eq_true rfl) (Nat.le_of_ble_eq_true rfl) dX2_init_62 (fun q8 H hP hD hS => ?_)
  have hP : va_P D vwCl ([(h, .inr (2, [.int 0, .ref q1, .ref q2, .ref q3, .ref q4, .ref q5, .ref q6, .ref q7, .null, .null, .null, .null])), (q1, .inl (cI, 64, .inl (fun _ => 0))), (q2, .inl (cI, 64, .inl (fun _ => 0))), (q3, .inl (cI, 64, .inl (fun _ => 0))), (q4, .inl (cI, 64, .inl (fun _ => 0))), (q5, .inl (cI, 64, .inl (fun _ => 0))), (q6, .inl (cI, 64, .inl (fun _ => 0))), (q7, .inl (cI, 12, .inl (fun _ => 0))), (q8, .inl (cI, 4, .inl (fun _ => 0)))]) H := hP
  have hD : va_D A ([(h, .inr (2, [.int 0, .ref q1, .ref q2, .ref q3, .ref q4, .ref q5, .ref q6, .ref q7, .null, .null, .null, .null])), (q1, .inl (cI, 64, .inl (fun _ => 0))), (q2, .inl (cI, 64, .inl (fun _ => 0))), (q3, .inl (cI, 64, .inl (fun _ => 0))), (q4, .inl (cI, 64, .inl (fun _ => 0))), (q5, .inl (cI, 64, .inl (fun _ => 0))), (q6, .inl (cI, 64, .inl (fun _ => 0))), (q7, .inl (cI, 12, .inl (fun _ => 0))), (q8, .inl (cI, 4, .inl (fun _ => 0)))]) := hD
  refine va_putF (D := D) (ci := 2) (v := .ref q8) (ty := .array .int) (C := RX2) (T := TX2) (N := 12) hx hb hts (fun _ h9 => (List.mem_cons_of_mem _ (List.mem_append_right _ h9))) tyX2 tyX2_ok nmX2 hown hK hP hD hS 0 rfl rfl 8 (by decide) (hts (Cond.fieldLink RX2 31 "FloodGridModel" "numbers" "[I") (List.mem_of_getElem? (i := 12) rfl)) (fun _ h9 => h9) rfl hin rfl (by decide +kernel) rfl rfl (Nat.le_of_ble_eq_true rfl) dX2_init_64 (fun H locs hP hD hS => ?_)
  have hP : va_P D vwCl ([(h, .inr (2, [.int 0, .ref q1, .ref q2, .ref q3, .ref q4, .ref q5, .ref q6, .ref q7, .ref q8, .null, .null, .null])), (q1, .inl (cI, 64, .inl (fun _ => 0))), (q2, .inl (cI, 64, .inl (fun _ => 0))), (q3, .inl (cI, 64, .inl (fun _ => 0))), (q4, .inl (cI, 64, .inl (fun _ => 0))), (q5, .inl (cI, 64, .inl (fun _ => 0))), (q6, .inl (cI, 64, .inl (fun _ => 0))), (q7, .inl (cI, 12, .inl (fun _ => 0))), (q8, .inl (cI, 4, .inl (fun _ => 0)))]) H := hP
  have hD : va_D A ([(h, .inr (2, [.int 0, .ref q1, .ref q2, .ref q3, .ref q4, .ref q5, .ref q6, .ref q7, .ref q8, .null, .null, .null])), (q1, .inl (cI, 64, .inl (fun _ => 0))), (q2, .inl (cI, 64, .inl (fun _ => 0))), (q3, .inl (cI, 64, .inl (fun _ => 0))), (q4, .inl (cI, 64, .inl (fun _ => 0))), (q5, .inl (cI, 64, .inl (fun _ => 0))), (q6, .inl (cI, 64, .inl (fun _ => 0))), (q7, .inl (cI, 12, .inl (fun _ => 0))), (q8, .inl (cI, 4, .inl (fun _ => 0)))]) := hD
  refine lv_aload_n hx hb dX2_init_67 rfl (lv_at hl 0 rfl) ?_
  refine lv_bipush (v := 64) hx hb dX2_init_68 (by decide) ?_
  refine ct_newa (cells1 := 9) (slots1 := 464) hx hb (hts (Cond.arrayClass .int) (List.mem_of_getElem? (i := 4) rfl)) 0 rfl hK hP hD hS hA 64 rfl (by decide) rfl rfl (Nat.le_of_ble_eq_true rfl) (Nat.le_of_ble_eq_true rfl) dX2_init_70 (fun q9 H hP hD hS => ?_)
  have hP : va_P D vwCl ([(h, .inr (2, [.int 0, .ref q1, .ref q2, .ref q3, .ref q4, .ref q5, .ref q6, .ref q7, .ref q8, .null, .null, .null])), (q1, .inl (cI, 64, .inl (fun _ => 0))), (q2, .inl (cI, 64, .inl (fun _ => 0))), (q3, .inl (cI, 64, .inl (fun _ => 0))), (q4, .inl (cI, 64, .inl (fun _ => 0))), (q5, .inl (cI, 64, .inl (fun _ => 0))), (q6, .inl (cI, 64, .inl (fun _ => 0))), (q7, .inl (cI, 12, .inl (fun _ => 0))), (q8, .inl (cI, 4, .inl (fun _ => 0))), (q9, .inl (cI, 64, .inl (fun _ => 0)))]) H := hP
  have hD : va_D A ([(h, .inr (2, [.int 0, .ref q1, .ref q2, .ref q3, .ref q4, .ref q5, .ref q6, .ref q7, .ref q8, .null, .null, .null])), (q1, .inl (cI, 64, .inl (fun _ => 0))), (q2, .inl (cI, 64, .inl (fun _ => 0))), (q3, .inl (cI, 64, .inl (fun _ => 0))), (q4, .inl (cI, 64, .inl (fun _ => 0))), (q5, .inl (cI, 64, .inl (fun _ => 0))), (q6, .inl (cI, 64, .inl (fun _ => 0))), (q7, .inl (cI, 12, .inl (fun _ => 0))), (q8, .inl (cI, 4, .inl (fun _ => 0))), (q9, .inl (cI, 64, .inl (fun _ => 0)))]) := hD
  refine va_putF (D := D) (ci := 2) (v := .ref q9) (ty := .array .int) (C := RX2) (T := TX2) (N := 12) hx hb hts (fun _ h9 => (List.mem_cons_of_mem _ (List.mem_append_right _ h9))) tyX2 tyX2_ok nmX2 hown hK hP hD hS 0 rfl rfl 9 (by decide) (hts (Cond.fieldLink RX2 34 "FloodGridModel" "flow" "[I") (List.mem_of_getElem? (i := 13) rfl)) (fun _ h9 => h9) rfl hin rfl (by decide +kernel) rfl rfl (Nat.le_of_ble_eq_true rfl) dX2_init_72 (fun H locs hP hD hS => ?_)
  have hP : va_P D vwCl ([(h, .inr (2, [.int 0, .ref q1, .ref q2, .ref q3, .ref q4, .ref q5, .ref q6, .ref q7, .ref q8, .ref q9, .null, .null])), (q1, .inl (cI, 64, .inl (fun _ => 0))), (q2, .inl (cI, 64, .inl (fun _ => 0))), (q3, .inl (cI, 64, .inl (fun _ => 0))), (q4, .inl (cI, 64, .inl (fun _ => 0))), (q5, .inl (cI, 64, .inl (fun _ => 0))), (q6, .inl (cI, 64, .inl (fun _ => 0))), (q7, .inl (cI, 12, .inl (fun _ => 0))), (q8, .inl (cI, 4, .inl (fun _ => 0))), (q9, .inl (cI, 64, .inl (fun _ => 0)))]) H := hP
  have hD : va_D A ([(h, .inr (2, [.int 0, .ref q1, .ref q2, .ref q3, .ref q4, .ref q5, .ref q6, .ref q7, .ref q8, .ref q9, .null, .null])), (q1, .inl (cI, 64, .inl (fun _ => 0))), (q2, .inl (cI, 64, .inl (fun _ => 0))), (q3, .inl (cI, 64, .inl (fun _ => 0))), (q4, .inl (cI, 64, .inl (fun _ => 0))), (q5, .inl (cI, 64, .inl (fun _ => 0))), (q6, .inl (cI, 64, .inl (fun _ => 0))), (q7, .inl (cI, 12, .inl (fun _ => 0))), (q8, .inl (cI, 4, .inl (fun _ => 0))), (q9, .inl (cI, 64, .inl (fun _ => 0)))]) := hD
  refine lv_aload_n hx hb dX2_init_75 rfl (lv_at hl 0 rfl) ?_
  refine lv_bipush (v := 64) hx hb dX2_init_76 (by decide) ?_
  refine ct_newa (cells1 := 10) (slots1 := 528) hx hb (hts (Cond.arrayClass .int) (List.mem_of_getElem? (i := 4) rfl)) 0 rfl hK hP hD hS hA 64 rfl (by decide) rfl rfl (Nat.le_of_ble_eq_true rfl) (Nat.le_of_ble_eq_true rfl) dX2_init_78 (fun q10 H hP hD hS => ?_)
  have hP : va_P D vwCl ([(h, .inr (2, [.int 0, .ref q1, .ref q2, .ref q3, .ref q4, .ref q5, .ref q6, .ref q7, .ref q8, .ref q9, .null, .null])), (q1, .inl (cI, 64, .inl (fun _ => 0))), (q2, .inl (cI, 64, .inl (fun _ => 0))), (q3, .inl (cI, 64, .inl (fun _ => 0))), (q4, .inl (cI, 64, .inl (fun _ => 0))), (q5, .inl (cI, 64, .inl (fun _ => 0))), (q6, .inl (cI, 64, .inl (fun _ => 0))), (q7, .inl (cI, 12, .inl (fun _ => 0))), (q8, .inl (cI, 4, .inl (fun _ => 0))), (q9, .inl (cI, 64, .inl (fun _ => 0))), (q10, .inl (cI, 64, .inl (fun _ => 0)))]) H := hP
  have hD : va_D A ([(h, .inr (2, [.int 0, .ref q1, .ref q2, .ref q3, .ref q4, .ref q5, .ref q6, .ref q7, .ref q8, .ref q9, .null, .null])), (q1, .inl (cI, 64, .inl (fun _ => 0))), (q2, .inl (cI, 64, .inl (fun _ => 0))), (q3, .inl (cI, 64, .inl (fun _ => 0))), (q4, .inl (cI, 64, .inl (fun _ => 0))), (q5, .inl (cI, 64, .inl (fun _ => 0))), (q6, .inl (cI, 64, .inl (fun _ => 0))), (q7, .inl (cI, 12, .inl (fun _ => 0))), (q8, .inl (cI, 4, .inl (fun _ => 0))), (q9, .inl (cI, 64, .inl (fun _ => 0))), (q10, .inl (cI, 64, .inl (fun _ => 0)))]) := hD
  refine va_putF (D := D) (ci := 2) (v := .ref q10) (ty := .array .int) (C := RX2) (T := TX2) (N := 12) hx hb hts (fun _ h9 => (List.mem_cons_of_mem _ (List.mem_append_right _ h9))) tyX2 tyX2_ok nmX2 hown hK hP hD hS 0 rfl rfl 10 (by decide) (hts (Cond.fieldLink RX2 37 "FloodGridModel" "lake" "[I") (List.mem_of_getElem? (i := 14) rfl)) (fun _ h9 => h9) rfl hin rfl (by decide +kernel) rfl rfl (Nat.le_of_ble_eq_true rfl) dX2_init_80 (fun H locs hP hD hS => ?_)
  have hP : va_P D vwCl ([(h, .inr (2, [.int 0, .ref q1, .ref q2, .ref q3, .ref q4, .ref q5, .ref q6, .ref q7, .ref q8, .ref q9, .ref q10, .null])), (q1, .inl (cI, 64, .inl (fun _ => 0))), (q2, .inl (cI, 64, .inl (fun _ => 0))), (q3, .inl (cI, 64, .inl (fun _ => 0))), (q4, .inl (cI, 64, .inl (fun _ => 0))), (q5, .inl (cI, 64, .inl (fun _ => 0))), (q6, .inl (cI, 64, .inl (fun _ => 0))), (q7, .inl (cI, 12, .inl (fun _ => 0))), (q8, .inl (cI, 4, .inl (fun _ => 0))), (q9, .inl (cI, 64, .inl (fun _ => 0))), (q10, .inl (cI, 64, .inl (fun _ => 0)))]) H := hP
  have hD : va_D A ([(h, .inr (2, [.int 0, .ref q1, .ref q2, .ref q3, .ref q4, .ref q5, .ref q6, .ref q7, .ref q8, .ref q9, .ref q10, .null])), (q1, .inl (cI, 64, .inl (fun _ => 0))), (q2, .inl (cI, 64, .inl (fun _ => 0))), (q3, .inl (cI, 64, .inl (fun _ => 0))), (q4, .inl (cI, 64, .inl (fun _ => 0))), (q5, .inl (cI, 64, .inl (fun _ => 0))), (q6, .inl (cI, 64, .inl (fun _ => 0))), (q7, .inl (cI, 12, .inl (fun _ => 0))), (q8, .inl (cI, 4, .inl (fun _ => 0))), (q9, .inl (cI, 64, .inl (fun _ => 0))), (q10, .inl (cI, 64, .inl (fun _ => 0)))]) := hD
  refine lv_aload_n hx hb dX2_init_83 rfl (lv_at hl 0 rfl) ?_
  refine lv_bipush (v := 64) hx hb dX2_init_84 (by decide) ?_
  refine ct_newa (cells1 := 11) (slots1 := 592) hx hb (hts (Cond.arrayClass .int) (List.mem_of_getElem? (i := 4) rfl)) 0 rfl hK hP hD hS hA 64 rfl (by decide) rfl rfl (Nat.le_of_ble_eq_true rfl) (Nat.le_of_ble_eq_true rfl) dX2_init_86 (fun q11 H hP hD hS => ?_)
  have hP : va_P D vwCl ([(h, .inr (2, [.int 0, .ref q1, .ref q2, .ref q3, .ref q4, .ref q5, .ref q6, .ref q7, .ref q8, .ref q9, .ref q10, .null])), (q1, .inl (cI, 64, .inl (fun _ => 0))), (q2, .inl (cI, 64, .inl (fun _ => 0))), (q3, .inl (cI, 64, .inl (fun _ => 0))), (q4, .inl (cI, 64, .inl (fun _ => 0))), (q5, .inl (cI, 64, .inl (fun _ => 0))), (q6, .inl (cI, 64, .inl (fun _ => 0))), (q7, .inl (cI, 12, .inl (fun _ => 0))), (q8, .inl (cI, 4, .inl (fun _ => 0))), (q9, .inl (cI, 64, .inl (fun _ => 0))), (q10, .inl (cI, 64, .inl (fun _ => 0))), (q11, .inl (cI, 64, .inl (fun _ => 0)))]) H := hP
  have hD : va_D A ([(h, .inr (2, [.int 0, .ref q1, .ref q2, .ref q3, .ref q4, .ref q5, .ref q6, .ref q7, .ref q8, .ref q9, .ref q10, .null])), (q1, .inl (cI, 64, .inl (fun _ => 0))), (q2, .inl (cI, 64, .inl (fun _ => 0))), (q3, .inl (cI, 64, .inl (fun _ => 0))), (q4, .inl (cI, 64, .inl (fun _ => 0))), (q5, .inl (cI, 64, .inl (fun _ => 0))), (q6, .inl (cI, 64, .inl (fun _ => 0))), (q7, .inl (cI, 12, .inl (fun _ => 0))), (q8, .inl (cI, 4, .inl (fun _ => 0))), (q9, .inl (cI, 64, .inl (fun _ => 0))), (q10, .inl (cI, 64, .inl (fun _ => 0))), (q11, .inl (cI, 64, .inl (fun _ => 0)))]) := hD
  refine va_putF (D := D) (ci := 2) (v := .ref q11) (ty := .array .int) (C := RX2) (T := TX2) (N := 12) hx hb hts (fun _ h9 => (List.mem_cons_of_mem _ (List.mem_append_right _ h9))) tyX2 tyX2_ok nmX2 hown hK hP hD hS 0 rfl rfl 11 (by decide) (hts (Cond.fieldLink RX2 40 "FloodGridModel" "row" "[I") (List.mem_of_getElem? (i := 15) rfl)) (fun _ h9 => h9) rfl hin rfl (by decide +kernel) rfl rfl (Nat.le_of_ble_eq_true rfl) dX2_init_88 (fun H locs hP hD hS => ?_)
  have hP : va_P D vwCl ([(h, .inr (2, [.int 0, .ref q1, .ref q2, .ref q3, .ref q4, .ref q5, .ref q6, .ref q7, .ref q8, .ref q9, .ref q10, .ref q11])), (q1, .inl (cI, 64, .inl (fun _ => 0))), (q2, .inl (cI, 64, .inl (fun _ => 0))), (q3, .inl (cI, 64, .inl (fun _ => 0))), (q4, .inl (cI, 64, .inl (fun _ => 0))), (q5, .inl (cI, 64, .inl (fun _ => 0))), (q6, .inl (cI, 64, .inl (fun _ => 0))), (q7, .inl (cI, 12, .inl (fun _ => 0))), (q8, .inl (cI, 4, .inl (fun _ => 0))), (q9, .inl (cI, 64, .inl (fun _ => 0))), (q10, .inl (cI, 64, .inl (fun _ => 0))), (q11, .inl (cI, 64, .inl (fun _ => 0)))]) H := hP
  have hD : va_D A ([(h, .inr (2, [.int 0, .ref q1, .ref q2, .ref q3, .ref q4, .ref q5, .ref q6, .ref q7, .ref q8, .ref q9, .ref q10, .ref q11])), (q1, .inl (cI, 64, .inl (fun _ => 0))), (q2, .inl (cI, 64, .inl (fun _ => 0))), (q3, .inl (cI, 64, .inl (fun _ => 0))), (q4, .inl (cI, 64, .inl (fun _ => 0))), (q5, .inl (cI, 64, .inl (fun _ => 0))), (q6, .inl (cI, 64, .inl (fun _ => 0))), (q7, .inl (cI, 12, .inl (fun _ => 0))), (q8, .inl (cI, 4, .inl (fun _ => 0))), (q9, .inl (cI, 64, .inl (fun _ => 0))), (q10, .inl (cI, 64, .inl (fun _ => 0))), (q11, .inl (cI, 64, .inl (fun _ => 0)))]) := hD
  refine lv_iconst (v := 0) hx hb dX2_init_91 (by decide) ?_
  refine lv_istore_n (lv' := [(1, .int 0), (0, .ref h)]) hx hb dX2_init_92 rfl hl (by decide) rfl (fun ls hl => ?_)
  have loop : ∀ (fu i : Nat), i + fu = 64 → ∀ (g : Nat → Int32) (H : Heap) (locs : List Loc) (ls : Array Slot), (g = q_mix i (fun _ => 10) (fun _ => 0)) → va_P D vwCl ([(h, .inr (2, [.int 0, .ref q1, .ref q2, .ref q3, .ref q4, .ref q5, .ref q6, .ref q7, .ref q8, .ref q9, .ref q10, .ref q11])), (q1, .inl (cI, 64, .inl g)), (q2, .inl (cI, 64, .inl (fun _ => 0))), (q3, .inl (cI, 64, .inl (fun _ => 0))), (q4, .inl (cI, 64, .inl (fun _ => 0))), (q5, .inl (cI, 64, .inl (fun _ => 0))), (q6, .inl (cI, 64, .inl (fun _ => 0))), (q7, .inl (cI, 12, .inl (fun _ => 0))), (q8, .inl (cI, 4, .inl (fun _ => 0))), (q9, .inl (cI, 64, .inl (fun _ => 0))), (q10, .inl (cI, 64, .inl (fun _ => 0))), (q11, .inl (cI, 64, .inl (fun _ => 0)))]) H → va_D A ([(h, .inr (2, [.int 0, .ref q1, .ref q2, .ref q3, .ref q4, .ref q5, .ref q6, .ref q7, .ref q8, .ref q9, .ref q10, .ref q11])), (q1, .inl (cI, 64, .inl g)), (q2, .inl (cI, 64, .inl (fun _ => 0))), (q3, .inl (cI, 64, .inl (fun _ => 0))), (q4, .inl (cI, 64, .inl (fun _ => 0))), (q5, .inl (cI, 64, .inl (fun _ => 0))), (q6, .inl (cI, 64, .inl (fun _ => 0))), (q7, .inl (cI, 12, .inl (fun _ => 0))), (q8, .inl (cI, 4, .inl (fun _ => 0))), (q9, .inl (cI, 64, .inl (fun _ => 0))), (q10, .inl (cI, 64, .inl (fun _ => 0))), (q11, .inl (cI, 64, .inl (fun _ => 0)))]) → va_S A s.heap H locs → lv_has ls 2 [(0, .ref h), (1, .int (nI i))] → W p l e rm_X2_init s m args below meth c H locs 11 592 Q (F0 m 93 ls []) := by
    intro fu
    induction fu with
    | zero =>
      intro i hi g H locs ls hg hP hD hS hl
      obtain rfl : 64 = i := by omega
      refine lv_iload_n hx hb dX2_init_93 rfl (lv_at hl 1 rfl) ?_
      refine lv_bipush (v := 64) hx hb dX2_init_94 (by decide) ?_
      refine lv_icmp_ge (tgt := 113) hx hb dX2_init_96 (by decide) (fun hc => ?_) (fun hc => ?_)
      · skip
        obtain ⟨hP, hD⟩ := ct_ext hP hD 1 rfl (fun _ => 10) (fun j hj => by rw [hg]; exact q_mix_lt hj) (ws1 := ([(h, .inr (2, [.int 0, .ref q1, .ref q2, .ref q3, .ref q4, .ref q5, .ref q6, .ref q7, .ref q8, .ref q9, .ref q10, .ref q11])), (q1, .inl (cI, 64, .inl (fun _ => 10))), (q2, .inl (cI, 64, .inl (fun _ => 0))), (q3, .inl (cI, 64, .inl (fun _ => 0))), (q4, .inl (cI, 64, .inl (fun _ => 0))), (q5, .inl (cI, 64, .inl (fun _ => 0))), (q6, .inl (cI, 64, .inl (fun _ => 0))), (q7, .inl (cI, 12, .inl (fun _ => 0))), (q8, .inl (cI, 4, .inl (fun _ => 0))), (q9, .inl (cI, 64, .inl (fun _ => 0))), (q10, .inl (cI, 64, .inl (fun _ => 0))), (q11, .inl (cI, 64, .inl (fun _ => 0)))])) rfl
        have e0 : (fun _ : Nat => (0 : Int32)) = q_num 0 0 0 0 := (by funext j; match j with | 0 => rfl | 1 => rfl | 2 => rfl | 3 => rfl | n + 4 => rfl)
        obtain ⟨hP, hD⟩ := ct_ext hP hD 8 rfl (q_num 0 0 0 0) (fun j hj => congrFun e0 j) (ws1 := ([(h, .inr (2, [.int 0, .ref q1, .ref q2, .ref q3, .ref q4, .ref q5, .ref q6, .ref q7, .ref q8, .ref q9, .ref q10, .ref q11])), (q1, .inl (cI, 64, .inl (fun _ => 10))), (q2, .inl (cI, 64, .inl (fun _ => 0))), (q3, .inl (cI, 64, .inl (fun _ => 0))), (q4, .inl (cI, 64, .inl (fun _ => 0))), (q5, .inl (cI, 64, .inl (fun _ => 0))), (q6, .inl (cI, 64, .inl (fun _ => 0))), (q7, .inl (cI, 12, .inl (fun _ => 0))), (q8, .inl (cI, 4, .inl (q_num 0 0 0 0))), (q9, .inl (cI, 64, .inl (fun _ => 0))), (q10, .inl (cI, 64, .inl (fun _ => 0))), (q11, .inl (cI, 64, .inl (fun _ => 0)))])) rfl
        exact fin (fun k => match k with | 1 => q1 | 2 => q2 | 3 => q3 | 4 => q4 | 5 => q5 | 6 => q6 | 7 => q7 | 8 => q8 | 9 => q9 | 10 => q10 | _ => q11) H locs 11 592 113 ls dX2_init_113 trivial hP hD hS (Nat.le_of_ble_eq_true rfl) (Nat.le_of_ble_eq_true rfl)
      · skip
        exact absurd (show (64 : Int32) ≤ nI 64 by decide) hc
    | succ fu ih =>
      intro i hi g H locs ls hg hP hD hS hl
      have hlt : i < 64 := by omega
      refine lv_iload_n hx hb dX2_init_93 rfl (lv_at hl 1 rfl) ?_
      refine lv_bipush (v := 64) hx hb dX2_init_94 (by decide) ?_
      refine lv_icmp_ge (tgt := 113) hx hb dX2_init_96 (by decide) (fun hc => ?_) (fun hc => ?_)
      · skip
        exact absurd hc (nI_ge (b := 64) hlt (by decide))
      · skip
        refine lv_aload_n hx hb dX2_init_99 rfl (lv_at hl 0 rfl) ?_
        refine va_get (D := D) (ci := 2) (v := .ref q1) (C := RX2) (T := TX2) (N := 12) hx hb hts (fun _ h9 => (List.mem_cons_of_mem _ (List.mem_append_right _ h9))) hown hK hP 0 rfl rfl 1 (by decide) (hts (Cond.fieldLink RX2 9 "FloodGridModel" "heights" "[I") (List.mem_of_getElem? (i := 5) rfl)) (fun _ h9 => h9) rfl dX2_init_100 ?_
        refine lv_iload_n hx hb dX2_init_103 rfl (lv_at hl 1 rfl) ?_
        refine lv_bipush (v := 10) hx hb dX2_init_104 (by decide) ?_
        refine ct_iast (g := upd g i 10) (ws1 := ([(h, .inr (2, [.int 0, .ref q1, .ref q2, .ref q3, .ref q4, .ref q5, .ref q6, .ref q7, .ref q8, .ref q9, .ref q10, .ref q11])), (q1, .inl (cI, 64, .inl (upd g i 10))), (q2, .inl (cI, 64, .inl (fun _ => 0))), (q3, .inl (cI, 64, .inl (fun _ => 0))), (q4, .inl (cI, 64, .inl (fun _ => 0))), (q5, .inl (cI, 64, .inl (fun _ => 0))), (q6, .inl (cI, 64, .inl (fun _ => 0))), (q7, .inl (cI, 12, .inl (fun _ => 0))), (q8, .inl (cI, 4, .inl (fun _ => 0))), (q9, .inl (cI, 64, .inl (fun _ => 0))), (q10, .inl (cI, 64, .inl (fun _ => 0))), (q11, .inl (cI, 64, .inl (fun _ => 0)))])) hx hb hK hP hD hS 1 0 rfl rfl i rfl (by omega) (by decide) rfl rfl dX2_init_106 (fun H locs hP hD hS => ?_)
        refine lv_iinc (v := (nI (i + 1))) (lv' := [(1, .int (nI (i + 1))), (0, .ref h)]) hx hb dX2_init_107 hl (k := 1) rfl (nI_1 i) (by decide) rfl (fun ls hl => ?_)
        refine lv_goto (tgt := 93) hx hb dX2_init_110 (by decide) ?_
        exact ih (i + 1) (by omega) (upd g i 10) H locs ls (by rw [hg]; exact q_mix_up rfl) hP hD hS (lv_sub hl [1, 0] rfl)
  exact loop 64 0 (by omega) (fun _ => 0) H locs ls (q_mix_0 _ _).symm hP hD hS (lv_sub hl [1, 0] rfl)
