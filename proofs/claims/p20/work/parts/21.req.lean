abbrev rm_X1_requireIndex : Room := { frames := 6, cells := 1, slots := 6, locals := 90 }
set_option maxHeartbeats 4000000 in
set_option maxRecDepth 100000 in
theorem c_reqI (l : Launch) (hst : l.stackTraces = false) (D : va_G) (cI : ClassId) (sa1 sa2 : Nat) (nu le mo : Int32) : cx_v (S := Unit) l D yX1_requireIndex wsX1_requireIndex rm_X1_requireIndex [.int nu, .int le, .int mo] [] [(cI, .int)] sa1 sa2 (fun _ => le ≤ nu ∧ nu ≤ mo) (fun _ => []) (fun E => E = "java/lang/IndexOutOfBoundsException" ∧ ¬ (le ≤ nu ∧ nu ≤ mo)) := by
  intro sz
  refine vx_ofW (cc := cX1_requireIndex) (maxL := 3) (ret := none) (by decide) rfl ?_
  intro p e s m args below meth c s₁ B hml htab hv
  obtain ⟨rfl, hsz, hP, hK, hD0, hT⟩ := hv
  subst hsz
  have hD := hD0.self (sz := s.heap.size)
  have hl := lv_entry [.int nu, .int le, .int mo] (n := 3) (Nat.le_of_ble_eq_true rfl)
  rw [lg_entry_eq]
  have hx := B.exec
  have hb := B.bytes
  have hr := B.returns
  have hlocks := B.notSynchronized
  have hts := atoms_spec (ws := wsX1_requireIndex) B.pre
  have hown : s.vm.findClass RX1 = some m.cls := findClass_of_methodNamed B.named
  generalize (lg_sl [.int nu, .int le, .int mo] ++ List.replicate (3 - (lg_sl [.int nu, .int le, .int mo]).length) Slot.unset).toArray = ls at hl ⊢
  have hl : lv_has ls 3 [(0, .int nu), (1, .int le), (2, .int mo)] := hl
  have hS : va_S (va_A [] s.heap.size) s.heap s.heap [] := va_S.rf
  have thr : ¬ (le ≤ nu ∧ nu ≤ mo) → W p l e (headSpec wsX1_requireIndex rm_X1_requireIndex).room s m #[.int nu, .int le, .int mo] below meth c s.heap [] 0 0 (vx_MQ below (ct_Qv D [(cI, .int)] (fun _ : Unit => le ≤ nu ∧ nu ≤ mo) (fun _ => []) (va_A [] s.heap.size)) (cx_X D [(cI, .int)] [] (fun E => E = "java/lang/IndexOutOfBoundsException" ∧ ¬ (le ≤ nu ∧ nu ≤ mo)) (va_A [] s.heap.size)) #[.int nu, .int le, .int mo] s rm_X1_requireIndex.cells rm_X1_requireIndex.slots (va_A [] s.heap.size)) (F0 m 10 ls []) := by
    intro hno
    have hat : ∀ w ∈ vx_atS RX1 103 "java/lang/IndexOutOfBoundsException" ["java/lang/RuntimeException", "java/lang/Exception"], w.before #[.int nu, .int le, .int mo] s = true :=
      vx_hat (fun w hw => hts w (List.mem_cons_of_mem _ (List.mem_append_right _ hw))) (B := [.declares (Bundle.initS "java/lang/RuntimeException"), .declares (Bundle.initS "java/lang/Exception"), .declares (Bundle.initS "java/lang/Throwable"), .castable "java/lang/IndexOutOfBoundsException" "java/lang/IndexOutOfBoundsException"]) (by decide +kernel) (vx_c (va_Nw.use rfl hT.1.2.2.2.2.1) (vx_c (va_Nw.use rfl hT.1.2.2.2.2.2.1) (vx_c (va_Nw.use rfl hT.1.2.2.2.2.2.2) (vx_c (va_Nw.use rfl hT.1.2.2.1) vx_n))))
    refine vx_throwS (own := RX1) (cls := "java/lang/IndexOutOfBoundsException") (text := "no such cell, hour or number") (names := ["java/lang/RuntimeException", "java/lang/Exception"]) (ik := 99) (is := 101) (ic := 103) hx hb hst hown (by decide +kernel) (by decide +kernel) (hts (.classLink RX1 99 "java/lang/IndexOutOfBoundsException") (List.mem_of_getElem? (i := 1) rfl)) (hts (.initialized "java/lang/IndexOutOfBoundsException") (List.mem_of_getElem? (i := 2) rfl)) hT.1.1 hat (by decide +kernel) hT.2.1 hT.2.2 hS (by rw [hml]; exact hl.1) dX1_requireIndex_10 dX1_requireIndex_13 dX1_requireIndex_14 dX1_requireIndex_16 dX1_requireIndex_19 (fun z hz => (htab z hz).elim) (Nat.lt_of_succ_le (Nat.le_of_ble_eq_true rfl)) (Nat.le_of_ble_eq_true rfl) (Nat.le_of_ble_eq_true rfl) (Nat.le_of_ble_eq_true rfl) hlocks ?_ (fun z hz => absurd hz List.not_mem_nil) (Nat.le_of_ble_eq_true rfl) (Nat.le_of_ble_eq_true rfl)
    intro t hvm hsz hk
    exact ⟨(), trivial, ⟨⟨rfl, hno⟩, fun k q h => by simp at h, va_K.moved hvm hK, ⟨fun i j p q h => by simp at h, fun k q h => by simp at h⟩⟩, hsz, fun q h1 _ => hk q h1⟩
  refine lv_iload_n hx hb dX1_requireIndex_0 rfl (lv_at hl 0 rfl) ?_
  refine lv_iload_n hx hb dX1_requireIndex_1 rfl (lv_at hl 1 rfl) ?_
  refine lv_icmp_lt (tgt := 10) hx hb dX1_requireIndex_2 (by decide) (fun hc => ?_) (fun hc => ?_)
  · exact thr (fun z => absurd z.1 (Int32.not_le.mpr hc))
  · refine lv_iload_n hx hb dX1_requireIndex_5 rfl (lv_at hl 0 rfl) ?_
    refine lv_iload_n hx hb dX1_requireIndex_6 rfl (lv_at hl 2 rfl) ?_
    refine lv_icmp_le (tgt := 20) hx hb dX1_requireIndex_7 (by decide) (fun hc2 => ?_) (fun hc2 => ?_)
    · refine vx_ret (W.widen (Nat.le_of_ble_eq_true rfl) (Nat.le_of_ble_eq_true rfl) (W.vret hx hb hr (fun t ht hW => ⟨⟨(), rfl, ⟨Int32.not_lt.mp hc, hc2⟩, fun k q h => by simp at h, va_K.moved hW.alike hK, ⟨fun i j p q h => by simp at h, fun k q h => by simp at h⟩⟩, hS.F ht⟩) hS.2.2 dX1_requireIndex_20 hlocks))
    · exact thr (fun z => absurd z.2 hc2)
abbrev rm_X1_requireWithin : Room := { frames := 6, cells := 1, slots := 6, locals := 90 }
set_option maxHeartbeats 4000000 in
set_option maxRecDepth 100000 in
theorem c_reqW (l : Launch) (hst : l.stackTraces = false) (D : va_G) (cI : ClassId) (sa1 sa2 : Nat) (nu le mo : Int32) : cx_v (S := Unit) l D yX1_requireWithin wsX1_requireWithin rm_X1_requireWithin [.int nu, .int le, .int mo] [] [(cI, .int)] sa1 sa2 (fun _ => le ≤ nu ∧ nu ≤ mo) (fun _ => []) (fun E => E = "java/lang/IllegalArgumentException" ∧ ¬ (le ≤ nu ∧ nu ≤ mo)) := by
  intro sz
  refine vx_ofW (cc := cX1_requireWithin) (maxL := 3) (ret := none) (by decide) rfl ?_
  intro p e s m args below meth c s₁ B hml htab hv
  obtain ⟨rfl, hsz, hP, hK, hD0, hT⟩ := hv
  subst hsz
  have hD := hD0.self (sz := s.heap.size)
  have hl := lv_entry [.int nu, .int le, .int mo] (n := 3) (Nat.le_of_ble_eq_true rfl)
  rw [lg_entry_eq]
  have hx := B.exec
  have hb := B.bytes
  have hr := B.returns
  have hlocks := B.notSynchronized
  have hts := atoms_spec (ws := wsX1_requireWithin) B.pre
  have hown : s.vm.findClass RX1 = some m.cls := findClass_of_methodNamed B.named
  generalize (lg_sl [.int nu, .int le, .int mo] ++ List.replicate (3 - (lg_sl [.int nu, .int le, .int mo]).length) Slot.unset).toArray = ls at hl ⊢
  have hl : lv_has ls 3 [(0, .int nu), (1, .int le), (2, .int mo)] := hl
  have hS : va_S (va_A [] s.heap.size) s.heap s.heap [] := va_S.rf
  have thr : ¬ (le ≤ nu ∧ nu ≤ mo) → W p l e (headSpec wsX1_requireWithin rm_X1_requireWithin).room s m #[.int nu, .int le, .int mo] below meth c s.heap [] 0 0 (vx_MQ below (ct_Qv D [(cI, .int)] (fun _ : Unit => le ≤ nu ∧ nu ≤ mo) (fun _ => []) (va_A [] s.heap.size)) (cx_X D [(cI, .int)] [] (fun E => E = "java/lang/IllegalArgumentException" ∧ ¬ (le ≤ nu ∧ nu ≤ mo)) (va_A [] s.heap.size)) #[.int nu, .int le, .int mo] s rm_X1_requireWithin.cells rm_X1_requireWithin.slots (va_A [] s.heap.size)) (F0 m 10 ls []) := by
    intro hno
    have hat : ∀ w ∈ vx_atS RX1 110 "java/lang/IllegalArgumentException" ["java/lang/RuntimeException", "java/lang/Exception"], w.before #[.int nu, .int le, .int mo] s = true :=
      vx_hat (fun w hw => hts w (List.mem_cons_of_mem _ (List.mem_append_right _ hw))) (B := [.declares (Bundle.initS "java/lang/RuntimeException"), .declares (Bundle.initS "java/lang/Exception"), .declares (Bundle.initS "java/lang/Throwable"), .castable "java/lang/IllegalArgumentException" "java/lang/IllegalArgumentException"]) (by decide +kernel) (vx_c (va_Nw.use rfl hT.1.2.2.2.2.1) (vx_c (va_Nw.use rfl hT.1.2.2.2.2.2.1) (vx_c (va_Nw.use rfl hT.1.2.2.2.2.2.2) (vx_c (va_Nw.use rfl hT.1.2.2.2.1) vx_n))))
    refine vx_throwS (own := RX1) (cls := "java/lang/IllegalArgumentException") (text := "a number out of its bounds") (names := ["java/lang/RuntimeException", "java/lang/Exception"]) (ik := 106) (is := 108) (ic := 110) hx hb hst hown (by decide +kernel) (by decide +kernel) (hts (.classLink RX1 106 "java/lang/IllegalArgumentException") (List.mem_of_getElem? (i := 1) rfl)) (hts (.initialized "java/lang/IllegalArgumentException") (List.mem_of_getElem? (i := 2) rfl)) hT.1.2.1 hat (by decide +kernel) hT.2.1 hT.2.2 hS (by rw [hml]; exact hl.1) dX1_requireWithin_10 dX1_requireWithin_13 dX1_requireWithin_14 dX1_requireWithin_16 dX1_requireWithin_19 (fun z hz => (htab z hz).elim) (Nat.lt_of_succ_le (Nat.le_of_ble_eq_true rfl)) (Nat.le_of_ble_eq_true rfl) (Nat.le_of_ble_eq_true rfl) (Nat.le_of_ble_eq_true rfl) hlocks ?_ (fun z hz => absurd hz List.not_mem_nil) (Nat.le_of_ble_eq_true rfl) (Nat.le_of_ble_eq_true rfl)
    intro t hvm hsz hk
    exact ⟨(), trivial, ⟨⟨rfl, hno⟩, fun k q h => by simp at h, va_K.moved hvm hK, ⟨fun i j p q h => by simp at h, fun k q h => by simp at h⟩⟩, hsz, fun q h1 _ => hk q h1⟩
  refine lv_iload_n hx hb dX1_requireWithin_0 rfl (lv_at hl 0 rfl) ?_
  refine lv_iload_n hx hb dX1_requireWithin_1 rfl (lv_at hl 1 rfl) ?_
  refine lv_icmp_lt (tgt := 10) hx hb dX1_requireWithin_2 (by decide) (fun hc => ?_) (fun hc => ?_)
  · exact thr (fun z => absurd z.1 (Int32.not_le.mpr hc))
  · refine lv_iload_n hx hb dX1_requireWithin_5 rfl (lv_at hl 0 rfl) ?_
    refine lv_iload_n hx hb dX1_requireWithin_6 rfl (lv_at hl 2 rfl) ?_
    refine lv_icmp_le (tgt := 20) hx hb dX1_requireWithin_7 (by decide) (fun hc2 => ?_) (fun hc2 => ?_)
    · refine vx_ret (W.widen (Nat.le_of_ble_eq_true rfl) (Nat.le_of_ble_eq_true rfl) (W.vret hx hb hr (fun t ht hW => ⟨⟨(), rfl, ⟨Int32.not_lt.mp hc, hc2⟩, fun k q h => by simp at h, va_K.moved hW.alike hK, ⟨fun i j p q h => by simp at h, fun k q h => by simp at h⟩⟩, hS.F ht⟩) hS.2.2 dX1_requireWithin_20 hlocks))
    · exact thr (fun z => absurd z.2 hc2)
