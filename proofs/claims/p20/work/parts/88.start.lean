theorem st_arrI {A : Array Value} {U : State} (h : (Cond.arrayClass .int).before A U = true) : ∃ cI : ClassId, ArrOfT U cI .int ∧ va_RA U cI .int := by
  obtain ⟨cA, kA, comp, h1, h2, h3⟩ := Cond.arrayClass_spec h
  exact ⟨cA, fun n z => ⟨fun k h => (by cases h), kA, h2, comp, h3⟩, h1⟩
theorem st_arrsI {A : Array Value} {U : State} (h : (Cond.arrayOver (.array .int)).before A U = true) : ∃ cJ : ClassId, ArrOfT U cJ (.array .int) ∧ va_RA U cJ (.array .int) := by
  obtain ⟨comp, c, k, h1, h2, h3, h4, h5⟩ := arrayOverA_spec h
  exact ⟨c, fun n z => ⟨fun k h => (by cases h), k, h3, comp, h4⟩, h5⟩
theorem st_arrZ {A : Array Value} {U : State} (h : (Cond.arrayClass .boolean).before A U = true) : ∃ cI : ClassId, ArrOfT U cI .boolean ∧ va_RA U cI .boolean := by
  obtain ⟨cA, kA, comp, h1, h2, h3⟩ := Cond.arrayClass_spec h
  exact ⟨cA, fun n z => ⟨fun k h => (by cases h), kA, h2, comp, h3⟩, h1⟩
theorem st_arrsZ {A : Array Value} {U : State} (h : (Cond.arrayOver (.array .boolean)).before A U = true) : ∃ cJ : ClassId, ArrOfT U cJ (.array .boolean) ∧ va_RA U cJ (.array .boolean) := by
  obtain ⟨comp, c, k, h1, h2, h3, h4, h5⟩ := arrayOverA_spec h
  exact ⟨c, fun n z => ⟨fun k h => (by cases h), k, h3, comp, h4⟩, h5⟩
theorem st_str {A : Array Value} {U : State} {own tx : String} {k : Nat} (h1 : (Cond.stringRef own k tx).before A U = true) (h2 : (Cond.exactly (.string own k) "java/lang/String").before A U = true) : ∃ a : Nat, vk_R own k tx a U := by
  obtain ⟨a2, c, cA, kA, q1, q2, q3, q4, q5, q6, -⟩ := Cond.exactly_spec (args := A) (first := U) (o := none) (s := U) (idx := []) (t := .string own k) (cls := "java/lang/String") h2
  exact ⟨a2, vk_R.of h1 q1⟩
set_option maxHeartbeats 4000000 in
set_option maxRecDepth 100000 in
theorem whole_start {p : Program} {e : Env} {s : State} {m : MethodId} {below : List Frame} {meth : Method} {c : Code} (l : Launch) (hflags : l.flags = flags0) {b L : Nat} {xs : Nat → Int32} (hL : L ≤ 260) (C0 : lw_At p s m meth c b L xs) : W p l e room_1 s m #[Value.ref b] below meth c s.heap [] 0 0 (lw_Z below #[Value.ref b] s) (entryFrame m ([Value.ref b] : List Value).toArray 22) := by
  obtain ⟨hx, hb, hr, hml, hown, hts, hX, hbl, hlocks, hgv⟩ := id C0
  have hb : c.code = cL_law := hb
  have hown : s.vm.findClass RL = some m.cls := hown
  have hg := flat_of_before _ hgv
  have hst : l.stackTraces = false := by
    unfold Launch.stackTraces
    rw [hflags]
    decide
  have hA : ∀ q : Nat, s.heap.size ≤ q → lw_A s q := fun _ h => h
  have hA2 : ∀ a : Nat, a < s.heap.size → ¬ lw_A s a := fun _ h => Nat.not_le.mpr h
  have hbA : ¬ lw_A s b := Nat.not_le.mpr hbl
  obtain ⟨c0, iS0, hKn0⟩ := u_known (C := RX0) (T := TX0) (N := 15) (n := 15) hts inX0 (hts (Cond.instantiable RX0 15) (List.mem_of_getElem? (i := 34) (by decide +kernel)))
  obtain ⟨c1, iS1, hKn1⟩ := u_known (C := RX1) (T := TX1) (N := 2) (n := 2) hts inX1 (hts (Cond.instantiable RX1 2) (List.mem_of_getElem? (i := 26) (by decide +kernel)))
  obtain ⟨c2, iS2, hKn2⟩ := u_known (C := RX2) (T := TX2) (N := 11) (n := 11) hts inX2 (hts (Cond.instantiable RX2 11) (List.mem_of_getElem? (i := 355) (by decide +kernel)))
  obtain ⟨dC, dI, hKc⟩ : ∃ (dC : Nat → ClassId) (dI : Nat → Nat → Nat), ∀ (k : Nat) (q : vw_C), vwCl[k]? = some q → u_Kn s q.1 q.2.1 q.2.2 (dC k) (dI k) := by
    refine ⟨fun k => if k = 0 then c0 else if k = 1 then c1 else c2, fun k => if k = 0 then iS0 else if k = 1 then iS1 else iS2, ?_⟩
    intro k q hq
    match k, hq with
    | 0, hq => cases hq; exact hKn0
    | 1, hq => cases hq; exact hKn1
    | 2, hq => cases hq; exact hKn2
    | k + 3, hq => simp [vwCl] at hq
  obtain ⟨cI, hI1, hI2⟩ := st_arrI (hts (Cond.arrayClass .int) (List.mem_of_getElem? (i := 95) (by decide +kernel)))
  obtain ⟨cJ, hJ1, hJ2⟩ := st_arrsI (hts (Cond.arrayOver (.array .int)) (List.mem_of_getElem? (i := 334) (by decide +kernel)))
  obtain ⟨cZ, hZ1, hZ2⟩ := st_arrZ (hts (Cond.arrayClass .boolean) (List.mem_of_getElem? (i := 358) (by decide +kernel)))
  obtain ⟨cB, hB1, hB2⟩ := st_arrsZ (hts (Cond.arrayOver (.array .boolean)) (List.mem_of_getElem? (i := 351) (by decide +kernel)))
  obtain ⟨sa1, hs1⟩ := st_str (hts (Cond.stringRef RX1 101 "no such cell, hour or number") (List.mem_of_getElem? (i := 153) (by decide +kernel))) (hg (Cond.exactly (.string RX1 101) "java/lang/String") (List.mem_of_getElem? (i := 6) (by decide +kernel)))
  obtain ⟨sa2, hs2⟩ := st_str (hts (Cond.stringRef RX1 108 "a number out of its bounds") (List.mem_of_getElem? (i := 254) (by decide +kernel))) (hg (Cond.exactly (.string RX1 108) "java/lang/String") (List.mem_of_getElem? (i := 38) (by decide +kernel)))
  have hK0 : va_K (dC, dI) vwCl [(cI, .int), (cJ, .array .int), (cZ, .boolean), (cB, .array .boolean)] s := by
    refine ⟨hKc, fun k q hq => ?_⟩
    match k, hq with
    | 0, hq => cases hq; exact ⟨hI1, hI2⟩
    | 1, hq => cases hq; exact ⟨hJ1, hJ2⟩
    | 2, hq => cases hq; exact ⟨hZ1, hZ2⟩
    | 3, hq => cases hq; exact ⟨hB1, hB2⟩
    | k + 4, hq => simp at hq
  have hT : ct_T sa1 sa2 (lw_A s) s s.heap := ⟨⟨hs1, hs2, va_Nw.of rfl (hts (Cond.castable "java/lang/IndexOutOfBoundsException" "java/lang/IndexOutOfBoundsException") (List.mem_of_getElem? (i := 115) (by decide +kernel))), va_Nw.of rfl (hts (Cond.castable "java/lang/IllegalArgumentException" "java/lang/IllegalArgumentException") (List.mem_of_getElem? (i := 247) (by decide +kernel))), va_Nw.of rfl (hts (Cond.declares (Bundle.initS "java/lang/RuntimeException")) (List.mem_of_getElem? (i := 117) (by decide +kernel))), va_Nw.of rfl (hts (Cond.declares (Bundle.initS "java/lang/Exception")) (List.mem_of_getElem? (i := 119) (by decide +kernel))), va_Nw.of rfl (hts (Cond.declares (Bundle.initS "java/lang/Throwable")) (List.mem_of_getElem? (i := 121) (by decide +kernel)))⟩, vx_Zqof (hts (Cond.laysStatic Bundle.tN "UNASSIGNED_STACK" Bundle.steD) (List.mem_of_getElem? (i := 140) (by decide +kernel))) (hts (Cond.initialized Bundle.tN) (List.mem_of_getElem? (i := 18) (by decide +kernel))) (hg (Cond.isRef (.static Bundle.tN "UNASSIGNED_STACK" Bundle.steD)) (List.mem_of_getElem? (i := 4) (by decide +kernel))) hA2, vx_Zqof (hts (Cond.laysStatic Bundle.tN "SUPPRESSED_SENTINEL" Bundle.listD) (List.mem_of_getElem? (i := 142) (by decide +kernel))) (hts (Cond.initialized Bundle.tN) (List.mem_of_getElem? (i := 18) (by decide +kernel))) (hg (Cond.isRef (.static Bundle.tN "SUPPRESSED_SENTINEL" Bundle.listD)) (List.mem_of_getElem? (i := 5) (by decide +kernel))) hA2⟩
  have hX9 : cg_X (sa1, sa2, b, L, xs) (lw_A s) s s.heap := ⟨hT, va_AOA.of (hts (Cond.arrayOver (.array .int)) (List.mem_of_getElem? (i := 334) (by decide +kernel))), va_AOA.of (hts (Cond.arrayOver (.array .boolean)) (List.mem_of_getElem? (i := 351) (by decide +kernel))), hX, hbl, hbA⟩
  have htl : ∀ w ∈ wsL_law, w.before #[Value.ref b] s = true := fun w h => hts w (wsL_law_in w h)
  generalize hκ : (sa1, sa2, b, L, xs) = κ at hX9
  have hLκ : κ.2.2.2.1 ≤ 260 := by rw [← hκ]; exact hL
  have hbκ : κ.2.2.1 = b := by rw [← hκ]
  clear hκ
  obtain rfl := hbκ
  have C9 : cg_S p s m #[Value.ref κ.2.2.1] c (lw_A s) (dC, dI) yL_law wsL_law cL_law 22 [(cI, .int), (cJ, .array .int), (cZ, .boolean), (cB, .array .boolean)] κ := ⟨hx, hb, hml, hown, htl, hA, hK0, hX9⟩
  have hS : va_S (lw_A s) s.heap s.heap [] := va_S.rf
  have hP : va_P (dC, dI) vwCl [] s.heap := gp_nil
  have hD : va_D (lw_A s) [] := gp_nilD
  have hl := lv_entry ([.ref κ.2.2.1]) (n := 22) (Nat.le_of_ble_eq_true rfl)
  rw [lg_entry_eq]
  generalize (lg_sl ([.ref κ.2.2.1]) ++ List.replicate (22 - (lg_sl ([.ref κ.2.2.1])).length) Slot.unset).toArray = ls at hl ⊢
  have hl : lv_has ls 22 [(0, .ref κ.2.2.1)] := hl
  refine W.base ?_
  have hd0 := Drawn.sameBut.refl s.drawn lw_cs
  obtain ⟨hx, hb, hml, hown, hts, hA, hK, hX⟩ := C9.drew s.drawn
  refine va_new (ws := []) (ci := 1) (fs := [.null, .null]) (C := RX1) (T := TX1) (N := 2) hx hb hts (fun _ h9 => (List.mem_append_left _ (List.mem_append_left _ (List.mem_append_left _ (List.mem_append_left _ (List.mem_append_left _ (List.mem_append_right _ h9))))))) tyX1 tyX1_ok hown (hts (Cond.classLink RL 22 RX1) (List.mem_of_getElem? (i := 0) rfl)) (hts (Cond.instantiable RX1 2) (List.mem_of_getElem? (i := 1) rfl)) (hts (Cond.initialized RX1) (List.mem_of_getElem? (i := 2) rfl)) hK hP hD hS hA rfl (fun j hj => by rcases (show j = 0 ∨ j = 1 by omega) with rfl | rfl <;> rfl) (Nat.le_of_ble_eq_true rfl) (Nat.le_of_ble_eq_true rfl) dL_law_0 (fun g H hP hD hS => ?_)
  have hP : va_P (dC, dI) vwCl ([(g, .inr (1, [.null, .null]))]) H := hP
  have hD : va_D (lw_A s) ([(g, .inr (1, [.null, .null]))]) := hD
  refine lv_dup hx hb dL_law_3 rfl ?_
  refine cp_Iv (As := []) (rest := [.ref g]) (wr := []) (cells1 := 25) (slots1 := 1336) ⟨hx, hb, hml, hown, hts⟩ (c_X1_init l (dC, dI) cI g) (cwI 0 hts gL_law_X1_init rfl rfl rfl (hts (Cond.initialized RX1) (List.mem_of_getElem? (i := 2) rfl)) (hts (Cond.methodLink RL 73 yX1_init) (List.mem_of_getElem? (i := 10) rfl)) (hts (Cond.instanceMethod yX1_init) (List.mem_of_getElem? (i := 11) rfl)) rfl (by decide +kernel) ⟨Nat.le_of_ble_eq_true rfl, Nat.le_of_ble_eq_true rfl⟩) hK hP hD hS hA [0] rfl rfl hl.1 rfl (Nat.le_of_ble_eq_true rfl) rfl rfl ⟨by show _ ≤ 608781; omega, by show _ ≤ 7275125; omega⟩ dL_law_4 (fun u H locs hw hP hD hS => ?_)
  obtain ⟨hn, ha, adn, ada⟩ := u
  have hP : va_P (dC, dI) vwCl (fW g hn ha adn ada cI (fun _ => 10) (fun _ => 0) (fun _ => 0) q_m0 (fun _ => 0) (fun _ => 0) (fun _ => 0) (fun _ => 0) q_z0) H := hP
  have hD : va_D (lw_A s) (fW g hn ha adn ada cI (fun _ => 10) (fun _ => 0) (fun _ => 0) q_m0 (fun _ => 0) (fun _ => 0) (fun _ => 0) (fun _ => 0) q_z0) := hD
  refine lv_astore_n (lv' := [(1, .ref g), (0, .ref κ.2.2.1)]) hx hb dL_law_7 rfl hl (by decide) rfl (fun ls hl => ?_)
  refine lv_aload_n hx hb dL_law_8 rfl (lv_at hl 0 rfl) ?_
  refine lv_aload_n hx hb dL_law_9 rfl (lv_at hl 1 rfl) ?_
  refine cpg_Sr (As := [.ref g, .ref κ.2.2.1]) (rest := []) (wr := []) (cells1 := 275) (slots1 := 2836) ⟨hx, hb, hml, hown, hts⟩ (c_L_build l (dC, dI) cI cJ cZ cB κ hst hLκ g hn ha adn ada (fun _ => 0) (fun _ => 0) (fun _ => 0) (fun _ => 0) q_z0) (va_cwS 2 hts gL_law_L_build rfl rfl rfl (by decide +kernel) ⟨Nat.le_of_ble_eq_true rfl, Nat.le_of_ble_eq_true rfl⟩) hK hP hD hS hA hX [0, 1, 2, 3] rfl rfl hl.1 rfl (Nat.le_of_ble_eq_true rfl) rfl rfl ⟨by show _ ≤ 608781; omega, by show _ ≤ 7275125; omega⟩ dL_law_10 (fun u r9 H locs hw hP hD hS => ?_)
  have hP : va_P (dC, dI) vwCl ((fW g hn ha adn ada cI u.1 u.2.1 u.2.2.1 u.2.2.2.1 (fun _ => 0) (fun _ => 0) (fun _ => 0) (fun _ => 0) q_z0) ++ (sM r9 u.2.2.2.2.1 u.2.2.2.2.2.1 u.2.2.2.2.2.2.1 u.2.2.2.2.2.2.2 cI cJ u.1 u.2.1 u.2.2.1 u.2.2.2.1)) H := hP
  have hD : va_D (lw_A s) ((fW g hn ha adn ada cI u.1 u.2.1 u.2.2.1 u.2.2.2.1 (fun _ => 0) (fun _ => 0) (fun _ => 0) (fun _ => 0) q_z0) ++ (sM r9 u.2.2.2.2.1 u.2.2.2.2.2.1 u.2.2.2.2.2.2.1 u.2.2.2.2.2.2.2 cI cJ u.1 u.2.1 u.2.2.1 u.2.2.2.1)) := hD
  refine lv_astore_n (lv' := [(2, .ref r9), (1, .ref g), (0, .ref κ.2.2.1)]) hx hb dL_law_13 rfl hl (by decide) rfl (fun ls hl => ?_)
  refine lv_aload_n hx hb dL_law_14 rfl (lv_at hl 0 rfl) ?_
  refine lv_ifnonnull (tgt := 20) hx hb dL_law_15 (by decide) ?_
  refine lv_iconst (v := nI 0) hx hb dL_law_20 (by decide) ?_
  refine lv_istore_n (lv' := [(3, .int (nI 0)), (2, .ref r9), (1, .ref g), (0, .ref κ.2.2.1)]) hx hb dL_law_21 rfl hl (by decide) rfl (fun ls hl => ?_)
  refine W.widen (k := 2000 + 4000 * 0) (n := 5000 + 24000 * 0) (by omega) (by omega) ?_
  exact law_loop C9 hst hLκ hr hlocks 14 0 rfl hd0 (pv_up hw.1 (by omega)) hw.2 hP hD hS (lv_sub hl [3, 2, 1, 0] rfl)
set_option maxHeartbeats 4000000 in
theorem lw_walk (l : Launch) (hflags : l.flags = flags0) (b : Addr) (xs : List Int32) : MetFree l x (headSpec (Jvm.Cond.code x code maxLocals ret :: tables_1) room_1) (lw_P b xs) (fun _ _ _ _ _ => True) lw_Q := by
  refine MetFree.of_bodyS (code := code) (maxLocals := maxLocals) (ret := ret) (by decide) ?_ ?_
  · intro args s m h hn
    obtain ⟨meth, c, h1, h2, h3, h4, h5, h6, -, -⟩ := Cond.code_spec hn (atoms_spec (ws := Jvm.Cond.code x code maxLocals ret :: tables_1) h _ List.mem_cons_self)
    exact ⟨meth, c, h1, h2, h3, h4, h5, h6⟩
  · intro p e s m args below meth c s₁ B hml0 hP _
    obtain ⟨rfl, hx, hbd, hgv⟩ := hP
    obtain ⟨scr, harrAt, hlist, hof, hsmall⟩ := hx
    obtain ⟨hcb, hkn, -, -⟩ := State.arrayAt?_spec harrAt
    have hown : s.vm.findClass R_law = some m.cls := findClass_of_methodNamed B.named
    have hts0 : ∀ c ∈ (Jvm.Cond.code x code maxLocals ret :: tables_1), c.before #[Value.ref b] s = true := atoms_spec (ws := Jvm.Cond.code x code maxLocals ret :: tables_1) B.pre
    have hts : ∀ w ∈ lw_tbl, w.before #[Value.ref b] s = true := k2_hts_sels lw_privs (fun w hw => hts0 w (List.mem_cons_of_mem _ hw)) lw_privs_ok
    have hml : c.maxLocals = 22 := B.maxLocals_eq (hts0 _ List.mem_cons_self)
    have X₀ : Stand p l e room_1 s m #[Value.ref b] below meth c s₁ [] 0 0 := Stand.of_body B
    have hh0 : s₁.heap = s.heap := by rw [B.state]; rfl
    have hsz : scr.slots.size = xs.length := by rw [← Array.length_toList, hlist, List.length_map]
    have hval : ∀ j : Nat, j < xs.length → scr.slots[j]? = some (.int (xs.getD j 0)) := fun j hj => by
      rw [← Array.getElem?_toList, hlist]
      simp [hj]
    have hbl : b < s.heap.size := (Array.getElem?_eq_some_iff.mp hcb).1
    have hX : va_X b xs.length (fun j => xs.getD j 0) s s.heap := ⟨scr, hcb, hof, hkn, hsz, hval⟩
    have K : W p l e room_1 s m #[Value.ref b] below meth c s₁.heap [] 0 0 (lw_Z below #[Value.ref b] s) (entryFrame m ([Value.ref b] : List Value).toArray 22) := by
      rw [hh0]
      exact whole_start l hflags hbd ⟨B.exec, B.bytes, B.returns, hml, hown, hts, hX, hbl, B.notSynchronized, hgv⟩
    obtain ⟨t, a1, o, b1, b2, b3⟩ := K s₁ rfl X₀
    exact ⟨t, o, a1, b1, b2, b3⟩
theorem lw_pre_spec {args : Array Value} {s : State} (h : (Jvm.Cond.and given_1 narrow_1).before args s = true) (hr : rest_1_c.before args s = true) : ∃ (b : Addr) (xs : List Int32), lw_P b xs args s := by
  have hs := flat_of_before _ h
  have hq := flat_of_before _ hr
  have hc : (Cond.count 1).before args s = true := hs _ (by decide +kernel)
  have harr : (Cond.arrayOf (.arg 0) .int).before args s = true := hs _ (by decide +kernel)
  have hle : (Cond.le (.length (.arg 0)) (.int 260)).before args s = true := hs _ (by decide +kernel)
  have hlen : (Cond.isInt (.length (.arg 0))).before args s = true := hq _ (by decide +kernel)
  have hall : (Cond.all (.arg 0) (.isInt (.elem (.arg 0) (.index 0)))).before args s = true := hq _ (by decide +kernel)
  obtain ⟨b, xs, hb, hx⟩ := State.ints_of_pre rfl harr hlen hall
  have hsm : xs.length < 2 ^ 31 := hx.choose_spec.2.2.2
  have hev : (Term.length (.arg 0)).eval args s none [] s = some (.int xs.length.toInt32) := hx.length_eval hb
  have hv := Cond.le_ints hev (show (Term.int 260).eval args s none [] s = some (.int 260) from rfl)
  have hd : xs.length.toInt32 ≤ 260 := by
    simpa [Cond.before, Cond.holds, hv] using hle
  have hN : xs.length ≤ 260 := (Int32.ofNat_le_ofNat hsm (by decide)).mp (show Int32.ofNat xs.length ≤ Int32.ofNat 260 from hd)
  exact ⟨b, xs, Cond.one_arg hc (show args[0]? = some (.ref b) from hb), hx, hN, h⟩
theorem lw_comes (l : Launch) (hflags : l.flags = flags0) : Comes l x (Jvm.Cond.code x code maxLocals ret :: tables_1) room_1 (fun tb e args s => Calls_1 tb e args s ∧ rest_1 tb e args s ∧ Pre_1 tb e args s)
    (fun _ _ args s o t => lw_Q args s o t) := by
  intro p e ha hc hk s m args below hf hfit hheap happ hpre
  obtain ⟨b, xs, hP⟩ := lw_pre_spec hpre.2.2 hpre.2.1
  obtain ⟨k, o, h1, h2, h3, hQ⟩ := lw_walk l hflags b xs p e ha hc hk s m args below hf ((Spec.applies_iff_loose hf).mp happ).1 hP trivial
  exact ⟨k, o, h1, h2, h3, hQ⟩
theorem lw_frame {s t : State} {o : Outcome} {args : Array Value} (h : State.butDraws s t lw_cs (fun t1 => Framed s o t1 [] 608781 7275125)) :
    State.butDraws s t [Jvm.Choice.named "NaN.bits"] (fun t1 => Framed s o t1 (fieldLocs frame_1_writes args s ++ arrayLocs frame_1_arrays args s ++ staticLocs frame_1_statics s) 608781 7275125) := h
theorem lw_limb (L : Cond) (hL : ∀ (args : Array Value) (s t : State), L.after args s (.returned (some (.int 1))) t = true) :
    ArmFor flags0 classFile x code maxLocals ret World_1 tables_1 room_1 Calls_1 rest_1 Pre_1
      (fun tb e a s o t => postC L tb e a s o t ∧ State.butDraws s t [Jvm.Choice.named "NaN.bits"] (fun t1 => Framed s o t1 (fieldLocs frame_1_writes a s ++ arrayLocs frame_1_arrays a s ++ staticLocs frame_1_statics s) 608781 7275125)) := by
  intro l hflags _ _ p e ha hc hk s m args below hf hfit hheap happ hpre
  obtain ⟨k, o, h1, h2, h3, rfl, hF⟩ := lw_comes l hflags p e ha hc hk s m args below hf hfit hheap happ hpre
  exact ⟨k, _, h1, h2, h3, hL args s _, lw_frame hF⟩
theorem i_vc : Claimed_1_1 ∧ Claimed_1_2 := ⟨lw_limb limb_1_1 (fun args s t => by simp [limb_1_1, Cond.after, Cond.holds, Cond.value]), lw_limb limb_1_2 (fun args s t => Cond.after_iff.mpr (by
  first | (rw [show limb_1_2 = Cond.eq .result (.int 1) from rfl, Cond.eq_ints (x := 1) (y := 1) rfl rfl]; simp; done) | (simp [limb_1_2, Cond.value, Term.eval]; done)))⟩
