/-! calls: the callee's world in front of the caller's -/
section CPC
variable {p : Program} {l : Launch} {e : Env} {R : Room} {s : State} {m : MethodId} {args : Array Value} {below : List Frame} {meth : Method} {c : Code} {H : Heap} {locs : List Loc} {cells slots : Nat} {Q : State → Prop}
variable {pc : Nat} {ls : Array Slot} {cc : ByteArray} {D : va_G} {tysW tys : List (ClassId × FieldType)} {A : Nat → Prop} {S : Type} {y : MethodName} {bytes : ByteArray} {maxL nL n index : Nat} {ret : Option FieldType} {wsy : List Cond} {rm : Room} {Ts : List Cond} {own C : String} {b : Addr} {As rest st : List Value} {wc wr : va_W} {sa1 sa2 : Nat} {ex : String → Prop} {κ : Kx} {d0 : Drawn}
theorem cp_pre (hK : va_K D vwCl tysW s) (hP : va_P D vwCl (wc ++ wr) H) (hD : va_D A (wc ++ wr)) (ist : List Nat) (hty : ist.filterMap (fun i => tysW[i]?) = tys) {Bs : List Value} : PreS s H (ct_Pc D Bs wc tys H.size) Bs :=
  ⟨ct_frameblind, fun U hU hW => ⟨rfl, by rw [hU], by rw [hU]; exact gp_left hP, va_K.moved hW.alike (hK.sub ist hty), (gp_leftD hD).weaken (fun _ _ _ _ => trivial)⟩⟩
theorem cpx_pre (hK : va_K D vwCl tysW s) (hP : va_P D vwCl (wc ++ wr) H) (hD : va_D A (wc ++ wr)) (hS : va_S A s.heap H locs) (hA : ∀ q : Nat, s.heap.size ≤ q → A q) (hT : ct_T sa1 sa2 A s s.heap) (ist : List Nat) (hty : ist.filterMap (fun i => tysW[i]?) = tys) {Bs : List Value} : PreS s H (cx_Pc D Bs wc tys sa1 sa2 H.size) Bs :=
  ⟨cx_frameblind, fun U hU hW => ⟨rfl, by rw [hU], by rw [hU]; exact gp_left hP, va_K.moved hW.alike (hK.sub ist hty), (gp_leftD hD).weaken (fun _ _ _ _ => trivial), by
    rw [hU]
    exact (((hT.kept (fun a h1 h2 => hS.2.1 a h1 h2)).narrow (gp_in hD hS hA)).warm hW)⟩⟩
theorem cpg_pre (hK : va_K D vwCl tysW s) (hP : va_P D vwCl (wc ++ wr) H) (hD : va_D A (wc ++ wr)) (hS : va_S A s.heap H locs) (hA : ∀ q : Nat, s.heap.size ≤ q → A q) (hX : cg_X κ A s s.heap) (ist : List Nat) (hty : ist.filterMap (fun i => tysW[i]?) = tys) {Bs : List Value} : PreS s H (cg_Pc D Bs wc tys κ H.size) Bs :=
  ⟨cg_frameblind, fun U hU hW => ⟨rfl, by rw [hU], by rw [hU]; exact gp_left hP, va_K.moved hW.alike (hK.sub ist hty), (gp_leftD hD).weaken (fun _ _ _ _ => trivial), by
    rw [hU]
    exact (((hX.kept hS.1 (fun a h1 h2 => hS.2.1 a h1 h2)).narrow (gp_in hD hS hA)).warm hW)⟩⟩
theorem cp_Vi {post : Int32 → S → Prop} {wo : S → va_W} (F : CallFix p m c cc nL s args Ts own) (hC : ct_i l D y wsy rm (.ref b :: As) wc tys post wo) (cw : CallW R s args own C index y bytes maxL ret wsy rm rm.cells rm.slots n) (hK : va_K D vwCl tysW s) (hP : va_P D vwCl (wc ++ wr) H) (hD : va_D A (wc ++ wr)) (hS : va_S A s.heap H locs) (hA : ∀ q : Nat, s.heap.size ≤ q → A q)
    (ist : List Nat) (hty : ist.filterMap (fun i => tysW[i]?) = tys) (hrecv : ∃ cell : Cell, H[b]? = some cell ∧ cell.vm.isStatics = false ∧ s.vm.findClass C = some cell.cls) (hn : As.length = n) (hsize : ls.size = nL) (hst : st = As.reverse ++ .ref b :: rest) (hroom : (rest.map fun v => v.category).sum ≤ 8) {cells1 slots1 : Nat} (hc9 : cells + rm.cells = cells1) (hs9 : slots + rm.slots = slots1) (hf : cells1 ≤ R.cells ∧ slots1 ≤ R.slots) (hdg : decode cc pc = .ok (.invokevirtual index, 3))
    (kk : ∀ (r : Int32) (u : S) (H1 : Heap) (locs1 : List Loc), post r u → va_P D vwCl (wo u ++ wr) H1 → va_D A (wo u ++ wr) → va_S A s.heap H1 locs1 → W p l e R s m args below meth c H1 locs1 cells1 slots1 Q (F0 m (pc + 3) ls (.int r :: rest))) :
    W p l e R s m args below meth c H locs cells slots Q (F0 m pc ls st) := by
  subst hst
  subst hc9
  subst hs9
  have hp := cp_pre (Bs := (.ref b :: As)) hK hP hD ist hty
  refine va_calli (va_runV (As := As) (rest := rest) F (hC H.size) cw ⟨hp.1, hrecv, hp.2⟩ rfl hn hsize rfl (lv_room hroom) hdg hf) hS (fun q _ h => gp_in hD hS hA q h) (gp_in hD hS hA) (fun r u t H1 locs1 ht hvm hw hB hz1 hk1 hS1 => ?_)
  obtain ⟨hP1, hK1, hD1⟩ := hB
  rw [ht] at hP1
  obtain ⟨a1, a2⟩ := gp_join hP hD hS hA hk1 hP1 hD1
  exact kk r u H1 locs1 hw a1 a2 hS1
theorem cp_Si {post : Int32 → S → Prop} {wo : S → va_W} (F : CallFix p m c cc nL s args Ts own) (hC : ct_i l D y wsy rm (As) wc tys post wo) (cw : CallB R s args own index y bytes maxL ret wsy rm rm.cells rm.slots n ∧ (Cond.static y).before args s = true) (hK : va_K D vwCl tysW s) (hP : va_P D vwCl (wc ++ wr) H) (hD : va_D A (wc ++ wr)) (hS : va_S A s.heap H locs) (hA : ∀ q : Nat, s.heap.size ≤ q → A q)
    (ist : List Nat) (hty : ist.filterMap (fun i => tysW[i]?) = tys) (hn : As.length = n) (hsize : ls.size = nL) (hst : st = As.reverse ++ rest) (hroom : (rest.map fun v => v.category).sum ≤ 8) {cells1 slots1 : Nat} (hc9 : cells + rm.cells = cells1) (hs9 : slots + rm.slots = slots1) (hf : cells1 ≤ R.cells ∧ slots1 ≤ R.slots) (hdg : decode cc pc = .ok (.invokestatic index, 3))
    (kk : ∀ (r : Int32) (u : S) (H1 : Heap) (locs1 : List Loc), post r u → va_P D vwCl (wo u ++ wr) H1 → va_D A (wo u ++ wr) → va_S A s.heap H1 locs1 → W p l e R s m args below meth c H1 locs1 cells1 slots1 Q (F0 m (pc + 3) ls (.int r :: rest))) :
    W p l e R s m args below meth c H locs cells slots Q (F0 m pc ls st) := by
  subst hst
  subst hc9
  subst hs9
  have hp := cp_pre (Bs := (As)) hK hP hD ist hty
  refine va_calli (va_runS (As := As) (rest := rest) F (hC H.size) cw ⟨hp.1, hp.2⟩ rfl hn hsize rfl (lv_room hroom) hdg hf) hS (fun q _ h => gp_in hD hS hA q h) (gp_in hD hS hA) (fun r u t H1 locs1 ht hvm hw hB hz1 hk1 hS1 => ?_)
  obtain ⟨hP1, hK1, hD1⟩ := hB
  rw [ht] at hP1
  obtain ⟨a1, a2⟩ := gp_join hP hD hS hA hk1 hP1 hD1
  exact kk r u H1 locs1 hw a1 a2 hS1
theorem cp_Iv {post : S → Prop} {wo : S → va_W} (F : CallFix p m c cc nL s args Ts own) (hC : ct_v l D y wsy rm (.ref b :: As) wc tys post wo) (cw : CallB R s args own index y bytes maxL none wsy rm rm.cells rm.slots n ∧ y.name = "<init>" ∧ (Cond.instanceMethod y).before args s = true) (hK : va_K D vwCl tysW s) (hP : va_P D vwCl (wc ++ wr) H) (hD : va_D A (wc ++ wr)) (hS : va_S A s.heap H locs) (hA : ∀ q : Nat, s.heap.size ≤ q → A q)
    (ist : List Nat) (hty : ist.filterMap (fun i => tysW[i]?) = tys) (hn : As.length = n) (hsize : ls.size = nL) (hst : st = As.reverse ++ .ref b :: rest) (hroom : (rest.map fun v => v.category).sum ≤ 8) {cells1 slots1 : Nat} (hc9 : cells + rm.cells = cells1) (hs9 : slots + rm.slots = slots1) (hf : cells1 ≤ R.cells ∧ slots1 ≤ R.slots) (hdg : decode cc pc = .ok (.invokespecial index, 3))
    (kk : ∀ (u : S) (H1 : Heap) (locs1 : List Loc), post u → va_P D vwCl (wo u ++ wr) H1 → va_D A (wo u ++ wr) → va_S A s.heap H1 locs1 → W p l e R s m args below meth c H1 locs1 cells1 slots1 Q (F0 m (pc + 3) ls (rest))) :
    W p l e R s m args below meth c H locs cells slots Q (F0 m pc ls st) := by
  subst hst
  subst hc9
  subst hs9
  have hp := cp_pre (Bs := (.ref b :: As)) hK hP hD ist hty
  refine va_callv (va_runI (As := As) (rest := rest) F (hC H.size) cw ⟨hp.1, hp.2⟩ rfl hn hsize rfl (lv_room hroom) hdg hf) hS (fun q _ h => gp_in hD hS hA q h) (gp_in hD hS hA) (fun u t H1 locs1 ht hvm hw hB hz1 hk1 hS1 => ?_)
  obtain ⟨hP1, hK1, hD1⟩ := hB
  rw [ht] at hP1
  obtain ⟨a1, a2⟩ := gp_join hP hD hS hA hk1 hP1 hD1
  exact kk u H1 locs1 hw a1 a2 hS1
theorem cpx_Vi {post : Int32 → S → Prop} {wo : S → va_W} (F : CallFix p m c cc nL s args Ts own) (hC : cx_i l D y wsy rm (.ref b :: As) wc tys sa1 sa2 post wo ex) (cw : CallW R s args own C index y bytes maxL ret wsy rm rm.cells rm.slots n) (hK : va_K D vwCl tysW s) (hP : va_P D vwCl (wc ++ wr) H) (hD : va_D A (wc ++ wr)) (hS : va_S A s.heap H locs) (hA : ∀ q : Nat, s.heap.size ≤ q → A q) (hT : ct_T sa1 sa2 A s s.heap) (hex : ∀ E : String, ¬ ex E)
    (ist : List Nat) (hty : ist.filterMap (fun i => tysW[i]?) = tys) (hrecv : ∃ cell : Cell, H[b]? = some cell ∧ cell.vm.isStatics = false ∧ s.vm.findClass C = some cell.cls) (hn : As.length = n) (hsize : ls.size = nL) (hst : st = As.reverse ++ .ref b :: rest) (hroom : (rest.map fun v => v.category).sum ≤ 8) {cells1 slots1 : Nat} (hc9 : cells + rm.cells = cells1) (hs9 : slots + rm.slots = slots1) (hf : cells1 ≤ R.cells ∧ slots1 ≤ R.slots) (hdg : decode cc pc = .ok (.invokevirtual index, 3))
    (kk : ∀ (r : Int32) (u : S) (H1 : Heap) (locs1 : List Loc), post r u → va_P D vwCl (wo u ++ wr) H1 → va_D A (wo u ++ wr) → va_S A s.heap H1 locs1 → W p l e R s m args below meth c H1 locs1 cells1 slots1 Q (F0 m (pc + 3) ls (.int r :: rest))) :
    W p l e R s m args below meth c H locs cells slots Q (F0 m pc ls st) := by
  subst hst
  subst hc9
  subst hs9
  have hp := cpx_pre (Bs := (.ref b :: As)) hK hP hD hS hA hT ist hty
  refine vx_calli (vx_runV (As := As) (rest := rest) F (hC H.size) cw ⟨hp.1, hrecv, hp.2⟩ rfl hn hsize rfl (lv_room hroom) hdg hf) hS (fun q _ h => gp_in hD hS hA q h) (gp_in hD hS hA) (fun q _ h => gp_in hD hS hA q h) (fun E ce q9 u t H1 locs1 ht hvm hw hB hz1 hk1 hS1 hce hcv hcl => absurd hB.1 (hex E)) (fun r u t H1 locs1 ht hvm hw hB hz1 hk1 hS1 => ?_)
  obtain ⟨hP1, hK1, hD1⟩ := hB
  rw [ht] at hP1
  obtain ⟨a1, a2⟩ := gp_join hP hD hS hA hk1 hP1 hD1
  exact kk r u H1 locs1 hw a1 a2 hS1
theorem cpg_Vi {post : Int32 → S → Prop} {wo : S → va_W} (F : CallFix p m c cc nL s args Ts own) (hC : cg_i l D y wsy rm (.ref b :: As) wc tys κ post wo) (cw : CallW R s args own C index y bytes maxL ret wsy rm rm.cells rm.slots n) (hK : va_K D vwCl tysW s) (hP : va_P D vwCl (wc ++ wr) H) (hD : va_D A (wc ++ wr)) (hS : va_S A s.heap H locs) (hA : ∀ q : Nat, s.heap.size ≤ q → A q) (hX : cg_X κ A s s.heap)
    (ist : List Nat) (hty : ist.filterMap (fun i => tysW[i]?) = tys) (hrecv : ∃ cell : Cell, H[b]? = some cell ∧ cell.vm.isStatics = false ∧ s.vm.findClass C = some cell.cls) (hn : As.length = n) (hsize : ls.size = nL) (hst : st = As.reverse ++ .ref b :: rest) (hroom : (rest.map fun v => v.category).sum ≤ 8) {cells1 slots1 : Nat} (hc9 : cells + rm.cells = cells1) (hs9 : slots + rm.slots = slots1) (hf : cells1 ≤ R.cells ∧ slots1 ≤ R.slots) (hdg : decode cc pc = .ok (.invokevirtual index, 3))
    (kk : ∀ (r : Int32) (u : S) (H1 : Heap) (locs1 : List Loc), post r u → va_P D vwCl (wo u ++ wr) H1 → va_D A (wo u ++ wr) → va_S A s.heap H1 locs1 → W p l e R s m args below meth c H1 locs1 cells1 slots1 Q (F0 m (pc + 3) ls (.int r :: rest))) :
    W p l e R s m args below meth c H locs cells slots Q (F0 m pc ls st) := by
  subst hst
  subst hc9
  subst hs9
  have hp := cpg_pre (Bs := (.ref b :: As)) hK hP hD hS hA hX ist hty
  refine va_calli (va_runV (As := As) (rest := rest) F (hC H.size) cw ⟨hp.1, hrecv, hp.2⟩ rfl hn hsize rfl (lv_room hroom) hdg hf) hS (fun q _ h => gp_in hD hS hA q h) (gp_in hD hS hA) (fun r u t H1 locs1 ht hvm hw hB hz1 hk1 hS1 => ?_)
  obtain ⟨hP1, hK1, hD1⟩ := hB
  rw [ht] at hP1
  obtain ⟨a1, a2⟩ := gp_join hP hD hS hA hk1 hP1 hD1
  exact kk r u H1 locs1 hw a1 a2 hS1
theorem cpg_Si {post : Int32 → S → Prop} {wo : S → va_W} (F : CallFix p m c cc nL s args Ts own) (hC : cg_i l D y wsy rm (As) wc tys κ post wo) (cw : CallB R s args own index y bytes maxL ret wsy rm rm.cells rm.slots n ∧ (Cond.static y).before args s = true) (hK : va_K D vwCl tysW s) (hP : va_P D vwCl (wc ++ wr) H) (hD : va_D A (wc ++ wr)) (hS : va_S A s.heap H locs) (hA : ∀ q : Nat, s.heap.size ≤ q → A q) (hX : cg_X κ A s s.heap)
    (ist : List Nat) (hty : ist.filterMap (fun i => tysW[i]?) = tys) (hn : As.length = n) (hsize : ls.size = nL) (hst : st = As.reverse ++ rest) (hroom : (rest.map fun v => v.category).sum ≤ 8) {cells1 slots1 : Nat} (hc9 : cells + rm.cells = cells1) (hs9 : slots + rm.slots = slots1) (hf : cells1 ≤ R.cells ∧ slots1 ≤ R.slots) (hdg : decode cc pc = .ok (.invokestatic index, 3))
    (kk : ∀ (r : Int32) (u : S) (H1 : Heap) (locs1 : List Loc), post r u → va_P D vwCl (wo u ++ wr) H1 → va_D A (wo u ++ wr) → va_S A s.heap H1 locs1 → W p l e R s m args below meth c H1 locs1 cells1 slots1 Q (F0 m (pc + 3) ls (.int r :: rest))) :
    W p l e R s m args below meth c H locs cells slots Q (F0 m pc ls st) := by
  subst hst
  subst hc9
  subst hs9
  have hp := cpg_pre (Bs := (As)) hK hP hD hS hA hX ist hty
  refine va_calli (va_runS (As := As) (rest := rest) F (hC H.size) cw ⟨hp.1, hp.2⟩ rfl hn hsize rfl (lv_room hroom) hdg hf) hS (fun q _ h => gp_in hD hS hA q h) (gp_in hD hS hA) (fun r u t H1 locs1 ht hvm hw hB hz1 hk1 hS1 => ?_)
  obtain ⟨hP1, hK1, hD1⟩ := hB
  rw [ht] at hP1
  obtain ⟨a1, a2⟩ := gp_join hP hD hS hA hk1 hP1 hD1
  exact kk r u H1 locs1 hw a1 a2 hS1
theorem cpg_Sr {post : S → Prop} {wo : S → Nat → va_W} (F : CallFix p m c cc nL s args Ts own) (hC : cg_r l D y wsy rm (As) wc tys κ post wo) (cw : CallB R s args own index y bytes maxL ret wsy rm rm.cells rm.slots n ∧ (Cond.static y).before args s = true) (hK : va_K D vwCl tysW s) (hP : va_P D vwCl (wc ++ wr) H) (hD : va_D A (wc ++ wr)) (hS : va_S A s.heap H locs) (hA : ∀ q : Nat, s.heap.size ≤ q → A q) (hX : cg_X κ A s s.heap)
    (ist : List Nat) (hty : ist.filterMap (fun i => tysW[i]?) = tys) (hn : As.length = n) (hsize : ls.size = nL) (hst : st = As.reverse ++ rest) (hroom : (rest.map fun v => v.category).sum ≤ 8) {cells1 slots1 : Nat} (hc9 : cells + rm.cells = cells1) (hs9 : slots + rm.slots = slots1) (hf : cells1 ≤ R.cells ∧ slots1 ≤ R.slots) (hdg : decode cc pc = .ok (.invokestatic index, 3))
    (kk : ∀ (u : S) (r : Nat) (H1 : Heap) (locs1 : List Loc), post u → va_P D vwCl (wo u r ++ wr) H1 → va_D A (wo u r ++ wr) → va_S A s.heap H1 locs1 → W p l e R s m args below meth c H1 locs1 cells1 slots1 Q (F0 m (pc + 3) ls (.ref r :: rest))) :
    W p l e R s m args below meth c H locs cells slots Q (F0 m pc ls st) := by
  subst hst
  subst hc9
  subst hs9
  have hp := cpg_pre (Bs := (As)) hK hP hD hS hA hX ist hty
  refine va_callr (va_runS (As := As) (rest := rest) F (hC H.size) cw ⟨hp.1, hp.2⟩ rfl hn hsize rfl (lv_room hroom) hdg hf) hS (fun q _ h => gp_in hD hS hA q h) (gp_in hD hS hA) (fun u r t H1 locs1 ht hvm hw hB hz1 hk1 hS1 => ?_)
  obtain ⟨hP1, hK1, hD1⟩ := hB
  rw [ht] at hP1
  obtain ⟨a1, a2⟩ := gp_join hP hD hS hA hk1 hP1 hD1
  exact kk u r H1 locs1 hw a1 a2 hS1
theorem cpg_Iv {post : S → Prop} {wo : S → va_W} (F : CallFix p m c cc nL s args Ts own) (hC : cg_v l D y wsy rm (.ref b :: As) wc tys κ post wo) (cw : CallB R s args own index y bytes maxL none wsy rm rm.cells rm.slots n ∧ y.name = "<init>" ∧ (Cond.instanceMethod y).before args s = true) (hK : va_K D vwCl tysW s) (hP : va_P D vwCl (wc ++ wr) H) (hD : va_D A (wc ++ wr)) (hS : va_S A s.heap H locs) (hA : ∀ q : Nat, s.heap.size ≤ q → A q) (hX : cg_X κ A s s.heap)
    (ist : List Nat) (hty : ist.filterMap (fun i => tysW[i]?) = tys) (hn : As.length = n) (hsize : ls.size = nL) (hst : st = As.reverse ++ .ref b :: rest) (hroom : (rest.map fun v => v.category).sum ≤ 8) {cells1 slots1 : Nat} (hc9 : cells + rm.cells = cells1) (hs9 : slots + rm.slots = slots1) (hf : cells1 ≤ R.cells ∧ slots1 ≤ R.slots) (hdg : decode cc pc = .ok (.invokespecial index, 3))
    (kk : ∀ (u : S) (H1 : Heap) (locs1 : List Loc), post u → va_P D vwCl (wo u ++ wr) H1 → va_D A (wo u ++ wr) → va_S A s.heap H1 locs1 → W p l e R s m args below meth c H1 locs1 cells1 slots1 Q (F0 m (pc + 3) ls (rest))) :
    W p l e R s m args below meth c H locs cells slots Q (F0 m pc ls st) := by
  subst hst
  subst hc9
  subst hs9
  have hp := cpg_pre (Bs := (.ref b :: As)) hK hP hD hS hA hX ist hty
  refine va_callv (va_runI (As := As) (rest := rest) F (hC H.size) cw ⟨hp.1, hp.2⟩ rfl hn hsize rfl (lv_room hroom) hdg hf) hS (fun q _ h => gp_in hD hS hA q h) (gp_in hD hS hA) (fun u t H1 locs1 ht hvm hw hB hz1 hk1 hS1 => ?_)
  obtain ⟨hP1, hK1, hD1⟩ := hB
  rw [ht] at hP1
  obtain ⟨a1, a2⟩ := gp_join hP hD hS hA hk1 hP1 hD1
  exact kk u H1 locs1 hw a1 a2 hS1
theorem cp_Vd {post : UInt64 → S → Prop} {wo : S → va_W} (hd0 : s.drawn.sameBut d0 lw_cs) (F : CallFix p m c cc nL (s.setDrawn d0) args Ts own) (hC : ct_d l D y wsy rm (.ref b :: As) wc tys post wo) (cw : CallW R (s.setDrawn d0) args own C index y bytes maxL ret wsy rm rm.cells rm.slots n) (hK : va_K D vwCl tysW (s.setDrawn d0)) (hP : va_P D vwCl (wc ++ wr) H) (hD : va_D A (wc ++ wr)) (hS : va_S A s.heap H locs) (hA : ∀ q : Nat, s.heap.size ≤ q → A q)
    (ist : List Nat) (hty : ist.filterMap (fun i => tysW[i]?) = tys) (hrecv : ∃ cell : Cell, H[b]? = some cell ∧ cell.vm.isStatics = false ∧ (s.setDrawn d0).vm.findClass C = some cell.cls) (hn : As.length = n) (hsize : ls.size = nL) (hst : st = As.reverse ++ .ref b :: rest) (hroom : (rest.map fun v => v.category).sum ≤ 8) {cells1 slots1 : Nat} (hc9 : cells + rm.cells = cells1) (hs9 : slots + rm.slots = slots1) (hf : cells1 ≤ R.cells ∧ slots1 ≤ R.slots) (hdg : decode cc pc = .ok (.invokevirtual index, 3))
    (kk : ∀ (r : UInt64) (u : S) (d1 : Drawn) (H1 : Heap) (locs1 : List Loc), s.drawn.sameBut d1 lw_cs → post r u → va_P D vwCl (wo u ++ wr) H1 → va_D A (wo u ++ wr) → va_S A s.heap H1 locs1 → W p l e R (s.setDrawn d1) m args below meth c H1 locs1 cells1 slots1 Q (F0 m (pc + 3) ls (.double r :: rest))) :
    W p l e R (s.setDrawn d0) m args below meth c H locs cells slots Q (F0 m pc ls st) := by
  subst hst
  subst hc9
  subst hs9
  have hp := cp_pre (Bs := (.ref b :: As)) hK hP hD ist hty
  refine va_calldD hd0 (va_runV_D (As := As) (rest := rest) F (hC H.size) cw ⟨hp.1, hrecv, hp.2⟩ rfl hn hsize rfl (lv_room hroom) hdg hf) hS (fun q _ h => gp_in hD hS hA q h) (gp_in hD hS hA) (fun r u t H1 locs1 ht hvm hw hB hz1 hk1 hS1 d1 hd1 => ?_)
  obtain ⟨hP1, hK1, hD1⟩ := hB
  rw [ht] at hP1
  obtain ⟨a1, a2⟩ := gp_join hP hD hS hA hk1 hP1 hD1
  exact kk r u d1 H1 locs1 hd1 hw a1 a2 hS1
theorem cpg_Vd {post : Int32 → S → Prop} {wo : S → va_W} (hd0 : s.drawn.sameBut d0 lw_cs) (F : CallFix p m c cc nL (s.setDrawn d0) args Ts own) (hC : cg_d l D y wsy rm (.ref b :: As) wc tys κ post wo) (cw : CallW R (s.setDrawn d0) args own C index y bytes maxL ret wsy rm rm.cells rm.slots n) (hK : va_K D vwCl tysW (s.setDrawn d0)) (hP : va_P D vwCl (wc ++ wr) H) (hD : va_D A (wc ++ wr)) (hS : va_S A s.heap H locs) (hA : ∀ q : Nat, s.heap.size ≤ q → A q) (hX : cg_X κ A (s.setDrawn d0) s.heap)
    (ist : List Nat) (hty : ist.filterMap (fun i => tysW[i]?) = tys) (hrecv : ∃ cell : Cell, H[b]? = some cell ∧ cell.vm.isStatics = false ∧ (s.setDrawn d0).vm.findClass C = some cell.cls) (hn : As.length = n) (hsize : ls.size = nL) (hst : st = As.reverse ++ .ref b :: rest) (hroom : (rest.map fun v => v.category).sum ≤ 8) {cells1 slots1 : Nat} (hc9 : cells + rm.cells = cells1) (hs9 : slots + rm.slots = slots1) (hf : cells1 ≤ R.cells ∧ slots1 ≤ R.slots) (hdg : decode cc pc = .ok (.invokevirtual index, 3))
    (kk : ∀ (r : Int32) (u : S) (d1 : Drawn) (H1 : Heap) (locs1 : List Loc), s.drawn.sameBut d1 lw_cs → post r u → va_P D vwCl (wo u ++ wr) H1 → va_D A (wo u ++ wr) → va_S A s.heap H1 locs1 → W p l e R (s.setDrawn d1) m args below meth c H1 locs1 cells1 slots1 Q (F0 m (pc + 3) ls (.int r :: rest))) :
    W p l e R (s.setDrawn d0) m args below meth c H locs cells slots Q (F0 m pc ls st) := by
  subst hst
  subst hc9
  subst hs9
  have hp := cpg_pre (Bs := (.ref b :: As)) hK hP hD hS hA hX ist hty
  refine va_calliD hd0 (va_runV_D (As := As) (rest := rest) F (hC H.size) cw ⟨hp.1, hrecv, hp.2⟩ rfl hn hsize rfl (lv_room hroom) hdg hf) hS (fun q _ h => gp_in hD hS hA q h) (gp_in hD hS hA) (fun r u t H1 locs1 ht hvm hw hB hz1 hk1 hS1 d1 hd1 => ?_)
  obtain ⟨hP1, hK1, hD1⟩ := hB
  rw [ht] at hP1
  obtain ⟨a1, a2⟩ := gp_join hP hD hS hA hk1 hP1 hD1
  exact kk r u d1 H1 locs1 hd1 hw a1 a2 hS1
end CPC
