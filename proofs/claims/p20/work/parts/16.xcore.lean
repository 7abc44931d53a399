/-- what a throw needs: the two texts, what the tables say of the two kinds, and the two statics of Throwable, none of them in the world -/
def ct_TF (sa1 sa2 : Nat) (U : State) : Prop := vk_R RX1 101 "no such cell, hour or number" sa1 U ∧ vk_R RX1 108 "a number out of its bounds" sa2 U ∧ va_Nw (.castable "java/lang/IndexOutOfBoundsException" "java/lang/IndexOutOfBoundsException") U ∧ va_Nw (.castable "java/lang/IllegalArgumentException" "java/lang/IllegalArgumentException") U ∧ va_Nw (.declares (Bundle.initS "java/lang/RuntimeException")) U ∧ va_Nw (.declares (Bundle.initS "java/lang/Exception")) U ∧ va_Nw (.declares (Bundle.initS "java/lang/Throwable")) U
def ct_T (sa1 sa2 : Nat) (A : Nat → Prop) (U : State) (H : Heap) : Prop := ct_TF sa1 sa2 U ∧ vx_Zq Bundle.tN "UNASSIGNED_STACK" Bundle.steD A U H ∧ vx_Zq Bundle.tN "SUPPRESSED_SENTINEL" Bundle.listD A U H
theorem ct_TF.warm {sa1 sa2 : Nat} {s U : State} (h : ct_TF sa1 sa2 s) (hW : s.WarmedH U.vm) : ct_TF sa1 sa2 U := ⟨h.1.warm hW, h.2.1.warm hW, h.2.2.1.warmC hW, h.2.2.2.1.warmC hW, h.2.2.2.2.1.warmD hW, h.2.2.2.2.2.1.warmD hW, h.2.2.2.2.2.2.warmD hW⟩
theorem ct_TF.same {sa1 sa2 : Nat} {s U : State} (hv : U.vm = s.vm) (h : ct_TF sa1 sa2 s) : ct_TF sa1 sa2 U := ⟨vk_R.same hv h.1, vk_R.same hv h.2.1, va_Nw.same rfl hv.symm h.2.2.1, va_Nw.same rfl hv.symm h.2.2.2.1, va_Nw.same rfl hv.symm h.2.2.2.2.1, va_Nw.same rfl hv.symm h.2.2.2.2.2.1, va_Nw.same rfl hv.symm h.2.2.2.2.2.2⟩
theorem ct_T.warm {sa1 sa2 : Nat} {A : Nat → Prop} {s U : State} {H : Heap} (h : ct_T sa1 sa2 A s H) (hW : s.WarmedH U.vm) : ct_T sa1 sa2 A U H := ⟨h.1.warm hW, h.2.1.moved hW.alike, h.2.2.moved hW.alike⟩
theorem ct_T.kept {sa1 sa2 : Nat} {A : Nat → Prop} {s : State} {H H1 : Heap} (h : ct_T sa1 sa2 A s H) (hq : ∀ a : Nat, a < H.size → ¬ A a → H1[a]? = H[a]?) : ct_T sa1 sa2 A s H1 := ⟨h.1, h.2.1.kept hq, h.2.2.kept hq⟩
theorem ct_T.narrow {sa1 sa2 : Nat} {A B : Nat → Prop} {s : State} {H : Heap} (h : ct_T sa1 sa2 A s H) (hAB : ∀ q, B q → A q) : ct_T sa1 sa2 B s H := ⟨h.1, h.2.1.narrow hAB, h.2.2.narrow hAB⟩
def cx_Pc (D : va_G) (As : List Value) (wc : va_W) (tys : List (ClassId × FieldType)) (sa1 sa2 sz : Nat) : Array Value → State → Prop := va_Pc As (fun U => U.heap.size = sz ∧ va_P D vwCl wc U.heap ∧ va_K D vwCl tys U ∧ va_D (fun _ => True) wc ∧ ct_T sa1 sa2 (va_A wc sz) U U.heap)
def cx_X (D : va_G) (tys : List (ClassId × FieldType)) (wc : va_W) (ex : String → Prop) (A : Nat → Prop) : String → State → State → Prop := vx_X (fun _ : Unit => True) (fun E _ t => ex E ∧ ct_B D tys A (fun _ : Unit => wc) () t) A
theorem cx_frameblind {D : va_G} {As : List Value} {wc : va_W} {tys : List (ClassId × FieldType)} {sa1 sa2 sz : Nat} : FrameBlind (cx_Pc D As wc tys sa1 sa2 sz) := by
  intro a U g mk q
  obtain ⟨q0, q1, qP, qK, qD, q5, q7, q8⟩ := q
  exact ⟨q0, q1, qP, va_K.moved (u := U) (U := U.calling g mk a) (Vm.Alike.refl U.vm) qK, qD, ct_TF.same (s := U) rfl q5, q7.moved (U := U.calling g mk a) (Vm.Alike.refl U.vm), q8.moved (U := U.calling g mk a) (Vm.Alike.refl U.vm)⟩
def cx_i {S : Type} (l : Launch) (D : va_G) (y : MethodName) (ws : List Cond) (rm : Room) (As : List Value) (wc : va_W) (tys : List (ClassId × FieldType)) (sa1 sa2 : Nat) (post : Int32 → S → Prop) (wo : S → va_W) (ex : String → Prop) : Prop := ∀ sz : Nat, vx_Met l y ws rm (cx_Pc D As wc tys sa1 sa2 sz) (ct_Qi D tys post wo (va_A wc sz)) (cx_X D tys wc ex (va_A wc sz)) rm.cells rm.slots (va_A wc sz)
def cx_Bi {S : Type} (l : Launch) (D : va_G) (y : MethodName) (ws : List Cond) (rm : Room) (cc : ByteArray) (maxL : Nat) (As : List Value) (wc : va_W) (tys : List (ClassId × FieldType)) (sa1 sa2 : Nat) (post : Int32 → S → Prop) (wo : S → va_W) (ex : String → Prop) : Prop :=
  ∀ (p : Program) (e : Env) (s : State) (m : MethodId) (args : Array Value) (below : List Frame) (meth : Method) (c : Code) (A : Nat → Prop) (Q : State → Prop), p.tables.exec = Jvm.exec → c.code = cc → c.maxLocals = maxL → s.vm.findClass y.cls = some m.cls → (∀ w ∈ ws, w.before args s = true) → (∀ q : Nat, s.heap.size ≤ q → A q) →
    va_K D vwCl tys s → ct_T sa1 sa2 A s s.heap → ∀ (H : Heap) (locs : List Loc), va_P D vwCl wc H → va_D A wc → va_S A s.heap H locs →
    (∀ (v : Int32) (u : S) (H : Heap) (locs : List Loc) (cells slots pc : Nat) (ls : Array Slot), decode cc pc = .ok (.ireturn, 1) → post v u → va_P D vwCl (wo u) H → va_D A (wo u) → va_S A s.heap H locs → cells ≤ rm.cells → slots ≤ rm.slots → W p l e rm s m args below meth c H locs cells slots Q (F0 m pc ls [.int v])) →
    (∀ (E : String) (ce : Cell) (q9 : Addr) (H : Heap) (locs : List Loc) (cells slots pc : Nat) (ls : Array Slot) (rest : List Value), ex E → va_P D vwCl wc H → va_D A wc → va_S A s.heap H locs → H[q9]? = some ce → ce.vm = .none → s.vm.findClass E = some ce.cls → cells ≤ rm.cells → slots ≤ rm.slots → vx_W p l e rm s m args below meth c H locs cells slots Q (F0 m pc ls rest) q9) →
    ∀ ls : Array Slot, lv_has ls maxL (lv_args 0 As) → W p l e rm s m args below meth c H locs 0 0 Q (F0 m 0 ls [])
theorem cx_ofi {S : Type} {l : Launch} {D : va_G} {y : MethodName} {ws ws' : List Cond} {rm : Room} {cc : ByteArray} {maxL : Nat} {As : List Value} {wc : va_W} {tys : List (ClassId × FieldType)} {sa1 sa2 : Nat} {post : Int32 → S → Prop} {wo : S → va_W} {ex : String → Prop}
    (hy : plainName y.cls = true) (hw : ws = Cond.code y cc maxL (some .int) :: ws') (hln : (lg_sl As).length ≤ maxL) (body : cx_Bi l D y ws rm cc maxL As wc tys sa1 sa2 post wo ex) : cx_i l D y ws rm As wc tys sa1 sa2 post wo ex := by
  intro sz
  refine vx_ofW (cc := cc) (maxL := maxL) (ret := (some .int)) hy hw ?_
  intro p e s m args below meth c s₁ B hml htab hv
  obtain ⟨rfl, hsz, hP, hK, hD0, hT⟩ := hv
  subst hsz
  have hD := hD0.self (sz := s.heap.size)
  have hl := lv_entry As (n := maxL) hln
  rw [lg_entry_eq]
  have hx := B.exec
  have hb := B.bytes
  have hr := B.returns
  have hlocks := B.notSynchronized
  exact body p e s m As.toArray below meth c (va_A wc s.heap.size) _ hx hb hml (findClass_of_methodNamed B.named) (atoms_spec (ws := ws) B.pre) (fun q h => Or.inr h) hK hT s.heap [] hP hD va_S.rf
    (fun v u H locs cells slots pc ls hdg hq hP hD hS hc hs => vx_ret (W.widen hc hs (W.iret (v := v) hx hb hr (fun t ht hW => ⟨⟨v, u, rfl, hq, by rw [ht]; exact hP, va_K.moved hW.alike hK, hD⟩, hS.F ht⟩) hS.2.2 hdg hlocks)))
    (fun E ce q9 H locs cells slots pc ls rest hex hP hD hS hce hcv hcl hc hs => vx_out (fun z hz => (htab z hz).elim) hlocks hce hcv hcl (fun t ht hvm => ⟨(), trivial, ⟨hex, by rw [ht]; exact hP, va_K.moved hvm hK, hD⟩, hS.F ht⟩) hS.2.2 hc hs) _ hl
def cx_v {S : Type} (l : Launch) (D : va_G) (y : MethodName) (ws : List Cond) (rm : Room) (As : List Value) (wc : va_W) (tys : List (ClassId × FieldType)) (sa1 sa2 : Nat) (post : S → Prop) (wo : S → va_W) (ex : String → Prop) : Prop := ∀ sz : Nat, vx_Met l y ws rm (cx_Pc D As wc tys sa1 sa2 sz) (ct_Qv D tys post wo (va_A wc sz)) (cx_X D tys wc ex (va_A wc sz)) rm.cells rm.slots (va_A wc sz)
def cx_Bv {S : Type} (l : Launch) (D : va_G) (y : MethodName) (ws : List Cond) (rm : Room) (cc : ByteArray) (maxL : Nat) (As : List Value) (wc : va_W) (tys : List (ClassId × FieldType)) (sa1 sa2 : Nat) (post : S → Prop) (wo : S → va_W) (ex : String → Prop) : Prop :=
  ∀ (p : Program) (e : Env) (s : State) (m : MethodId) (args : Array Value) (below : List Frame) (meth : Method) (c : Code) (A : Nat → Prop) (Q : State → Prop), p.tables.exec = Jvm.exec → c.code = cc → c.maxLocals = maxL → s.vm.findClass y.cls = some m.cls → (∀ w ∈ ws, w.before args s = true) → (∀ q : Nat, s.heap.size ≤ q → A q) →
    va_K D vwCl tys s → ct_T sa1 sa2 A s s.heap → ∀ (H : Heap) (locs : List Loc), va_P D vwCl wc H → va_D A wc → va_S A s.heap H locs →
    (∀ (u : S) (H : Heap) (locs : List Loc) (cells slots pc : Nat) (ls : Array Slot), decode cc pc = .ok (.return_, 1) → post u → va_P D vwCl (wo u) H → va_D A (wo u) → va_S A s.heap H locs → cells ≤ rm.cells → slots ≤ rm.slots → W p l e rm s m args below meth c H locs cells slots Q (F0 m pc ls [])) →
    (∀ (E : String) (ce : Cell) (q9 : Addr) (H : Heap) (locs : List Loc) (cells slots pc : Nat) (ls : Array Slot) (rest : List Value), ex E → va_P D vwCl wc H → va_D A wc → va_S A s.heap H locs → H[q9]? = some ce → ce.vm = .none → s.vm.findClass E = some ce.cls → cells ≤ rm.cells → slots ≤ rm.slots → vx_W p l e rm s m args below meth c H locs cells slots Q (F0 m pc ls rest) q9) →
    ∀ ls : Array Slot, lv_has ls maxL (lv_args 0 As) → W p l e rm s m args below meth c H locs 0 0 Q (F0 m 0 ls [])
theorem cx_ofv {S : Type} {l : Launch} {D : va_G} {y : MethodName} {ws ws' : List Cond} {rm : Room} {cc : ByteArray} {maxL : Nat} {As : List Value} {wc : va_W} {tys : List (ClassId × FieldType)} {sa1 sa2 : Nat} {post : S → Prop} {wo : S → va_W} {ex : String → Prop}
    (hy : plainName y.cls = true) (hw : ws = Cond.code y cc maxL none :: ws') (hln : (lg_sl As).length ≤ maxL) (body : cx_Bv l D y ws rm cc maxL As wc tys sa1 sa2 post wo ex) : cx_v l D y ws rm As wc tys sa1 sa2 post wo ex := by
  intro sz
  refine vx_ofW (cc := cc) (maxL := maxL) (ret := none) hy hw ?_
  intro p e s m args below meth c s₁ B hml htab hv
  obtain ⟨rfl, hsz, hP, hK, hD0, hT⟩ := hv
  subst hsz
  have hD := hD0.self (sz := s.heap.size)
  have hl := lv_entry As (n := maxL) hln
  rw [lg_entry_eq]
  have hx := B.exec
  have hb := B.bytes
  have hr := B.returns
  have hlocks := B.notSynchronized
  exact body p e s m As.toArray below meth c (va_A wc s.heap.size) _ hx hb hml (findClass_of_methodNamed B.named) (atoms_spec (ws := ws) B.pre) (fun q h => Or.inr h) hK hT s.heap [] hP hD va_S.rf
    (fun u H locs cells slots pc ls hdg hq hP hD hS hc hs => vx_ret (W.widen hc hs (W.vret hx hb hr (fun t ht hW => ⟨⟨u, rfl, hq, by rw [ht]; exact hP, va_K.moved hW.alike hK, hD⟩, hS.F ht⟩) hS.2.2 hdg hlocks)))
    (fun E ce q9 H locs cells slots pc ls rest hex hP hD hS hce hcv hcl hc hs => vx_out (fun z hz => (htab z hz).elim) hlocks hce hcv hcl (fun t ht hvm => ⟨(), trivial, ⟨hex, by rw [ht]; exact hP, va_K.moved hvm hK, hD⟩, hS.F ht⟩) hS.2.2 hc hs) _ hl
section CXC
variable {p : Program} {l : Launch} {e : Env} {R : Room} {s : State} {m : MethodId} {args : Array Value} {below : List Frame} {meth : Method} {c : Code} {H : Heap} {locs : List Loc} {cells slots : Nat} {Q : State → Prop}
variable {pc : Nat} {ls : Array Slot} {cc : ByteArray} {D : va_G} {tysW tys : List (ClassId × FieldType)} {A : Nat → Prop} {S : Type} {wo : S → va_W} {y : MethodName} {bytes : ByteArray} {maxL nL n index : Nat} {ret : Option FieldType} {wsy : List Cond} {rm : Room} {Ts : List Cond} {own C : String} {b : Addr} {As rest st : List Value} {W0 wc wr : va_W} {W1 : S → va_W} {sa1 sa2 : Nat} {ex : String → Prop}
theorem cx_pre (hK : va_K D vwCl tysW s) (hP : va_P D vwCl W0 H) (hD : va_D A W0) (hS : va_S A s.heap H locs) (hA : ∀ q : Nat, s.heap.size ≤ q → A q) (hT : ct_T sa1 sa2 A s s.heap) {isC isR : List Nat} (hcut : ct_Cut W0 wc wr isC isR) (ist : List Nat) (hty : ist.filterMap (fun i => tysW[i]?) = tys) {Bs : List Value} : PreS s H (cx_Pc D Bs wc tys sa1 sa2 H.size) Bs :=
  ⟨cx_frameblind, fun U hU hW => ⟨rfl, by rw [hU], by rw [hU]; exact hP.sub isC (ct_mapfm hcut.1), va_K.moved hW.alike (hK.sub ist hty), (hD.sub isC hcut.2.2.1 hcut.1).weaken (fun _ _ _ _ => trivial), by
    rw [hU]
    exact (((hT.kept (fun a h1 h2 => hS.2.1 a h1 h2)).narrow (va_free hD hS hA isC hcut.1)).warm hW)⟩⟩
theorem cx_backx {H1 : Heap} {t : State} (hP : va_P D vwCl W0 H) (hD : va_D A W0) (hS : va_S A s.heap H locs) (hA : ∀ q : Nat, s.heap.size ≤ q → A q) {isC isR : List Nat} (hcut : ct_Cut W0 wc wr isC isR) (perm : List Nat) (hnp : va_nd perm = true) (hperm : perm.map (fun i => (wr ++ wc)[i]?) = W0.map some)
    (ht : t.heap = H1) (hk : ∀ q : Nat, q < H.size → ¬ va_A wc H.size q → H1[q]? = H[q]?) (hB : ct_B D tys (va_A wc H.size) (fun _ : Unit => wc) () t) : va_P D vwCl W0 H1 ∧ va_D A W0 :=
  ct_back (W1 := fun _ : Unit => W0) (u := ()) hP hD hS hA hcut perm hnp hperm ht hk hB
theorem cx_Vi {post : Int32 → S → Prop} (F : CallFix p m c cc nL s args Ts own) (hC : cx_i l D y wsy rm (.ref b :: As) wc tys sa1 sa2 post wo ex) (cw : CallW R s args own C index y bytes maxL ret wsy rm rm.cells rm.slots n) (hK : va_K D vwCl tysW s) (hP : va_P D vwCl W0 H) (hD : va_D A W0) (hS : va_S A s.heap H locs) (hA : ∀ q : Nat, s.heap.size ≤ q → A q) (hT : ct_T sa1 sa2 A s s.heap)
    (isC isR : List Nat) (hcut : ct_Cut W0 wc wr isC isR) (perm : List Nat) (hnp : va_nd perm = true) (hperm : ∀ u : S, perm.map (fun i => (wr ++ wo u)[i]?) = (W1 u).map some) (permx : List Nat) (hnpx : va_nd permx = true) (hpermx : permx.map (fun i => (wr ++ wc)[i]?) = W0.map some) (ist : List Nat) (hty : ist.filterMap (fun i => tysW[i]?) = tys)
    (hrecv : ∃ cell : Cell, H[b]? = some cell ∧ cell.vm.isStatics = false ∧ s.vm.findClass C = some cell.cls) (hn : As.length = n) (hsize : ls.size = nL) (hst : st = As.reverse ++ .ref b :: rest) (hroom : (rest.map fun v => v.category).sum ≤ 8) {cells1 slots1 : Nat} (hc9 : cells + rm.cells = cells1) (hs9 : slots + rm.slots = slots1) (hf : cells1 ≤ R.cells ∧ slots1 ≤ R.slots) (hdg : decode cc pc = .ok (.invokevirtual index, 3))
    (kx : ∀ (E : String) (ce : Cell) (q9 : Addr) (H1 : Heap) (locs1 : List Loc), ex E → va_P D vwCl W0 H1 → va_D A W0 → va_S A s.heap H1 locs1 → H1[q9]? = some ce → ce.vm = .none → s.vm.findClass E = some ce.cls → vx_W p l e R s m args below meth c H1 locs1 cells1 slots1 Q (F0 m pc ls rest) q9)
    (kk : ∀ (r : Int32) (u : S) (H1 : Heap) (locs1 : List Loc), post r u → va_P D vwCl (W1 u) H1 → va_D A (W1 u) → va_S A s.heap H1 locs1 → W p l e R s m args below meth c H1 locs1 cells1 slots1 Q (F0 m (pc + 3) ls (.int r :: rest))) :
    W p l e R s m args below meth c H locs cells slots Q (F0 m pc ls st) := by
  subst hst
  subst hc9
  subst hs9
  have hp := cx_pre (Bs := (.ref b :: As)) hK hP hD hS hA hT hcut ist hty
  refine vx_calli (vx_runV (As := As) (rest := rest) F (hC H.size) cw ⟨hp.1, hrecv, hp.2⟩ rfl hn hsize rfl (lv_room hroom) hdg hf) hS (fun q _ h => va_free hD hS hA isC hcut.1 q h) (va_free hD hS hA isC hcut.1) (fun q _ h => va_free hD hS hA isC hcut.1 q h) (fun E ce q9 u t H1 locs1 ht hvm hw hB hz1 hk1 hS1 hce hcv hcl => ?_) (fun r u t H1 locs1 ht hvm hw hB hz1 hk1 hS1 => ?_)
  · obtain ⟨a1, a2⟩ := cx_backx hP hD hS hA hcut permx hnpx hpermx ht hk1 hB.2
    exact kx E ce q9 H1 locs1 hB.1 a1 a2 hS1 hce hcv hcl
  · obtain ⟨a1, a2⟩ := ct_back hP hD hS hA hcut perm hnp (hperm u) ht hk1 hB
    exact kk r u H1 locs1 hw a1 a2 hS1
theorem cx_Vv {post : S → Prop} (F : CallFix p m c cc nL s args Ts own) (hC : cx_v l D y wsy rm (.ref b :: As) wc tys sa1 sa2 post wo ex) (cw : CallW R s args own C index y bytes maxL ret wsy rm rm.cells rm.slots n) (hK : va_K D vwCl tysW s) (hP : va_P D vwCl W0 H) (hD : va_D A W0) (hS : va_S A s.heap H locs) (hA : ∀ q : Nat, s.heap.size ≤ q → A q) (hT : ct_T sa1 sa2 A s s.heap)
    (isC isR : List Nat) (hcut : ct_Cut W0 wc wr isC isR) (perm : List Nat) (hnp : va_nd perm = true) (hperm : ∀ u : S, perm.map (fun i => (wr ++ wo u)[i]?) = (W1 u).map some) (permx : List Nat) (hnpx : va_nd permx = true) (hpermx : permx.map (fun i => (wr ++ wc)[i]?) = W0.map some) (ist : List Nat) (hty : ist.filterMap (fun i => tysW[i]?) = tys)
    (hrecv : ∃ cell : Cell, H[b]? = some cell ∧ cell.vm.isStatics = false ∧ s.vm.findClass C = some cell.cls) (hn : As.length = n) (hsize : ls.size = nL) (hst : st = As.reverse ++ .ref b :: rest) (hroom : (rest.map fun v => v.category).sum ≤ 8) {cells1 slots1 : Nat} (hc9 : cells + rm.cells = cells1) (hs9 : slots + rm.slots = slots1) (hf : cells1 ≤ R.cells ∧ slots1 ≤ R.slots) (hdg : decode cc pc = .ok (.invokevirtual index, 3))
    (kx : ∀ (E : String) (ce : Cell) (q9 : Addr) (H1 : Heap) (locs1 : List Loc), ex E → va_P D vwCl W0 H1 → va_D A W0 → va_S A s.heap H1 locs1 → H1[q9]? = some ce → ce.vm = .none → s.vm.findClass E = some ce.cls → vx_W p l e R s m args below meth c H1 locs1 cells1 slots1 Q (F0 m pc ls rest) q9)
    (kk : ∀ (u : S) (H1 : Heap) (locs1 : List Loc), post u → va_P D vwCl (W1 u) H1 → va_D A (W1 u) → va_S A s.heap H1 locs1 → W p l e R s m args below meth c H1 locs1 cells1 slots1 Q (F0 m (pc + 3) ls rest)) :
    W p l e R s m args below meth c H locs cells slots Q (F0 m pc ls st) := by
  subst hst
  subst hc9
  subst hs9
  have hp := cx_pre (Bs := (.ref b :: As)) hK hP hD hS hA hT hcut ist hty
  refine vx_callv (vx_runV (As := As) (rest := rest) F (hC H.size) cw ⟨hp.1, hrecv, hp.2⟩ rfl hn hsize rfl (lv_room hroom) hdg hf) hS (fun q _ h => va_free hD hS hA isC hcut.1 q h) (va_free hD hS hA isC hcut.1) (fun q _ h => va_free hD hS hA isC hcut.1 q h) (fun E ce q9 u t H1 locs1 ht hvm hw hB hz1 hk1 hS1 hce hcv hcl => ?_) (fun u t H1 locs1 ht hvm hw hB hz1 hk1 hS1 => ?_)
  · obtain ⟨a1, a2⟩ := cx_backx hP hD hS hA hcut permx hnpx hpermx ht hk1 hB.2
    exact kx E ce q9 H1 locs1 hB.1 a1 a2 hS1 hce hcv hcl
  · obtain ⟨a1, a2⟩ := ct_back hP hD hS hA hcut perm hnp (hperm u) ht hk1 hB
    exact kk u H1 locs1 hw a1 a2 hS1
theorem cx_Si {post : Int32 → S → Prop} (F : CallFix p m c cc nL s args Ts own) (hC : cx_i l D y wsy rm As wc tys sa1 sa2 post wo ex) (cw : CallB R s args own index y bytes maxL ret wsy rm rm.cells rm.slots n ∧ (Cond.static y).before args s = true) (hK : va_K D vwCl tysW s) (hP : va_P D vwCl W0 H) (hD : va_D A W0) (hS : va_S A s.heap H locs) (hA : ∀ q : Nat, s.heap.size ≤ q → A q) (hT : ct_T sa1 sa2 A s s.heap)
    (isC isR : List Nat) (hcut : ct_Cut W0 wc wr isC isR) (perm : List Nat) (hnp : va_nd perm = true) (hperm : ∀ u : S, perm.map (fun i => (wr ++ wo u)[i]?) = (W1 u).map some) (permx : List Nat) (hnpx : va_nd permx = true) (hpermx : permx.map (fun i => (wr ++ wc)[i]?) = W0.map some) (ist : List Nat) (hty : ist.filterMap (fun i => tysW[i]?) = tys)
    (hn : As.length = n) (hsize : ls.size = nL) (hst : st = As.reverse ++ rest) (hroom : (rest.map fun v => v.category).sum ≤ 8) {cells1 slots1 : Nat} (hc9 : cells + rm.cells = cells1) (hs9 : slots + rm.slots = slots1) (hf : cells1 ≤ R.cells ∧ slots1 ≤ R.slots) (hdg : decode cc pc = .ok (.invokestatic index, 3))
    (kx : ∀ (E : String) (ce : Cell) (q9 : Addr) (H1 : Heap) (locs1 : List Loc), ex E → va_P D vwCl W0 H1 → va_D A W0 → va_S A s.heap H1 locs1 → H1[q9]? = some ce → ce.vm = .none → s.vm.findClass E = some ce.cls → vx_W p l e R s m args below meth c H1 locs1 cells1 slots1 Q (F0 m pc ls rest) q9)
    (kk : ∀ (r : Int32) (u : S) (H1 : Heap) (locs1 : List Loc), post r u → va_P D vwCl (W1 u) H1 → va_D A (W1 u) → va_S A s.heap H1 locs1 → W p l e R s m args below meth c H1 locs1 cells1 slots1 Q (F0 m (pc + 3) ls (.int r :: rest))) :
    W p l e R s m args below meth c H locs cells slots Q (F0 m pc ls st) := by
  subst hst
  subst hc9
  subst hs9
  have hp := cx_pre (Bs := As) hK hP hD hS hA hT hcut ist hty
  refine vx_calli (vx_runS (As := As) (rest := rest) F (hC H.size) cw ⟨hp.1, hp.2⟩ rfl hn hsize rfl (lv_room hroom) hdg hf) hS (fun q _ h => va_free hD hS hA isC hcut.1 q h) (va_free hD hS hA isC hcut.1) (fun q _ h => va_free hD hS hA isC hcut.1 q h) (fun E ce q9 u t H1 locs1 ht hvm hw hB hz1 hk1 hS1 hce hcv hcl => ?_) (fun r u t H1 locs1 ht hvm hw hB hz1 hk1 hS1 => ?_)
  · obtain ⟨a1, a2⟩ := cx_backx hP hD hS hA hcut permx hnpx hpermx ht hk1 hB.2
    exact kx E ce q9 H1 locs1 hB.1 a1 a2 hS1 hce hcv hcl
  · obtain ⟨a1, a2⟩ := ct_back hP hD hS hA hcut perm hnp (hperm u) ht hk1 hB
    exact kk r u H1 locs1 hw a1 a2 hS1
theorem cx_Sv {post : S → Prop} (F : CallFix p m c cc nL s args Ts own) (hC : cx_v l D y wsy rm As wc tys sa1 sa2 post wo ex) (cw : CallB R s args own index y bytes maxL ret wsy rm rm.cells rm.slots n ∧ (Cond.static y).before args s = true) (hK : va_K D vwCl tysW s) (hP : va_P D vwCl W0 H) (hD : va_D A W0) (hS : va_S A s.heap H locs) (hA : ∀ q : Nat, s.heap.size ≤ q → A q) (hT : ct_T sa1 sa2 A s s.heap)
    (isC isR : List Nat) (hcut : ct_Cut W0 wc wr isC isR) (perm : List Nat) (hnp : va_nd perm = true) (hperm : ∀ u : S, perm.map (fun i => (wr ++ wo u)[i]?) = (W1 u).map some) (permx : List Nat) (hnpx : va_nd permx = true) (hpermx : permx.map (fun i => (wr ++ wc)[i]?) = W0.map some) (ist : List Nat) (hty : ist.filterMap (fun i => tysW[i]?) = tys)
    (hn : As.length = n) (hsize : ls.size = nL) (hst : st = As.reverse ++ rest) (hroom : (rest.map fun v => v.category).sum ≤ 8) {cells1 slots1 : Nat} (hc9 : cells + rm.cells = cells1) (hs9 : slots + rm.slots = slots1) (hf : cells1 ≤ R.cells ∧ slots1 ≤ R.slots) (hdg : decode cc pc = .ok (.invokestatic index, 3))
    (kx : ∀ (E : String) (ce : Cell) (q9 : Addr) (H1 : Heap) (locs1 : List Loc), ex E → va_P D vwCl W0 H1 → va_D A W0 → va_S A s.heap H1 locs1 → H1[q9]? = some ce → ce.vm = .none → s.vm.findClass E = some ce.cls → vx_W p l e R s m args below meth c H1 locs1 cells1 slots1 Q (F0 m pc ls rest) q9)
    (kk : ∀ (u : S) (H1 : Heap) (locs1 : List Loc), post u → va_P D vwCl (W1 u) H1 → va_D A (W1 u) → va_S A s.heap H1 locs1 → W p l e R s m args below meth c H1 locs1 cells1 slots1 Q (F0 m (pc + 3) ls rest)) :
    W p l e R s m args below meth c H locs cells slots Q (F0 m pc ls st) := by
  subst hst
  subst hc9
  subst hs9
  have hp := cx_pre (Bs := As) hK hP hD hS hA hT hcut ist hty
  refine vx_callv (vx_runS (As := As) (rest := rest) F (hC H.size) cw ⟨hp.1, hp.2⟩ rfl hn hsize rfl (lv_room hroom) hdg hf) hS (fun q _ h => va_free hD hS hA isC hcut.1 q h) (va_free hD hS hA isC hcut.1) (fun q _ h => va_free hD hS hA isC hcut.1 q h) (fun E ce q9 u t H1 locs1 ht hvm hw hB hz1 hk1 hS1 hce hcv hcl => ?_) (fun u t H1 locs1 ht hvm hw hB hz1 hk1 hS1 => ?_)
  · obtain ⟨a1, a2⟩ := cx_backx hP hD hS hA hcut permx hnpx hpermx ht hk1 hB.2
    exact kx E ce q9 H1 locs1 hB.1 a1 a2 hS1 hce hcv hcl
  · obtain ⟨a1, a2⟩ := ct_back hP hD hS hA hcut perm hnp (hperm u) ht hk1 hB
    exact kk u H1 locs1 hw a1 a2 hS1
end CXC
