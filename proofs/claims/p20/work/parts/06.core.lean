/-! contracts over worlds in one form: what is there before, what is there behind, and what the answer is -/
def ct_Pc (D : va_G) (As : List Value) (wc : va_W) (tys : List (ClassId × FieldType)) (sz : Nat) : Array Value → State → Prop := va_Pc As (fun U => U.heap.size = sz ∧ va_P D vwCl wc U.heap ∧ va_K D vwCl tys U ∧ va_D (fun _ => True) wc)
def ct_B {S : Type} (D : va_G) (tys : List (ClassId × FieldType)) (A : Nat → Prop) (wo : S → va_W) (u : S) (t : State) : Prop := va_P D vwCl (wo u) t.heap ∧ va_K D vwCl tys t ∧ va_D A (wo u)
abbrev ct_Qi {S : Type} (D : va_G) (tys : List (ClassId × FieldType)) (post : Int32 → S → Prop) (wo : S → va_W) (A : Nat → Prop) : Array Value → State → Outcome → State → Prop := va_Qi post (ct_B D tys A wo) A
def ct_i {S : Type} (l : Launch) (D : va_G) (y : MethodName) (ws : List Cond) (rm : Room) (As : List Value) (wc : va_W) (tys : List (ClassId × FieldType)) (post : Int32 → S → Prop) (wo : S → va_W) : Prop := ∀ sz : Nat, Met l y ws rm (ct_Pc D As wc tys sz) (ct_Qi D tys post wo (va_A wc sz)) rm.cells rm.slots (va_A wc sz)
def ct_Bi {S : Type} (l : Launch) (D : va_G) (y : MethodName) (ws : List Cond) (rm : Room) (cc : ByteArray) (maxL : Nat) (As : List Value) (wc : va_W) (tys : List (ClassId × FieldType)) (post : Int32 → S → Prop) (wo : S → va_W) : Prop :=
  ∀ (p : Program) (e : Env) (s : State) (m : MethodId) (args : Array Value) (below : List Frame) (meth : Method) (c : Code) (A : Nat → Prop) (Q : State → Prop), p.tables.exec = Jvm.exec → c.code = cc → c.maxLocals = maxL → s.vm.findClass y.cls = some m.cls → (∀ w ∈ ws, w.before args s = true) → meth.name = y.name → (∀ q : Nat, s.heap.size ≤ q → A q) →
    va_K D vwCl tys s → ∀ (H : Heap) (locs : List Loc), va_P D vwCl wc H → va_D A wc → va_S A s.heap H locs →
    (∀ (v : Int32) (u : S) (H : Heap) (locs : List Loc) (cells slots pc : Nat) (ls : Array Slot), decode cc pc = .ok (.ireturn, 1) → post v u → va_P D vwCl (wo u) H → va_D A (wo u) → va_S A s.heap H locs → cells ≤ rm.cells → slots ≤ rm.slots → W p l e rm s m args below meth c H locs cells slots Q (F0 m pc ls [.int v])) →
    ∀ ls : Array Slot, lv_has ls maxL (lv_args 0 As) → W p l e rm s m args below meth c H locs 0 0 Q (F0 m 0 ls [])
theorem ct_ofi {S : Type} {l : Launch} {D : va_G} {y : MethodName} {ws ws' : List Cond} {rm : Room} {cc : ByteArray} {maxL : Nat} {As : List Value} {wc : va_W} {tys : List (ClassId × FieldType)} {post : Int32 → S → Prop} {wo : S → va_W}
    (hy : plainName y.cls = true) (hw : ws = Cond.code y cc maxL (some .int) :: ws') (hln : (lg_sl As).length ≤ maxL) (body : ct_Bi l D y ws rm cc maxL As wc tys post wo) : ct_i l D y ws rm As wc tys post wo := by
  intro sz
  refine Met.ofW (cc := cc) (maxL := maxL) (ret := (some .int)) hy hw ?_
  intro p e s m args below meth c s₁ B hml hv
  obtain ⟨rfl, hsz, hP, hK, hD0⟩ := hv
  subst hsz
  have hD := hD0.self (sz := s.heap.size)
  have hl := lv_entry As (n := maxL) hln
  rw [lg_entry_eq]
  have hx := B.exec
  have hb := B.bytes
  have hr := B.returns
  have hlocks := B.notSynchronized
  exact body p e s m As.toArray below meth c (va_A wc s.heap.size) _ hx hb hml (findClass_of_methodNamed B.named) (atoms_spec (ws := ws) B.pre) (name_of_methodNamed B.named B.method).1 (fun q h => Or.inr h) hK s.heap [] hP hD va_S.rf
    (fun v u H locs cells slots pc ls hdg hq hP hD hS hc hs => W.widen hc hs (W.iret (v := v) hx hb hr (fun t ht hW => ⟨⟨v, u, rfl, hq, by rw [ht]; exact hP, va_K.moved hW.alike hK, hD⟩, hS.F ht⟩) hS.2.2 hdg hlocks)) _ hl
abbrev ct_Ql {S : Type} (D : va_G) (tys : List (ClassId × FieldType)) (post : Int64 → S → Prop) (wo : S → va_W) (A : Nat → Prop) : Array Value → State → Outcome → State → Prop := va_Ql post (ct_B D tys A wo) A
def ct_l {S : Type} (l : Launch) (D : va_G) (y : MethodName) (ws : List Cond) (rm : Room) (As : List Value) (wc : va_W) (tys : List (ClassId × FieldType)) (post : Int64 → S → Prop) (wo : S → va_W) : Prop := ∀ sz : Nat, Met l y ws rm (ct_Pc D As wc tys sz) (ct_Ql D tys post wo (va_A wc sz)) rm.cells rm.slots (va_A wc sz)
def ct_Bl {S : Type} (l : Launch) (D : va_G) (y : MethodName) (ws : List Cond) (rm : Room) (cc : ByteArray) (maxL : Nat) (As : List Value) (wc : va_W) (tys : List (ClassId × FieldType)) (post : Int64 → S → Prop) (wo : S → va_W) : Prop :=
  ∀ (p : Program) (e : Env) (s : State) (m : MethodId) (args : Array Value) (below : List Frame) (meth : Method) (c : Code) (A : Nat → Prop) (Q : State → Prop), p.tables.exec = Jvm.exec → c.code = cc → c.maxLocals = maxL → s.vm.findClass y.cls = some m.cls → (∀ w ∈ ws, w.before args s = true) → meth.name = y.name → (∀ q : Nat, s.heap.size ≤ q → A q) →
    va_K D vwCl tys s → ∀ (H : Heap) (locs : List Loc), va_P D vwCl wc H → va_D A wc → va_S A s.heap H locs →
    (∀ (v : Int64) (u : S) (H : Heap) (locs : List Loc) (cells slots pc : Nat) (ls : Array Slot), decode cc pc = .ok (.lreturn, 1) → post v u → va_P D vwCl (wo u) H → va_D A (wo u) → va_S A s.heap H locs → cells ≤ rm.cells → slots ≤ rm.slots → W p l e rm s m args below meth c H locs cells slots Q (F0 m pc ls [.long v])) →
    ∀ ls : Array Slot, lv_has ls maxL (lv_args 0 As) → W p l e rm s m args below meth c H locs 0 0 Q (F0 m 0 ls [])
theorem ct_ofl {S : Type} {l : Launch} {D : va_G} {y : MethodName} {ws ws' : List Cond} {rm : Room} {cc : ByteArray} {maxL : Nat} {As : List Value} {wc : va_W} {tys : List (ClassId × FieldType)} {post : Int64 → S → Prop} {wo : S → va_W}
    (hy : plainName y.cls = true) (hw : ws = Cond.code y cc maxL (some .long) :: ws') (hln : (lg_sl As).length ≤ maxL) (body : ct_Bl l D y ws rm cc maxL As wc tys post wo) : ct_l l D y ws rm As wc tys post wo := by
  intro sz
  refine Met.ofW (cc := cc) (maxL := maxL) (ret := (some .long)) hy hw ?_
  intro p e s m args below meth c s₁ B hml hv
  obtain ⟨rfl, hsz, hP, hK, hD0⟩ := hv
  subst hsz
  have hD := hD0.self (sz := s.heap.size)
  have hl := lv_entry As (n := maxL) hln
  rw [lg_entry_eq]
  have hx := B.exec
  have hb := B.bytes
  have hr := B.returns
  have hlocks := B.notSynchronized
  exact body p e s m As.toArray below meth c (va_A wc s.heap.size) _ hx hb hml (findClass_of_methodNamed B.named) (atoms_spec (ws := ws) B.pre) (name_of_methodNamed B.named B.method).1 (fun q h => Or.inr h) hK s.heap [] hP hD va_S.rf
    (fun v u H locs cells slots pc ls hdg hq hP hD hS hc hs => W.widen hc hs (W.lret (v := v) hx hb hr (fun t ht hW => ⟨⟨v, u, rfl, hq, by rw [ht]; exact hP, va_K.moved hW.alike hK, hD⟩, hS.F ht⟩) hS.2.2 hdg hlocks)) _ hl
abbrev ct_Qv {S : Type} (D : va_G) (tys : List (ClassId × FieldType)) (post : S → Prop) (wo : S → va_W) (A : Nat → Prop) : Array Value → State → Outcome → State → Prop := va_Qv post (ct_B D tys A wo) A
def ct_v {S : Type} (l : Launch) (D : va_G) (y : MethodName) (ws : List Cond) (rm : Room) (As : List Value) (wc : va_W) (tys : List (ClassId × FieldType)) (post : S → Prop) (wo : S → va_W) : Prop := ∀ sz : Nat, Met l y ws rm (ct_Pc D As wc tys sz) (ct_Qv D tys post wo (va_A wc sz)) rm.cells rm.slots (va_A wc sz)
def ct_Bv {S : Type} (l : Launch) (D : va_G) (y : MethodName) (ws : List Cond) (rm : Room) (cc : ByteArray) (maxL : Nat) (As : List Value) (wc : va_W) (tys : List (ClassId × FieldType)) (post : S → Prop) (wo : S → va_W) : Prop :=
  ∀ (p : Program) (e : Env) (s : State) (m : MethodId) (args : Array Value) (below : List Frame) (meth : Method) (c : Code) (A : Nat → Prop) (Q : State → Prop), p.tables.exec = Jvm.exec → c.code = cc → c.maxLocals = maxL → s.vm.findClass y.cls = some m.cls → (∀ w ∈ ws, w.before args s = true) → meth.name = y.name → (∀ q : Nat, s.heap.size ≤ q → A q) →
    va_K D vwCl tys s → ∀ (H : Heap) (locs : List Loc), va_P D vwCl wc H → va_D A wc → va_S A s.heap H locs →
    (∀ (u : S) (H : Heap) (locs : List Loc) (cells slots pc : Nat) (ls : Array Slot), decode cc pc = .ok (.return_, 1) → post u → va_P D vwCl (wo u) H → va_D A (wo u) → va_S A s.heap H locs → cells ≤ rm.cells → slots ≤ rm.slots → W p l e rm s m args below meth c H locs cells slots Q (F0 m pc ls [])) →
    ∀ ls : Array Slot, lv_has ls maxL (lv_args 0 As) → W p l e rm s m args below meth c H locs 0 0 Q (F0 m 0 ls [])
theorem ct_ofv {S : Type} {l : Launch} {D : va_G} {y : MethodName} {ws ws' : List Cond} {rm : Room} {cc : ByteArray} {maxL : Nat} {As : List Value} {wc : va_W} {tys : List (ClassId × FieldType)} {post : S → Prop} {wo : S → va_W}
    (hy : plainName y.cls = true) (hw : ws = Cond.code y cc maxL none :: ws') (hln : (lg_sl As).length ≤ maxL) (body : ct_Bv l D y ws rm cc maxL As wc tys post wo) : ct_v l D y ws rm As wc tys post wo := by
  intro sz
  refine Met.ofW (cc := cc) (maxL := maxL) (ret := none) hy hw ?_
  intro p e s m args below meth c s₁ B hml hv
  obtain ⟨rfl, hsz, hP, hK, hD0⟩ := hv
  subst hsz
  have hD := hD0.self (sz := s.heap.size)
  have hl := lv_entry As (n := maxL) hln
  rw [lg_entry_eq]
  have hx := B.exec
  have hb := B.bytes
  have hr := B.returns
  have hlocks := B.notSynchronized
  exact body p e s m As.toArray below meth c (va_A wc s.heap.size) _ hx hb hml (findClass_of_methodNamed B.named) (atoms_spec (ws := ws) B.pre) (name_of_methodNamed B.named B.method).1 (fun q h => Or.inr h) hK s.heap [] hP hD va_S.rf
    (fun u H locs cells slots pc ls hdg hq hP hD hS hc hs => W.widen hc hs (W.vret hx hb hr (fun t ht hW => ⟨⟨u, rfl, hq, by rw [ht]; exact hP, va_K.moved hW.alike hK, hD⟩, hS.F ht⟩) hS.2.2 hdg hlocks)) _ hl
theorem ct_ofiF {S : Type} {l : Launch} {D : va_G} {y : MethodName} {ws ws' : List Cond} {rm : Room} {cc : ByteArray} {maxL : Nat} {As : List Value} {wc : va_W} {tys : List (ClassId × FieldType)} {post : Int32 → S → Prop} {wo : S → va_W}
    (hy : plainFor y = true) (hw : ws = Cond.code y cc maxL (some .int) :: ws') (hln : (lg_sl As).length ≤ maxL) (body : ct_Bi l D y ws rm cc maxL As wc tys post wo) : ct_i l D y ws rm As wc tys post wo := by
  intro sz
  refine va_MetF (cc := cc) (maxL := maxL) (ret := (some .int)) hy hw ?_
  intro p e s m args below meth c s₁ B hml hv
  obtain ⟨rfl, hsz, hP, hK, hD0⟩ := hv
  subst hsz
  have hD := hD0.self (sz := s.heap.size)
  have hl := lv_entry As (n := maxL) hln
  rw [lg_entry_eq]
  have hx := B.exec
  have hb := B.bytes
  have hr := B.returns
  have hlocks := B.notSynchronized
  exact body p e s m As.toArray below meth c (va_A wc s.heap.size) _ hx hb hml (findClass_of_methodNamed B.named) (atoms_spec (ws := ws) B.pre) (name_of_methodNamed B.named B.method).1 (fun q h => Or.inr h) hK s.heap [] hP hD va_S.rf
    (fun v u H locs cells slots pc ls hdg hq hP hD hS hc hs => W.widen hc hs (W.iret (v := v) hx hb hr (fun t ht hW => ⟨⟨v, u, rfl, hq, by rw [ht]; exact hP, va_K.moved hW.alike hK, hD⟩, hS.F ht⟩) hS.2.2 hdg hlocks)) _ hl
/-- how a callee's world lies in the caller's: its places, the rest's places, and the order that the caller wants behind the call -/
def ct_Cut (ws wc wr : va_W) (isC isR : List Nat) : Prop := isC.map (fun i => ws[i]?) = wc.map some ∧ isR.map (fun i => ws[i]?) = wr.map some ∧ va_nd isC = true ∧ va_nd isR = true ∧ (isR.all (fun i => !isC.contains i)) = true
theorem ct_frameblind {D : va_G} {As : List Value} {wc : va_W} {tys : List (ClassId × FieldType)} {sz : Nat} : FrameBlind (ct_Pc D As wc tys sz) := by
  intro a U g mk q
  obtain ⟨q0, q1, qP, qK, qD⟩ := q
  exact ⟨q0, q1, qP, va_K.moved (u := U) (U := U.calling g mk a) (Vm.Alike.refl U.vm) qK, qD⟩
theorem ct_mapfm {ws wc : va_W} {isC : List Nat} (h : isC.map (fun i => ws[i]?) = wc.map some) : isC.filterMap (fun i => ws[i]?) = wc := by
  have e : isC.filterMap (fun i => ws[i]?) = (isC.map (fun i => ws[i]?)).filterMap id := by rw [List.filterMap_map]; rfl
  rw [e, h, List.filterMap_map]
  exact List.filterMap_some
section CTC
variable {p : Program} {l : Launch} {e : Env} {R : Room} {s : State} {m : MethodId} {args : Array Value} {below : List Frame} {meth : Method} {c : Code} {H : Heap} {locs : List Loc} {cells slots : Nat} {Q : State → Prop}
variable {pc : Nat} {ls : Array Slot} {cc : ByteArray} {D : va_G} {tysW tys : List (ClassId × FieldType)} {A : Nat → Prop} {S : Type} {wo : S → va_W} {y : MethodName} {bytes : ByteArray} {maxL nL n index : Nat} {ret : Option FieldType} {wsy : List Cond} {rm : Room} {Ts : List Cond} {own C : String} {b : Addr} {As rest st : List Value} {W0 wc wr : va_W} {W1 : S → va_W}
theorem ct_pre (hK : va_K D vwCl tysW s) (hP : va_P D vwCl W0 H) (hD : va_D A W0) {isC isR : List Nat} (hcut : ct_Cut W0 wc wr isC isR) (ist : List Nat) (hty : ist.filterMap (fun i => tysW[i]?) = tys) {Bs : List Value} : PreS s H (ct_Pc D Bs wc tys H.size) Bs :=
  ⟨ct_frameblind, fun U hU hW => ⟨rfl, by rw [hU], by rw [hU]; exact hP.sub isC (ct_mapfm hcut.1), va_K.moved hW.alike (hK.sub ist hty), (hD.sub isC hcut.2.2.1 hcut.1).weaken (fun _ _ _ _ => trivial)⟩⟩
theorem ct_back {H1 : Heap} {t : State} {u : S} (hP : va_P D vwCl W0 H) (hD : va_D A W0) (hS : va_S A s.heap H locs) (hA : ∀ q : Nat, s.heap.size ≤ q → A q) {isC isR : List Nat} (hcut : ct_Cut W0 wc wr isC isR) (perm : List Nat) (hnp : va_nd perm = true) (hperm : perm.map (fun i => (wr ++ wo u)[i]?) = (W1 u).map some)
    (ht : t.heap = H1) (hk : ∀ q : Nat, q < H.size → ¬ va_A wc H.size q → H1[q]? = H[q]?) (hB : ct_B D tys (va_A wc H.size) wo u t) : va_P D vwCl (W1 u) H1 ∧ va_D A (W1 u) := by
  obtain ⟨hP1, hK1, hD1⟩ := hB
  rw [ht] at hP1
  obtain ⟨hP2, hD2⟩ := va_join hP hD isC isR hcut.1 hcut.2.1 hcut.2.2.2.1 (fun i hi hc => by
    have h2 := List.all_eq_true.mp hcut.2.2.2.2 i hi
    simp at h2
    exact h2 hc) hk (va_free hD hS hA isC hcut.1) hP1 hD1
  exact ⟨hP2.sub perm (ct_mapfm hperm), hD2.sub perm hnp hperm⟩
/-- a virtual call that makes nothing and returns an int -/
theorem ct_Vi {post : Int32 → S → Prop} (F : CallFix p m c cc nL s args Ts own) (hC : ct_i l D y wsy rm (.ref b :: As) wc tys post wo) (cw : CallW R s args own C index y bytes maxL ret wsy rm rm.cells rm.slots n) (hK : va_K D vwCl tysW s) (hP : va_P D vwCl W0 H) (hD : va_D A W0) (hS : va_S A s.heap H locs) (hA : ∀ q : Nat, s.heap.size ≤ q → A q)
    (isC isR : List Nat) (hcut : ct_Cut W0 wc wr isC isR) (perm : List Nat) (hnp : va_nd perm = true) (hperm : ∀ u : S, perm.map (fun i => (wr ++ wo u)[i]?) = (W1 u).map some) (ist : List Nat) (hty : ist.filterMap (fun i => tysW[i]?) = tys)
    (hrecv : ∃ cell : Cell, H[b]? = some cell ∧ cell.vm.isStatics = false ∧ s.vm.findClass C = some cell.cls) (hn : As.length = n) (hsize : ls.size = nL) (hst : st = As.reverse ++ .ref b :: rest) (hroom : (rest.map fun v => v.category).sum ≤ 8) {cells1 slots1 : Nat} (hc9 : cells + rm.cells = cells1) (hs9 : slots + rm.slots = slots1) (hf : cells1 ≤ R.cells ∧ slots1 ≤ R.slots) (hdg : decode cc pc = .ok (.invokevirtual index, 3))
    (kk : ∀ (r : Int32) (u : S) (H1 : Heap) (locs1 : List Loc), post r u → va_P D vwCl (W1 u) H1 → va_D A (W1 u) → va_S A s.heap H1 locs1 → W p l e R s m args below meth c H1 locs1 cells1 slots1 Q (F0 m (pc + 3) ls (.int r :: rest))) :
    W p l e R s m args below meth c H locs cells slots Q (F0 m pc ls st) := by
  subst hst
  subst hc9
  subst hs9
  have hp := ct_pre (Bs := .ref b :: As) hK hP hD hcut ist hty
  refine va_calli (va_runV (As := As) (rest := rest) F (hC H.size) cw ⟨hp.1, hrecv, hp.2⟩ rfl hn hsize rfl (lv_room hroom) hdg hf) hS (fun q _ h => va_free hD hS hA isC hcut.1 q h) (va_free hD hS hA isC hcut.1) (fun r u t H1 locs1 ht hvm hw hB hz1 hk1 hS1 => ?_)
  obtain ⟨a1, a2⟩ := ct_back hP hD hS hA hcut perm hnp (hperm u) ht hk1 hB
  exact kk r u H1 locs1 hw a1 a2 hS1
theorem ct_Vl {post : Int64 → S → Prop} (F : CallFix p m c cc nL s args Ts own) (hC : ct_l l D y wsy rm (.ref b :: As) wc tys post wo) (cw : CallW R s args own C index y bytes maxL ret wsy rm rm.cells rm.slots n) (hK : va_K D vwCl tysW s) (hP : va_P D vwCl W0 H) (hD : va_D A W0) (hS : va_S A s.heap H locs) (hA : ∀ q : Nat, s.heap.size ≤ q → A q)
    (isC isR : List Nat) (hcut : ct_Cut W0 wc wr isC isR) (perm : List Nat) (hnp : va_nd perm = true) (hperm : ∀ u : S, perm.map (fun i => (wr ++ wo u)[i]?) = (W1 u).map some) (ist : List Nat) (hty : ist.filterMap (fun i => tysW[i]?) = tys)
    (hrecv : ∃ cell : Cell, H[b]? = some cell ∧ cell.vm.isStatics = false ∧ s.vm.findClass C = some cell.cls) (hn : As.length = n) (hsize : ls.size = nL) (hst : st = As.reverse ++ .ref b :: rest) (hroom : (rest.map fun v => v.category).sum ≤ 8) {cells1 slots1 : Nat} (hc9 : cells + rm.cells = cells1) (hs9 : slots + rm.slots = slots1) (hf : cells1 ≤ R.cells ∧ slots1 ≤ R.slots) (hdg : decode cc pc = .ok (.invokevirtual index, 3))
    (kk : ∀ (r : Int64) (u : S) (H1 : Heap) (locs1 : List Loc), post r u → va_P D vwCl (W1 u) H1 → va_D A (W1 u) → va_S A s.heap H1 locs1 → W p l e R s m args below meth c H1 locs1 cells1 slots1 Q (F0 m (pc + 3) ls (.long r :: rest))) :
    W p l e R s m args below meth c H locs cells slots Q (F0 m pc ls st) := by
  subst hst
  subst hc9
  subst hs9
  have hp := ct_pre (Bs := .ref b :: As) hK hP hD hcut ist hty
  refine va_calll (va_runV (As := As) (rest := rest) F (hC H.size) cw ⟨hp.1, hrecv, hp.2⟩ rfl hn hsize rfl (lv_room hroom) hdg hf) hS (fun q _ h => va_free hD hS hA isC hcut.1 q h) (va_free hD hS hA isC hcut.1) (fun r u t H1 locs1 ht hvm hw hB hz1 hk1 hS1 => ?_)
  obtain ⟨a1, a2⟩ := ct_back hP hD hS hA hcut perm hnp (hperm u) ht hk1 hB
  exact kk r u H1 locs1 hw a1 a2 hS1
theorem ct_Vv {post : S → Prop} (F : CallFix p m c cc nL s args Ts own) (hC : ct_v l D y wsy rm (.ref b :: As) wc tys post wo) (cw : CallW R s args own C index y bytes maxL ret wsy rm rm.cells rm.slots n) (hK : va_K D vwCl tysW s) (hP : va_P D vwCl W0 H) (hD : va_D A W0) (hS : va_S A s.heap H locs) (hA : ∀ q : Nat, s.heap.size ≤ q → A q)
    (isC isR : List Nat) (hcut : ct_Cut W0 wc wr isC isR) (perm : List Nat) (hnp : va_nd perm = true) (hperm : ∀ u : S, perm.map (fun i => (wr ++ wo u)[i]?) = (W1 u).map some) (ist : List Nat) (hty : ist.filterMap (fun i => tysW[i]?) = tys)
    (hrecv : ∃ cell : Cell, H[b]? = some cell ∧ cell.vm.isStatics = false ∧ s.vm.findClass C = some cell.cls) (hn : As.length = n) (hsize : ls.size = nL) (hst : st = As.reverse ++ .ref b :: rest) (hroom : (rest.map fun v => v.category).sum ≤ 8) {cells1 slots1 : Nat} (hc9 : cells + rm.cells = cells1) (hs9 : slots + rm.slots = slots1) (hf : cells1 ≤ R.cells ∧ slots1 ≤ R.slots) (hdg : decode cc pc = .ok (.invokevirtual index, 3))
    (kk : ∀ (u : S) (H1 : Heap) (locs1 : List Loc), post u → va_P D vwCl (W1 u) H1 → va_D A (W1 u) → va_S A s.heap H1 locs1 → W p l e R s m args below meth c H1 locs1 cells1 slots1 Q (F0 m (pc + 3) ls rest)) :
    W p l e R s m args below meth c H locs cells slots Q (F0 m pc ls st) := by
  subst hst
  subst hc9
  subst hs9
  have hp := ct_pre (Bs := .ref b :: As) hK hP hD hcut ist hty
  refine va_callv (va_runV (As := As) (rest := rest) F (hC H.size) cw ⟨hp.1, hrecv, hp.2⟩ rfl hn hsize rfl (lv_room hroom) hdg hf) hS (fun q _ h => va_free hD hS hA isC hcut.1 q h) (va_free hD hS hA isC hcut.1) (fun u t H1 locs1 ht hvm hw hB hz1 hk1 hS1 => ?_)
  obtain ⟨a1, a2⟩ := ct_back hP hD hS hA hcut perm hnp (hperm u) ht hk1 hB
  exact kk u H1 locs1 hw a1 a2 hS1
theorem ct_Si {post : Int32 → S → Prop} (F : CallFix p m c cc nL s args Ts own) (hC : ct_i l D y wsy rm As wc tys post wo) (cw : CallB R s args own index y bytes maxL ret wsy rm rm.cells rm.slots n ∧ (Cond.static y).before args s = true) (hK : va_K D vwCl tysW s) (hP : va_P D vwCl W0 H) (hD : va_D A W0) (hS : va_S A s.heap H locs) (hA : ∀ q : Nat, s.heap.size ≤ q → A q)
    (isC isR : List Nat) (hcut : ct_Cut W0 wc wr isC isR) (perm : List Nat) (hnp : va_nd perm = true) (hperm : ∀ u : S, perm.map (fun i => (wr ++ wo u)[i]?) = (W1 u).map some) (ist : List Nat) (hty : ist.filterMap (fun i => tysW[i]?) = tys)
    (hn : As.length = n) (hsize : ls.size = nL) (hst : st = As.reverse ++ rest) (hroom : (rest.map fun v => v.category).sum ≤ 8) {cells1 slots1 : Nat} (hc9 : cells + rm.cells = cells1) (hs9 : slots + rm.slots = slots1) (hf : cells1 ≤ R.cells ∧ slots1 ≤ R.slots) (hdg : decode cc pc = .ok (.invokestatic index, 3))
    (kk : ∀ (r : Int32) (u : S) (H1 : Heap) (locs1 : List Loc), post r u → va_P D vwCl (W1 u) H1 → va_D A (W1 u) → va_S A s.heap H1 locs1 → W p l e R s m args below meth c H1 locs1 cells1 slots1 Q (F0 m (pc + 3) ls (.int r :: rest))) :
    W p l e R s m args below meth c H locs cells slots Q (F0 m pc ls st) := by
  subst hst
  subst hc9
  subst hs9
  have hp := ct_pre (Bs := As) hK hP hD hcut ist hty
  refine va_calli (va_runS (As := As) (rest := rest) F (hC H.size) cw ⟨hp.1, hp.2⟩ rfl hn hsize rfl (lv_room hroom) hdg hf) hS (fun q _ h => va_free hD hS hA isC hcut.1 q h) (va_free hD hS hA isC hcut.1) (fun r u t H1 locs1 ht hvm hw hB hz1 hk1 hS1 => ?_)
  obtain ⟨a1, a2⟩ := ct_back hP hD hS hA hcut perm hnp (hperm u) ht hk1 hB
  exact kk r u H1 locs1 hw a1 a2 hS1
theorem ct_Sv {post : S → Prop} (F : CallFix p m c cc nL s args Ts own) (hC : ct_v l D y wsy rm As wc tys post wo) (cw : CallB R s args own index y bytes maxL ret wsy rm rm.cells rm.slots n ∧ (Cond.static y).before args s = true) (hK : va_K D vwCl tysW s) (hP : va_P D vwCl W0 H) (hD : va_D A W0) (hS : va_S A s.heap H locs) (hA : ∀ q : Nat, s.heap.size ≤ q → A q)
    (isC isR : List Nat) (hcut : ct_Cut W0 wc wr isC isR) (perm : List Nat) (hnp : va_nd perm = true) (hperm : ∀ u : S, perm.map (fun i => (wr ++ wo u)[i]?) = (W1 u).map some) (ist : List Nat) (hty : ist.filterMap (fun i => tysW[i]?) = tys)
    (hn : As.length = n) (hsize : ls.size = nL) (hst : st = As.reverse ++ rest) (hroom : (rest.map fun v => v.category).sum ≤ 8) {cells1 slots1 : Nat} (hc9 : cells + rm.cells = cells1) (hs9 : slots + rm.slots = slots1) (hf : cells1 ≤ R.cells ∧ slots1 ≤ R.slots) (hdg : decode cc pc = .ok (.invokestatic index, 3))
    (kk : ∀ (u : S) (H1 : Heap) (locs1 : List Loc), post u → va_P D vwCl (W1 u) H1 → va_D A (W1 u) → va_S A s.heap H1 locs1 → W p l e R s m args below meth c H1 locs1 cells1 slots1 Q (F0 m (pc + 3) ls rest)) :
    W p l e R s m args below meth c H locs cells slots Q (F0 m pc ls st) := by
  subst hst
  subst hc9
  subst hs9
  have hp := ct_pre (Bs := As) hK hP hD hcut ist hty
  refine va_callv (va_runS (As := As) (rest := rest) F (hC H.size) cw ⟨hp.1, hp.2⟩ rfl hn hsize rfl (lv_room hroom) hdg hf) hS (fun q _ h => va_free hD hS hA isC hcut.1 q h) (va_free hD hS hA isC hcut.1) (fun u t H1 locs1 ht hvm hw hB hz1 hk1 hS1 => ?_)
  obtain ⟨a1, a2⟩ := ct_back hP hD hS hA hcut perm hnp (hperm u) ht hk1 hB
  exact kk u H1 locs1 hw a1 a2 hS1
theorem ct_Iv {post : S → Prop} (F : CallFix p m c cc nL s args Ts own) (hC : ct_v l D y wsy rm (.ref b :: As) wc tys post wo) (cw : CallB R s args own index y bytes maxL none wsy rm rm.cells rm.slots n ∧ y.name = "<init>" ∧ (Cond.instanceMethod y).before args s = true) (hK : va_K D vwCl tysW s) (hP : va_P D vwCl W0 H) (hD : va_D A W0) (hS : va_S A s.heap H locs) (hA : ∀ q : Nat, s.heap.size ≤ q → A q)
    (isC isR : List Nat) (hcut : ct_Cut W0 wc wr isC isR) (perm : List Nat) (hnp : va_nd perm = true) (hperm : ∀ u : S, perm.map (fun i => (wr ++ wo u)[i]?) = (W1 u).map some) (ist : List Nat) (hty : ist.filterMap (fun i => tysW[i]?) = tys)
    (hn : As.length = n) (hsize : ls.size = nL) (hst : st = As.reverse ++ .ref b :: rest) (hroom : (rest.map fun v => v.category).sum ≤ 8) {cells1 slots1 : Nat} (hc9 : cells + rm.cells = cells1) (hs9 : slots + rm.slots = slots1) (hf : cells1 ≤ R.cells ∧ slots1 ≤ R.slots) (hdg : decode cc pc = .ok (.invokespecial index, 3))
    (kk : ∀ (u : S) (H1 : Heap) (locs1 : List Loc), post u → va_P D vwCl (W1 u) H1 → va_D A (W1 u) → va_S A s.heap H1 locs1 → W p l e R s m args below meth c H1 locs1 cells1 slots1 Q (F0 m (pc + 3) ls rest)) :
    W p l e R s m args below meth c H locs cells slots Q (F0 m pc ls st) := by
  subst hst
  subst hc9
  subst hs9
  have hp := ct_pre (Bs := .ref b :: As) hK hP hD hcut ist hty
  refine va_callv (va_runI (As := As) (rest := rest) F (hC H.size) cw ⟨hp.1, hp.2⟩ rfl hn hsize rfl (lv_room hroom) hdg hf) hS (fun q _ h => va_free hD hS hA isC hcut.1 q h) (va_free hD hS hA isC hcut.1) (fun u t H1 locs1 ht hvm hw hB hz1 hk1 hS1 => ?_)
  obtain ⟨a1, a2⟩ := ct_back hP hD hS hA hcut perm hnp (hperm u) ht hk1 hB
  exact kk u H1 locs1 hw a1 a2 hS1
end CTC
section CTA
variable {p : Program} {l : Launch} {e : Env} {R : Room} {s : State} {m : MethodId} {args : Array Value} {below : List Frame} {meth : Method} {c : Code} {H H0 : Heap} {locs : List Loc} {cells slots : Nat} {Q : State → Prop}
variable {pc : Nat} {ls : Array Slot} {rest : List Value} {cc : ByteArray} {D : va_G} {cl : List vw_C} {tys : List (ClassId × FieldType)} {A : Nat → Prop} {ws : va_W} {a : Nat}
theorem ct_iald (hexec : p.tables.exec = Jvm.exec) (hb : c.code = cc) (hK : va_K D cl tys s) (hP : va_P D cl ws H) (q0 t0 : Nat) {cA : ClassId} {n : Nat} {f : Nat → Int32} (ha : ws[q0]? = some (a, .inl (cA, n, .inl f))) (ht : tys[t0]? = some (cA, .int)) (k : Nat) {i v : Int32} (hi : i = nI k) (hk : k < n) (hn : n < 2 ^ 31) (hv : f k = v) (hdg : decode cc pc = .ok (.iaload, 1))
    (kk : W p l e R s m args below meth c H locs cells slots Q (F0 m (pc + 1) ls (.int v :: rest))) : W p l e R s m args below meth c H locs cells slots Q (F0 m pc ls (.int i :: .ref a :: rest)) := by
  subst hi
  refine va_iald hexec hb hK hP q0 t0 ha ht (vp_in_nI hk hn) hdg ?_
  rw [nI_clamp (Nat.lt_trans hk hn), hv]
  exact kk
theorem ct_iast (hexec : p.tables.exec = Jvm.exec) (hb : c.code = cc) (hK : va_K D cl tys s) (hP : va_P D cl ws H) (hD : va_D A ws) (hS : va_S A H0 H locs) (q0 t0 : Nat) {cA : ClassId} {n : Nat} {f : Nat → Int32} (ha : ws[q0]? = some (a, .inl (cA, n, .inl f))) (ht : tys[t0]? = some (cA, .int)) (k : Nat) {i x : Int32} (hi : i = nI k) (hk : k < n) (hn : n < 2 ^ 31) {g : Nat → Int32} (hg : upd f k x = g) {ws1 : va_W} (hw : ws.set q0 (a, .inl (cA, n, .inl g)) = ws1) (hdg : decode cc pc = .ok (.iastore, 1))
    (kk : ∀ (H1 : Heap) (locs1 : List Loc), va_P D cl ws1 H1 → va_D A ws1 → va_S A H0 H1 locs1 → W p l e R s m args below meth c H1 locs1 cells slots Q (F0 m (pc + 1) ls rest)) : W p l e R s m args below meth c H locs cells slots Q (F0 m pc ls (.int x :: .int i :: .ref a :: rest)) := by
  subst hi
  subst hg
  subst hw
  refine va_iast hexec hb hK hP hD hS q0 t0 ha ht (vp_in_nI hk hn) hdg (fun H1 locs1 h1 h2 h3 => ?_)
  rw [nI_clamp (Nat.lt_trans hk hn)] at h1 h2
  exact kk H1 locs1 h1 h2 h3
/-- a row's contents beyond its length don't matter -/
theorem ct_arr {cA : ClassId} {n : Nat} {f g : Nat → Int32} (h : ∀ j : Nat, j < n → f j = g j) : vp_cell cA (n, .inl f) = vp_cell cA (n, .inl g) := by
  rw [vp_cell_i, vp_cell_i]
  unfold arrV
  have e : (Array.ofFn (n := n) fun j => Value.int (f j.val)) = Array.ofFn (n := n) fun j => Value.int (g j.val) := congrArg _ (funext fun j => by rw [h j.val j.isLt])
  first | rw [e] | simp [e] | (congr 1; simp [e])
theorem ct_ext (hP : va_P D cl ws H) (hD : va_D A ws) (q0 : Nat) {cA : ClassId} {n : Nat} {f : Nat → Int32} (ha : ws[q0]? = some (a, .inl (cA, n, .inl f))) (g : Nat → Int32) (h : ∀ j : Nat, j < n → f j = g j) {ws1 : va_W} (hw : ws.set q0 (a, .inl (cA, n, .inl g)) = ws1) : va_P D cl ws1 H ∧ va_D A ws1 := by
  subst hw
  refine ⟨hP.set hD ha ?_ (fun _ _ => rfl), hD.set ha⟩
  have h1 := hP q0 _ ha
  show H[a]? = some (vp_cell cA (n, .inl g))
  rw [← ct_arr h]
  exact h1
theorem ct_mmax (hexec : p.tables.exec = Jvm.exec) (hb : c.code = cc) (hml : c.maxLocals = ls.size) {own : String} {index : Nat} (hown : s.vm.findClass own = some m.cls) (hlink : (Cond.methodLink own index Lib.Math.max.name).before args s = true) (hstat : (Cond.static Lib.Math.max.name).before args s = true) (hini : (Cond.initialized "java/lang/Math").before args s = true) (hcode : (Cond.code Lib.Math.max.name Lib.Math.max.code 2 (some .int)).before args s = true)
    (hframes : 1 ≤ R.frames) (hlocals : (rest.map fun v => v.category).sum + 13 ≤ R.locals) (hc : cells ≤ R.cells) (hs : slots ≤ R.slots) {x y : Int32} {v : Int32} (hv : (if x < y then y else x) = v) (hdg : decode cc pc = .ok (.invokestatic index, 3))
    (kk : W p l e R s m args below meth c H locs cells slots Q (F0 m (pc + 3) ls (.int v :: rest))) : W p l e R s m args below meth c H locs cells slots Q (F0 m pc ls (.int y :: .int x :: rest)) := by
  subst hv
  exact va_mmax hexec hb hml hown hlink hstat hini hcode hframes hlocals hc hs hdg kk
theorem ct_mmin (hexec : p.tables.exec = Jvm.exec) (hb : c.code = cc) (hml : c.maxLocals = ls.size) {own : String} {index : Nat} (hown : s.vm.findClass own = some m.cls) (hlink : (Cond.methodLink own index Lib.Math.min.name).before args s = true) (hstat : (Cond.static Lib.Math.min.name).before args s = true) (hini : (Cond.initialized "java/lang/Math").before args s = true) (hcode : (Cond.code Lib.Math.min.name Lib.Math.min.code 2 (some .int)).before args s = true)
    (hframes : 1 ≤ R.frames) (hlocals : (rest.map fun v => v.category).sum + 13 ≤ R.locals) (hc : cells ≤ R.cells) (hs : slots ≤ R.slots) {x y : Int32} {v : Int32} (hv : (if y < x then y else x) = v) (hdg : decode cc pc = .ok (.invokestatic index, 3))
    (kk : W p l e R s m args below meth c H locs cells slots Q (F0 m (pc + 3) ls (.int v :: rest))) : W p l e R s m args below meth c H locs cells slots Q (F0 m pc ls (.int y :: .int x :: rest)) := by
  subst hv
  exact va_mmin hexec hb hml hown hlink hstat hini hcode hframes hlocals hc hs hdg kk
theorem ct_irem (hexec : p.tables.exec = Jvm.exec) (hb : c.code = cc) (k d : Nat) {x y : Int32} (hx : x = nI k) (hy : y = nI d) (hk : k < 2 ^ 31) (h0 : 0 < d) (hd : d < 2 ^ 31) (hdg : decode cc pc = .ok (.irem, 1))
    (kk : W p l e R s m args below meth c H locs cells slots Q (F0 m (pc + 1) ls (.int (nI (k % d)) :: rest))) : W p l e R s m args below meth c H locs cells slots Q (F0 m pc ls (.int y :: .int x :: rest)) := by
  subst hx
  subst hy
  refine lv_irem hexec hb hdg (nI_ne0 h0 hd) ?_
  rw [pk_rem hk h0 hd]
  exact kk
theorem ct_idiv (hexec : p.tables.exec = Jvm.exec) (hb : c.code = cc) (k d : Nat) {x y : Int32} (hx : x = nI k) (hy : y = nI d) (hk : k < 2 ^ 31) (h0 : 0 < d) (hd : d < 2 ^ 31) (hdg : decode cc pc = .ok (.idiv, 1))
    (kk : W p l e R s m args below meth c H locs cells slots Q (F0 m (pc + 1) ls (.int (nI (k / d)) :: rest))) : W p l e R s m args below meth c H locs cells slots Q (F0 m pc ls (.int y :: .int x :: rest)) := by
  subst hx
  subst hy
  refine lv_idiv hexec hb hdg (nI_ne0 h0 hd) ?_
  rw [pk_div hk h0 hd]
  exact kk
/-- the number on the stack by another name -/
theorem ct_top {x y : Int32} (h : x = y) (kk : W p l e R s m args below meth c H locs cells slots Q (F0 m pc ls (.int y :: rest))) : W p l e R s m args below meth c H locs cells slots Q (F0 m pc ls (.int x :: rest)) := by
  subst h
  exact kk
/-- an int row's class is one alone -/
theorem ct_one {cA cI : ClassId} (h1 : va_K D cl tys s) (t0 : Nat) (ht : tys[t0]? = some (cI, .int)) (h2 : va_K D cl (tys ++ [(cA, .int)]) s) : cA = cI := by
  have a1 : s.vm.findClass _ = some cI := (h1.2 t0 _ ht).2
  have h3 : (tys ++ [(cA, FieldType.int)])[tys.length]? = some (cA, .int) := by simp
  have a2 : s.vm.findClass _ = some cA := (h2.2 tys.length _ h3).2
  exact Option.some.inj (a2.symm.trans a1)
theorem ct_newa (hexec : p.tables.exec = Jvm.exec) (hb : c.code = cc) (harr : (Cond.arrayClass .int).before args s = true) {cI : ClassId} (t0 : Nat) (ht : tys[t0]? = some (cI, .int)) (hK : va_K D cl tys s) (hP : va_P D cl ws H) (hD : va_D A ws) (hS : va_S A H0 H locs) (hA : ∀ q, H0.size ≤ q → A q)
    {n : Int32} (N : Nat) (hn : n = nI N) (hN : N < 1000) {cells1 slots1 : Nat} (hc9 : cells + 1 = cells1) (hs9 : slots + N = slots1) (hcells : cells1 ≤ R.cells) (hslots : slots1 ≤ R.slots) (hdg : decode cc pc = .ok (.newarray .int, 2))
    (kk : ∀ (q : Nat) (H1 : Heap), va_P D cl (ws ++ [(q, .inl (cI, N, .inl (fun _ => 0)))]) H1 → va_D A (ws ++ [(q, .inl (cI, N, .inl (fun _ => 0)))]) → va_S A H0 H1 locs →
      W p l e R s m args below meth c H1 locs cells1 slots1 Q (F0 m (pc + 2) ls (.ref q :: rest))) : W p l e R s m args below meth c H locs cells slots Q (F0 m pc ls (.int n :: rest)) := by
  subst hn
  subst hc9
  subst hs9
  refine va_newa (atype := .int) (N' := N) (a0 := (N, .inl (fun _ => 0))) hexec hb harr rfl hK hP hD hS hA (fun cA => rfl) (nI_pos (by omega)) (nI_clamp (by omega)) (by show N * 4 ≤ 536870912; omega) hcells hslots hdg (fun q cA H1 hK1 hP1 hD1 hS1 => ?_)
  obtain rfl := ct_one hK t0 ht hK1
  exact kk q H1 hP1 hD1 hS1
theorem ct_copy (hexec : p.tables.exec = Jvm.exec) (hb : c.code = cc) (hml : c.maxLocals = ls.size) {own : String} {index : Nat} (hown : s.vm.findClass own = some m.cls) (hlink : (Cond.methodLink own index arraycopyName).before args s = true) (hnat : (Cond.native arraycopyName).before args s = true) (hstat : (Cond.static arraycopyName).before args s = true) (hini : (Cond.initialized "java/lang/System").before args s = true)
    (hK : va_K D cl tys s) (hP : va_P D cl ws H) (hD : va_D A ws) (hS : va_S A H0 H locs) (q0 q1 t0 : Nat) {a0 : Nat} {cA : ClassId} {n : Nat} {f g : Nat → Int32} (ha0 : ws[q0]? = some (a0, .inl (cA, n, .inl f))) (ha1 : ws[q1]? = some (a, .inl (cA, n, .inl g))) (ht : tys[t0]? = some (cA, .int)) {x : Int32} (hx : x = nI n) (hn : n < 2 ^ 31)
    (hframes : 1 ≤ R.frames) (hlocals : (rest.map fun v => v.category).sum + (nativeFrameWords "java/lang/System" "arraycopy" 5 + 11) ≤ R.locals) {ws1 : va_W} (hw : ws.set q1 (a, .inl (cA, n, .inl f)) = ws1) (hdg : decode cc pc = .ok (.invokestatic index, 3))
    (kk : ∀ (H1 : Heap) (locs1 : List Loc), va_P D cl ws1 H1 → va_D A ws1 → va_S A H0 H1 locs1 → W p l e R s m args below meth c H1 locs1 cells slots Q (F0 m (pc + 3) ls rest)) : W p l e R s m args below meth c H locs cells slots Q (F0 m pc ls (.int x :: .int 0 :: .ref a :: .int 0 :: .ref a0 :: rest)) := by
  subst hx
  subst hw
  have e0 : (0 : Int32).toNatClampNeg = 0 := rfl
  have en : (nI n).toNatClampNeg = n := nI_clamp hn
  refine va_copyi hexec hb hml hown hlink hnat hstat hini hK hP hD hS q0 q1 t0 t0 ha0 ha1 ht ht rfl (by decide) (by decide) (nI_pos hn) (by rw [e0, en]; omega) (by rw [e0, en]; omega) (fun _ _ => rfl) hframes hlocals hdg (fun H1 locs1 h1 h2 h3 => ?_)
  rw [e0, en] at h1 h2
  have hl := (List.getElem?_eq_some_iff.mp ha1).1
  obtain ⟨h4, h5⟩ := ct_ext h1 h2 q1 (List.getElem?_set_self hl) f (fun j hj => sb_cpy0 hj) (List.set_set _)
  exact kk H1 locs1 h4 h5 h3
end CTA
