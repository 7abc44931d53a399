/-- what the tables say of rows of int rows, and of the clone of an int row -/
def ct_Y (U : State) : Prop := (Cond.arrayOver (.array .int)).before #[] U = true ∧ va_Nw (.castable "[I" "java/lang/Cloneable") U
theorem ct_AOA.moved {u U : State} (hvm : u.vm.Alike U.vm) (h : (Cond.arrayOver (.array .int)).before #[] u = true) : (Cond.arrayOver (.array .int)).before #[] U = true := by
  obtain ⟨comp, c, k, h1, h2, h3, h4, h5⟩ := arrayOverA_spec h
  obtain ⟨k', hk', he⟩ := hvm.2.2 _ _ h3
  have hi : (U.vm.classes.findIdx? fun (x : Class) => match x.kind with | .array component _ => component == comp | _ => false) = some c := by
    rw [hvm.findIdx?_eq _ (fun _ => rfl)]
    exact h2
  have hkind : k'.kind = .array comp (.array .int) := by rw [he]; exact h4
  have f1 : U.vm.findClass (FieldType.array .int).toString = some comp := by rw [hvm.findClass]; exact h1
  have f2 : U.vm.findClass ("[" ++ (FieldType.array .int).toString) = some c := by rw [hvm.findClass]; exact h5
  unfold Cond.before Cond.holds
  simp only [Cond.value]
  rw [f1, Option.bind_some]
  refine (congrArg (fun o : Option Nat => (o.bind (fun c => (U.vm.classes[c]?).map fun (k : Class) => match k.kind with | .array _ ty => decide (ty = FieldType.array .int) && decide (U.vm.findClass ("[" ++ (FieldType.array .int).toString) = some c) | _ => false) == some true)) hi).trans ?_
  simp [hk', hkind, f2]
theorem ct_AOA.use {A : Array Value} {U : State} (h : (Cond.arrayOver (.array .int)).before #[] U = true) : (Cond.arrayOver (.array .int)).before A U = true := h
theorem ct_Y.warm {s U : State} (h : ct_Y s) (hW : s.WarmedH U.vm) : ct_Y U := ⟨ct_AOA.moved hW.alike h.1, h.2.warmC hW⟩
theorem ct_Y.same {s U : State} (hv : U.vm = s.vm) (h : ct_Y s) : ct_Y U := ⟨ct_AOA.moved (by rw [hv]; exact Vm.Alike.refl _) h.1, va_Nw.same rfl hv.symm h.2⟩
/-- the class of a row of int rows, as it was found when one was made -/
def ct_J (cJ cI : ClassId) (s : State) : Prop := ∃ kA : Class, s.vm.classes[cJ]? = some kA ∧ kA.kind = .array cI (.array .int)
abbrev rf5 (f : Nat → Option Nat) : (Nat → Int32) ⊕ (Nat → Int64) ⊕ (Nat → UInt32) ⊕ (Nat → UInt64) ⊕ (Nat → Option Nat) := .inr (.inr (.inr (.inr f)))
section CTY
variable {p : Program} {l : Launch} {e : Env} {R : Room} {s : State} {m : MethodId} {args : Array Value} {below : List Frame} {meth : Method} {c : Code} {H H0 : Heap} {locs : List Loc} {cells slots : Nat} {Q : State → Prop}
variable {pc : Nat} {ls : Array Slot} {rest : List Value} {cc : ByteArray} {D : va_G} {cl : List vw_C} {tys : List (ClassId × FieldType)} {A : Nat → Prop} {ws : va_W} {a : Nat} {cI cJ : ClassId}
theorem ct_anewA (hexec : p.tables.exec = Jvm.exec) (hb : c.code = cc) {own : String} {index : Nat} (hown : s.vm.findClass own = some m.cls) (hclink : (Cond.classLink own index "[I").before args s = true) (hY : ct_Y s) (t0 t1 : Nat) (ht0 : tys[t0]? = some (cI, .int)) (ht1 : tys[t1]? = some (cJ, .array .int)) (hK : va_K D cl tys s) (hP : va_P D cl ws H) (hD : va_D A ws) (hS : va_S A H0 H locs) (hA : ∀ q, H0.size ≤ q → A q)
    {n : Int32} (N : Nat) (hn : n = nI N) (hN : N < 1000) {cells1 slots1 : Nat} (hc9 : cells + 1 = cells1) (hs9 : slots + N = slots1) (hcells : cells1 ≤ R.cells) (hslots : slots1 ≤ R.slots) (hdg : decode cc pc = .ok (.anewarray index, 3))
    (kk : ∀ (q : Nat) (H1 : Heap), ct_J cJ cI s → va_P D cl (ws ++ [(q, .inl (cJ, N, rf5 (fun _ => none)))]) H1 → va_D A (ws ++ [(q, .inl (cJ, N, rf5 (fun _ => none)))]) → va_S A H0 H1 locs →
      W p l e R s m args below meth c H1 locs cells1 slots1 Q (F0 m (pc + 3) ls (.ref q :: rest))) : W p l e R s m args below meth c H locs cells slots Q (F0 m pc ls (.int n :: rest)) := by
  subst hn
  subst hc9
  subst hs9
  have hcl : (nI N).toNatClampNeg = N := nI_clamp (by omega)
  have e1 : (FieldType.array .int).toString = "[I" := by decide +kernel
  refine W.anewA (t := .int) hexec hb hown (by rw [e1]; exact hclink) (ct_AOA.use hY.1) rfl hdg rfl (nI_pos (by omega)) (by rw [hcl]; omega) hcells (by rw [hcl]; exact hslots) fun cA kA comp f1 f2 f3 f4 => ?_
  rw [hcl]
  have a1 : s.vm.findClass ("[" ++ (FieldType.array .int).toString) = some cJ := (hK.2 t1 _ ht1).2
  obtain rfl : cA = cJ := Option.some.inj (f1.symm.trans a1)
  have a2 : s.vm.findClass "[I" = some cI := va_nm_int (hK.2 t0 _ ht0).2
  rw [e1] at f4
  obtain rfl : comp = cI := Option.some.inj (f4.symm.trans a2)
  generalize hH1 : H.push ({ cls := cA, slots := Array.replicate N .null, vm := .none } : Cell) = H1
  have z1 : H1.size = H.size + 1 := by rw [← hH1, Array.size_push]
  have e1 : H1[H.size]? = some (arrV cA N (fun _ => .null)) := by rw [← hH1, Array.getElem?_push_size, ← arrV_new]
  have o1 : ∀ q : Nat, q < H.size → H1[q]? = H[q]? := fun q hq => by rw [← hH1, Array.getElem?_push, if_neg (Nat.ne_of_lt hq)]
  have hk : ∀ (k : Nat) (x : Nat × va_E), ws[k]? = some x → H1[x.1]? = H[x.1]? := fun k x hx => o1 x.1 ((hP k x hx).lt)
  refine kk H.size H1 ⟨kA, f2, f3⟩ ((hP.kept hk).app (fun k x hx => ?_)) (hD.push hP rfl (hA _ hS.1)) ⟨Nat.le_trans hS.1 (by omega), fun x h1 h2 => (o1 x (Nat.lt_of_lt_of_le h1 hS.1)).trans (hS.2.1 x h1 h2), hS.2.2⟩
  have hz : k < 1 := (List.getElem?_eq_some_iff.mp hx).1
  rw [show k = 0 by omega] at hx
  cases hx
  show H1[H.size]? = some (vp_cell _ _)
  rw [vp_cell_q]
  exact e1
theorem ct_aasta (hexec : p.tables.exec = Jvm.exec) (hb : c.code = cc) (hJ : ct_J cJ cI s) (t0 : Nat) (ht0 : tys[t0]? = some (cI, .int)) (hK : va_K D cl tys s) (hP : va_P D cl ws H) (hD : va_D A ws) (hS : va_S A H0 H locs) (q0 qk : Nat) {n N v : Nat} {f : Nat → Option Nat} {g : Nat → Int32} (ha : ws[q0]? = some (a, .inl (cJ, n, rf5 f))) (hv : ws[qk]? = some (v, .inl (cI, N, .inl g))) (k : Nat) {i : Int32} (hi : i = nI k) (hk : k < n) (hn : n < 2 ^ 31) {ws1 : va_W} (hw : ws.set q0 (a, .inl (cJ, n, rf5 (va_up f k (some v)))) = ws1) (hdg : decode cc pc = .ok (.aastore, 1))
    (kk : ∀ (H1 : Heap) (locs1 : List Loc), va_P D cl ws1 H1 → va_D A ws1 → va_S A H0 H1 locs1 → W p l e R s m args below meth c H1 locs1 cells slots Q (F0 m (pc + 1) ls rest)) : W p l e R s m args below meth c H locs cells slots Q (F0 m pc ls (.ref v :: .int i :: .ref a :: rest)) := by
  subst hi
  subst hw
  have hcl : (nI k).toNatClampNeg = k := nI_clamp (by omega)
  obtain ⟨kA, k1, k2⟩ := hJ
  obtain ⟨-, kI, k3, -⟩ := (hK.2 t0 _ ht0).1 N (fun j => .int (g j))
  refine W.aast (comp := cI) (t := .array .int) hexec hb (hP q0 _ ha) (fun q h => by cases h) (fun h => by cases h) k1 k2 rfl k3 ⟨nI_pos (by omega), by show _ < (arrV _ _ _).slots.size; rw [arrV_size, hcl]; exact hk⟩ (hP qk _ hv) (fun q h => by cases h) k3 (va_asg _ _) rfl rfl hdg fun H1 e z oq => ?_
  refine kk H1 _ (hP.set hD ha ?_ oq) (hD.set ha) (hS.put z oq (hD.2 q0 _ ha))
  show H1[a]? = some (vp_cell _ _)
  rw [e, hcl]
  rw [vp_cell_q, vp_cell_q, arrV_store]
  congr 2
  funext q
  by_cases hq : q = k
  · subst hq
    simp [updV, va_up, va_rf]
  · simp [updV, va_up, hq]
theorem ct_aalda (hexec : p.tables.exec = Jvm.exec) (hb : c.code = cc) (hK : va_K D cl tys s) (hP : va_P D cl ws H) (q0 t1 : Nat) {n : Nat} {f : Nat → Option Nat} (ha : ws[q0]? = some (a, .inl (cJ, n, rf5 f))) (ht1 : tys[t1]? = some (cJ, .array .int)) (k : Nat) {i : Int32} (hi : i = nI k) (hk : k < n) (hn : n < 2 ^ 31) {x : Nat} (hx : f k = some x) (hdg : decode cc pc = .ok (.aaload, 1))
    (kk : W p l e R s m args below meth c H locs cells slots Q (F0 m (pc + 1) ls (.ref x :: rest))) : W p l e R s m args below meth c H locs cells slots Q (F0 m pc ls (.int i :: .ref a :: rest)) := by
  subst hi
  have hcl : (nI k).toNatClampNeg = k := nI_clamp (by omega)
  have e : va_rf (f k) = .ref x := by rw [hx]; rfl
  refine W.aald (v := .ref x) (ty := .array .int) hexec hb (hP q0 _ ha) ((hK.2 t1 _ ht1).1 n (fun j => va_rf (f j))) rfl (fun q => by cases q) ?_ ?_ rfl rfl hdg kk
  · show ¬ (nI k < 0 ∨ (arrV cJ n (fun j => va_rf (f j))).slots.size ≤ (nI k).toNatClampNeg)
    rw [arrV_size, hcl]
    exact fun h => h.elim (nI_pos (by omega)) (fun h => absurd h (by omega))
  · show (arrV _ _ _).slots[_]? = _
    rw [hcl, arrV_read _ _ hk, e]
end CTY
def cy_Pc (D : va_G) (As : List Value) (wc : va_W) (tys : List (ClassId × FieldType)) (sz : Nat) : Array Value → State → Prop := va_Pc As (fun U => U.heap.size = sz ∧ va_P D vwCl wc U.heap ∧ va_K D vwCl tys U ∧ va_D (fun _ => True) wc ∧ ct_Y U)
theorem cy_frameblind {D : va_G} {As : List Value} {wc : va_W} {tys : List (ClassId × FieldType)} {sz : Nat} : FrameBlind (cy_Pc D As wc tys sz) := by
  intro a U g mk q
  obtain ⟨q0, q1, qP, qK, qD, qY⟩ := q
  exact ⟨q0, q1, qP, va_K.moved (u := U) (U := U.calling g mk a) (Vm.Alike.refl U.vm) qK, qD, ct_Y.same (s := U) rfl qY⟩
abbrev ct_Qr {S : Type} (D : va_G) (tys : List (ClassId × FieldType)) (post : S → Prop) (wo : S → Nat → va_W) (A : Nat → Prop) : Array Value → State → Outcome → State → Prop := va_Qr post (fun u a t => va_P D vwCl (wo u a) t.heap ∧ va_K D vwCl tys t ∧ va_D A (wo u a)) A
def cy_i {S : Type} (l : Launch) (D : va_G) (y : MethodName) (ws : List Cond) (rm : Room) (As : List Value) (wc : va_W) (tys : List (ClassId × FieldType)) (post : Int32 → S → Prop) (wo : S → va_W) : Prop := ∀ sz : Nat, Met l y ws rm (cy_Pc D As wc tys sz) (ct_Qi D tys post wo (va_A wc sz)) rm.cells rm.slots (va_A wc sz)
def cy_Bi {S : Type} (l : Launch) (D : va_G) (y : MethodName) (ws : List Cond) (rm : Room) (cc : ByteArray) (maxL : Nat) (As : List Value) (wc : va_W) (tys : List (ClassId × FieldType)) (post : Int32 → S → Prop) (wo : S → va_W) : Prop :=
  ∀ (p : Program) (e : Env) (s : State) (m : MethodId) (args : Array Value) (below : List Frame) (meth : Method) (c : Code) (A : Nat → Prop) (Q : State → Prop), p.tables.exec = Jvm.exec → c.code = cc → c.maxLocals = maxL → s.vm.findClass y.cls = some m.cls → (∀ w ∈ ws, w.before args s = true) → (∀ q : Nat, s.heap.size ≤ q → A q) →
    va_K D vwCl tys s → ct_Y s → ∀ (H : Heap) (locs : List Loc), va_P D vwCl wc H → va_D A wc → va_S A s.heap H locs →
    (∀ (v : Int32) (u : S) (H : Heap) (locs : List Loc) (cells slots pc : Nat) (ls : Array Slot), decode cc pc = .ok (.ireturn, 1) → post v u → va_P D vwCl (wo u) H → va_D A (wo u) → va_S A s.heap H locs → cells ≤ rm.cells → slots ≤ rm.slots → W p l e rm s m args below meth c H locs cells slots Q (F0 m pc ls [.int v])) →
    ∀ ls : Array Slot, lv_has ls maxL (lv_args 0 As) → W p l e rm s m args below meth c H locs 0 0 Q (F0 m 0 ls [])
theorem cy_ofi {S : Type} {l : Launch} {D : va_G} {y : MethodName} {ws ws' : List Cond} {rm : Room} {cc : ByteArray} {maxL : Nat} {As : List Value} {wc : va_W} {tys : List (ClassId × FieldType)} {post : Int32 → S → Prop} {wo : S → va_W}
    (hy : plainName y.cls = true) (hw : ws = Cond.code y cc maxL (some .int) :: ws') (hln : (lg_sl As).length ≤ maxL) (body : cy_Bi l D y ws rm cc maxL As wc tys post wo) : cy_i l D y ws rm As wc tys post wo := by
  intro sz
  refine Met.ofW (cc := cc) (maxL := maxL) (ret := (some .int)) hy hw ?_
  intro p e s m args below meth c s₁ B hml hv
  obtain ⟨rfl, hsz, hP, hK, hD0, hY⟩ := hv
  subst hsz
  have hD := hD0.self (sz := s.heap.size)
  have hl := lv_entry As (n := maxL) hln
  rw [lg_entry_eq]
  have hx := B.exec
  have hb := B.bytes
  have hr := B.returns
  have hlocks := B.notSynchronized
  exact body p e s m As.toArray below meth c (va_A wc s.heap.size) _ hx hb hml (findClass_of_methodNamed B.named) (atoms_spec (ws := ws) B.pre) (fun q h => Or.inr h) hK hY s.heap [] hP hD va_S.rf
    (fun v u H locs cells slots pc ls hdg hq hP hD hS hc hs => W.widen hc hs (W.iret (v := v) hx hb hr (fun t ht hW => ⟨⟨v, u, rfl, hq, by rw [ht]; exact hP, va_K.moved hW.alike hK, hD⟩, hS.F ht⟩) hS.2.2 hdg hlocks)) _ hl
def cy_v {S : Type} (l : Launch) (D : va_G) (y : MethodName) (ws : List Cond) (rm : Room) (As : List Value) (wc : va_W) (tys : List (ClassId × FieldType)) (post : S → Prop) (wo : S → va_W) : Prop := ∀ sz : Nat, Met l y ws rm (cy_Pc D As wc tys sz) (ct_Qv D tys post wo (va_A wc sz)) rm.cells rm.slots (va_A wc sz)
def cy_Bv {S : Type} (l : Launch) (D : va_G) (y : MethodName) (ws : List Cond) (rm : Room) (cc : ByteArray) (maxL : Nat) (As : List Value) (wc : va_W) (tys : List (ClassId × FieldType)) (post : S → Prop) (wo : S → va_W) : Prop :=
  ∀ (p : Program) (e : Env) (s : State) (m : MethodId) (args : Array Value) (below : List Frame) (meth : Method) (c : Code) (A : Nat → Prop) (Q : State → Prop), p.tables.exec = Jvm.exec → c.code = cc → c.maxLocals = maxL → s.vm.findClass y.cls = some m.cls → (∀ w ∈ ws, w.before args s = true) → (∀ q : Nat, s.heap.size ≤ q → A q) →
    va_K D vwCl tys s → ct_Y s → ∀ (H : Heap) (locs : List Loc), va_P D vwCl wc H → va_D A wc → va_S A s.heap H locs →
    (∀ (u : S) (H : Heap) (locs : List Loc) (cells slots pc : Nat) (ls : Array Slot), decode cc pc = .ok (.return_, 1) → post u → va_P D vwCl (wo u) H → va_D A (wo u) → va_S A s.heap H locs → cells ≤ rm.cells → slots ≤ rm.slots → W p l e rm s m args below meth c H locs cells slots Q (F0 m pc ls [])) →
    ∀ ls : Array Slot, lv_has ls maxL (lv_args 0 As) → W p l e rm s m args below meth c H locs 0 0 Q (F0 m 0 ls [])
theorem cy_ofv {S : Type} {l : Launch} {D : va_G} {y : MethodName} {ws ws' : List Cond} {rm : Room} {cc : ByteArray} {maxL : Nat} {As : List Value} {wc : va_W} {tys : List (ClassId × FieldType)} {post : S → Prop} {wo : S → va_W}
    (hy : plainName y.cls = true) (hw : ws = Cond.code y cc maxL none :: ws') (hln : (lg_sl As).length ≤ maxL) (body : cy_Bv l D y ws rm cc maxL As wc tys post wo) : cy_v l D y ws rm As wc tys post wo := by
  intro sz
  refine Met.ofW (cc := cc) (maxL := maxL) (ret := none) hy hw ?_
  intro p e s m args below meth c s₁ B hml hv
  obtain ⟨rfl, hsz, hP, hK, hD0, hY⟩ := hv
  subst hsz
  have hD := hD0.self (sz := s.heap.size)
  have hl := lv_entry As (n := maxL) hln
  rw [lg_entry_eq]
  have hx := B.exec
  have hb := B.bytes
  have hr := B.returns
  have hlocks := B.notSynchronized
  exact body p e s m As.toArray below meth c (va_A wc s.heap.size) _ hx hb hml (findClass_of_methodNamed B.named) (atoms_spec (ws := ws) B.pre) (fun q h => Or.inr h) hK hY s.heap [] hP hD va_S.rf
    (fun u H locs cells slots pc ls hdg hq hP hD hS hc hs => W.widen hc hs (W.vret hx hb hr (fun t ht hW => ⟨⟨u, rfl, hq, by rw [ht]; exact hP, va_K.moved hW.alike hK, hD⟩, hS.F ht⟩) hS.2.2 hdg hlocks)) _ hl
def cy_r {S : Type} (l : Launch) (D : va_G) (y : MethodName) (ws : List Cond) (rm : Room) (As : List Value) (wc : va_W) (tys : List (ClassId × FieldType)) (post : S → Prop) (wo : S → Nat → va_W) : Prop := ∀ sz : Nat, Met l y ws rm (cy_Pc D As wc tys sz) (ct_Qr D tys post wo (va_A wc sz)) rm.cells rm.slots (va_A wc sz)
def cy_Br {S : Type} (l : Launch) (D : va_G) (y : MethodName) (ws : List Cond) (rm : Room) (cc : ByteArray) (maxL : Nat) (As : List Value) (wc : va_W) (tys : List (ClassId × FieldType)) (post : S → Prop) (wo : S → Nat → va_W) : Prop :=
  ∀ (p : Program) (e : Env) (s : State) (m : MethodId) (args : Array Value) (below : List Frame) (meth : Method) (c : Code) (A : Nat → Prop) (Q : State → Prop), p.tables.exec = Jvm.exec → c.code = cc → c.maxLocals = maxL → s.vm.findClass y.cls = some m.cls → (∀ w ∈ ws, w.before args s = true) → (∀ q : Nat, s.heap.size ≤ q → A q) →
    va_K D vwCl tys s → ct_Y s → ∀ (H : Heap) (locs : List Loc), va_P D vwCl wc H → va_D A wc → va_S A s.heap H locs →
    (∀ (v : Nat) (u : S) (H : Heap) (locs : List Loc) (cells slots pc : Nat) (ls : Array Slot), decode cc pc = .ok (.areturn, 1) → post u → va_P D vwCl (wo u v) H → va_D A (wo u v) → va_S A s.heap H locs → cells ≤ rm.cells → slots ≤ rm.slots → W p l e rm s m args below meth c H locs cells slots Q (F0 m pc ls [.ref v])) →
    ∀ ls : Array Slot, lv_has ls maxL (lv_args 0 As) → W p l e rm s m args below meth c H locs 0 0 Q (F0 m 0 ls [])
theorem cy_ofr {S : Type} {l : Launch} {D : va_G} {y : MethodName} {ws ws' : List Cond} {rm : Room} {cc : ByteArray} {maxL : Nat} {As : List Value} {wc : va_W} {tys : List (ClassId × FieldType)} {post : S → Prop} {wo : S → Nat → va_W}
    (hy : plainName y.cls = true) (hw : ws = Cond.code y cc maxL (some (.array (.array .int))) :: ws') (hln : (lg_sl As).length ≤ maxL) (body : cy_Br l D y ws rm cc maxL As wc tys post wo) : cy_r l D y ws rm As wc tys post wo := by
  intro sz
  refine Met.ofW (cc := cc) (maxL := maxL) (ret := (some (.array (.array .int)))) hy hw ?_
  intro p e s m args below meth c s₁ B hml hv
  obtain ⟨rfl, hsz, hP, hK, hD0, hY⟩ := hv
  subst hsz
  have hD := hD0.self (sz := s.heap.size)
  have hl := lv_entry As (n := maxL) hln
  rw [lg_entry_eq]
  have hx := B.exec
  have hb := B.bytes
  have hr := B.returns
  have hlocks := B.notSynchronized
  exact body p e s m As.toArray below meth c (va_A wc s.heap.size) _ hx hb hml (findClass_of_methodNamed B.named) (atoms_spec (ws := ws) B.pre) (fun q h => Or.inr h) hK hY s.heap [] hP hD va_S.rf
    (fun v u H locs cells slots pc ls hdg hq hP hD hS hc hs => W.widen hc hs (W.aret (v := .ref v) (rt := .array (.array .int)) hx hb hr (Or.inr ⟨_, rfl⟩) (Or.inr ⟨_, rfl⟩) (fun t ht hW => ⟨⟨u, v, rfl, hq, by rw [ht]; exact hP, va_K.moved hW.alike hK, hD⟩, hS.F ht⟩) hS.2.2 hdg hlocks)) _ hl
section CYC
variable {p : Program} {l : Launch} {e : Env} {R : Room} {s : State} {m : MethodId} {args : Array Value} {below : List Frame} {meth : Method} {c : Code} {H : Heap} {locs : List Loc} {cells slots : Nat} {Q : State → Prop}
variable {pc : Nat} {ls : Array Slot} {cc : ByteArray} {D : va_G} {tysW tys : List (ClassId × FieldType)} {A : Nat → Prop} {S : Type} {y : MethodName} {bytes : ByteArray} {maxL nL n index : Nat} {ret : Option FieldType} {wsy : List Cond} {rm : Room} {Ts : List Cond} {own C : String} {b : Addr} {As rest st : List Value} {W0 wc wr : va_W}
theorem cy_pre (hK : va_K D vwCl tysW s) (hP : va_P D vwCl W0 H) (hD : va_D A W0) (hY : ct_Y s) {isC isR : List Nat} (hcut : ct_Cut W0 wc wr isC isR) (ist : List Nat) (hty : ist.filterMap (fun i => tysW[i]?) = tys) {Bs : List Value} : PreS s H (cy_Pc D Bs wc tys H.size) Bs :=
  ⟨cy_frameblind, fun U hU hW => ⟨rfl, by rw [hU], by rw [hU]; exact hP.sub isC (ct_mapfm hcut.1), va_K.moved hW.alike (hK.sub ist hty), (hD.sub isC hcut.2.2.1 hcut.1).weaken (fun _ _ _ _ => trivial), hY.warm hW⟩⟩
theorem cy_Vi {wo : S → va_W} {W1 : S → va_W} {post : Int32 → S → Prop} (F : CallFix p m c cc nL s args Ts own) (hC : cy_i l D y wsy rm (.ref b :: As) wc tys post wo) (cw : CallW R s args own C index y bytes maxL ret wsy rm rm.cells rm.slots n) (hK : va_K D vwCl tysW s) (hP : va_P D vwCl W0 H) (hD : va_D A W0) (hS : va_S A s.heap H locs) (hA : ∀ q : Nat, s.heap.size ≤ q → A q) (hY : ct_Y s)
    (isC isR : List Nat) (hcut : ct_Cut W0 wc wr isC isR) (perm : List Nat) (hnp : va_nd perm = true) (hperm : ∀ u : S, perm.map (fun i => (wr ++ wo u)[i]?) = (W1 u).map some) (ist : List Nat) (hty : ist.filterMap (fun i => tysW[i]?) = tys)
    (hrecv : ∃ cell : Cell, H[b]? = some cell ∧ cell.vm.isStatics = false ∧ s.vm.findClass C = some cell.cls) (hn : As.length = n) (hsize : ls.size = nL) (hst : st = As.reverse ++ .ref b :: rest) (hroom : (rest.map fun v => v.category).sum ≤ 8) {cells1 slots1 : Nat} (hc9 : cells + rm.cells = cells1) (hs9 : slots + rm.slots = slots1) (hf : cells1 ≤ R.cells ∧ slots1 ≤ R.slots) (hdg : decode cc pc = .ok (.invokevirtual index, 3))
    (kk : ∀ (r : Int32) (u : S) (H1 : Heap) (locs1 : List Loc), post r u → va_P D vwCl (W1 u) H1 → va_D A (W1 u) → va_S A s.heap H1 locs1 → W p l e R s m args below meth c H1 locs1 cells1 slots1 Q (F0 m (pc + 3) ls (.int r :: rest))) :
    W p l e R s m args below meth c H locs cells slots Q (F0 m pc ls st) := by
  subst hst
  subst hc9
  subst hs9
  have hp := cy_pre (Bs := .ref b :: As) hK hP hD hY hcut ist hty
  refine va_calli (va_runV (As := As) (rest := rest) F (hC H.size) cw ⟨hp.1, hrecv, hp.2⟩ rfl hn hsize rfl (lv_room hroom) hdg hf) hS (fun q _ h => va_free hD hS hA isC hcut.1 q h) (va_free hD hS hA isC hcut.1) (fun r u t H1 locs1 ht hvm hw hB hz1 hk1 hS1 => ?_)
  obtain ⟨a1, a2⟩ := ct_back hP hD hS hA hcut perm hnp (hperm u) ht hk1 hB
  exact kk r u H1 locs1 hw a1 a2 hS1
theorem cy_Vv {wo : S → va_W} {W1 : S → va_W} {post : S → Prop} (F : CallFix p m c cc nL s args Ts own) (hC : cy_v l D y wsy rm (.ref b :: As) wc tys post wo) (cw : CallW R s args own C index y bytes maxL ret wsy rm rm.cells rm.slots n) (hK : va_K D vwCl tysW s) (hP : va_P D vwCl W0 H) (hD : va_D A W0) (hS : va_S A s.heap H locs) (hA : ∀ q : Nat, s.heap.size ≤ q → A q) (hY : ct_Y s)
    (isC isR : List Nat) (hcut : ct_Cut W0 wc wr isC isR) (perm : List Nat) (hnp : va_nd perm = true) (hperm : ∀ u : S, perm.map (fun i => (wr ++ wo u)[i]?) = (W1 u).map some) (ist : List Nat) (hty : ist.filterMap (fun i => tysW[i]?) = tys)
    (hrecv : ∃ cell : Cell, H[b]? = some cell ∧ cell.vm.isStatics = false ∧ s.vm.findClass C = some cell.cls) (hn : As.length = n) (hsize : ls.size = nL) (hst : st = As.reverse ++ .ref b :: rest) (hroom : (rest.map fun v => v.category).sum ≤ 8) {cells1 slots1 : Nat} (hc9 : cells + rm.cells = cells1) (hs9 : slots + rm.slots = slots1) (hf : cells1 ≤ R.cells ∧ slots1 ≤ R.slots) (hdg : decode cc pc = .ok (.invokevirtual index, 3))
    (kk : ∀ (u : S) (H1 : Heap) (locs1 : List Loc), post u → va_P D vwCl (W1 u) H1 → va_D A (W1 u) → va_S A s.heap H1 locs1 → W p l e R s m args below meth c H1 locs1 cells1 slots1 Q (F0 m (pc + 3) ls rest)) :
    W p l e R s m args below meth c H locs cells slots Q (F0 m pc ls st) := by
  subst hst
  subst hc9
  subst hs9
  have hp := cy_pre (Bs := .ref b :: As) hK hP hD hY hcut ist hty
  refine va_callv (va_runV (As := As) (rest := rest) F (hC H.size) cw ⟨hp.1, hrecv, hp.2⟩ rfl hn hsize rfl (lv_room hroom) hdg hf) hS (fun q _ h => va_free hD hS hA isC hcut.1 q h) (va_free hD hS hA isC hcut.1) (fun u t H1 locs1 ht hvm hw hB hz1 hk1 hS1 => ?_)
  obtain ⟨a1, a2⟩ := ct_back hP hD hS hA hcut perm hnp (hperm u) ht hk1 hB
  exact kk u H1 locs1 hw a1 a2 hS1
theorem cy_Vr {wo : S → Nat → va_W} {W1 : S → Nat → va_W} {post : S → Prop} (F : CallFix p m c cc nL s args Ts own) (hC : cy_r l D y wsy rm (.ref b :: As) wc tys post wo) (cw : CallW R s args own C index y bytes maxL ret wsy rm rm.cells rm.slots n) (hK : va_K D vwCl tysW s) (hP : va_P D vwCl W0 H) (hD : va_D A W0) (hS : va_S A s.heap H locs) (hA : ∀ q : Nat, s.heap.size ≤ q → A q) (hY : ct_Y s)
    (isC isR : List Nat) (hcut : ct_Cut W0 wc wr isC isR) (perm : List Nat) (hnp : va_nd perm = true) (hperm : ∀ (u : S) (r : Nat), perm.map (fun i => (wr ++ wo u r)[i]?) = (W1 u r).map some) (ist : List Nat) (hty : ist.filterMap (fun i => tysW[i]?) = tys)
    (hrecv : ∃ cell : Cell, H[b]? = some cell ∧ cell.vm.isStatics = false ∧ s.vm.findClass C = some cell.cls) (hn : As.length = n) (hsize : ls.size = nL) (hst : st = As.reverse ++ .ref b :: rest) (hroom : (rest.map fun v => v.category).sum ≤ 8) {cells1 slots1 : Nat} (hc9 : cells + rm.cells = cells1) (hs9 : slots + rm.slots = slots1) (hf : cells1 ≤ R.cells ∧ slots1 ≤ R.slots) (hdg : decode cc pc = .ok (.invokevirtual index, 3))
    (kk : ∀ (u : S) (r : Nat) (H1 : Heap) (locs1 : List Loc), post u → va_P D vwCl (W1 u r) H1 → va_D A (W1 u r) → va_S A s.heap H1 locs1 → W p l e R s m args below meth c H1 locs1 cells1 slots1 Q (F0 m (pc + 3) ls (.ref r :: rest))) :
    W p l e R s m args below meth c H locs cells slots Q (F0 m pc ls st) := by
  subst hst
  subst hc9
  subst hs9
  have hp := cy_pre (Bs := .ref b :: As) hK hP hD hY hcut ist hty
  refine va_callr (va_runV (As := As) (rest := rest) F (hC H.size) cw ⟨hp.1, hrecv, hp.2⟩ rfl hn hsize rfl (lv_room hroom) hdg hf) hS (fun q _ h => va_free hD hS hA isC hcut.1 q h) (va_free hD hS hA isC hcut.1) (fun u r t H1 locs1 ht hvm hw hB hz1 hk1 hS1 => ?_)
  obtain ⟨a1, a2⟩ := ct_back (wo := fun u : S => wo u r) (W1 := fun u : S => W1 u r) (u := u) hP hD hS hA hcut perm hnp (hperm u r) ht hk1 hB
  exact kk u r H1 locs1 hw a1 a2 hS1
end CYC
