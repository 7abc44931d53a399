/-! worlds with the callee's part in front -/
theorem gp_comm {D : va_G} {cl : List vw_C} {H : Heap} {a b : va_W} (h : va_P D cl (a ++ b) H) : va_P D cl (b ++ a) H := va_P.swap (a := []) h
theorem gp_commD {A : Nat → Prop} {a b : va_W} (h : va_D A (a ++ b)) : va_D A (b ++ a) := va_D.swap (a := []) h
theorem gp_left {D : va_G} {cl : List vw_C} {H : Heap} {a b : va_W} (h : va_P D cl (a ++ b) H) : va_P D cl a H := fun k q hk => h k q (by rw [List.getElem?_append_left (List.getElem?_eq_some_iff.mp hk).1]; exact hk)
theorem gp_leftD {A : Nat → Prop} {a b : va_W} (h : va_D A (a ++ b)) : va_D A a := ⟨fun i j p q hi hj e => h.1 i j p q (by rw [List.getElem?_append_left (List.getElem?_eq_some_iff.mp hi).1]; exact hi) (by rw [List.getElem?_append_left (List.getElem?_eq_some_iff.mp hj).1]; exact hj) e, fun k q hk => h.2 k q (by rw [List.getElem?_append_left (List.getElem?_eq_some_iff.mp hk).1]; exact hk)⟩
theorem gp_right {D : va_G} {cl : List vw_C} {H : Heap} {a b : va_W} (h : va_P D cl (a ++ b) H) : va_P D cl b H := gp_left (gp_comm h)
theorem gp_rightD {A : Nat → Prop} {a b : va_W} (h : va_D A (a ++ b)) : va_D A b := gp_leftD (gp_commD h)
theorem gp_in {A : Nat → Prop} {wc wr : va_W} {H0 H : Heap} {locs : List Loc} (hD : va_D A (wc ++ wr)) (hS : va_S A H0 H locs) (hA : ∀ q : Nat, H0.size ≤ q → A q) : ∀ q, va_A wc H.size q → A q := by
  intro q h
  rcases h with ⟨k, e, h⟩ | h
  · exact (gp_leftD hD).2 k _ h
  · exact hA q (Nat.le_trans hS.1 h)
theorem gp_not {D : va_G} {cl : List vw_C} {A : Nat → Prop} {wc wr : va_W} {H : Heap} (hP : va_P D cl (wc ++ wr) H) (hD : va_D A (wc ++ wr)) {k : Nat} {q : Nat × va_E} (hk : wr[k]? = some q) : q.1 < H.size ∧ ¬ va_A wc H.size q.1 := by
  have hl : q.1 < H.size := (gp_right hP k q hk).lt
  refine ⟨hl, fun h => ?_⟩
  rcases h with ⟨k', e', h⟩ | h
  · have h1 : (wc ++ wr)[k']? = some (q.1, e') := by rw [List.getElem?_append_left (List.getElem?_eq_some_iff.mp h).1]; exact h
    have h2 : (wc ++ wr)[wc.length + k]? = some q := by rw [List.getElem?_append_right (by omega), show wc.length + k - wc.length = k by omega]; exact hk
    have h3 := hD.1 k' (wc.length + k) _ _ h1 h2 rfl
    have h4 := (List.getElem?_eq_some_iff.mp h).1
    omega
  · omega
theorem gp_join {D : va_G} {cl : List vw_C} {A : Nat → Prop} {wc wr w1 : va_W} {H0 H H1 : Heap} {locs : List Loc} (hP : va_P D cl (wc ++ wr) H) (hD : va_D A (wc ++ wr)) (hS : va_S A H0 H locs) (hA : ∀ q : Nat, H0.size ≤ q → A q)
    (hk : ∀ q : Nat, q < H.size → ¬ va_A wc H.size q → H1[q]? = H[q]?) (hP1 : va_P D cl w1 H1) (hD1 : va_D (va_A wc H.size) w1) : va_P D cl (w1 ++ wr) H1 ∧ va_D A (w1 ++ wr) := by
  have hr : va_P D cl wr H1 := (gp_right hP).kept (fun k q hq => by
    obtain ⟨a, b⟩ := gp_not hP hD hq
    exact hk q.1 a b)
  have hin := gp_in hD hS hA
  refine ⟨hP1.app hr, fun i j p q hi hj e => ?_, fun k q hq => ?_⟩
  · by_cases h1 : i < w1.length <;> by_cases h2 : j < w1.length
    · rw [List.getElem?_append_left h1] at hi
      rw [List.getElem?_append_left h2] at hj
      exact hD1.1 i j p q hi hj e
    · rw [List.getElem?_append_left h1] at hi
      rw [List.getElem?_append_right (by omega)] at hj
      exact absurd (by rw [← e]; exact hD1.2 i p hi) (gp_not hP hD hj).2
    · rw [List.getElem?_append_right (by omega)] at hi
      rw [List.getElem?_append_left h2] at hj
      exact absurd (by rw [e]; exact hD1.2 j q hj) (gp_not hP hD hi).2
    · rw [List.getElem?_append_right (by omega)] at hi hj
      have := (gp_rightD hD).1 _ _ p q hi hj e
      omega
  · by_cases h1 : k < w1.length
    · rw [List.getElem?_append_left h1] at hq
      exact hin _ (hD1.2 k q hq)
    · rw [List.getElem?_append_right (by omega)] at hq
      exact (gp_rightD hD).2 _ q hq
/-! what the law knows beside its worlds: what a throw needs, rows of rows, the script -/
abbrev Kx : Type := Nat × Nat × Nat × Nat × (Nat → Int32)
def cg_X (κ : Kx) (A : Nat → Prop) (U : State) (H : Heap) : Prop := ct_T κ.1 κ.2.1 A U H ∧ va_AOA .int U ∧ va_AOA .boolean U ∧ va_X κ.2.2.1 κ.2.2.2.1 κ.2.2.2.2 U H ∧ κ.2.2.1 < H.size ∧ ¬ A κ.2.2.1
theorem cg_X.warm {κ : Kx} {A : Nat → Prop} {s U : State} {H : Heap} (h : cg_X κ A s H) (hW : s.WarmedH U.vm) : cg_X κ A U H := ⟨h.1.warm hW, h.2.1.moved hW.alike, h.2.2.1.moved hW.alike, h.2.2.2.1.moved hW.alike, h.2.2.2.2⟩
theorem cg_X.same {κ : Kx} {A : Nat → Prop} {s U : State} {H : Heap} (hv : U.vm = s.vm) (h : cg_X κ A s H) : cg_X κ A U H := by
  have ha : s.vm.Alike U.vm := by rw [hv]; exact Vm.Alike.refl _
  exact ⟨⟨ct_TF.same hv h.1.1, h.1.2.1.moved ha, h.1.2.2.moved ha⟩, h.2.1.moved ha, h.2.2.1.moved ha, h.2.2.2.1.moved ha, h.2.2.2.2⟩
theorem cg_X.kept {κ : Kx} {A : Nat → Prop} {s : State} {H H1 : Heap} (h : cg_X κ A s H) (hz : H.size ≤ H1.size) (hq : ∀ a : Nat, a < H.size → ¬ A a → H1[a]? = H[a]?) : cg_X κ A s H1 := ⟨h.1.kept hq, h.2.1, h.2.2.1, h.2.2.2.1.kept (hq _ h.2.2.2.2.1 h.2.2.2.2.2), Nat.lt_of_lt_of_le h.2.2.2.2.1 hz, h.2.2.2.2.2⟩
theorem cg_X.narrow {κ : Kx} {A B : Nat → Prop} {s : State} {H : Heap} (h : cg_X κ A s H) (hAB : ∀ q, B q → A q) : cg_X κ B s H := ⟨h.1.narrow hAB, h.2.1, h.2.2.1, h.2.2.2.1, h.2.2.2.2.1, fun h9 => h.2.2.2.2.2 (hAB _ h9)⟩
def cg_Pc (D : va_G) (As : List Value) (wc : va_W) (tys : List (ClassId × FieldType)) (κ : Kx) (sz : Nat) : Array Value → State → Prop := va_Pc As (fun U => U.heap.size = sz ∧ va_P D vwCl wc U.heap ∧ va_K D vwCl tys U ∧ va_D (fun _ => True) wc ∧ cg_X κ (va_A wc sz) U U.heap)
theorem cg_frameblind {D : va_G} {As : List Value} {wc : va_W} {tys : List (ClassId × FieldType)} {κ : Kx} {sz : Nat} : FrameBlind (cg_Pc D As wc tys κ sz) := by
  intro a U g mk q
  obtain ⟨q0, q1, qP, qK, qD, qX⟩ := q
  exact ⟨q0, q1, qP, va_K.moved (u := U) (U := U.calling g mk a) (Vm.Alike.refl U.vm) qK, qD, cg_X.same (s := U) (U := U.calling g mk a) rfl qX⟩
/-! contracts: int, boolean, nothing, a cell -/
def cg_i {S : Type} (l : Launch) (D : va_G) (y : MethodName) (ws : List Cond) (rm : Room) (As : List Value) (wc : va_W) (tys : List (ClassId × FieldType)) (κ : Kx) (post : Int32 → S → Prop) (wo : S → va_W) : Prop := ∀ sz : Nat, Met l y ws rm (cg_Pc D As wc tys κ sz) (ct_Qi D tys post wo (va_A wc sz)) rm.cells rm.slots (va_A wc sz)
def cg_v {S : Type} (l : Launch) (D : va_G) (y : MethodName) (ws : List Cond) (rm : Room) (As : List Value) (wc : va_W) (tys : List (ClassId × FieldType)) (κ : Kx) (post : S → Prop) (wo : S → va_W) : Prop := ∀ sz : Nat, Met l y ws rm (cg_Pc D As wc tys κ sz) (ct_Qv D tys post wo (va_A wc sz)) rm.cells rm.slots (va_A wc sz)
def cg_r {S : Type} (l : Launch) (D : va_G) (y : MethodName) (ws : List Cond) (rm : Room) (As : List Value) (wc : va_W) (tys : List (ClassId × FieldType)) (κ : Kx) (post : S → Prop) (wo : S → Nat → va_W) : Prop := ∀ sz : Nat, Met l y ws rm (cg_Pc D As wc tys κ sz) (ct_Qr D tys post wo (va_A wc sz)) rm.cells rm.slots (va_A wc sz)
/-- an int that may draw -/
def cg_d {S : Type} (l : Launch) (D : va_G) (y : MethodName) (ws : List Cond) (rm : Room) (As : List Value) (wc : va_W) (tys : List (ClassId × FieldType)) (κ : Kx) (post : Int32 → S → Prop) (wo : S → va_W) : Prop := ∀ sz : Nat, MetD lw_cs l y ws rm (cg_Pc D As wc tys κ sz) (ct_Qi D tys post wo (va_A wc sz)) rm.cells rm.slots (va_A wc sz)
/-- what a body starts from -/
def cg_S (p : Program) (s : State) (m : MethodId) (args : Array Value) (c : Code) (A : Nat → Prop) (D : va_G) (y : MethodName) (ws : List Cond) (cc : ByteArray) (maxL : Nat) (tys : List (ClassId × FieldType)) (κ : Kx) : Prop :=
  p.tables.exec = Jvm.exec ∧ c.code = cc ∧ c.maxLocals = maxL ∧ s.vm.findClass y.cls = some m.cls ∧ (∀ w ∈ ws, w.before args s = true) ∧ (∀ q : Nat, s.heap.size ≤ q → A q) ∧ va_K D vwCl tys s ∧ cg_X κ A s s.heap
def cg_Bi {S : Type} (l : Launch) (D : va_G) (y : MethodName) (ws : List Cond) (rm : Room) (cc : ByteArray) (maxL : Nat) (As : List Value) (wc : va_W) (tys : List (ClassId × FieldType)) (κ : Kx) (post : Int32 → S → Prop) (wo : S → va_W) : Prop :=
  ∀ (p : Program) (e : Env) (s : State) (m : MethodId) (args : Array Value) (below : List Frame) (meth : Method) (c : Code) (A : Nat → Prop) (Q : State → Prop), cg_S p s m args c A D y ws cc maxL tys κ → ∀ (H : Heap) (locs : List Loc), va_P D vwCl wc H → va_D A wc → va_S A s.heap H locs →
    (∀ (v : Int32) (u : S) (H : Heap) (locs : List Loc) (cells slots pc : Nat) (ls : Array Slot), decode cc pc = .ok (.ireturn, 1) → post v u → va_P D vwCl (wo u) H → va_D A (wo u) → va_S A s.heap H locs → cells ≤ rm.cells → slots ≤ rm.slots → W p l e rm s m args below meth c H locs cells slots Q (F0 m pc ls [.int v])) →
    ∀ ls : Array Slot, lv_has ls maxL (lv_args 0 As) → W p l e rm s m args below meth c H locs 0 0 Q (F0 m 0 ls [])
def cg_Bv {S : Type} (l : Launch) (D : va_G) (y : MethodName) (ws : List Cond) (rm : Room) (cc : ByteArray) (maxL : Nat) (As : List Value) (wc : va_W) (tys : List (ClassId × FieldType)) (κ : Kx) (post : S → Prop) (wo : S → va_W) : Prop :=
  ∀ (p : Program) (e : Env) (s : State) (m : MethodId) (args : Array Value) (below : List Frame) (meth : Method) (c : Code) (A : Nat → Prop) (Q : State → Prop), cg_S p s m args c A D y ws cc maxL tys κ → ∀ (H : Heap) (locs : List Loc), va_P D vwCl wc H → va_D A wc → va_S A s.heap H locs →
    (∀ (u : S) (H : Heap) (locs : List Loc) (cells slots pc : Nat) (ls : Array Slot), decode cc pc = .ok (.return_, 1) → post u → va_P D vwCl (wo u) H → va_D A (wo u) → va_S A s.heap H locs → cells ≤ rm.cells → slots ≤ rm.slots → W p l e rm s m args below meth c H locs cells slots Q (F0 m pc ls [])) →
    ∀ ls : Array Slot, lv_has ls maxL (lv_args 0 As) → W p l e rm s m args below meth c H locs 0 0 Q (F0 m 0 ls [])
def cg_Br {S : Type} (l : Launch) (D : va_G) (y : MethodName) (ws : List Cond) (rm : Room) (cc : ByteArray) (maxL : Nat) (As : List Value) (wc : va_W) (tys : List (ClassId × FieldType)) (κ : Kx) (post : S → Prop) (wo : S → Nat → va_W) : Prop :=
  ∀ (p : Program) (e : Env) (s : State) (m : MethodId) (args : Array Value) (below : List Frame) (meth : Method) (c : Code) (A : Nat → Prop) (Q : State → Prop), cg_S p s m args c A D y ws cc maxL tys κ → ∀ (H : Heap) (locs : List Loc), va_P D vwCl wc H → va_D A wc → va_S A s.heap H locs →
    (∀ (v : Nat) (u : S) (H : Heap) (locs : List Loc) (cells slots pc : Nat) (ls : Array Slot), decode cc pc = .ok (.areturn, 1) → post u → va_P D vwCl (wo u v) H → va_D A (wo u v) → va_S A s.heap H locs → cells ≤ rm.cells → slots ≤ rm.slots → W p l e rm s m args below meth c H locs cells slots Q (F0 m pc ls [.ref v])) →
    ∀ ls : Array Slot, lv_has ls maxL (lv_args 0 As) → W p l e rm s m args below meth c H locs 0 0 Q (F0 m 0 ls [])
def cg_Bd {S : Type} (l : Launch) (D : va_G) (y : MethodName) (ws : List Cond) (rm : Room) (cc : ByteArray) (maxL : Nat) (As : List Value) (wc : va_W) (tys : List (ClassId × FieldType)) (κ : Kx) (post : Int32 → S → Prop) (wo : S → va_W) : Prop :=
  ∀ (p : Program) (e : Env) (s : State) (m : MethodId) (args : Array Value) (below : List Frame) (meth : Method) (c : Code) (A : Nat → Prop) (Q : State → Prop), cg_S p (s.setDrawn s.drawn) m args c A D y ws cc maxL tys κ → ∀ (H : Heap) (locs : List Loc), va_P D vwCl wc H → va_D A wc → va_S A (s.setDrawn s.drawn).heap H locs →
    (∀ (v : Int32) (d1 : Drawn) (u : S) (H : Heap) (locs : List Loc) (cells slots pc : Nat) (ls : Array Slot), s.drawn.sameBut d1 lw_cs → decode cc pc = .ok (.ireturn, 1) → post v u → va_P D vwCl (wo u) H → va_D A (wo u) → va_S A s.heap H locs → cells ≤ rm.cells → slots ≤ rm.slots → W p l e rm (s.setDrawn d1) m args below meth c H locs cells slots Q (F0 m pc ls [.int v])) →
    ∀ ls : Array Slot, lv_has ls maxL (lv_args 0 As) → W p l e rm (s.setDrawn s.drawn) m args below meth c H locs 0 0 Q (F0 m 0 ls [])
theorem cg_ofi {S : Type} {l : Launch} {D : va_G} {y : MethodName} {ws ws' : List Cond} {rm : Room} {cc : ByteArray} {maxL : Nat} {As : List Value} {wc : va_W} {tys : List (ClassId × FieldType)} {κ : Kx} {post : Int32 → S → Prop} {wo : S → va_W}
    (hy : plainName y.cls = true) (hw : ws = Cond.code y cc maxL (some .int) :: ws') (hln : (lg_sl As).length ≤ maxL) (body : cg_Bi l D y ws rm cc maxL As wc tys κ post wo) : cg_i l D y ws rm As wc tys κ post wo := by
  intro sz
  refine Met.ofW (cc := cc) (maxL := maxL) (ret := (some .int)) hy hw ?_
  intro p e s m args below meth c s₁ B hml hv
  obtain ⟨rfl, hsz, hP, hK, hD0, hX⟩ := hv
  subst hsz
  have hD := hD0.self (sz := s.heap.size)
  have hl := lv_entry As (n := maxL) hln
  rw [lg_entry_eq]
  have hx := B.exec
  have hb := B.bytes
  have hr := B.returns
  have hlocks := B.notSynchronized
  exact body p e s m As.toArray below meth c (va_A wc s.heap.size) _ ⟨hx, hb, hml, findClass_of_methodNamed B.named, atoms_spec (ws := ws) B.pre, fun q h => Or.inr h, hK, hX⟩ s.heap [] hP hD va_S.rf
    (fun v u H locs cells slots pc ls hdg hq hP hD hS hc hs => W.widen hc hs (W.iret (v := v) hx hb hr (fun t ht hW => ⟨⟨v, u, rfl, hq, by rw [ht]; exact hP, va_K.moved hW.alike hK, hD⟩, hS.F ht⟩) hS.2.2 hdg hlocks)) _ hl
theorem cg_ofz {S : Type} {l : Launch} {D : va_G} {y : MethodName} {ws ws' : List Cond} {rm : Room} {cc : ByteArray} {maxL : Nat} {As : List Value} {wc : va_W} {tys : List (ClassId × FieldType)} {κ : Kx} {post : Int32 → S → Prop} {wo : S → va_W}
    (hz : ∀ (v : Int32) (u : S), post v u → v = 0 ∨ v = 1) (hy : plainName y.cls = true) (hw : ws = Cond.code y cc maxL (some .boolean) :: ws') (hln : (lg_sl As).length ≤ maxL) (body : cg_Bi l D y ws rm cc maxL As wc tys κ post wo) : cg_i l D y ws rm As wc tys κ post wo := by
  intro sz
  refine Met.ofW (cc := cc) (maxL := maxL) (ret := (some .boolean)) hy hw ?_
  intro p e s m args below meth c s₁ B hml hv
  obtain ⟨rfl, hsz, hP, hK, hD0, hX⟩ := hv
  subst hsz
  have hD := hD0.self (sz := s.heap.size)
  have hl := lv_entry As (n := maxL) hln
  rw [lg_entry_eq]
  have hx := B.exec
  have hb := B.bytes
  have hr := B.returns
  have hlocks := B.notSynchronized
  exact body p e s m As.toArray below meth c (va_A wc s.heap.size) _ ⟨hx, hb, hml, findClass_of_methodNamed B.named, atoms_spec (ws := ws) B.pre, fun q h => Or.inr h, hK, hX⟩ s.heap [] hP hD va_S.rf
    (fun v u H locs cells slots pc ls hdg hq hP hD hS hc hs => W.widen hc hs (W.zret (v := v) (ty := .boolean) hx hb hr (by rcases hz v u hq with rfl | rfl <;> rfl) (fun t ht hW => ⟨⟨v, u, rfl, hq, by rw [ht]; exact hP, va_K.moved hW.alike hK, hD⟩, hS.F ht⟩) hS.2.2 hdg hlocks)) _ hl
theorem cg_ofv {S : Type} {l : Launch} {D : va_G} {y : MethodName} {ws ws' : List Cond} {rm : Room} {cc : ByteArray} {maxL : Nat} {As : List Value} {wc : va_W} {tys : List (ClassId × FieldType)} {κ : Kx} {post : S → Prop} {wo : S → va_W}
    (hy : plainName y.cls = true) (hw : ws = Cond.code y cc maxL none :: ws') (hln : (lg_sl As).length ≤ maxL) (body : cg_Bv l D y ws rm cc maxL As wc tys κ post wo) : cg_v l D y ws rm As wc tys κ post wo := by
  intro sz
  refine Met.ofW (cc := cc) (maxL := maxL) (ret := none) hy hw ?_
  intro p e s m args below meth c s₁ B hml hv
  obtain ⟨rfl, hsz, hP, hK, hD0, hX⟩ := hv
  subst hsz
  have hD := hD0.self (sz := s.heap.size)
  have hl := lv_entry As (n := maxL) hln
  rw [lg_entry_eq]
  have hx := B.exec
  have hb := B.bytes
  have hr := B.returns
  have hlocks := B.notSynchronized
  exact body p e s m As.toArray below meth c (va_A wc s.heap.size) _ ⟨hx, hb, hml, findClass_of_methodNamed B.named, atoms_spec (ws := ws) B.pre, fun q h => Or.inr h, hK, hX⟩ s.heap [] hP hD va_S.rf
    (fun u H locs cells slots pc ls hdg hq hP hD hS hc hs => W.widen hc hs (W.vret hx hb hr (fun t ht hW => ⟨⟨u, rfl, hq, by rw [ht]; exact hP, va_K.moved hW.alike hK, hD⟩, hS.F ht⟩) hS.2.2 hdg hlocks)) _ hl
theorem cg_ofr {S : Type} {l : Launch} {D : va_G} {y : MethodName} {ws ws' : List Cond} {rm : Room} {cc : ByteArray} {maxL : Nat} {C : String} {As : List Value} {wc : va_W} {tys : List (ClassId × FieldType)} {κ : Kx} {post : S → Prop} {wo : S → Nat → va_W}
    (hy : plainName y.cls = true) (hw : ws = Cond.code y cc maxL (some (.object C)) :: ws') (hln : (lg_sl As).length ≤ maxL) (body : cg_Br l D y ws rm cc maxL As wc tys κ post wo) : cg_r l D y ws rm As wc tys κ post wo := by
  intro sz
  refine Met.ofW (cc := cc) (maxL := maxL) (ret := (some (.object C))) hy hw ?_
  intro p e s m args below meth c s₁ B hml hv
  obtain ⟨rfl, hsz, hP, hK, hD0, hX⟩ := hv
  subst hsz
  have hD := hD0.self (sz := s.heap.size)
  have hl := lv_entry As (n := maxL) hln
  rw [lg_entry_eq]
  have hx := B.exec
  have hb := B.bytes
  have hr := B.returns
  have hlocks := B.notSynchronized
  exact body p e s m As.toArray below meth c (va_A wc s.heap.size) _ ⟨hx, hb, hml, findClass_of_methodNamed B.named, atoms_spec (ws := ws) B.pre, fun q h => Or.inr h, hK, hX⟩ s.heap [] hP hD va_S.rf
    (fun v u H locs cells slots pc ls hdg hq hP hD hS hc hs => W.widen hc hs (W.aret (v := .ref v) (rt := .object C) hx hb hr (Or.inl ⟨_, rfl⟩) (Or.inr ⟨_, rfl⟩) (fun t ht hW => ⟨⟨u, v, rfl, hq, by rw [ht]; exact hP, va_K.moved hW.alike hK, hD⟩, hS.F ht⟩) hS.2.2 hdg hlocks)) _ hl
theorem cg_ofd {S : Type} {l : Launch} {D : va_G} {y : MethodName} {ws ws' : List Cond} {rm : Room} {cc : ByteArray} {maxL : Nat} {As : List Value} {wc : va_W} {tys : List (ClassId × FieldType)} {κ : Kx} {post : Int32 → S → Prop} {wo : S → va_W}
    (hz : ∀ (v : Int32) (u : S), post v u → v = 0 ∨ v = 1) (hy : plainName y.cls = true) (hw : ws = Cond.code y cc maxL (some .boolean) :: ws') (hln : (lg_sl As).length ≤ maxL) (body : cg_Bd l D y ws rm cc maxL As wc tys κ post wo) : cg_d l D y ws rm As wc tys κ post wo := by
  intro sz
  refine MetD.ofW (cc := cc) (maxL := maxL) (ret := some .boolean) hy hw ?_
  intro p e s m args below meth c s₁ B hml hv hd0
  obtain ⟨rfl, hsz, hP, hK, hD0, hX⟩ := hv
  subst hsz
  have hD := hD0.self (sz := s.heap.size)
  have hl := lv_entry As (n := maxL) hln
  rw [lg_entry_eq]
  have hx := B.exec
  have hb := B.bytes
  have hr := B.returns
  have hlocks := B.notSynchronized
  have hX' : cg_X κ (va_A wc s.heap.size) (s.setDrawn s.drawn) s.heap := cg_X.same (s := s) rfl hX
  exact body p e s m As.toArray below meth c (va_A wc s.heap.size) _ ⟨hx, hb, hml, findClass_of_methodNamed B.named, dr_words (atoms_spec (ws := ws) B.pre) _, fun q h => Or.inr h, hK, hX'⟩ s.heap [] hP hD va_S.rf
    (fun v d1 u H locs cells slots pc ls hd1 hdg hq hP hD hS hc hs => W.endD hd1 (W.widen hc hs (W.zret (v := v) (ty := .boolean) hx hb hr (by rcases hz v u hq with rfl | rfl <;> rfl) (fun t ht hW => ⟨⟨v, u, rfl, hq, by rw [ht]; exact hP, va_K.moved hW.alike hK, hD⟩, hS.F ht⟩) hS.2.2 hdg hlocks))) _ hl
