/-! methods with a table of their own that catch all that is thrown in them -/
def cz_i {S : Type} (l : Launch) (D : va_G) (y : MethodName) (ws : List Cond) (rm : Room) (As : List Value) (wc : va_W) (tys : List (ClassId × FieldType)) (sa1 sa2 : Nat) (post : Int32 → S → Prop) (wo : S → va_W) : Prop := ∀ sz : Nat, Met l y ws rm (cx_Pc D As wc tys sa1 sa2 sz) (ct_Qi D tys post wo (va_A wc sz)) rm.cells rm.slots (va_A wc sz)
def cz_Bi {S : Type} (l : Launch) (D : va_G) (y : MethodName) (ws : List Cond) (rm : Room) (cc : ByteArray) (maxL : Nat) (hh : List (Nat × Nat × Nat × Nat)) (As : List Value) (wc : va_W) (tys : List (ClassId × FieldType)) (sa1 sa2 : Nat) (post : Int32 → S → Prop) (wo : S → va_W) : Prop :=
  ∀ (p : Program) (e : Env) (s : State) (m : MethodId) (args : Array Value) (below : List Frame) (meth : Method) (c : Code) (A : Nat → Prop) (Q : State → Prop), p.tables.exec = Jvm.exec → c.code = cc → c.maxLocals = maxL → s.vm.findClass y.cls = some m.cls → (∀ w ∈ ws, w.before args s = true) → c.exceptionTable.toList = tableOf hh → (∀ q : Nat, s.heap.size ≤ q → A q) →
    va_K D vwCl tys s → ct_T sa1 sa2 A s s.heap → ∀ (H : Heap) (locs : List Loc), va_P D vwCl wc H → va_D A wc → va_S A s.heap H locs →
    (∀ (v : Int32) (u : S) (H : Heap) (locs : List Loc) (cells slots pc : Nat) (ls : Array Slot), decode cc pc = .ok (.ireturn, 1) → post v u → va_P D vwCl (wo u) H → va_D A (wo u) → va_S A s.heap H locs → cells ≤ rm.cells → slots ≤ rm.slots → W p l e rm s m args below meth c H locs cells slots Q (F0 m pc ls [.int v])) →
    ∀ ls : Array Slot, lv_has ls maxL (lv_args 0 As) → W p l e rm s m args below meth c H locs 0 0 Q (F0 m 0 ls [])
theorem cz_ofi {S : Type} {l : Launch} {D : va_G} {y : MethodName} {ws ws' : List Cond} {rm : Room} {cc : ByteArray} {maxL : Nat} {hh : List (Nat × Nat × Nat × Nat)} {As : List Value} {wc : va_W} {tys : List (ClassId × FieldType)} {sa1 sa2 : Nat} {post : Int32 → S → Prop} {wo : S → va_W}
    (hy : plainName y.cls = true) (hw : ws = Cond.codeWith y cc maxL (some .int) hh :: ws') (hln : (lg_sl As).length ≤ maxL) (body : cz_Bi l D y ws rm cc maxL hh As wc tys sa1 sa2 post wo) : cz_i l D y ws rm As wc tys sa1 sa2 post wo := by
  intro sz
  refine va_MetW (cc := cc) (maxL := maxL) (ret := (some .int)) (hh := hh) hy hw ?_
  intro p e s m args below meth c s₁ B hml hv
  obtain ⟨rfl, hsz, hP, hK, hD0, hT⟩ := hv
  subst hsz
  have hD := hD0.self (sz := s.heap.size)
  have hl := lv_entry As (n := maxL) hln
  rw [lg_entry_eq]
  have hx := B.exec
  have hb := B.bytes
  have hr := B.returns
  have hlocks := B.notSynchronized
  have hwords := atoms_spec (ws := ws) B.pre
  have htab : c.exceptionTable.toList = tableOf hh := vx_table (x := y) (y := y) (bytes := cc) (maxL' := maxL) (ret' := some .int) B (hwords _ (by rw [hw]; exact List.mem_cons_self))
  exact body p e s m As.toArray below meth c (va_A wc s.heap.size) _ hx hb hml (findClass_of_methodNamed B.named) hwords htab (fun q h => Or.inr h) hK hT s.heap [] hP hD va_S.rf
    (fun v u H locs cells slots pc ls hdg hq hP hD hS hc hs => W.widen hc hs (W.iret (v := v) hx hb hr (fun t ht hW => ⟨⟨v, u, rfl, hq, by rw [ht]; exact hP, va_K.moved hW.alike hK, hD⟩, hS.F ht⟩) hS.2.2 hdg hlocks)) _ hl
theorem cz_Si {p : Program} {l : Launch} {e : Env} {R : Room} {s : State} {m : MethodId} {args : Array Value} {below : List Frame} {meth : Method} {c : Code} {H : Heap} {locs : List Loc} {cells slots : Nat} {Q : State → Prop}
    {pc : Nat} {ls : Array Slot} {cc : ByteArray} {D : va_G} {tysW tys : List (ClassId × FieldType)} {A : Nat → Prop} {S : Type} {wo : S → va_W} {y : MethodName} {bytes : ByteArray} {maxL nL n index : Nat} {ret : Option FieldType} {hh : List (Nat × Nat × Nat × Nat)} {wsy : List Cond} {rm : Room} {Ts : List Cond} {own : String} {As rest st : List Value} {W0 wc wr : va_W} {W1 : S → va_W} {sa1 sa2 : Nat}
    {post : Int32 → S → Prop} (F : CallFix p m c cc nL s args Ts own) (hC : cz_i l D y wsy rm As wc tys sa1 sa2 post wo) (cw : vx_CSW R s args own index y bytes maxL ret hh wsy rm rm.cells rm.slots n) (hK : va_K D vwCl tysW s) (hP : va_P D vwCl W0 H) (hD : va_D A W0) (hS : va_S A s.heap H locs) (hA : ∀ q : Nat, s.heap.size ≤ q → A q) (hT : ct_T sa1 sa2 A s s.heap)
    (isC isR : List Nat) (hcut : ct_Cut W0 wc wr isC isR) (perm : List Nat) (hnp : va_nd perm = true) (hperm : ∀ u : S, perm.map (fun i => (wr ++ wo u)[i]?) = (W1 u).map some) (ist : List Nat) (hty : ist.filterMap (fun i => tysW[i]?) = tys)
    (hn : As.length = n) (hsize : ls.size = nL) (hst : st = As.reverse ++ rest) (hroom : (rest.map fun v => v.category).sum ≤ 8) {cells1 slots1 : Nat} (hc9 : cells + rm.cells = cells1) (hs9 : slots + rm.slots = slots1) (hf : cells1 ≤ R.cells ∧ slots1 ≤ R.slots) (hdg : decode cc pc = .ok (.invokestatic index, 3))
    (kk : ∀ (r : Int32) (u : S) (H1 : Heap) (locs1 : List Loc), post r u → va_P D vwCl (W1 u) H1 → va_D A (W1 u) → va_S A s.heap H1 locs1 → W p l e R s m args below meth c H1 locs1 cells1 slots1 Q (F0 m (pc + 3) ls (.int r :: rest))) :
    W p l e R s m args below meth c H locs cells slots Q (F0 m pc ls st) := by
  subst hst
  subst hc9
  subst hs9
  have hp := cx_pre (Bs := As) hK hP hD hS hA hT hcut ist hty
  refine va_calli (vx_runSW (As := As) (rest := rest) F (hC H.size) cw ⟨hp.1, hp.2⟩ rfl hn hsize rfl (lv_room hroom) hdg hf) hS (fun q _ h => va_free hD hS hA isC hcut.1 q h) (va_free hD hS hA isC hcut.1) (fun r u t H1 locs1 ht hvm hw hB hz1 hk1 hS1 => ?_)
  obtain ⟨a1, a2⟩ := ct_back hP hD hS hA hcut perm hnp (hperm u) ht hk1 hB
  exact kk r u H1 locs1 hw a1 a2 hS1
/-- the cell of the one long -/
abbrev oW (o : Nat) (cL : ClassId) (f : Nat → Int64) : va_W := [(o, .inl (cL, 1, .inr (.inl f)))]
def z_post {S : Type} (k1 k2 : Int32) (ex : String → Prop) (post : Int32 → S → Prop) : Int32 → Option (S × (Nat → Int64)) → Prop
  | k, none => (k = k1 ∧ ex "java/lang/IndexOutOfBoundsException") ∨ (k = k2 ∧ ex "java/lang/IllegalArgumentException")
  | k, some (u, f) => k = 0 ∧ ∃ r : Int32, post r u ∧ f 0 = r.toInt64
def z_wo {S : Type} (wc : va_W) (wo : S → va_W) (o : Nat) (cL : ClassId) (f0 : Nat → Int64) : Option (S × (Nat → Int64)) → va_W
  | none => wc ++ oW o cL f0
  | some (u, f) => wo u ++ oW o cL f
theorem z_in0 : vp_in 0 1 := by unfold vp_in; decide
theorem z_f0 {f : Nat → Int64} {r : Int32} : vp_updL f (Int32.toNatClampNeg 0) r.toInt64 0 = r.toInt64 := pk_uLs
