section LCORE
variable {p : Program} {l : Launch} {e : Env} {R : Room} {s : State} {m : MethodId} {args : Array Value} {below : List Frame} {meth : Method} {c : Code} {H : Heap} {locs : List Loc} {cells slots : Nat} {Q : State → Prop} {pc : Nat} {ls : Array Slot} {rest : List Value} {cc : ByteArray}
theorem lv_lcmp0 (hexec : p.tables.exec = Jvm.exec) (hb : c.code = cc) {x y : Int64} (hxy : x = y) (hdg : decode cc pc = .ok (.lcmp, 1))
    (k : W p l e R s m args below meth c H locs cells slots Q (F0 m (pc + 1) ls (.int 0 :: rest))) : W p l e R s m args below meth c H locs cells slots Q (F0 m pc ls (.long y :: .long x :: rest)) := by
  subst hxy
  intro T hT X
  obtain ⟨t, a, b⟩ := k T hT X
  refine ⟨t, ?_, b⟩
  have h1 : ¬ (x > x) := Int64.lt_irrefl
  have h2 : (x == x) = true := beq_self_eq_true x
  jvm_step X.here [X.here.top, hexec, hb, hdg, h1, h2]
  exact a
end LCORE
section LCALLD
variable {p : Program} {l : Launch} {e : Env} {R : Room} {s : State} {m : MethodId} {args : Array Value} {below : List Frame} {meth : Method} {c : Code} {H : Heap} {locs : List Loc} {cells slots : Nat} {Q : State → Prop}
variable {pc : Nat} {ls : Array Slot} {cc : ByteArray} {D : va_G} {tysW tys : List (ClassId × FieldType)} {A : Nat → Prop} {S : Type} {wo : S → va_W} {y : MethodName} {bytes : ByteArray} {maxL nL n index : Nat} {ret : Option FieldType} {wsy : List Cond} {rm : Room} {Ts : List Cond} {own C : String} {b : Addr} {As rest st : List Value} {W0 wc wr : va_W} {W1 : S → va_W} {d0 : Drawn}
theorem ct_Vd {post : UInt64 → S → Prop} (hd0 : s.drawn.sameBut d0 lw_cs) (F : CallFix p m c cc nL (s.setDrawn d0) args Ts own) (hC : ct_d l D y wsy rm (.ref b :: As) wc tys post wo) (cw : CallW R (s.setDrawn d0) args own C index y bytes maxL ret wsy rm rm.cells rm.slots n) (hK : va_K D vwCl tysW (s.setDrawn d0)) (hP : va_P D vwCl W0 H) (hD : va_D A W0) (hS : va_S A s.heap H locs) (hA : ∀ q : Nat, s.heap.size ≤ q → A q)
    (isC isR : List Nat) (hcut : ct_Cut W0 wc wr isC isR) (perm : List Nat) (hnp : va_nd perm = true) (hperm : ∀ u : S, perm.map (fun i => (wr ++ wo u)[i]?) = (W1 u).map some) (ist : List Nat) (hty : ist.filterMap (fun i => tysW[i]?) = tys)
    (hrecv : ∃ cell : Cell, H[b]? = some cell ∧ cell.vm.isStatics = false ∧ (s.setDrawn d0).vm.findClass C = some cell.cls) (hn : As.length = n) (hsize : ls.size = nL) (hst : st = As.reverse ++ .ref b :: rest) (hroom : (rest.map fun v => v.category).sum ≤ 8) {cells1 slots1 : Nat} (hc9 : cells + rm.cells = cells1) (hs9 : slots + rm.slots = slots1) (hf : cells1 ≤ R.cells ∧ slots1 ≤ R.slots) (hdg : decode cc pc = .ok (.invokevirtual index, 3))
    (kk : ∀ (r : UInt64) (u : S) (d1 : Drawn) (H1 : Heap) (locs1 : List Loc), s.drawn.sameBut d1 lw_cs → post r u → va_P D vwCl (W1 u) H1 → va_D A (W1 u) → va_S A s.heap H1 locs1 → W p l e R (s.setDrawn d1) m args below meth c H1 locs1 cells1 slots1 Q (F0 m (pc + 3) ls (.double r :: rest))) :
    W p l e R (s.setDrawn d0) m args below meth c H locs cells slots Q (F0 m pc ls st) := by
  subst hst
  subst hc9
  subst hs9
  have hp := ct_pre (Bs := .ref b :: As) hK hP hD hcut ist hty
  refine va_calldD hd0 (va_runV_D (As := As) (rest := rest) F (hC H.size) cw ⟨hp.1, hrecv, hp.2⟩ rfl hn hsize rfl (lv_room hroom) hdg hf) hS (fun q _ h => va_free hD hS hA isC hcut.1 q h) (va_free hD hS hA isC hcut.1) (fun r u t H1 locs1 ht hvm hw hB hz1 hk1 hS1 d' hd' => ?_)
  obtain ⟨a1, a2⟩ := ct_back hP hD hS hA hcut perm hnp (hperm u) ht hk1 hB
  exact kk r u d' H1 locs1 hd' hw a1 a2 hS1
end LCALLD
def z_w1 {S : Type} (W0 : va_W) (wo : S → va_W) (M : va_W) (o : Nat) (cL : ClassId) (f0 : Nat → Int64) : Option (S × (Nat → Int64)) → va_W
  | none => W0 ++ (M ++ oW o cL f0)
  | some (u, f) => wo u ++ (M ++ oW o cL f)
abbrev TYL (cI cJ cL : ClassId) : List (ClassId × FieldType) := [(cI, .int), (cJ, .array .int), (cL, .long)]
abbrev lW (g hn ha : Nat) (adn ada : Nat → Nat) (h : Nat) (ad : Nat → Nat) (o : Nat) (cI cL : ClassId) (hei dra rai : Nat → Int32) (σ : Ms) (cre gai see fou : Nat → Int32) (z : Nat → Nat → Int32) (thr : Int32) (flo lak row : Nat → Int32) (f : Nat → Int64) : va_W := fW g hn ha adn ada cI hei dra rai σ cre gai see fou z ++ (mM h ad cI thr hei dra rai σ flo lak row ++ oW o cL f)
def lw_A (s : State) : Nat → Prop := fun q => s.heap.size ≤ q
/-- what is known at the start, over any record of draws -/
def lw_Cx (p : Program) (l : Launch) (m : MethodId) (c : Code) (b L : Nat) (xs : Nat → Int32) (D : va_G) (cI cJ cL : ClassId) (sa1 sa2 : Nat) (s : State) : Prop :=
  p.tables.exec = Jvm.exec ∧ c.code = cL_law ∧ c.maxLocals = 9 ∧ s.vm.findClass RL = some m.cls ∧ (∀ w ∈ wsL_law, w.before #[Value.ref b] s = true) ∧ va_K D vwCl (TYL cI cJ cL) s ∧ ct_T sa1 sa2 (lw_A s) s s.heap ∧ ct_Y s ∧ va_X b L xs s s.heap ∧ b < s.heap.size ∧ l.stackTraces = false
theorem lw_Cx.drew {p : Program} {l : Launch} {m : MethodId} {c : Code} {b L : Nat} {xs : Nat → Int32} {D : va_G} {cI cJ cL : ClassId} {sa1 sa2 : Nat} {s : State} (C : lw_Cx p l m c b L xs D cI cJ cL sa1 sa2 s) (d0 : Drawn) : lw_Cx p l m c b L xs D cI cJ cL sa1 sa2 (s.setDrawn d0) := by
  obtain ⟨hx, hb, hml, hown, hts, hK, hT, hY, hX, hbl, hst⟩ := C
  have hv : s.vm.Alike (s.setDrawn d0).vm := Vm.Alike.refl _
  exact ⟨hx, hb, hml, hown, dr_words hts d0, va_K.moved hv hK, ⟨ct_TF.same (s := s) rfl hT.1, hT.2.1.moved hv, hT.2.2.moved hv⟩, ct_Y.same (s := s) rfl hY, va_X.moved hv hX, hbl, hst⟩
/-- what is owed at the end of a call of the script: from there the walk comes to its end -/
def lw_Nx (p : Program) (l : Launch) (e : Env) (s : State) (m : MethodId) (below : List Frame) (meth : Method) (c : Code) (b : Nat) (D : va_G) (cI cL : ClassId) (g hn ha : Nat) (adn ada : Nat → Nat) (h : Nat) (ad : Nat → Nat) (o i C S : Nat) : Prop :=
  ∀ (d0 : Drawn) (hei dra rai : Nat → Int32) (σ : Ms) (cre gai see fou : Nat → Int32) (z : Nat → Nat → Int32) (thr : Int32) (flo lak row : Nat → Int32) (f : Nat → Int64) (H : Heap) (locs : List Loc) (ls : Array Slot), s.drawn.sameBut d0 lw_cs → inv (28000 * (i : Int) + 28000) hei dra rai σ → m_t σ ≤ 48 * i + 48 →
    va_P D vwCl (lW g hn ha adn ada h ad o cI cL hei dra rai σ cre gai see fou z thr flo lak row f) H → va_D (lw_A s) (lW g hn ha adn ada h ad o cI cL hei dra rai σ cre gai see fou z thr flo lak row f) → va_S (lw_A s) s.heap H locs → lv_has ls 9 [(0, .ref b), (1, .ref g), (2, .ref h), (3, .ref o), (4, .int (nI (4 * i)))] →
    W p l e room_1 (s.setDrawn d0) m #[Value.ref b] below meth c H locs C S (lw_Z below #[Value.ref b] s) (F0 m 1219 ls [])
theorem lw_in1 {i L j : Nat} (h : 4 * i + j < L) (hL : L ≤ 2048) : vp_in (nI (4 * i) + nI j) L := by
  rw [nI_add]
  exact vp_in_nI h (by omega)
theorem lw_is {k : Nat} {x : Int32} (h : x.toInt = (k : Int)) : (x.toInt - 0).toNat = k := by omega
theorem lw_hc {C S k n : Nat} (hC : C + 80 ≤ 840170 ∧ S + 700 ≤ 6575593) (hk : k ≤ 80) (hn : n ≤ 700) : C + k ≤ room_1.cells ∧ S + n ≤ room_1.slots := ⟨show C + k ≤ 840170 by omega, show S + n ≤ 6575593 by omega⟩
/-- a mean is what a mean is -/
theorem q_mean_eq {wat : Nat → Int32} {r r' : UInt64} (h : q_mean wat r) (h' : q_mean wat r') : r = r' ∨ (isNaN64 r = true ∧ isNaN64 r' = true) := by
  rcases h with ⟨h1, h2⟩ | ⟨h1, h2⟩ <;> rcases h' with ⟨g1, g2⟩ | ⟨g1, g2⟩
  · exact Or.inl (h2.trans g2.symm)
  · exact absurd h1 g1
  · exact absurd g1 h1
  · simp only [alike64, Bool.or_eq_true, decide_eq_true_eq, Bool.and_eq_true] at h2 g2
    rcases h2 with h2 | h2 <;> rcases g2 with g2 | g2
    · exact Or.inl (h2.trans g2.symm)
    · exact Or.inr ⟨by rw [h2]; exact g2.2, g2.1⟩
    · exact Or.inr ⟨h2.1, by rw [g2]; exact h2.2⟩
    · exact Or.inr ⟨h2.1, g2.1⟩
theorem dc_nan {a b : UInt64} (h : isNaN64 a = true) : FP.dcmp a b = none := by
  have h1 := isNaN64_iff.mp h
  rw [show (0x7fffffffffffffff : Nat) = 2 ^ 63 - 1 from rfl, Nat.and_two_pow_sub_one_eq_mod] at h1
  have hd : FP.Core.decode FP.Core.b64 a.toNat = .nan := by
    unfold FP.Core.decode
    have e1 : FP.Core.fieldE FP.Core.b64 a.toNat = FP.Core.b64.exps - 1 := by
      show a.toNat / 4503599627370496 % 2048 = 2047
      omega
    have e2 : ¬ FP.Core.fieldT FP.Core.b64 a.toNat = 0 := by
      show ¬ a.toNat % 4503599627370496 = 0
      omega
    rw [if_pos e1, if_neg e2]
  show FP.Core.order (FP.Core.decode FP.Core.b64 a.toNat) _ = none
  rw [hd]
  rfl
theorem law_mean9 {r r' : UInt64} (h : r = r' ∨ (isNaN64 r = true ∧ isNaN64 r' = true)) (hc : ¬ Op.cmpValue (FP.dcmp r r') .l = 0) : ¬ Op.cmpValue (FP.dcmp r r) .l = 0 ∧ ¬ Op.cmpValue (FP.dcmp r' r') .l = 0 := by
  rcases h with rfl | ⟨h1, h2⟩
  · exact ⟨hc, hc⟩
  · rw [dc_nan h1, dc_nan h2]
    exact ⟨by decide, by decide⟩
theorem lw_48 {v : Int32} (h : 1 ≤ v ∧ v ≤ 48) : v.toNatClampNeg ≤ 48 := by
  have h1 := le_i.mp h.2
  have h2 : (48 : Int32).toInt = 48 := by decide
  show v.toInt.toNat ≤ 48
  omega
